theorem d_Mo_cut_49 : decode b_Mo_cut 49 = .ok (.iastore, 1) := by decide +kernel
theorem d_Mo_cut_50 : decode b_Mo_cut 50 = .ok (.iconst 0, 1) := by decide +kernel
theorem d_Mo_cut_51 : decode b_Mo_cut 51 = .ok (.istore 4, 2) := by decide +kernel
theorem d_Mo_cut_53 : decode b_Mo_cut 53 = .ok (.iload 4, 2) := by decide +kernel
theorem d_Mo_cut_55 : decode b_Mo_cut 55 = .ok (.bipush 8, 2) := by decide +kernel
theorem d_Mo_cut_57 : decode b_Mo_cut 57 = .ok (.if_icmp .ge 36, 3) := by decide +kernel
theorem d_Mo_cut_60 : decode b_Mo_cut 60 = .ok (.aload_n 0, 1) := by decide +kernel
theorem d_Mo_cut_61 : decode b_Mo_cut 61 = .ok (.getfield 18, 3) := by decide +kernel
theorem d_Mo_cut_64 : decode b_Mo_cut 64 = .ok (.bipush 8, 2) := by decide +kernel
theorem d_Mo_cut_66 : decode b_Mo_cut 66 = .ok (.iload_n 3, 1) := by decide +kernel
theorem d_Mo_cut_67 : decode b_Mo_cut 67 = .ok (.imul, 1) := by decide +kernel
theorem d_Mo_cut_68 : decode b_Mo_cut 68 = .ok (.iload 4, 2) := by decide +kernel
theorem d_Mo_cut_70 : decode b_Mo_cut 70 = .ok (.iadd, 1) := by decide +kernel
theorem d_Mo_cut_71 : decode b_Mo_cut 71 = .ok (.aload_n 0, 1) := by decide +kernel
theorem d_Mo_cut_72 : decode b_Mo_cut 72 = .ok (.getfield 18, 3) := by decide +kernel
theorem d_Mo_cut_75 : decode b_Mo_cut 75 = .ok (.bipush 8, 2) := by decide +kernel
theorem d_Mo_cut_77 : decode b_Mo_cut 77 = .ok (.iload_n 3, 1) := by decide +kernel
theorem d_Mo_cut_78 : decode b_Mo_cut 78 = .ok (.imul, 1) := by decide +kernel
theorem d_Mo_cut_79 : decode b_Mo_cut 79 = .ok (.bipush 8, 2) := by decide +kernel
theorem d_Mo_cut_81 : decode b_Mo_cut 81 = .ok (.isub, 1) := by decide +kernel
theorem d_Mo_cut_82 : decode b_Mo_cut 82 = .ok (.iload 4, 2) := by decide +kernel
theorem d_Mo_cut_84 : decode b_Mo_cut 84 = .ok (.iadd, 1) := by decide +kernel
theorem d_Mo_cut_85 : decode b_Mo_cut 85 = .ok (.iaload, 1) := by decide +kernel
theorem d_Mo_cut_86 : decode b_Mo_cut 86 = .ok (.iastore, 1) := by decide +kernel
theorem d_Mo_cut_87 : decode b_Mo_cut 87 = .ok (.iinc 4 1, 3) := by decide +kernel
theorem d_Mo_cut_90 : decode b_Mo_cut 90 = .ok (.goto (-37), 3) := by decide +kernel
theorem d_Mo_cut_93 : decode b_Mo_cut 93 = .ok (.iinc 3 (-1), 3) := by decide +kernel
theorem d_Mo_cut_96 : decode b_Mo_cut 96 = .ok (.goto (-67), 3) := by decide +kernel
theorem d_Mo_cut_99 : decode b_Mo_cut 99 = .ok (.aload_n 0, 1) := by decide +kernel
theorem d_Mo_cut_100 : decode b_Mo_cut 100 = .ok (.getfield 13, 3) := by decide +kernel
theorem d_Mo_cut_103 : decode b_Mo_cut 103 = .ok (.iload_n 2, 1) := by decide +kernel
theorem d_Mo_cut_104 : decode b_Mo_cut 104 = .ok (.iconst 1, 1) := by decide +kernel
theorem d_Mo_cut_105 : decode b_Mo_cut 105 = .ok (.iadd, 1) := by decide +kernel
theorem d_Mo_cut_106 : decode b_Mo_cut 106 = .ok (.iload_n 1, 1) := by decide +kernel
theorem d_Mo_cut_107 : decode b_Mo_cut 107 = .ok (.iastore, 1) := by decide +kernel
theorem d_Mo_cut_108 : decode b_Mo_cut 108 = .ok (.iconst 0, 1) := by decide +kernel
theorem d_Mo_cut_109 : decode b_Mo_cut 109 = .ok (.istore_n 3, 1) := by decide +kernel
theorem d_Mo_cut_110 : decode b_Mo_cut 110 = .ok (.iload_n 3, 1) := by decide +kernel
theorem d_Mo_cut_111 : decode b_Mo_cut 111 = .ok (.bipush 8, 2) := by decide +kernel
theorem d_Mo_cut_113 : decode b_Mo_cut 113 = .ok (.if_icmp .ge 34, 3) := by decide +kernel
theorem d_Mo_cut_116 : decode b_Mo_cut 116 = .ok (.aload_n 0, 1) := by decide +kernel
theorem d_Mo_cut_117 : decode b_Mo_cut 117 = .ok (.getfield 18, 3) := by decide +kernel
theorem d_Mo_cut_120 : decode b_Mo_cut 120 = .ok (.bipush 8, 2) := by decide +kernel
theorem d_Mo_cut_122 : decode b_Mo_cut 122 = .ok (.iload_n 2, 1) := by decide +kernel
theorem d_Mo_cut_123 : decode b_Mo_cut 123 = .ok (.imul, 1) := by decide +kernel
theorem d_Mo_cut_124 : decode b_Mo_cut 124 = .ok (.bipush 8, 2) := by decide +kernel
theorem d_Mo_cut_126 : decode b_Mo_cut 126 = .ok (.iadd, 1) := by decide +kernel
theorem d_Mo_cut_127 : decode b_Mo_cut 127 = .ok (.iload_n 3, 1) := by decide +kernel
theorem d_Mo_cut_128 : decode b_Mo_cut 128 = .ok (.iadd, 1) := by decide +kernel
theorem d_Mo_cut_129 : decode b_Mo_cut 129 = .ok (.aload_n 0, 1) := by decide +kernel
theorem d_Mo_cut_130 : decode b_Mo_cut 130 = .ok (.getfield 18, 3) := by decide +kernel
theorem d_Mo_cut_133 : decode b_Mo_cut 133 = .ok (.bipush 8, 2) := by decide +kernel
theorem d_Mo_cut_135 : decode b_Mo_cut 135 = .ok (.iload_n 2, 1) := by decide +kernel
theorem d_Mo_cut_136 : decode b_Mo_cut 136 = .ok (.imul, 1) := by decide +kernel
theorem d_Mo_cut_137 : decode b_Mo_cut 137 = .ok (.iload_n 3, 1) := by decide +kernel
theorem d_Mo_cut_138 : decode b_Mo_cut 138 = .ok (.iadd, 1) := by decide +kernel
theorem d_Mo_cut_139 : decode b_Mo_cut 139 = .ok (.iaload, 1) := by decide +kernel
theorem d_Mo_cut_140 : decode b_Mo_cut 140 = .ok (.iastore, 1) := by decide +kernel
theorem d_Mo_cut_141 : decode b_Mo_cut 141 = .ok (.iinc 3 1, 3) := by decide +kernel
theorem d_Mo_cut_144 : decode b_Mo_cut 144 = .ok (.goto (-34), 3) := by decide +kernel
theorem d_Mo_cut_147 : decode b_Mo_cut 147 = .ok (.aload_n 0, 1) := by decide +kernel
theorem d_Mo_cut_148 : decode b_Mo_cut 148 = .ok (.dup, 1) := by decide +kernel
theorem d_Mo_cut_149 : decode b_Mo_cut 149 = .ok (.getfield 7, 3) := by decide +kernel
theorem d_Mo_cut_152 : decode b_Mo_cut 152 = .ok (.iconst 1, 1) := by decide +kernel
theorem d_Mo_cut_153 : decode b_Mo_cut 153 = .ok (.iadd, 1) := by decide +kernel
theorem d_Mo_cut_154 : decode b_Mo_cut 154 = .ok (.putfield 7, 3) := by decide +kernel
theorem d_Mo_cut_157 : decode b_Mo_cut 157 = .ok (.return_, 1) := by decide +kernel
theorem d_Mo_at_0 : decode b_Mo_at 0 = .ok (.iconst 0, 1) := by decide +kernel
theorem d_Mo_at_1 : decode b_Mo_at 1 = .ok (.istore_n 2, 1) := by decide +kernel
theorem d_Mo_at_2 : decode b_Mo_at 2 = .ok (.aload_n 0, 1) := by decide +kernel
theorem d_Mo_at_3 : decode b_Mo_at 3 = .ok (.getfield 7, 3) := by decide +kernel
theorem d_Mo_at_6 : decode b_Mo_at 6 = .ok (.iconst 1, 1) := by decide +kernel
theorem d_Mo_at_7 : decode b_Mo_at 7 = .ok (.isub, 1) := by decide +kernel
theorem d_Mo_at_8 : decode b_Mo_at 8 = .ok (.istore_n 3, 1) := by decide +kernel
theorem d_Mo_at_9 : decode b_Mo_at 9 = .ok (.iload_n 2, 1) := by decide +kernel
theorem d_Mo_at_10 : decode b_Mo_at 10 = .ok (.iload_n 3, 1) := by decide +kernel
theorem d_Mo_at_11 : decode b_Mo_at 11 = .ok (.if_icmp .ge 37, 3) := by decide +kernel
theorem d_Mo_at_14 : decode b_Mo_at 14 = .ok (.iload_n 2, 1) := by decide +kernel
theorem d_Mo_at_15 : decode b_Mo_at 15 = .ok (.iload_n 3, 1) := by decide +kernel
theorem d_Mo_at_16 : decode b_Mo_at 16 = .ok (.iadd, 1) := by decide +kernel
theorem d_Mo_at_17 : decode b_Mo_at 17 = .ok (.iconst 1, 1) := by decide +kernel
theorem d_Mo_at_18 : decode b_Mo_at 18 = .ok (.iadd, 1) := by decide +kernel
theorem d_Mo_at_19 : decode b_Mo_at 19 = .ok (.iconst 2, 1) := by decide +kernel
theorem d_Mo_at_20 : decode b_Mo_at 20 = .ok (.idiv, 1) := by decide +kernel
theorem d_Mo_at_21 : decode b_Mo_at 21 = .ok (.istore 4, 2) := by decide +kernel
theorem d_Mo_at_23 : decode b_Mo_at 23 = .ok (.aload_n 0, 1) := by decide +kernel
theorem d_Mo_at_24 : decode b_Mo_at 24 = .ok (.getfield 13, 3) := by decide +kernel
theorem d_Mo_at_27 : decode b_Mo_at 27 = .ok (.iload 4, 2) := by decide +kernel
theorem d_Mo_at_29 : decode b_Mo_at 29 = .ok (.iaload, 1) := by decide +kernel
theorem d_Mo_at_30 : decode b_Mo_at 30 = .ok (.iload_n 1, 1) := by decide +kernel
theorem d_Mo_at_31 : decode b_Mo_at 31 = .ok (.if_icmp .gt 9, 3) := by decide +kernel
theorem d_Mo_at_34 : decode b_Mo_at 34 = .ok (.iload 4, 2) := by decide +kernel
theorem d_Mo_at_36 : decode b_Mo_at 36 = .ok (.istore_n 2, 1) := by decide +kernel
theorem d_Mo_at_37 : decode b_Mo_at 37 = .ok (.goto 8, 3) := by decide +kernel
theorem d_Mo_at_40 : decode b_Mo_at 40 = .ok (.iload 4, 2) := by decide +kernel
theorem d_Mo_at_42 : decode b_Mo_at 42 = .ok (.iconst 1, 1) := by decide +kernel
theorem d_Mo_at_43 : decode b_Mo_at 43 = .ok (.isub, 1) := by decide +kernel
theorem d_Mo_at_44 : decode b_Mo_at 44 = .ok (.istore_n 3, 1) := by decide +kernel
theorem d_Mo_at_45 : decode b_Mo_at 45 = .ok (.goto (-36), 3) := by decide +kernel
theorem d_Mo_at_48 : decode b_Mo_at 48 = .ok (.iload_n 2, 1) := by decide +kernel
theorem d_Mo_at_49 : decode b_Mo_at 49 = .ok (.ireturn, 1) := by decide +kernel
theorem d_Mo_get_0 : decode b_Mo_get 0 = .ok (.aload_n 0, 1) := by decide +kernel
theorem d_Mo_get_1 : decode b_Mo_get 1 = .ok (.iconst 0, 1) := by decide +kernel
theorem d_Mo_get_2 : decode b_Mo_get 2 = .ok (.putfield 21, 3) := by decide +kernel
theorem d_Mo_get_5 : decode b_Mo_get 5 = .ok (.aload_n 0, 1) := by decide +kernel
theorem d_Mo_get_6 : decode b_Mo_get 6 = .ok (.iload_n 1, 1) := by decide +kernel
theorem d_Mo_get_7 : decode b_Mo_get 7 = .ok (.invokevirtual 33, 3) := by decide +kernel
theorem d_Mo_get_10 : decode b_Mo_get 10 = .ok (.ifCond .ne 13, 3) := by decide +kernel
theorem d_Mo_get_13 : decode b_Mo_get 13 = .ok (.iload_n 2, 1) := by decide +kernel
theorem d_Mo_get_14 : decode b_Mo_get 14 = .ok (.ifCond .lt 9, 3) := by decide +kernel
theorem d_Mo_get_17 : decode b_Mo_get 17 = .ok (.iload_n 2, 1) := by decide +kernel
theorem d_Mo_get_18 : decode b_Mo_get 18 = .ok (.bipush 7, 2) := by decide +kernel
theorem d_Mo_get_20 : decode b_Mo_get 20 = .ok (.if_icmp .le 11, 3) := by decide +kernel
theorem d_Mo_get_23 : decode b_Mo_get 23 = .ok (.aload_n 0, 1) := by decide +kernel
theorem d_Mo_get_24 : decode b_Mo_get 24 = .ok (.iconst 1, 1) := by decide +kernel
theorem d_Mo_get_25 : decode b_Mo_get 25 = .ok (.invokevirtual 37, 3) := by decide +kernel
theorem d_Mo_get_28 : decode b_Mo_get 28 = .ok (.goto 18, 3) := by decide +kernel
theorem d_Mo_get_31 : decode b_Mo_get 31 = .ok (.aload_n 0, 1) := by decide +kernel
theorem d_Mo_get_32 : decode b_Mo_get 32 = .ok (.getfield 18, 3) := by decide +kernel
theorem d_Mo_get_35 : decode b_Mo_get 35 = .ok (.bipush 8, 2) := by decide +kernel
theorem d_Mo_get_37 : decode b_Mo_get 37 = .ok (.aload_n 0, 1) := by decide +kernel
theorem d_Mo_get_38 : decode b_Mo_get 38 = .ok (.iload_n 1, 1) := by decide +kernel
theorem d_Mo_get_39 : decode b_Mo_get 39 = .ok (.invokevirtual 25, 3) := by decide +kernel
theorem d_Mo_get_42 : decode b_Mo_get 42 = .ok (.imul, 1) := by decide +kernel
theorem d_Mo_get_43 : decode b_Mo_get 43 = .ok (.iload_n 2, 1) := by decide +kernel
theorem d_Mo_get_44 : decode b_Mo_get 44 = .ok (.iadd, 1) := by decide +kernel
theorem d_Mo_get_45 : decode b_Mo_get 45 = .ok (.iaload, 1) := by decide +kernel
theorem d_Mo_get_46 : decode b_Mo_get 46 = .ok (.ireturn, 1) := by decide +kernel
theorem d_Mo_change_0 : decode b_Mo_change 0 = .ok (.aload_n 0, 1) := by decide +kernel
theorem d_Mo_change_1 : decode b_Mo_change 1 = .ok (.iconst 0, 1) := by decide +kernel
theorem d_Mo_change_2 : decode b_Mo_change 2 = .ok (.putfield 21, 3) := by decide +kernel
theorem d_Mo_change_5 : decode b_Mo_change 5 = .ok (.aload_n 0, 1) := by decide +kernel
theorem d_Mo_change_6 : decode b_Mo_change 6 = .ok (.iload_n 1, 1) := by decide +kernel
theorem d_Mo_change_7 : decode b_Mo_change 7 = .ok (.invokevirtual 33, 3) := by decide +kernel
theorem d_Mo_change_10 : decode b_Mo_change 10 = .ok (.ifCond .ne 13, 3) := by decide +kernel
theorem d_Mo_change_13 : decode b_Mo_change 13 = .ok (.iload_n 2, 1) := by decide +kernel
theorem d_Mo_change_14 : decode b_Mo_change 14 = .ok (.ifCond .lt 9, 3) := by decide +kernel
theorem d_Mo_change_17 : decode b_Mo_change 17 = .ok (.iload_n 2, 1) := by decide +kernel
theorem d_Mo_change_18 : decode b_Mo_change 18 = .ok (.bipush 7, 2) := by decide +kernel
theorem d_Mo_change_20 : decode b_Mo_change 20 = .ok (.if_icmp .le 9, 3) := by decide +kernel
theorem d_Mo_change_23 : decode b_Mo_change 23 = .ok (.aload_n 0, 1) := by decide +kernel
theorem d_Mo_change_24 : decode b_Mo_change 24 = .ok (.iconst 1, 1) := by decide +kernel
theorem d_Mo_change_25 : decode b_Mo_change 25 = .ok (.invokevirtual 37, 3) := by decide +kernel
theorem d_Mo_change_28 : decode b_Mo_change 28 = .ok (.ireturn, 1) := by decide +kernel
theorem d_Mo_change_29 : decode b_Mo_change 29 = .ok (.aload_n 0, 1) := by decide +kernel
theorem d_Mo_change_30 : decode b_Mo_change 30 = .ok (.iload_n 1, 1) := by decide +kernel
theorem d_Mo_change_31 : decode b_Mo_change 31 = .ok (.invokevirtual 25, 3) := by decide +kernel
theorem d_Mo_change_34 : decode b_Mo_change 34 = .ok (.istore_n 3, 1) := by decide +kernel
theorem d_Mo_change_35 : decode b_Mo_change 35 = .ok (.aload_n 0, 1) := by decide +kernel
theorem d_Mo_change_36 : decode b_Mo_change 36 = .ok (.getfield 18, 3) := by decide +kernel
theorem d_Mo_change_39 : decode b_Mo_change 39 = .ok (.bipush 8, 2) := by decide +kernel
theorem d_Mo_change_41 : decode b_Mo_change 41 = .ok (.iload_n 3, 1) := by decide +kernel
theorem d_Mo_change_42 : decode b_Mo_change 42 = .ok (.imul, 1) := by decide +kernel
theorem d_Mo_change_43 : decode b_Mo_change 43 = .ok (.iload_n 2, 1) := by decide +kernel
theorem d_Mo_change_44 : decode b_Mo_change 44 = .ok (.iadd, 1) := by decide +kernel
theorem d_Mo_change_45 : decode b_Mo_change 45 = .ok (.iaload, 1) := by decide +kernel
theorem d_Mo_change_46 : decode b_Mo_change 46 = .ok (.istore 4, 2) := by decide +kernel
theorem d_Mo_change_48 : decode b_Mo_change 48 = .ok (.iload_n 3, 1) := by decide +kernel
theorem d_Mo_change_49 : decode b_Mo_change 49 = .ok (.aload_n 0, 1) := by decide +kernel
theorem d_Mo_change_50 : decode b_Mo_change 50 = .ok (.getfield 7, 3) := by decide +kernel
theorem d_Mo_change_53 : decode b_Mo_change 53 = .ok (.if_icmp .ge 25, 3) := by decide +kernel
theorem d_Mo_change_56 : decode b_Mo_change 56 = .ok (.aload_n 0, 1) := by decide +kernel
theorem d_Mo_change_57 : decode b_Mo_change 57 = .ok (.getfield 18, 3) := by decide +kernel
theorem d_Mo_change_60 : decode b_Mo_change 60 = .ok (.bipush 8, 2) := by decide +kernel
theorem d_Mo_change_62 : decode b_Mo_change 62 = .ok (.iload_n 3, 1) := by decide +kernel
theorem d_Mo_change_63 : decode b_Mo_change 63 = .ok (.imul, 1) := by decide +kernel
theorem d_Mo_change_64 : decode b_Mo_change 64 = .ok (.iload_n 2, 1) := by decide +kernel
theorem d_Mo_change_65 : decode b_Mo_change 65 = .ok (.iadd, 1) := by decide +kernel
theorem d_Mo_change_66 : decode b_Mo_change 66 = .ok (.iaload, 1) := by decide +kernel
theorem d_Mo_change_67 : decode b_Mo_change 67 = .ok (.iload 4, 2) := by decide +kernel
theorem d_Mo_change_69 : decode b_Mo_change 69 = .ok (.if_icmp .ne 9, 3) := by decide +kernel
theorem d_Mo_change_72 : decode b_Mo_change 72 = .ok (.iinc 3 1, 3) := by decide +kernel
theorem d_Mo_change_75 : decode b_Mo_change 75 = .ok (.goto (-27), 3) := by decide +kernel
theorem d_Mo_change_78 : decode b_Mo_change 78 = .ok (.iload_n 3, 1) := by decide +kernel
theorem d_Mo_change_79 : decode b_Mo_change 79 = .ok (.aload_n 0, 1) := by decide +kernel
theorem d_Mo_change_80 : decode b_Mo_change 80 = .ok (.getfield 7, 3) := by decide +kernel
theorem d_Mo_change_83 : decode b_Mo_change 83 = .ok (.if_icmp .ne 7, 3) := by decide +kernel
theorem d_Mo_change_86 : decode b_Mo_change 86 = .ok (.iconst (-1), 1) := by decide +kernel
theorem d_Mo_change_87 : decode b_Mo_change 87 = .ok (.goto 9, 3) := by decide +kernel
theorem d_Mo_change_90 : decode b_Mo_change 90 = .ok (.aload_n 0, 1) := by decide +kernel
theorem d_Mo_change_91 : decode b_Mo_change 91 = .ok (.getfield 13, 3) := by decide +kernel
theorem d_Mo_change_94 : decode b_Mo_change 94 = .ok (.iload_n 3, 1) := by decide +kernel
theorem d_Mo_change_95 : decode b_Mo_change 95 = .ok (.iaload, 1) := by decide +kernel
theorem d_Mo_change_96 : decode b_Mo_change 96 = .ok (.ireturn, 1) := by decide +kernel
theorem d_Mo_alike_0 : decode b_Mo_alike 0 = .ok (.aload_n 0, 1) := by decide +kernel
theorem d_Mo_alike_1 : decode b_Mo_alike 1 = .ok (.iconst 0, 1) := by decide +kernel
theorem d_Mo_alike_2 : decode b_Mo_alike 2 = .ok (.putfield 21, 3) := by decide +kernel
theorem d_Mo_alike_5 : decode b_Mo_alike 5 = .ok (.aload_n 0, 1) := by decide +kernel
theorem d_Mo_alike_6 : decode b_Mo_alike 6 = .ok (.iload_n 1, 1) := by decide +kernel
theorem d_Mo_alike_7 : decode b_Mo_alike 7 = .ok (.invokevirtual 33, 3) := by decide +kernel
theorem d_Mo_alike_10 : decode b_Mo_alike 10 = .ok (.ifCond .ne 11, 3) := by decide +kernel
theorem d_Mo_alike_13 : decode b_Mo_alike 13 = .ok (.aload_n 0, 1) := by decide +kernel
theorem d_Mo_alike_14 : decode b_Mo_alike 14 = .ok (.iload_n 2, 1) := by decide +kernel
theorem d_Mo_alike_15 : decode b_Mo_alike 15 = .ok (.invokevirtual 33, 3) := by decide +kernel
theorem d_Mo_alike_18 : decode b_Mo_alike 18 = .ok (.ifCond .eq 17, 3) := by decide +kernel
theorem d_Mo_alike_21 : decode b_Mo_alike 21 = .ok (.aload_n 0, 1) := by decide +kernel
theorem d_Mo_alike_22 : decode b_Mo_alike 22 = .ok (.iconst 1, 1) := by decide +kernel
theorem d_Mo_alike_23 : decode b_Mo_alike 23 = .ok (.invokevirtual 37, 3) := by decide +kernel
theorem d_Mo_alike_26 : decode b_Mo_alike 26 = .ok (.ifCond .le 7, 3) := by decide +kernel
theorem d_Mo_alike_29 : decode b_Mo_alike 29 = .ok (.iconst 1, 1) := by decide +kernel
theorem d_Mo_alike_30 : decode b_Mo_alike 30 = .ok (.goto 4, 3) := by decide +kernel
theorem d_Mo_alike_33 : decode b_Mo_alike 33 = .ok (.iconst 0, 1) := by decide +kernel
theorem d_Mo_alike_34 : decode b_Mo_alike 34 = .ok (.ireturn, 1) := by decide +kernel
theorem d_Mo_alike_35 : decode b_Mo_alike 35 = .ok (.iconst 0, 1) := by decide +kernel
theorem d_Mo_alike_36 : decode b_Mo_alike 36 = .ok (.istore_n 3, 1) := by decide +kernel
theorem d_Mo_alike_37 : decode b_Mo_alike 37 = .ok (.iload_n 3, 1) := by decide +kernel
theorem d_Mo_alike_38 : decode b_Mo_alike 38 = .ok (.bipush 8, 2) := by decide +kernel
theorem d_Mo_alike_40 : decode b_Mo_alike 40 = .ok (.if_icmp .ge 44, 3) := by decide +kernel
theorem d_Mo_alike_43 : decode b_Mo_alike 43 = .ok (.aload_n 0, 1) := by decide +kernel
theorem d_Mo_alike_44 : decode b_Mo_alike 44 = .ok (.getfield 18, 3) := by decide +kernel
theorem d_Mo_alike_47 : decode b_Mo_alike 47 = .ok (.bipush 8, 2) := by decide +kernel
theorem d_Mo_alike_49 : decode b_Mo_alike 49 = .ok (.aload_n 0, 1) := by decide +kernel
theorem d_Mo_alike_50 : decode b_Mo_alike 50 = .ok (.iload_n 1, 1) := by decide +kernel
theorem d_Mo_alike_51 : decode b_Mo_alike 51 = .ok (.invokevirtual 25, 3) := by decide +kernel
theorem d_Mo_alike_54 : decode b_Mo_alike 54 = .ok (.imul, 1) := by decide +kernel
theorem d_Mo_alike_55 : decode b_Mo_alike 55 = .ok (.iload_n 3, 1) := by decide +kernel
theorem d_Mo_alike_56 : decode b_Mo_alike 56 = .ok (.iadd, 1) := by decide +kernel
theorem d_Mo_alike_57 : decode b_Mo_alike 57 = .ok (.iaload, 1) := by decide +kernel
theorem d_Mo_alike_58 : decode b_Mo_alike 58 = .ok (.aload_n 0, 1) := by decide +kernel
theorem d_Mo_alike_59 : decode b_Mo_alike 59 = .ok (.getfield 18, 3) := by decide +kernel
theorem d_Mo_alike_62 : decode b_Mo_alike 62 = .ok (.bipush 8, 2) := by decide +kernel
theorem d_Mo_alike_64 : decode b_Mo_alike 64 = .ok (.aload_n 0, 1) := by decide +kernel
theorem d_Mo_alike_65 : decode b_Mo_alike 65 = .ok (.iload_n 2, 1) := by decide +kernel
theorem d_Mo_alike_66 : decode b_Mo_alike 66 = .ok (.invokevirtual 25, 3) := by decide +kernel
theorem d_Mo_alike_69 : decode b_Mo_alike 69 = .ok (.imul, 1) := by decide +kernel
theorem d_Mo_alike_70 : decode b_Mo_alike 70 = .ok (.iload_n 3, 1) := by decide +kernel
theorem d_Mo_alike_71 : decode b_Mo_alike 71 = .ok (.iadd, 1) := by decide +kernel
theorem d_Mo_alike_72 : decode b_Mo_alike 72 = .ok (.iaload, 1) := by decide +kernel
theorem d_Mo_alike_73 : decode b_Mo_alike 73 = .ok (.if_icmp .eq 5, 3) := by decide +kernel
theorem d_Mo_alike_76 : decode b_Mo_alike 76 = .ok (.iconst 0, 1) := by decide +kernel
theorem d_Mo_alike_77 : decode b_Mo_alike 77 = .ok (.ireturn, 1) := by decide +kernel
theorem d_Mo_alike_78 : decode b_Mo_alike 78 = .ok (.iinc 3 1, 3) := by decide +kernel
theorem d_Mo_alike_81 : decode b_Mo_alike 81 = .ok (.goto (-44), 3) := by decide +kernel
theorem d_Mo_alike_84 : decode b_Mo_alike 84 = .ok (.iconst 1, 1) := by decide +kernel
theorem d_Mo_alike_85 : decode b_Mo_alike 85 = .ok (.ireturn, 1) := by decide +kernel
theorem d_Mo_hash_0 : decode b_Mo_hash 0 = .ok (.aload_n 0, 1) := by decide +kernel
theorem d_Mo_hash_1 : decode b_Mo_hash 1 = .ok (.iconst 0, 1) := by decide +kernel
theorem d_Mo_hash_2 : decode b_Mo_hash 2 = .ok (.putfield 21, 3) := by decide +kernel
theorem d_Mo_hash_5 : decode b_Mo_hash 5 = .ok (.aload_n 0, 1) := by decide +kernel
theorem d_Mo_hash_6 : decode b_Mo_hash 6 = .ok (.iload_n 1, 1) := by decide +kernel
theorem d_Mo_hash_7 : decode b_Mo_hash 7 = .ok (.invokevirtual 33, 3) := by decide +kernel
theorem d_Mo_hash_10 : decode b_Mo_hash 10 = .ok (.ifCond .ne 35, 3) := by decide +kernel
theorem d_Mo_hash_13 : decode b_Mo_hash 13 = .ok (.aload_n 0, 1) := by decide +kernel
theorem d_Mo_hash_14 : decode b_Mo_hash 14 = .ok (.iload_n 2, 1) := by decide +kernel
theorem d_Mo_hash_15 : decode b_Mo_hash 15 = .ok (.invokevirtual 33, 3) := by decide +kernel
theorem d_Mo_hash_18 : decode b_Mo_hash 18 = .ok (.ifCond .ne 27, 3) := by decide +kernel
theorem d_Mo_hash_21 : decode b_Mo_hash 21 = .ok (.iload_n 2, 1) := by decide +kernel
theorem d_Mo_hash_22 : decode b_Mo_hash 22 = .ok (.iload_n 1, 1) := by decide +kernel
theorem d_Mo_hash_23 : decode b_Mo_hash 23 = .ok (.if_icmp .lt 22, 3) := by decide +kernel
theorem d_Mo_hash_26 : decode b_Mo_hash 26 = .ok (.iload_n 2, 1) := by decide +kernel
theorem d_Mo_hash_27 : decode b_Mo_hash 27 = .ok (.iload_n 1, 1) := by decide +kernel
theorem d_Mo_hash_28 : decode b_Mo_hash 28 = .ok (.isub, 1) := by decide +kernel
theorem d_Mo_hash_29 : decode b_Mo_hash 29 = .ok (.sipush 3999, 3) := by decide +kernel
theorem d_Mo_hash_32 : decode b_Mo_hash 32 = .ok (.if_icmp .gt 13, 3) := by decide +kernel
theorem d_Mo_hash_35 : decode b_Mo_hash 35 = .ok (.iload_n 3, 1) := by decide +kernel
theorem d_Mo_hash_36 : decode b_Mo_hash 36 = .ok (.ifCond .lt 9, 3) := by decide +kernel
theorem d_Mo_hash_39 : decode b_Mo_hash 39 = .ok (.iload_n 3, 1) := by decide +kernel
theorem d_Mo_hash_40 : decode b_Mo_hash 40 = .ok (.bipush 7, 2) := by decide +kernel
theorem d_Mo_hash_42 : decode b_Mo_hash 42 = .ok (.if_icmp .le 9, 3) := by decide +kernel
theorem d_Mo_hash_45 : decode b_Mo_hash 45 = .ok (.aload_n 0, 1) := by decide +kernel
theorem d_Mo_hash_46 : decode b_Mo_hash 46 = .ok (.iconst 1, 1) := by decide +kernel
theorem d_Mo_hash_47 : decode b_Mo_hash 47 = .ok (.invokevirtual 37, 3) := by decide +kernel
theorem d_Mo_hash_50 : decode b_Mo_hash 50 = .ok (.ireturn, 1) := by decide +kernel
theorem d_Mo_hash_51 : decode b_Mo_hash 51 = .ok (.iconst 1, 1) := by decide +kernel
theorem d_Mo_hash_52 : decode b_Mo_hash 52 = .ok (.istore 4, 2) := by decide +kernel
theorem d_Mo_hash_54 : decode b_Mo_hash 54 = .ok (.iload_n 1, 1) := by decide +kernel
theorem d_Mo_hash_55 : decode b_Mo_hash 55 = .ok (.istore 5, 2) := by decide +kernel
theorem d_Mo_hash_57 : decode b_Mo_hash 57 = .ok (.iload 5, 2) := by decide +kernel
theorem d_Mo_hash_59 : decode b_Mo_hash 59 = .ok (.iload_n 2, 1) := by decide +kernel
theorem d_Mo_hash_60 : decode b_Mo_hash 60 = .ok (.if_icmp .gt 33, 3) := by decide +kernel
theorem d_Mo_hash_63 : decode b_Mo_hash 63 = .ok (.bipush 31, 2) := by decide +kernel
theorem d_Mo_hash_65 : decode b_Mo_hash 65 = .ok (.iload 4, 2) := by decide +kernel
theorem d_Mo_hash_67 : decode b_Mo_hash 67 = .ok (.imul, 1) := by decide +kernel
theorem d_Mo_hash_68 : decode b_Mo_hash 68 = .ok (.aload_n 0, 1) := by decide +kernel
theorem d_Mo_hash_69 : decode b_Mo_hash 69 = .ok (.getfield 18, 3) := by decide +kernel
theorem d_Mo_hash_72 : decode b_Mo_hash 72 = .ok (.bipush 8, 2) := by decide +kernel
theorem d_Mo_hash_74 : decode b_Mo_hash 74 = .ok (.aload_n 0, 1) := by decide +kernel
theorem d_Mo_hash_75 : decode b_Mo_hash 75 = .ok (.iload 5, 2) := by decide +kernel
theorem d_Mo_hash_77 : decode b_Mo_hash 77 = .ok (.invokevirtual 25, 3) := by decide +kernel
theorem d_Mo_hash_80 : decode b_Mo_hash 80 = .ok (.imul, 1) := by decide +kernel
theorem d_Mo_hash_81 : decode b_Mo_hash 81 = .ok (.iload_n 3, 1) := by decide +kernel
theorem d_Mo_hash_82 : decode b_Mo_hash 82 = .ok (.iadd, 1) := by decide +kernel
theorem d_Mo_hash_83 : decode b_Mo_hash 83 = .ok (.iaload, 1) := by decide +kernel
theorem d_Mo_hash_84 : decode b_Mo_hash 84 = .ok (.iadd, 1) := by decide +kernel
theorem d_Mo_hash_85 : decode b_Mo_hash 85 = .ok (.istore 4, 2) := by decide +kernel
theorem d_Mo_hash_87 : decode b_Mo_hash 87 = .ok (.iinc 5 1, 3) := by decide +kernel
theorem d_Mo_hash_90 : decode b_Mo_hash 90 = .ok (.goto (-33), 3) := by decide +kernel
theorem d_Mo_hash_93 : decode b_Mo_hash 93 = .ok (.iload 4, 2) := by decide +kernel
theorem d_Mo_hash_95 : decode b_Mo_hash 95 = .ok (.ireturn, 1) := by decide +kernel
theorem d_Mo_clear_0 : decode b_Mo_clear 0 = .ok (.aload_n 0, 1) := by decide +kernel
theorem d_Mo_clear_1 : decode b_Mo_clear 1 = .ok (.iconst 0, 1) := by decide +kernel
theorem d_Mo_clear_2 : decode b_Mo_clear 2 = .ok (.putfield 21, 3) := by decide +kernel
theorem d_Mo_clear_5 : decode b_Mo_clear 5 = .ok (.iconst 0, 1) := by decide +kernel
theorem d_Mo_clear_6 : decode b_Mo_clear 6 = .ok (.istore_n 1, 1) := by decide +kernel
theorem d_Mo_clear_7 : decode b_Mo_clear 7 = .ok (.iconst 0, 1) := by decide +kernel
theorem d_Mo_clear_8 : decode b_Mo_clear 8 = .ok (.istore_n 2, 1) := by decide +kernel
theorem d_Mo_clear_9 : decode b_Mo_clear 9 = .ok (.iload_n 2, 1) := by decide +kernel
theorem d_Mo_clear_10 : decode b_Mo_clear 10 = .ok (.sipush 1024, 3) := by decide +kernel
theorem d_Mo_clear_13 : decode b_Mo_clear 13 = .ok (.if_icmp .ge 60, 3) := by decide +kernel
theorem d_Mo_clear_16 : decode b_Mo_clear 16 = .ok (.iconst 0, 1) := by decide +kernel
theorem d_Mo_clear_17 : decode b_Mo_clear 17 = .ok (.istore_n 3, 1) := by decide +kernel
theorem d_Mo_clear_18 : decode b_Mo_clear 18 = .ok (.iconst 0, 1) := by decide +kernel
theorem d_Mo_clear_19 : decode b_Mo_clear 19 = .ok (.istore 4, 2) := by decide +kernel
theorem d_Mo_clear_21 : decode b_Mo_clear 21 = .ok (.iload 4, 2) := by decide +kernel
theorem d_Mo_clear_23 : decode b_Mo_clear 23 = .ok (.bipush 8, 2) := by decide +kernel
theorem d_Mo_clear_25 : decode b_Mo_clear 25 = .ok (.if_icmp .ge 30, 3) := by decide +kernel
theorem d_Mo_clear_28 : decode b_Mo_clear 28 = .ok (.aload_n 0, 1) := by decide +kernel
theorem d_Mo_clear_29 : decode b_Mo_clear 29 = .ok (.getfield 18, 3) := by decide +kernel
theorem d_Mo_clear_32 : decode b_Mo_clear 32 = .ok (.bipush 8, 2) := by decide +kernel
theorem d_Mo_clear_34 : decode b_Mo_clear 34 = .ok (.aload_n 0, 1) := by decide +kernel
theorem d_Mo_clear_35 : decode b_Mo_clear 35 = .ok (.iload_n 2, 1) := by decide +kernel
theorem d_Mo_clear_36 : decode b_Mo_clear 36 = .ok (.invokevirtual 25, 3) := by decide +kernel
theorem d_Mo_clear_39 : decode b_Mo_clear 39 = .ok (.imul, 1) := by decide +kernel
theorem d_Mo_clear_40 : decode b_Mo_clear 40 = .ok (.iload 4, 2) := by decide +kernel
theorem d_Mo_clear_42 : decode b_Mo_clear 42 = .ok (.iadd, 1) := by decide +kernel
theorem d_Mo_clear_43 : decode b_Mo_clear 43 = .ok (.iaload, 1) := by decide +kernel
theorem d_Mo_clear_44 : decode b_Mo_clear 44 = .ok (.ifCond .eq 5, 3) := by decide +kernel
theorem d_Mo_clear_47 : decode b_Mo_clear 47 = .ok (.iconst 1, 1) := by decide +kernel
theorem d_Mo_clear_48 : decode b_Mo_clear 48 = .ok (.istore_n 3, 1) := by decide +kernel
theorem d_Mo_clear_49 : decode b_Mo_clear 49 = .ok (.iinc 4 1, 3) := by decide +kernel
theorem d_Mo_clear_52 : decode b_Mo_clear 52 = .ok (.goto (-31), 3) := by decide +kernel
theorem d_Mo_clear_55 : decode b_Mo_clear 55 = .ok (.iload_n 1, 1) := by decide +kernel
theorem d_Mo_clear_56 : decode b_Mo_clear 56 = .ok (.iload_n 3, 1) := by decide +kernel
theorem d_Mo_clear_57 : decode b_Mo_clear 57 = .ok (.ifCond .eq 7, 3) := by decide +kernel
theorem d_Mo_clear_60 : decode b_Mo_clear 60 = .ok (.iconst 1, 1) := by decide +kernel
theorem d_Mo_clear_61 : decode b_Mo_clear 61 = .ok (.goto 4, 3) := by decide +kernel
theorem d_Mo_clear_64 : decode b_Mo_clear 64 = .ok (.iconst 0, 1) := by decide +kernel
theorem d_Mo_clear_65 : decode b_Mo_clear 65 = .ok (.iadd, 1) := by decide +kernel
theorem d_Mo_clear_66 : decode b_Mo_clear 66 = .ok (.istore_n 1, 1) := by decide +kernel
theorem d_Mo_clear_67 : decode b_Mo_clear 67 = .ok (.iinc 2 1, 3) := by decide +kernel
theorem d_Mo_clear_70 : decode b_Mo_clear 70 = .ok (.goto (-61), 3) := by decide +kernel
theorem d_Mo_clear_73 : decode b_Mo_clear 73 = .ok (.aload_n 0, 1) := by decide +kernel
theorem d_Mo_clear_74 : decode b_Mo_clear 74 = .ok (.iconst 1, 1) := by decide +kernel
theorem d_Mo_clear_75 : decode b_Mo_clear 75 = .ok (.putfield 7, 3) := by decide +kernel
theorem d_Mo_clear_78 : decode b_Mo_clear 78 = .ok (.iconst 0, 1) := by decide +kernel
theorem d_Mo_clear_79 : decode b_Mo_clear 79 = .ok (.istore_n 2, 1) := by decide +kernel
theorem d_Mo_clear_80 : decode b_Mo_clear 80 = .ok (.iload_n 2, 1) := by decide +kernel
theorem d_Mo_clear_81 : decode b_Mo_clear 81 = .ok (.bipush 8, 2) := by decide +kernel
theorem d_Mo_clear_83 : decode b_Mo_clear 83 = .ok (.if_icmp .ge 16, 3) := by decide +kernel
theorem d_Mo_clear_86 : decode b_Mo_clear 86 = .ok (.aload_n 0, 1) := by decide +kernel
theorem d_Mo_clear_87 : decode b_Mo_clear 87 = .ok (.getfield 18, 3) := by decide +kernel
theorem d_Mo_clear_90 : decode b_Mo_clear 90 = .ok (.iload_n 2, 1) := by decide +kernel
theorem d_Mo_clear_91 : decode b_Mo_clear 91 = .ok (.iconst 0, 1) := by decide +kernel
theorem d_Mo_clear_92 : decode b_Mo_clear 92 = .ok (.iastore, 1) := by decide +kernel
theorem d_Mo_clear_93 : decode b_Mo_clear 93 = .ok (.iinc 2 1, 3) := by decide +kernel
theorem d_Mo_clear_96 : decode b_Mo_clear 96 = .ok (.goto (-16), 3) := by decide +kernel
theorem d_Mo_clear_99 : decode b_Mo_clear 99 = .ok (.iload_n 1, 1) := by decide +kernel
theorem d_Mo_clear_100 : decode b_Mo_clear 100 = .ok (.ireturn, 1) := by decide +kernel
