theorem dX2_units_14 : decode cX2_units 14 = .ok (.if_icmp .ne 7, 3) := by decide +kernel
theorem dX2_units_17 : decode cX2_units 17 = .ok (.iconst (-1), 1) := by decide +kernel
theorem dX2_units_18 : decode cX2_units 18 = .ok (.goto 9, 3) := by decide +kernel
theorem dX2_units_21 : decode cX2_units 21 = .ok (.aload_n 0, 1) := by decide +kernel
theorem dX2_units_22 : decode cX2_units 22 = .ok (.getfield 35, 3) := by decide +kernel
theorem dX2_units_25 : decode cX2_units 25 = .ok (.iload_n 3, 1) := by decide +kernel
theorem dX2_units_26 : decode cX2_units 26 = .ok (.iaload, 1) := by decide +kernel
theorem dX2_units_27 : decode cX2_units 27 = .ok (.ireturn, 1) := by decide +kernel
theorem dX2_count_0 : decode cX2_count 0 = .ok (.aload_n 0, 1) := by decide +kernel
theorem dX2_count_1 : decode cX2_count 1 = .ok (.iconst 0, 1) := by decide +kernel
theorem dX2_count_2 : decode cX2_count 2 = .ok (.putfield 54, 3) := by decide +kernel
theorem dX2_count_5 : decode cX2_count 5 = .ok (.iload_n 1, 1) := by decide +kernel
theorem dX2_count_6 : decode cX2_count 6 = .ok (.iconst 4, 1) := by decide +kernel
theorem dX2_count_7 : decode cX2_count 7 = .ok (.invokestatic 77, 3) := by decide +kernel
theorem dX2_count_10 : decode cX2_count 10 = .ok (.ifCond .eq 11, 3) := by decide +kernel
theorem dX2_count_13 : decode cX2_count 13 = .ok (.iload_n 2, 1) := by decide +kernel
theorem dX2_count_14 : decode cX2_count 14 = .ok (.iconst 5, 1) := by decide +kernel
theorem dX2_count_15 : decode cX2_count 15 = .ok (.invokestatic 77, 3) := by decide +kernel
theorem dX2_count_18 : decode cX2_count 18 = .ok (.ifCond .ne 5, 3) := by decide +kernel
theorem dX2_count_21 : decode cX2_count 21 = .ok (.iconst (-1), 1) := by decide +kernel
theorem dX2_count_22 : decode cX2_count 22 = .ok (.ireturn, 1) := by decide +kernel
theorem dX2_count_23 : decode cX2_count 23 = .ok (.iload_n 2, 1) := by decide +kernel
theorem dX2_count_24 : decode cX2_count 24 = .ok (.iconst 3, 1) := by decide +kernel
theorem dX2_count_25 : decode cX2_count 25 = .ok (.if_icmp .ge 37, 3) := by decide +kernel
theorem dX2_count_28 : decode cX2_count 28 = .ok (.iload_n 2, 1) := by decide +kernel
theorem dX2_count_29 : decode cX2_count 29 = .ok (.ifCond .ne 12, 3) := by decide +kernel
theorem dX2_count_32 : decode cX2_count 32 = .ok (.aload_n 0, 1) := by decide +kernel
theorem dX2_count_33 : decode cX2_count 33 = .ok (.getfield 45, 3) := by decide +kernel
theorem dX2_count_36 : decode cX2_count 36 = .ok (.iload_n 1, 1) := by decide +kernel
theorem dX2_count_37 : decode cX2_count 37 = .ok (.iaload, 1) := by decide +kernel
theorem dX2_count_38 : decode cX2_count 38 = .ok (.goto 23, 3) := by decide +kernel
theorem dX2_count_41 : decode cX2_count 41 = .ok (.iload_n 2, 1) := by decide +kernel
theorem dX2_count_42 : decode cX2_count 42 = .ok (.iconst 1, 1) := by decide +kernel
theorem dX2_count_43 : decode cX2_count 43 = .ok (.if_icmp .ne 12, 3) := by decide +kernel
theorem dX2_count_46 : decode cX2_count 46 = .ok (.aload_n 0, 1) := by decide +kernel
theorem dX2_count_47 : decode cX2_count 47 = .ok (.getfield 48, 3) := by decide +kernel
theorem dX2_count_50 : decode cX2_count 50 = .ok (.iload_n 1, 1) := by decide +kernel
theorem dX2_count_51 : decode cX2_count 51 = .ok (.iaload, 1) := by decide +kernel
theorem dX2_count_52 : decode cX2_count 52 = .ok (.goto 9, 3) := by decide +kernel
theorem dX2_count_55 : decode cX2_count 55 = .ok (.aload_n 0, 1) := by decide +kernel
theorem dX2_count_56 : decode cX2_count 56 = .ok (.getfield 51, 3) := by decide +kernel
theorem dX2_count_59 : decode cX2_count 59 = .ok (.iload_n 1, 1) := by decide +kernel
theorem dX2_count_60 : decode cX2_count 60 = .ok (.iaload, 1) := by decide +kernel
theorem dX2_count_61 : decode cX2_count 61 = .ok (.ireturn, 1) := by decide +kernel
theorem dX2_count_62 : decode cX2_count 62 = .ok (.iconst 0, 1) := by decide +kernel
theorem dX2_count_63 : decode cX2_count 63 = .ok (.istore_n 3, 1) := by decide +kernel
theorem dX2_count_64 : decode cX2_count 64 = .ok (.iconst 0, 1) := by decide +kernel
theorem dX2_count_65 : decode cX2_count 65 = .ok (.istore 4, 2) := by decide +kernel
theorem dX2_count_67 : decode cX2_count 67 = .ok (.iload 4, 2) := by decide +kernel
theorem dX2_count_69 : decode cX2_count 69 = .ok (.bipush 8, 2) := by decide +kernel
theorem dX2_count_71 : decode cX2_count 71 = .ok (.if_icmp .ge 28, 3) := by decide +kernel
theorem dX2_count_74 : decode cX2_count 74 = .ok (.iload_n 2, 1) := by decide +kernel
theorem dX2_count_75 : decode cX2_count 75 = .ok (.iconst 3, 1) := by decide +kernel
theorem dX2_count_76 : decode cX2_count 76 = .ok (.if_icmp .ne 23, 3) := by decide +kernel
theorem dX2_count_79 : decode cX2_count 79 = .ok (.iload_n 3, 1) := by decide +kernel
theorem dX2_count_80 : decode cX2_count 80 = .ok (.aload_n 0, 1) := by decide +kernel
theorem dX2_count_81 : decode cX2_count 81 = .ok (.getfield 35, 3) := by decide +kernel
theorem dX2_count_84 : decode cX2_count 84 = .ok (.iconst 4, 1) := by decide +kernel
theorem dX2_count_85 : decode cX2_count 85 = .ok (.iload 4, 2) := by decide +kernel
theorem dX2_count_87 : decode cX2_count 87 = .ok (.imul, 1) := by decide +kernel
theorem dX2_count_88 : decode cX2_count 88 = .ok (.iload_n 1, 1) := by decide +kernel
theorem dX2_count_89 : decode cX2_count 89 = .ok (.iadd, 1) := by decide +kernel
theorem dX2_count_90 : decode cX2_count 90 = .ok (.iaload, 1) := by decide +kernel
theorem dX2_count_91 : decode cX2_count 91 = .ok (.iadd, 1) := by decide +kernel
theorem dX2_count_92 : decode cX2_count 92 = .ok (.istore_n 3, 1) := by decide +kernel
theorem dX2_count_93 : decode cX2_count 93 = .ok (.iinc 4 1, 3) := by decide +kernel
theorem dX2_count_96 : decode cX2_count 96 = .ok (.goto (-29), 3) := by decide +kernel
theorem dX2_count_99 : decode cX2_count 99 = .ok (.iconst 0, 1) := by decide +kernel
theorem dX2_count_100 : decode cX2_count 100 = .ok (.istore 4, 2) := by decide +kernel
theorem dX2_count_102 : decode cX2_count 102 = .ok (.iload 4, 2) := by decide +kernel
theorem dX2_count_104 : decode cX2_count 104 = .ok (.bipush 16, 2) := by decide +kernel
theorem dX2_count_106 : decode cX2_count 106 = .ok (.if_icmp .ge 42, 3) := by decide +kernel
theorem dX2_count_109 : decode cX2_count 109 = .ok (.iload_n 2, 1) := by decide +kernel
theorem dX2_count_110 : decode cX2_count 110 = .ok (.iconst 4, 1) := by decide +kernel
theorem dX2_count_111 : decode cX2_count 111 = .ok (.if_icmp .ne 37, 3) := by decide +kernel
theorem dX2_count_114 : decode cX2_count 114 = .ok (.iload_n 3, 1) := by decide +kernel
theorem dX2_count_115 : decode cX2_count 115 = .ok (.aload_n 0, 1) := by decide +kernel
theorem dX2_count_116 : decode cX2_count 116 = .ok (.getfield 29, 3) := by decide +kernel
theorem dX2_count_119 : decode cX2_count 119 = .ok (.iload 4, 2) := by decide +kernel
theorem dX2_count_121 : decode cX2_count 121 = .ok (.iaload, 1) := by decide +kernel
theorem dX2_count_122 : decode cX2_count 122 = .ok (.iload_n 1, 1) := by decide +kernel
theorem dX2_count_123 : decode cX2_count 123 = .ok (.if_icmp .ne 16, 3) := by decide +kernel
theorem dX2_count_126 : decode cX2_count 126 = .ok (.aload_n 0, 1) := by decide +kernel
theorem dX2_count_127 : decode cX2_count 127 = .ok (.getfield 35, 3) := by decide +kernel
theorem dX2_count_130 : decode cX2_count 130 = .ok (.bipush 32, 2) := by decide +kernel
theorem dX2_count_132 : decode cX2_count 132 = .ok (.iload 4, 2) := by decide +kernel
theorem dX2_count_134 : decode cX2_count 134 = .ok (.iadd, 1) := by decide +kernel
theorem dX2_count_135 : decode cX2_count 135 = .ok (.iaload, 1) := by decide +kernel
theorem dX2_count_136 : decode cX2_count 136 = .ok (.goto 4, 3) := by decide +kernel
theorem dX2_count_139 : decode cX2_count 139 = .ok (.iconst 0, 1) := by decide +kernel
theorem dX2_count_140 : decode cX2_count 140 = .ok (.iadd, 1) := by decide +kernel
theorem dX2_count_141 : decode cX2_count 141 = .ok (.istore_n 3, 1) := by decide +kernel
theorem dX2_count_142 : decode cX2_count 142 = .ok (.iinc 4 1, 3) := by decide +kernel
theorem dX2_count_145 : decode cX2_count 145 = .ok (.goto (-43), 3) := by decide +kernel
theorem dX2_count_148 : decode cX2_count 148 = .ok (.iload_n 3, 1) := by decide +kernel
theorem dX2_count_149 : decode cX2_count 149 = .ok (.ireturn, 1) := by decide +kernel
theorem dX2_sum_0 : decode cX2_sum 0 = .ok (.aload_n 0, 1) := by decide +kernel
theorem dX2_sum_1 : decode cX2_sum 1 = .ok (.iconst 0, 1) := by decide +kernel
theorem dX2_sum_2 : decode cX2_sum 2 = .ok (.putfield 54, 3) := by decide +kernel
theorem dX2_sum_5 : decode cX2_sum 5 = .ok (.iload_n 1, 1) := by decide +kernel
theorem dX2_sum_6 : decode cX2_sum 6 = .ok (.tableswitch 50 0 3 #[30, 35, 40, 45], 30) := by decide +kernel
theorem dX2_sum_36 : decode cX2_sum 36 = .ok (.aload_n 0, 1) := by decide +kernel
theorem dX2_sum_37 : decode cX2_sum 37 = .ok (.getfield 7, 3) := by decide +kernel
theorem dX2_sum_40 : decode cX2_sum 40 = .ok (.ireturn, 1) := by decide +kernel
theorem dX2_sum_41 : decode cX2_sum 41 = .ok (.aload_n 0, 1) := by decide +kernel
theorem dX2_sum_42 : decode cX2_sum 42 = .ok (.getfield 91, 3) := by decide +kernel
theorem dX2_sum_45 : decode cX2_sum 45 = .ok (.ireturn, 1) := by decide +kernel
theorem dX2_sum_46 : decode cX2_sum 46 = .ok (.aload_n 0, 1) := by decide +kernel
theorem dX2_sum_47 : decode cX2_sum 47 = .ok (.getfield 98, 3) := by decide +kernel
theorem dX2_sum_50 : decode cX2_sum 50 = .ok (.ireturn, 1) := by decide +kernel
theorem dX2_sum_51 : decode cX2_sum 51 = .ok (.aload_n 0, 1) := by decide +kernel
theorem dX2_sum_52 : decode cX2_sum 52 = .ok (.getfield 74, 3) := by decide +kernel
theorem dX2_sum_55 : decode cX2_sum 55 = .ok (.ireturn, 1) := by decide +kernel
theorem dX2_sum_56 : decode cX2_sum 56 = .ok (.iconst (-1), 1) := by decide +kernel
theorem dX2_sum_57 : decode cX2_sum 57 = .ok (.ireturn, 1) := by decide +kernel
