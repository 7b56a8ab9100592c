theorem dX1_init_0 : decode cX1_init 0 = .ok (.aload_n 0, 1) := by decide +kernel
theorem dX1_init_1 : decode cX1_init 1 = .ok (.invokespecial 3, 3) := by decide +kernel
theorem dX1_init_4 : decode cX1_init 4 = .ok (.aload_n 0, 1) := by decide +kernel
theorem dX1_init_5 : decode cX1_init 5 = .ok (.bipush 32, 2) := by decide +kernel
theorem dX1_init_7 : decode cX1_init 7 = .ok (.anewarray 9, 3) := by decide +kernel
theorem dX1_init_10 : decode cX1_init 10 = .ok (.putfield 11, 3) := by decide +kernel
theorem dX1_init_13 : decode cX1_init 13 = .ok (.aload_n 0, 1) := by decide +kernel
theorem dX1_init_14 : decode cX1_init 14 = .ok (.bipush 32, 2) := by decide +kernel
theorem dX1_init_16 : decode cX1_init 16 = .ok (.newarray .int, 2) := by decide +kernel
theorem dX1_init_18 : decode cX1_init 18 = .ok (.putfield 15, 3) := by decide +kernel
theorem dX1_init_21 : decode cX1_init 21 = .ok (.aload_n 0, 1) := by decide +kernel
theorem dX1_init_22 : decode cX1_init 22 = .ok (.bipush 32, 2) := by decide +kernel
theorem dX1_init_24 : decode cX1_init 24 = .ok (.newarray .int, 2) := by decide +kernel
theorem dX1_init_26 : decode cX1_init 26 = .ok (.putfield 19, 3) := by decide +kernel
theorem dX1_init_29 : decode cX1_init 29 = .ok (.aload_n 0, 1) := by decide +kernel
theorem dX1_init_30 : decode cX1_init 30 = .ok (.bipush 8, 2) := by decide +kernel
theorem dX1_init_32 : decode cX1_init 32 = .ok (.newarray .int, 2) := by decide +kernel
theorem dX1_init_34 : decode cX1_init 34 = .ok (.putfield 22, 3) := by decide +kernel
theorem dX1_init_37 : decode cX1_init 37 = .ok (.aload_n 0, 1) := by decide +kernel
theorem dX1_init_38 : decode cX1_init 38 = .ok (.bipush 8, 2) := by decide +kernel
theorem dX1_init_40 : decode cX1_init 40 = .ok (.newarray .int, 2) := by decide +kernel
theorem dX1_init_42 : decode cX1_init 42 = .ok (.putfield 25, 3) := by decide +kernel
theorem dX1_init_45 : decode cX1_init 45 = .ok (.aload_n 0, 1) := by decide +kernel
theorem dX1_init_46 : decode cX1_init 46 = .ok (.bipush 8, 2) := by decide +kernel
theorem dX1_init_48 : decode cX1_init 48 = .ok (.newarray .int, 2) := by decide +kernel
theorem dX1_init_50 : decode cX1_init 50 = .ok (.putfield 28, 3) := by decide +kernel
theorem dX1_init_53 : decode cX1_init 53 = .ok (.aload_n 0, 1) := by decide +kernel
theorem dX1_init_54 : decode cX1_init 54 = .ok (.bipush 16, 2) := by decide +kernel
theorem dX1_init_56 : decode cX1_init 56 = .ok (.anewarray 9, 3) := by decide +kernel
theorem dX1_init_59 : decode cX1_init 59 = .ok (.putfield 31, 3) := by decide +kernel
theorem dX1_init_62 : decode cX1_init 62 = .ok (.aload_n 0, 1) := by decide +kernel
theorem dX1_init_63 : decode cX1_init 63 = .ok (.bipush 16, 2) := by decide +kernel
theorem dX1_init_65 : decode cX1_init 65 = .ok (.newarray .int, 2) := by decide +kernel
theorem dX1_init_67 : decode cX1_init 67 = .ok (.putfield 34, 3) := by decide +kernel
theorem dX1_init_70 : decode cX1_init 70 = .ok (.aload_n 0, 1) := by decide +kernel
theorem dX1_init_71 : decode cX1_init 71 = .ok (.bipush 16, 2) := by decide +kernel
theorem dX1_init_73 : decode cX1_init 73 = .ok (.newarray .int, 2) := by decide +kernel
theorem dX1_init_75 : decode cX1_init 75 = .ok (.putfield 37, 3) := by decide +kernel
theorem dX1_init_78 : decode cX1_init 78 = .ok (.aload_n 0, 1) := by decide +kernel
theorem dX1_init_79 : decode cX1_init 79 = .ok (.iconst 4, 1) := by decide +kernel
theorem dX1_init_80 : decode cX1_init 80 = .ok (.newarray .int, 2) := by decide +kernel
theorem dX1_init_82 : decode cX1_init 82 = .ok (.putfield 40, 3) := by decide +kernel
theorem dX1_init_85 : decode cX1_init 85 = .ok (.aload_n 0, 1) := by decide +kernel
theorem dX1_init_86 : decode cX1_init 86 = .ok (.iconst 4, 1) := by decide +kernel
theorem dX1_init_87 : decode cX1_init 87 = .ok (.newarray .int, 2) := by decide +kernel
theorem dX1_init_89 : decode cX1_init 89 = .ok (.putfield 43, 3) := by decide +kernel
theorem dX1_init_92 : decode cX1_init 92 = .ok (.aload_n 0, 1) := by decide +kernel
theorem dX1_init_93 : decode cX1_init 93 = .ok (.iconst 4, 1) := by decide +kernel
theorem dX1_init_94 : decode cX1_init 94 = .ok (.newarray .int, 2) := by decide +kernel
theorem dX1_init_96 : decode cX1_init 96 = .ok (.putfield 46, 3) := by decide +kernel
theorem dX1_init_99 : decode cX1_init 99 = .ok (.aload_n 0, 1) := by decide +kernel
theorem dX1_init_100 : decode cX1_init 100 = .ok (.iconst 0, 1) := by decide +kernel
theorem dX1_init_101 : decode cX1_init 101 = .ok (.putfield 49, 3) := by decide +kernel
theorem dX1_init_104 : decode cX1_init 104 = .ok (.aload_n 0, 1) := by decide +kernel
theorem dX1_init_105 : decode cX1_init 105 = .ok (.sipush 10000, 3) := by decide +kernel
theorem dX1_init_108 : decode cX1_init 108 = .ok (.putfield 53, 3) := by decide +kernel
theorem dX1_init_111 : decode cX1_init 111 = .ok (.aload_n 0, 1) := by decide +kernel
theorem dX1_init_112 : decode cX1_init 112 = .ok (.iconst 0, 1) := by decide +kernel
theorem dX1_init_113 : decode cX1_init 113 = .ok (.putfield 56, 3) := by decide +kernel
theorem dX1_init_116 : decode cX1_init 116 = .ok (.aload_n 0, 1) := by decide +kernel
theorem dX1_init_117 : decode cX1_init 117 = .ok (.iconst 0, 1) := by decide +kernel
theorem dX1_init_118 : decode cX1_init 118 = .ok (.putfield 59, 3) := by decide +kernel
theorem dX1_init_121 : decode cX1_init 121 = .ok (.iconst 0, 1) := by decide +kernel
theorem dX1_init_122 : decode cX1_init 122 = .ok (.istore_n 1, 1) := by decide +kernel
theorem dX1_init_123 : decode cX1_init 123 = .ok (.iload_n 1, 1) := by decide +kernel
theorem dX1_init_124 : decode cX1_init 124 = .ok (.bipush 32, 2) := by decide +kernel
theorem dX1_init_126 : decode cX1_init 126 = .ok (.if_icmp .ge 29, 3) := by decide +kernel
theorem dX1_init_129 : decode cX1_init 129 = .ok (.aload_n 0, 1) := by decide +kernel
theorem dX1_init_130 : decode cX1_init 130 = .ok (.getfield 11, 3) := by decide +kernel
theorem dX1_init_133 : decode cX1_init 133 = .ok (.iload_n 1, 1) := by decide +kernel
theorem dX1_init_134 : decode cX1_init 134 = .ok (.new 9, 3) := by decide +kernel
theorem dX1_init_137 : decode cX1_init 137 = .ok (.dup, 1) := by decide +kernel
theorem dX1_init_138 : decode cX1_init 138 = .ok (.invokespecial 62, 3) := by decide +kernel
theorem dX1_init_141 : decode cX1_init 141 = .ok (.aastore, 1) := by decide +kernel
theorem dX1_init_142 : decode cX1_init 142 = .ok (.aload_n 0, 1) := by decide +kernel
theorem dX1_init_143 : decode cX1_init 143 = .ok (.getfield 19, 3) := by decide +kernel
theorem dX1_init_146 : decode cX1_init 146 = .ok (.iload_n 1, 1) := by decide +kernel
theorem dX1_init_147 : decode cX1_init 147 = .ok (.iconst (-1), 1) := by decide +kernel
theorem dX1_init_148 : decode cX1_init 148 = .ok (.iastore, 1) := by decide +kernel
theorem dX1_init_149 : decode cX1_init 149 = .ok (.iinc 1 1, 3) := by decide +kernel
theorem dX1_init_152 : decode cX1_init 152 = .ok (.goto (-29), 3) := by decide +kernel
theorem dX1_init_155 : decode cX1_init 155 = .ok (.iconst 0, 1) := by decide +kernel
theorem dX1_init_156 : decode cX1_init 156 = .ok (.istore_n 1, 1) := by decide +kernel
theorem dX1_init_157 : decode cX1_init 157 = .ok (.iload_n 1, 1) := by decide +kernel
theorem dX1_init_158 : decode cX1_init 158 = .ok (.bipush 16, 2) := by decide +kernel
theorem dX1_init_160 : decode cX1_init 160 = .ok (.if_icmp .ge 22, 3) := by decide +kernel
theorem dX1_init_163 : decode cX1_init 163 = .ok (.aload_n 0, 1) := by decide +kernel
theorem dX1_init_164 : decode cX1_init 164 = .ok (.getfield 31, 3) := by decide +kernel
theorem dX1_init_167 : decode cX1_init 167 = .ok (.iload_n 1, 1) := by decide +kernel
theorem dX1_init_168 : decode cX1_init 168 = .ok (.new 9, 3) := by decide +kernel
theorem dX1_init_171 : decode cX1_init 171 = .ok (.dup, 1) := by decide +kernel
theorem dX1_init_172 : decode cX1_init 172 = .ok (.invokespecial 62, 3) := by decide +kernel
theorem dX1_init_175 : decode cX1_init 175 = .ok (.aastore, 1) := by decide +kernel
theorem dX1_init_176 : decode cX1_init 176 = .ok (.iinc 1 1, 3) := by decide +kernel
theorem dX1_init_179 : decode cX1_init 179 = .ok (.goto (-22), 3) := by decide +kernel
theorem dX1_init_182 : decode cX1_init 182 = .ok (.return_, 1) := by decide +kernel
theorem dX1_place_0 : decode cX1_place 0 = .ok (.iload_n 1, 1) := by decide +kernel
theorem dX1_place_1 : decode cX1_place 1 = .ok (.invokestatic 63, 3) := by decide +kernel
theorem dX1_place_4 : decode cX1_place 4 = .ok (.iload_n 2, 1) := by decide +kernel
theorem dX1_place_5 : decode cX1_place 5 = .ok (.bipush 99, 2) := by decide +kernel
theorem dX1_place_7 : decode cX1_place 7 = .ok (.invokestatic 67, 3) := by decide +kernel
theorem dX1_place_10 : decode cX1_place 10 = .ok (.iload_n 3, 1) := by decide +kernel
theorem dX1_place_11 : decode cX1_place 11 = .ok (.bipush 99, 2) := by decide +kernel
theorem dX1_place_13 : decode cX1_place 13 = .ok (.invokestatic 67, 3) := by decide +kernel
theorem dX1_place_16 : decode cX1_place 16 = .ok (.aload_n 0, 1) := by decide +kernel
theorem dX1_place_17 : decode cX1_place 17 = .ok (.getfield 22, 3) := by decide +kernel
theorem dX1_place_20 : decode cX1_place 20 = .ok (.iload_n 1, 1) := by decide +kernel
theorem dX1_place_21 : decode cX1_place 21 = .ok (.iload_n 2, 1) := by decide +kernel
theorem dX1_place_22 : decode cX1_place 22 = .ok (.iastore, 1) := by decide +kernel
theorem dX1_place_23 : decode cX1_place 23 = .ok (.aload_n 0, 1) := by decide +kernel
theorem dX1_place_24 : decode cX1_place 24 = .ok (.getfield 25, 3) := by decide +kernel
theorem dX1_place_27 : decode cX1_place 27 = .ok (.iload_n 1, 1) := by decide +kernel
theorem dX1_place_28 : decode cX1_place 28 = .ok (.iload_n 3, 1) := by decide +kernel
theorem dX1_place_29 : decode cX1_place 29 = .ok (.iastore, 1) := by decide +kernel
theorem dX1_place_30 : decode cX1_place 30 = .ok (.return_, 1) := by decide +kernel
theorem dX1_rate_0 : decode cX1_rate 0 = .ok (.iload_n 1, 1) := by decide +kernel
theorem dX1_rate_1 : decode cX1_rate 1 = .ok (.invokestatic 63, 3) := by decide +kernel
theorem dX1_rate_4 : decode cX1_rate 4 = .ok (.iload_n 2, 1) := by decide +kernel
theorem dX1_rate_5 : decode cX1_rate 5 = .ok (.invokestatic 71, 3) := by decide +kernel
theorem dX1_rate_8 : decode cX1_rate 8 = .ok (.iload_n 3, 1) := by decide +kernel
theorem dX1_rate_9 : decode cX1_rate 9 = .ok (.bipush 31, 2) := by decide +kernel
theorem dX1_rate_11 : decode cX1_rate 11 = .ok (.invokestatic 67, 3) := by decide +kernel
theorem dX1_rate_14 : decode cX1_rate 14 = .ok (.aload_n 0, 1) := by decide +kernel
theorem dX1_rate_15 : decode cX1_rate 15 = .ok (.getfield 15, 3) := by decide +kernel
theorem dX1_rate_18 : decode cX1_rate 18 = .ok (.iload_n 1, 1) := by decide +kernel
theorem dX1_rate_19 : decode cX1_rate 19 = .ok (.iload_n 2, 1) := by decide +kernel
theorem dX1_rate_20 : decode cX1_rate 20 = .ok (.invokestatic 74, 3) := by decide +kernel
theorem dX1_rate_23 : decode cX1_rate 23 = .ok (.iload_n 3, 1) := by decide +kernel
theorem dX1_rate_24 : decode cX1_rate 24 = .ok (.iastore, 1) := by decide +kernel
theorem dX1_rate_25 : decode cX1_rate 25 = .ok (.return_, 1) := by decide +kernel
theorem dX1_accept_0 : decode cX1_accept 0 = .ok (.iload_n 1, 1) := by decide +kernel
theorem dX1_accept_1 : decode cX1_accept 1 = .ok (.invokestatic 63, 3) := by decide +kernel
theorem dX1_accept_4 : decode cX1_accept 4 = .ok (.iload_n 2, 1) := by decide +kernel
theorem dX1_accept_5 : decode cX1_accept 5 = .ok (.bipush 15, 2) := by decide +kernel
theorem dX1_accept_7 : decode cX1_accept 7 = .ok (.invokestatic 67, 3) := by decide +kernel
theorem dX1_accept_10 : decode cX1_accept 10 = .ok (.aload_n 0, 1) := by decide +kernel
theorem dX1_accept_11 : decode cX1_accept 11 = .ok (.getfield 28, 3) := by decide +kernel
theorem dX1_accept_14 : decode cX1_accept 14 = .ok (.iload_n 1, 1) := by decide +kernel
theorem dX1_accept_15 : decode cX1_accept 15 = .ok (.iload_n 2, 1) := by decide +kernel
theorem dX1_accept_16 : decode cX1_accept 16 = .ok (.iastore, 1) := by decide +kernel
theorem dX1_accept_17 : decode cX1_accept 17 = .ok (.return_, 1) := by decide +kernel
theorem dX1_make_0 : decode cX1_make 0 = .ok (.iload_n 1, 1) := by decide +kernel
theorem dX1_make_1 : decode cX1_make 1 = .ok (.invokestatic 63, 3) := by decide +kernel
theorem dX1_make_4 : decode cX1_make 4 = .ok (.iload_n 2, 1) := by decide +kernel
theorem dX1_make_5 : decode cX1_make 5 = .ok (.invokestatic 71, 3) := by decide +kernel
theorem dX1_make_8 : decode cX1_make 8 = .ok (.iload_n 3, 1) := by decide +kernel
theorem dX1_make_9 : decode cX1_make 9 = .ok (.iconst (-1), 1) := by decide +kernel
theorem dX1_make_10 : decode cX1_make 10 = .ok (.if_icmp .eq 20, 3) := by decide +kernel
theorem dX1_make_13 : decode cX1_make 13 = .ok (.iload_n 3, 1) := by decide +kernel
theorem dX1_make_14 : decode cX1_make 14 = .ok (.invokestatic 78, 3) := by decide +kernel
theorem dX1_make_17 : decode cX1_make 17 = .ok (.ifCond .ne 13, 3) := by decide +kernel
theorem dX1_make_20 : decode cX1_make 20 = .ok (.new 82, 3) := by decide +kernel
theorem dX1_make_23 : decode cX1_make 23 = .ok (.dup, 1) := by decide +kernel
theorem dX1_make_24 : decode cX1_make 24 = .ok (.ldc 84, 2) := by decide +kernel
theorem dX1_make_26 : decode cX1_make 26 = .ok (.invokespecial 86, 3) := by decide +kernel
theorem dX1_make_29 : decode cX1_make 29 = .ok (.athrow, 1) := by decide +kernel
theorem dX1_make_30 : decode cX1_make 30 = .ok (.aload_n 0, 1) := by decide +kernel
theorem dX1_make_31 : decode cX1_make 31 = .ok (.getfield 19, 3) := by decide +kernel
theorem dX1_make_34 : decode cX1_make 34 = .ok (.iload_n 1, 1) := by decide +kernel
theorem dX1_make_35 : decode cX1_make 35 = .ok (.iload_n 2, 1) := by decide +kernel
theorem dX1_make_36 : decode cX1_make 36 = .ok (.invokestatic 74, 3) := by decide +kernel
theorem dX1_make_39 : decode cX1_make 39 = .ok (.iload_n 3, 1) := by decide +kernel
theorem dX1_make_40 : decode cX1_make 40 = .ok (.iastore, 1) := by decide +kernel
theorem dX1_make_41 : decode cX1_make 41 = .ok (.return_, 1) := by decide +kernel
theorem dX1_wagon_0 : decode cX1_wagon 0 = .ok (.iload_n 1, 1) := by decide +kernel
theorem dX1_wagon_1 : decode cX1_wagon 1 = .ok (.invokestatic 89, 3) := by decide +kernel
theorem dX1_wagon_4 : decode cX1_wagon 4 = .ok (.iload_n 2, 1) := by decide +kernel
theorem dX1_wagon_5 : decode cX1_wagon 5 = .ok (.invokestatic 71, 3) := by decide +kernel
theorem dX1_wagon_8 : decode cX1_wagon 8 = .ok (.iload_n 3, 1) := by decide +kernel
theorem dX1_wagon_9 : decode cX1_wagon 9 = .ok (.bipush 80, 2) := by decide +kernel
theorem dX1_wagon_11 : decode cX1_wagon 11 = .ok (.invokestatic 67, 3) := by decide +kernel
theorem dX1_wagon_14 : decode cX1_wagon 14 = .ok (.aload_n 0, 1) := by decide +kernel
theorem dX1_wagon_15 : decode cX1_wagon 15 = .ok (.getfield 31, 3) := by decide +kernel
theorem dX1_wagon_18 : decode cX1_wagon 18 = .ok (.iload_n 1, 1) := by decide +kernel
theorem dX1_wagon_19 : decode cX1_wagon 19 = .ok (.aaload, 1) := by decide +kernel
theorem dX1_wagon_20 : decode cX1_wagon 20 = .ok (.invokevirtual 92, 3) := by decide +kernel
theorem dX1_wagon_23 : decode cX1_wagon 23 = .ok (.istore 4, 2) := by decide +kernel
theorem dX1_wagon_25 : decode cX1_wagon 25 = .ok (.iload 4, 2) := by decide +kernel
theorem dX1_wagon_27 : decode cX1_wagon 27 = .ok (.iload_n 3, 1) := by decide +kernel
theorem dX1_wagon_28 : decode cX1_wagon 28 = .ok (.if_icmp .le 13, 3) := by decide +kernel
theorem dX1_wagon_31 : decode cX1_wagon 31 = .ok (.new 82, 3) := by decide +kernel
theorem dX1_wagon_34 : decode cX1_wagon 34 = .ok (.dup, 1) := by decide +kernel
theorem dX1_wagon_35 : decode cX1_wagon 35 = .ok (.ldc 96, 2) := by decide +kernel
theorem dX1_wagon_37 : decode cX1_wagon 37 = .ok (.invokespecial 86, 3) := by decide +kernel
theorem dX1_wagon_40 : decode cX1_wagon 40 = .ok (.athrow, 1) := by decide +kernel
theorem dX1_wagon_41 : decode cX1_wagon 41 = .ok (.iload 4, 2) := by decide +kernel
theorem dX1_wagon_43 : decode cX1_wagon 43 = .ok (.ifCond .le 23, 3) := by decide +kernel
theorem dX1_wagon_46 : decode cX1_wagon 46 = .ok (.aload_n 0, 1) := by decide +kernel
theorem dX1_wagon_47 : decode cX1_wagon 47 = .ok (.getfield 34, 3) := by decide +kernel
theorem dX1_wagon_50 : decode cX1_wagon 50 = .ok (.iload_n 1, 1) := by decide +kernel
theorem dX1_wagon_51 : decode cX1_wagon 51 = .ok (.iaload, 1) := by decide +kernel
theorem dX1_wagon_52 : decode cX1_wagon 52 = .ok (.iload_n 2, 1) := by decide +kernel
theorem dX1_wagon_53 : decode cX1_wagon 53 = .ok (.if_icmp .eq 13, 3) := by decide +kernel
theorem dX1_wagon_56 : decode cX1_wagon 56 = .ok (.new 82, 3) := by decide +kernel
theorem dX1_wagon_59 : decode cX1_wagon 59 = .ok (.dup, 1) := by decide +kernel
theorem dX1_wagon_60 : decode cX1_wagon 60 = .ok (.ldc 98, 2) := by decide +kernel
theorem dX1_wagon_62 : decode cX1_wagon 62 = .ok (.invokespecial 86, 3) := by decide +kernel
theorem dX1_wagon_65 : decode cX1_wagon 65 = .ok (.athrow, 1) := by decide +kernel
theorem dX1_wagon_66 : decode cX1_wagon 66 = .ok (.aload_n 0, 1) := by decide +kernel
theorem dX1_wagon_67 : decode cX1_wagon 67 = .ok (.getfield 34, 3) := by decide +kernel
theorem dX1_wagon_70 : decode cX1_wagon 70 = .ok (.iload_n 1, 1) := by decide +kernel
theorem dX1_wagon_71 : decode cX1_wagon 71 = .ok (.iload_n 2, 1) := by decide +kernel
theorem dX1_wagon_72 : decode cX1_wagon 72 = .ok (.iastore, 1) := by decide +kernel
theorem dX1_wagon_73 : decode cX1_wagon 73 = .ok (.aload_n 0, 1) := by decide +kernel
theorem dX1_wagon_74 : decode cX1_wagon 74 = .ok (.getfield 37, 3) := by decide +kernel
theorem dX1_wagon_77 : decode cX1_wagon 77 = .ok (.iload_n 1, 1) := by decide +kernel
theorem dX1_wagon_78 : decode cX1_wagon 78 = .ok (.iload_n 3, 1) := by decide +kernel
theorem dX1_wagon_79 : decode cX1_wagon 79 = .ok (.iastore, 1) := by decide +kernel
theorem dX1_wagon_80 : decode cX1_wagon 80 = .ok (.return_, 1) := by decide +kernel
theorem dX1_pass_0 : decode cX1_pass 0 = .ok (.iload_n 1, 1) := by decide +kernel
theorem dX1_pass_1 : decode cX1_pass 1 = .ok (.sipush 2000, 3) := by decide +kernel
theorem dX1_pass_4 : decode cX1_pass 4 = .ok (.invokestatic 67, 3) := by decide +kernel
theorem dX1_pass_7 : decode cX1_pass 7 = .ok (.iload_n 1, 1) := by decide +kernel
theorem dX1_pass_8 : decode cX1_pass 8 = .ok (.ldc 100, 2) := by decide +kernel
theorem dX1_pass_10 : decode cX1_pass 10 = .ok (.aload_n 0, 1) := by decide +kernel
theorem dX1_pass_11 : decode cX1_pass 11 = .ok (.getfield 49, 3) := by decide +kernel
theorem dX1_pass_14 : decode cX1_pass 14 = .ok (.isub, 1) := by decide +kernel
theorem dX1_pass_15 : decode cX1_pass 15 = .ok (.if_icmp .le 13, 3) := by decide +kernel
theorem dX1_pass_18 : decode cX1_pass 18 = .ok (.new 82, 3) := by decide +kernel
theorem dX1_pass_21 : decode cX1_pass 21 = .ok (.dup, 1) := by decide +kernel
theorem dX1_pass_22 : decode cX1_pass 22 = .ok (.ldc 101, 2) := by decide +kernel
theorem dX1_pass_24 : decode cX1_pass 24 = .ok (.invokespecial 86, 3) := by decide +kernel
theorem dX1_pass_27 : decode cX1_pass 27 = .ok (.athrow, 1) := by decide +kernel
theorem dX1_pass_28 : decode cX1_pass 28 = .ok (.aload_n 0, 1) := by decide +kernel
theorem dX1_pass_29 : decode cX1_pass 29 = .ok (.getfield 49, 3) := by decide +kernel
theorem dX1_pass_32 : decode cX1_pass 32 = .ok (.iload_n 1, 1) := by decide +kernel
theorem dX1_pass_33 : decode cX1_pass 33 = .ok (.iadd, 1) := by decide +kernel
theorem dX1_pass_34 : decode cX1_pass 34 = .ok (.istore_n 2, 1) := by decide +kernel
theorem dX1_pass_35 : decode cX1_pass 35 = .ok (.aload_n 0, 1) := by decide +kernel
theorem dX1_pass_36 : decode cX1_pass 36 = .ok (.getfield 49, 3) := by decide +kernel
theorem dX1_pass_39 : decode cX1_pass 39 = .ok (.aload_n 0, 1) := by decide +kernel
theorem dX1_pass_40 : decode cX1_pass 40 = .ok (.getfield 49, 3) := by decide +kernel
theorem dX1_pass_43 : decode cX1_pass 43 = .ok (.bipush 16, 2) := by decide +kernel
theorem dX1_pass_45 : decode cX1_pass 45 = .ok (.irem, 1) := by decide +kernel
theorem dX1_pass_46 : decode cX1_pass 46 = .ok (.isub, 1) := by decide +kernel
theorem dX1_pass_47 : decode cX1_pass 47 = .ok (.bipush 16, 2) := by decide +kernel
theorem dX1_pass_49 : decode cX1_pass 49 = .ok (.iadd, 1) := by decide +kernel
theorem dX1_pass_50 : decode cX1_pass 50 = .ok (.istore_n 3, 1) := by decide +kernel
theorem dX1_pass_51 : decode cX1_pass 51 = .ok (.iload_n 3, 1) := by decide +kernel
theorem dX1_pass_52 : decode cX1_pass 52 = .ok (.istore 4, 2) := by decide +kernel
theorem dX1_pass_54 : decode cX1_pass 54 = .ok (.iload 4, 2) := by decide +kernel
theorem dX1_pass_56 : decode cX1_pass 56 = .ok (.iload_n 2, 1) := by decide +kernel
theorem dX1_pass_57 : decode cX1_pass 57 = .ok (.if_icmp .gt 19, 3) := by decide +kernel
theorem dX1_pass_60 : decode cX1_pass 60 = .ok (.aload_n 0, 1) := by decide +kernel
theorem dX1_pass_61 : decode cX1_pass 61 = .ok (.iload 4, 2) := by decide +kernel
theorem dX1_pass_63 : decode cX1_pass 63 = .ok (.putfield 49, 3) := by decide +kernel
theorem dX1_pass_66 : decode cX1_pass 66 = .ok (.aload_n 0, 1) := by decide +kernel
theorem dX1_pass_67 : decode cX1_pass 67 = .ok (.invokevirtual 103, 3) := by decide +kernel
theorem dX1_pass_70 : decode cX1_pass 70 = .ok (.iinc 4 16, 3) := by decide +kernel
theorem dX1_pass_73 : decode cX1_pass 73 = .ok (.goto (-19), 3) := by decide +kernel
theorem dX1_pass_76 : decode cX1_pass 76 = .ok (.aload_n 0, 1) := by decide +kernel
theorem dX1_pass_77 : decode cX1_pass 77 = .ok (.iload_n 2, 1) := by decide +kernel
theorem dX1_pass_78 : decode cX1_pass 78 = .ok (.putfield 49, 3) := by decide +kernel
theorem dX1_pass_81 : decode cX1_pass 81 = .ok (.aload_n 0, 1) := by decide +kernel
theorem dX1_pass_82 : decode cX1_pass 82 = .ok (.getfield 49, 3) := by decide +kernel
theorem dX1_pass_85 : decode cX1_pass 85 = .ok (.ireturn, 1) := by decide +kernel
theorem dX1_load_0 : decode cX1_load 0 = .ok (.iload_n 1, 1) := by decide +kernel
theorem dX1_load_1 : decode cX1_load 1 = .ok (.invokestatic 89, 3) := by decide +kernel
theorem dX1_load_4 : decode cX1_load 4 = .ok (.iload_n 2, 1) := by decide +kernel
theorem dX1_load_5 : decode cX1_load 5 = .ok (.invokestatic 63, 3) := by decide +kernel
theorem dX1_load_8 : decode cX1_load 8 = .ok (.iload_n 3, 1) := by decide +kernel
theorem dX1_load_9 : decode cX1_load 9 = .ok (.invokestatic 106, 3) := by decide +kernel
theorem dX1_load_12 : decode cX1_load 12 = .ok (.aload_n 0, 1) := by decide +kernel
theorem dX1_load_13 : decode cX1_load 13 = .ok (.getfield 11, 3) := by decide +kernel
theorem dX1_load_16 : decode cX1_load 16 = .ok (.iload_n 2, 1) := by decide +kernel
theorem dX1_load_17 : decode cX1_load 17 = .ok (.aload_n 0, 1) := by decide +kernel
theorem dX1_load_18 : decode cX1_load 18 = .ok (.getfield 34, 3) := by decide +kernel
theorem dX1_load_21 : decode cX1_load 21 = .ok (.iload_n 1, 1) := by decide +kernel
theorem dX1_load_22 : decode cX1_load 22 = .ok (.iaload, 1) := by decide +kernel
theorem dX1_load_23 : decode cX1_load 23 = .ok (.invokestatic 74, 3) := by decide +kernel
theorem dX1_load_26 : decode cX1_load 26 = .ok (.aaload, 1) := by decide +kernel
theorem dX1_load_27 : decode cX1_load 27 = .ok (.astore 4, 2) := by decide +kernel
theorem dX1_load_29 : decode cX1_load 29 = .ok (.aload 4, 2) := by decide +kernel
theorem dX1_load_31 : decode cX1_load 31 = .ok (.aload_n 0, 1) := by decide +kernel
theorem dX1_load_32 : decode cX1_load 32 = .ok (.getfield 31, 3) := by decide +kernel
theorem dX1_load_35 : decode cX1_load 35 = .ok (.iload_n 1, 1) := by decide +kernel
theorem dX1_load_36 : decode cX1_load 36 = .ok (.aaload, 1) := by decide +kernel
theorem dX1_load_37 : decode cX1_load 37 = .ok (.iload_n 3, 1) := by decide +kernel
theorem dX1_load_38 : decode cX1_load 38 = .ok (.aload_n 0, 1) := by decide +kernel
theorem dX1_load_39 : decode cX1_load 39 = .ok (.getfield 37, 3) := by decide +kernel
theorem dX1_load_42 : decode cX1_load 42 = .ok (.iload_n 1, 1) := by decide +kernel
theorem dX1_load_43 : decode cX1_load 43 = .ok (.iaload, 1) := by decide +kernel
theorem dX1_load_44 : decode cX1_load 44 = .ok (.invokevirtual 109, 3) := by decide +kernel
theorem dX1_load_47 : decode cX1_load 47 = .ok (.ireturn, 1) := by decide +kernel
theorem dX1_unload_0 : decode cX1_unload 0 = .ok (.iload_n 1, 1) := by decide +kernel
theorem dX1_unload_1 : decode cX1_unload 1 = .ok (.invokestatic 89, 3) := by decide +kernel
theorem dX1_unload_4 : decode cX1_unload 4 = .ok (.iload_n 2, 1) := by decide +kernel
theorem dX1_unload_5 : decode cX1_unload 5 = .ok (.invokestatic 63, 3) := by decide +kernel
theorem dX1_unload_8 : decode cX1_unload 8 = .ok (.iload_n 3, 1) := by decide +kernel
theorem dX1_unload_9 : decode cX1_unload 9 = .ok (.invokestatic 106, 3) := by decide +kernel
theorem dX1_unload_12 : decode cX1_unload 12 = .ok (.aload_n 0, 1) := by decide +kernel
theorem dX1_unload_13 : decode cX1_unload 13 = .ok (.getfield 34, 3) := by decide +kernel
theorem dX1_unload_16 : decode cX1_unload 16 = .ok (.iload_n 1, 1) := by decide +kernel
theorem dX1_unload_17 : decode cX1_unload 17 = .ok (.iaload, 1) := by decide +kernel
theorem dX1_unload_18 : decode cX1_unload 18 = .ok (.istore 4, 2) := by decide +kernel
theorem dX1_unload_20 : decode cX1_unload 20 = .ok (.aload_n 0, 1) := by decide +kernel
theorem dX1_unload_21 : decode cX1_unload 21 = .ok (.getfield 28, 3) := by decide +kernel
theorem dX1_unload_24 : decode cX1_unload 24 = .ok (.iload_n 2, 1) := by decide +kernel
theorem dX1_unload_25 : decode cX1_unload 25 = .ok (.iaload, 1) := by decide +kernel
theorem dX1_unload_26 : decode cX1_unload 26 = .ok (.iload 4, 2) := by decide +kernel
theorem dX1_unload_28 : decode cX1_unload 28 = .ok (.ishr, 1) := by decide +kernel
theorem dX1_unload_29 : decode cX1_unload 29 = .ok (.iconst 1, 1) := by decide +kernel
theorem dX1_unload_30 : decode cX1_unload 30 = .ok (.iand, 1) := by decide +kernel
theorem dX1_unload_31 : decode cX1_unload 31 = .ok (.iconst 1, 1) := by decide +kernel
theorem dX1_unload_32 : decode cX1_unload 32 = .ok (.if_icmp .ne 18, 3) := by decide +kernel
theorem dX1_unload_35 : decode cX1_unload 35 = .ok (.aload_n 0, 1) := by decide +kernel
theorem dX1_unload_36 : decode cX1_unload 36 = .ok (.aload_n 0, 1) := by decide +kernel
theorem dX1_unload_37 : decode cX1_unload 37 = .ok (.getfield 31, 3) := by decide +kernel
theorem dX1_unload_40 : decode cX1_unload 40 = .ok (.iload_n 1, 1) := by decide +kernel
theorem dX1_unload_41 : decode cX1_unload 41 = .ok (.aaload, 1) := by decide +kernel
theorem dX1_unload_42 : decode cX1_unload 42 = .ok (.iload_n 2, 1) := by decide +kernel
theorem dX1_unload_43 : decode cX1_unload 43 = .ok (.iload 4, 2) := by decide +kernel
theorem dX1_unload_45 : decode cX1_unload 45 = .ok (.iload_n 3, 1) := by decide +kernel
theorem dX1_unload_46 : decode cX1_unload 46 = .ok (.invokevirtual 113, 3) := by decide +kernel
theorem dX1_unload_49 : decode cX1_unload 49 = .ok (.ireturn, 1) := by decide +kernel
theorem dX1_unload_50 : decode cX1_unload 50 = .ok (.aload_n 0, 1) := by decide +kernel
theorem dX1_unload_51 : decode cX1_unload 51 = .ok (.getfield 31, 3) := by decide +kernel
theorem dX1_unload_54 : decode cX1_unload 54 = .ok (.iload_n 1, 1) := by decide +kernel
theorem dX1_unload_55 : decode cX1_unload 55 = .ok (.aaload, 1) := by decide +kernel
theorem dX1_unload_56 : decode cX1_unload 56 = .ok (.aload_n 0, 1) := by decide +kernel
