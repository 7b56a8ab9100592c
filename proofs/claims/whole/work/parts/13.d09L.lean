theorem dL_place_0 : decode cL_place 0 = .ok (.aload_n 0, 1) := by decide +kernel
theorem dL_place_1 : decode cL_place 1 = .ok (.iload_n 1, 1) := by decide +kernel
theorem dL_place_2 : decode cL_place 2 = .ok (.iload_n 2, 1) := by decide +kernel
theorem dL_place_3 : decode cL_place 3 = .ok (.iload_n 3, 1) := by decide +kernel
theorem dL_place_4 : decode cL_place 4 = .ok (.invokevirtual 7, 3) := by decide +kernel
theorem dL_place_7 : decode cL_place 7 = .ok (.goto 11, 3) := by decide +kernel
theorem dL_place_10 : decode cL_place 10 = .ok (.astore 4, 2) := by decide +kernel
theorem dL_place_12 : decode cL_place 12 = .ok (.iconst 1, 1) := by decide +kernel
theorem dL_place_13 : decode cL_place 13 = .ok (.ireturn, 1) := by decide +kernel
theorem dL_place_14 : decode cL_place 14 = .ok (.astore 4, 2) := by decide +kernel
theorem dL_place_16 : decode cL_place 16 = .ok (.iconst 2, 1) := by decide +kernel
theorem dL_place_17 : decode cL_place 17 = .ok (.ireturn, 1) := by decide +kernel
theorem dL_place_18 : decode cL_place 18 = .ok (.iconst 0, 1) := by decide +kernel
theorem dL_place_19 : decode cL_place 19 = .ok (.ireturn, 1) := by decide +kernel
theorem dL_rate_0 : decode cL_rate 0 = .ok (.aload_n 0, 1) := by decide +kernel
theorem dL_rate_1 : decode cL_rate 1 = .ok (.iload_n 1, 1) := by decide +kernel
theorem dL_rate_2 : decode cL_rate 2 = .ok (.iload_n 2, 1) := by decide +kernel
theorem dL_rate_3 : decode cL_rate 3 = .ok (.iload_n 3, 1) := by decide +kernel
theorem dL_rate_4 : decode cL_rate 4 = .ok (.invokevirtual 17, 3) := by decide +kernel
theorem dL_rate_7 : decode cL_rate 7 = .ok (.goto 11, 3) := by decide +kernel
theorem dL_rate_10 : decode cL_rate 10 = .ok (.astore 4, 2) := by decide +kernel
theorem dL_rate_12 : decode cL_rate 12 = .ok (.iconst 1, 1) := by decide +kernel
theorem dL_rate_13 : decode cL_rate 13 = .ok (.ireturn, 1) := by decide +kernel
theorem dL_rate_14 : decode cL_rate 14 = .ok (.astore 4, 2) := by decide +kernel
theorem dL_rate_16 : decode cL_rate 16 = .ok (.iconst 2, 1) := by decide +kernel
theorem dL_rate_17 : decode cL_rate 17 = .ok (.ireturn, 1) := by decide +kernel
theorem dL_rate_18 : decode cL_rate 18 = .ok (.iconst 0, 1) := by decide +kernel
theorem dL_rate_19 : decode cL_rate 19 = .ok (.ireturn, 1) := by decide +kernel
theorem dL_accept_0 : decode cL_accept 0 = .ok (.aload_n 0, 1) := by decide +kernel
theorem dL_accept_1 : decode cL_accept 1 = .ok (.iload_n 1, 1) := by decide +kernel
theorem dL_accept_2 : decode cL_accept 2 = .ok (.iload_n 2, 1) := by decide +kernel
theorem dL_accept_3 : decode cL_accept 3 = .ok (.invokevirtual 20, 3) := by decide +kernel
theorem dL_accept_6 : decode cL_accept 6 = .ok (.goto 9, 3) := by decide +kernel
theorem dL_accept_9 : decode cL_accept 9 = .ok (.astore_n 3, 1) := by decide +kernel
theorem dL_accept_10 : decode cL_accept 10 = .ok (.iconst 1, 1) := by decide +kernel
theorem dL_accept_11 : decode cL_accept 11 = .ok (.ireturn, 1) := by decide +kernel
theorem dL_accept_12 : decode cL_accept 12 = .ok (.astore_n 3, 1) := by decide +kernel
theorem dL_accept_13 : decode cL_accept 13 = .ok (.iconst 2, 1) := by decide +kernel
theorem dL_accept_14 : decode cL_accept 14 = .ok (.ireturn, 1) := by decide +kernel
theorem dL_accept_15 : decode cL_accept 15 = .ok (.iconst 0, 1) := by decide +kernel
theorem dL_accept_16 : decode cL_accept 16 = .ok (.ireturn, 1) := by decide +kernel
theorem dL_make_0 : decode cL_make 0 = .ok (.aload_n 0, 1) := by decide +kernel
theorem dL_make_1 : decode cL_make 1 = .ok (.iload_n 1, 1) := by decide +kernel
theorem dL_make_2 : decode cL_make 2 = .ok (.iload_n 2, 1) := by decide +kernel
theorem dL_make_3 : decode cL_make 3 = .ok (.iload_n 3, 1) := by decide +kernel
theorem dL_make_4 : decode cL_make 4 = .ok (.invokevirtual 24, 3) := by decide +kernel
theorem dL_make_7 : decode cL_make 7 = .ok (.goto 11, 3) := by decide +kernel
theorem dL_make_10 : decode cL_make 10 = .ok (.astore 4, 2) := by decide +kernel
theorem dL_make_12 : decode cL_make 12 = .ok (.iconst 1, 1) := by decide +kernel
theorem dL_make_13 : decode cL_make 13 = .ok (.ireturn, 1) := by decide +kernel
theorem dL_make_14 : decode cL_make 14 = .ok (.astore 4, 2) := by decide +kernel
theorem dL_make_16 : decode cL_make 16 = .ok (.iconst 2, 1) := by decide +kernel
theorem dL_make_17 : decode cL_make 17 = .ok (.ireturn, 1) := by decide +kernel
theorem dL_make_18 : decode cL_make 18 = .ok (.iconst 0, 1) := by decide +kernel
theorem dL_make_19 : decode cL_make 19 = .ok (.ireturn, 1) := by decide +kernel
theorem dL_wagon_0 : decode cL_wagon 0 = .ok (.aload_n 0, 1) := by decide +kernel
theorem dL_wagon_1 : decode cL_wagon 1 = .ok (.iload_n 1, 1) := by decide +kernel
theorem dL_wagon_2 : decode cL_wagon 2 = .ok (.iload_n 2, 1) := by decide +kernel
theorem dL_wagon_3 : decode cL_wagon 3 = .ok (.iload_n 3, 1) := by decide +kernel
theorem dL_wagon_4 : decode cL_wagon 4 = .ok (.invokevirtual 27, 3) := by decide +kernel
theorem dL_wagon_7 : decode cL_wagon 7 = .ok (.goto 11, 3) := by decide +kernel
theorem dL_wagon_10 : decode cL_wagon 10 = .ok (.astore 4, 2) := by decide +kernel
theorem dL_wagon_12 : decode cL_wagon 12 = .ok (.iconst 1, 1) := by decide +kernel
theorem dL_wagon_13 : decode cL_wagon 13 = .ok (.ireturn, 1) := by decide +kernel
theorem dL_wagon_14 : decode cL_wagon 14 = .ok (.astore 4, 2) := by decide +kernel
theorem dL_wagon_16 : decode cL_wagon 16 = .ok (.iconst 2, 1) := by decide +kernel
theorem dL_wagon_17 : decode cL_wagon 17 = .ok (.ireturn, 1) := by decide +kernel
theorem dL_wagon_18 : decode cL_wagon 18 = .ok (.iconst 0, 1) := by decide +kernel
theorem dL_wagon_19 : decode cL_wagon 19 = .ok (.ireturn, 1) := by decide +kernel
theorem dL_pass_0 : decode cL_pass 0 = .ok (.aload_n 2, 1) := by decide +kernel
theorem dL_pass_1 : decode cL_pass 1 = .ok (.iconst 0, 1) := by decide +kernel
theorem dL_pass_2 : decode cL_pass 2 = .ok (.aload_n 0, 1) := by decide +kernel
theorem dL_pass_3 : decode cL_pass 3 = .ok (.iload_n 1, 1) := by decide +kernel
theorem dL_pass_4 : decode cL_pass 4 = .ok (.invokevirtual 30, 3) := by decide +kernel
theorem dL_pass_7 : decode cL_pass 7 = .ok (.i2l, 1) := by decide +kernel
theorem dL_pass_8 : decode cL_pass 8 = .ok (.lastore, 1) := by decide +kernel
theorem dL_pass_9 : decode cL_pass 9 = .ok (.goto 6, 3) := by decide +kernel
theorem dL_pass_12 : decode cL_pass 12 = .ok (.astore_n 3, 1) := by decide +kernel
theorem dL_pass_13 : decode cL_pass 13 = .ok (.iconst 1, 1) := by decide +kernel
theorem dL_pass_14 : decode cL_pass 14 = .ok (.ireturn, 1) := by decide +kernel
theorem dL_pass_15 : decode cL_pass 15 = .ok (.iconst 0, 1) := by decide +kernel
theorem dL_pass_16 : decode cL_pass 16 = .ok (.ireturn, 1) := by decide +kernel
theorem dL_load_0 : decode cL_load 0 = .ok (.aload 4, 2) := by decide +kernel
theorem dL_load_2 : decode cL_load 2 = .ok (.iconst 0, 1) := by decide +kernel
theorem dL_load_3 : decode cL_load 3 = .ok (.aload_n 0, 1) := by decide +kernel
theorem dL_load_4 : decode cL_load 4 = .ok (.iload_n 1, 1) := by decide +kernel
theorem dL_load_5 : decode cL_load 5 = .ok (.iload_n 2, 1) := by decide +kernel
theorem dL_load_6 : decode cL_load 6 = .ok (.iload_n 3, 1) := by decide +kernel
theorem dL_load_7 : decode cL_load 7 = .ok (.invokevirtual 34, 3) := by decide +kernel
theorem dL_load_10 : decode cL_load 10 = .ok (.i2l, 1) := by decide +kernel
theorem dL_load_11 : decode cL_load 11 = .ok (.lastore, 1) := by decide +kernel
theorem dL_load_12 : decode cL_load 12 = .ok (.goto 11, 3) := by decide +kernel
theorem dL_load_15 : decode cL_load 15 = .ok (.astore 5, 2) := by decide +kernel
theorem dL_load_17 : decode cL_load 17 = .ok (.iconst 1, 1) := by decide +kernel
theorem dL_load_18 : decode cL_load 18 = .ok (.ireturn, 1) := by decide +kernel
theorem dL_load_19 : decode cL_load 19 = .ok (.astore 5, 2) := by decide +kernel
theorem dL_load_21 : decode cL_load 21 = .ok (.iconst 2, 1) := by decide +kernel
theorem dL_load_22 : decode cL_load 22 = .ok (.ireturn, 1) := by decide +kernel
theorem dL_load_23 : decode cL_load 23 = .ok (.iconst 0, 1) := by decide +kernel
theorem dL_load_24 : decode cL_load 24 = .ok (.ireturn, 1) := by decide +kernel
theorem dL_unload_0 : decode cL_unload 0 = .ok (.aload 4, 2) := by decide +kernel
theorem dL_unload_2 : decode cL_unload 2 = .ok (.iconst 0, 1) := by decide +kernel
theorem dL_unload_3 : decode cL_unload 3 = .ok (.aload_n 0, 1) := by decide +kernel
theorem dL_unload_4 : decode cL_unload 4 = .ok (.iload_n 1, 1) := by decide +kernel
theorem dL_unload_5 : decode cL_unload 5 = .ok (.iload_n 2, 1) := by decide +kernel
theorem dL_unload_6 : decode cL_unload 6 = .ok (.iload_n 3, 1) := by decide +kernel
theorem dL_unload_7 : decode cL_unload 7 = .ok (.invokevirtual 38, 3) := by decide +kernel
theorem dL_unload_10 : decode cL_unload 10 = .ok (.i2l, 1) := by decide +kernel
theorem dL_unload_11 : decode cL_unload 11 = .ok (.lastore, 1) := by decide +kernel
theorem dL_unload_12 : decode cL_unload 12 = .ok (.goto 11, 3) := by decide +kernel
theorem dL_unload_15 : decode cL_unload 15 = .ok (.astore 5, 2) := by decide +kernel
theorem dL_unload_17 : decode cL_unload 17 = .ok (.iconst 1, 1) := by decide +kernel
theorem dL_unload_18 : decode cL_unload 18 = .ok (.ireturn, 1) := by decide +kernel
theorem dL_unload_19 : decode cL_unload 19 = .ok (.astore 5, 2) := by decide +kernel
theorem dL_unload_21 : decode cL_unload 21 = .ok (.iconst 2, 1) := by decide +kernel
theorem dL_unload_22 : decode cL_unload 22 = .ok (.ireturn, 1) := by decide +kernel
theorem dL_unload_23 : decode cL_unload 23 = .ok (.iconst 0, 1) := by decide +kernel
theorem dL_unload_24 : decode cL_unload 24 = .ok (.ireturn, 1) := by decide +kernel
theorem dL_pour_0 : decode cL_pour 0 = .ok (.aload_n 0, 1) := by decide +kernel
theorem dL_pour_1 : decode cL_pour 1 = .ok (.iload_n 1, 1) := by decide +kernel
theorem dL_pour_2 : decode cL_pour 2 = .ok (.iload_n 2, 1) := by decide +kernel
theorem dL_pour_3 : decode cL_pour 3 = .ok (.invokevirtual 41, 3) := by decide +kernel
theorem dL_pour_6 : decode cL_pour 6 = .ok (.goto 9, 3) := by decide +kernel
theorem dL_pour_9 : decode cL_pour 9 = .ok (.astore_n 3, 1) := by decide +kernel
theorem dL_pour_10 : decode cL_pour 10 = .ok (.iconst 1, 1) := by decide +kernel
theorem dL_pour_11 : decode cL_pour 11 = .ok (.ireturn, 1) := by decide +kernel
theorem dL_pour_12 : decode cL_pour 12 = .ok (.astore_n 3, 1) := by decide +kernel
theorem dL_pour_13 : decode cL_pour 13 = .ok (.iconst 2, 1) := by decide +kernel
theorem dL_pour_14 : decode cL_pour 14 = .ok (.ireturn, 1) := by decide +kernel
theorem dL_pour_15 : decode cL_pour 15 = .ok (.iconst 0, 1) := by decide +kernel
theorem dL_pour_16 : decode cL_pour 16 = .ok (.ireturn, 1) := by decide +kernel
theorem dL_part_0 : decode cL_part 0 = .ok (.aload_n 0, 1) := by decide +kernel
theorem dL_part_1 : decode cL_part 1 = .ok (.iload_n 1, 1) := by decide +kernel
theorem dL_part_2 : decode cL_part 2 = .ok (.iload_n 2, 1) := by decide +kernel
theorem dL_part_3 : decode cL_part 3 = .ok (.iload_n 3, 1) := by decide +kernel
theorem dL_part_4 : decode cL_part 4 = .ok (.invokevirtual 44, 3) := by decide +kernel
theorem dL_part_7 : decode cL_part 7 = .ok (.goto 11, 3) := by decide +kernel
theorem dL_part_10 : decode cL_part 10 = .ok (.astore 4, 2) := by decide +kernel
theorem dL_part_12 : decode cL_part 12 = .ok (.iconst 1, 1) := by decide +kernel
theorem dL_part_13 : decode cL_part 13 = .ok (.ireturn, 1) := by decide +kernel
theorem dL_part_14 : decode cL_part 14 = .ok (.astore 4, 2) := by decide +kernel
theorem dL_part_16 : decode cL_part 16 = .ok (.iconst 2, 1) := by decide +kernel
theorem dL_part_17 : decode cL_part 17 = .ok (.ireturn, 1) := by decide +kernel
theorem dL_part_18 : decode cL_part 18 = .ok (.iconst 0, 1) := by decide +kernel
theorem dL_part_19 : decode cL_part 19 = .ok (.ireturn, 1) := by decide +kernel
theorem dL_dump_0 : decode cL_dump 0 = .ok (.aload_n 2, 1) := by decide +kernel
theorem dL_dump_1 : decode cL_dump 1 = .ok (.iconst 0, 1) := by decide +kernel
theorem dL_dump_2 : decode cL_dump 2 = .ok (.aload_n 0, 1) := by decide +kernel
theorem dL_dump_3 : decode cL_dump 3 = .ok (.iload_n 1, 1) := by decide +kernel
theorem dL_dump_4 : decode cL_dump 4 = .ok (.invokevirtual 47, 3) := by decide +kernel
theorem dL_dump_7 : decode cL_dump 7 = .ok (.i2l, 1) := by decide +kernel
theorem dL_dump_8 : decode cL_dump 8 = .ok (.lastore, 1) := by decide +kernel
theorem dL_dump_9 : decode cL_dump 9 = .ok (.goto 6, 3) := by decide +kernel
theorem dL_dump_12 : decode cL_dump 12 = .ok (.astore_n 3, 1) := by decide +kernel
theorem dL_dump_13 : decode cL_dump 13 = .ok (.iconst 1, 1) := by decide +kernel
theorem dL_dump_14 : decode cL_dump 14 = .ok (.ireturn, 1) := by decide +kernel
theorem dL_dump_15 : decode cL_dump 15 = .ok (.iconst 0, 1) := by decide +kernel
theorem dL_dump_16 : decode cL_dump 16 = .ok (.ireturn, 1) := by decide +kernel
theorem dL_law_0 : decode cL_law 0 = .ok (.new 8, 3) := by decide +kernel
theorem dL_law_3 : decode cL_law 3 = .ok (.dup, 1) := by decide +kernel
theorem dL_law_4 : decode cL_law 4 = .ok (.invokespecial 50, 3) := by decide +kernel
theorem dL_law_7 : decode cL_law 7 = .ok (.astore_n 1, 1) := by decide +kernel
theorem dL_law_8 : decode cL_law 8 = .ok (.new 51, 3) := by decide +kernel
theorem dL_law_11 : decode cL_law 11 = .ok (.dup, 1) := by decide +kernel
theorem dL_law_12 : decode cL_law 12 = .ok (.invokespecial 53, 3) := by decide +kernel
theorem dL_law_15 : decode cL_law 15 = .ok (.astore_n 2, 1) := by decide +kernel
theorem dL_law_16 : decode cL_law 16 = .ok (.iconst 1, 1) := by decide +kernel
theorem dL_law_17 : decode cL_law 17 = .ok (.newarray .long, 2) := by decide +kernel
theorem dL_law_19 : decode cL_law 19 = .ok (.astore_n 3, 1) := by decide +kernel
theorem dL_law_20 : decode cL_law 20 = .ok (.iconst 0, 1) := by decide +kernel
theorem dL_law_21 : decode cL_law 21 = .ok (.istore 4, 2) := by decide +kernel
theorem dL_law_23 : decode cL_law 23 = .ok (.iload 4, 2) := by decide +kernel
theorem dL_law_25 : decode cL_law 25 = .ok (.aload_n 0, 1) := by decide +kernel
theorem dL_law_26 : decode cL_law 26 = .ok (.arraylength, 1) := by decide +kernel
theorem dL_law_27 : decode cL_law 27 = .ok (.iconst 5, 1) := by decide +kernel
theorem dL_law_28 : decode cL_law 28 = .ok (.isub, 1) := by decide +kernel
theorem dL_law_29 : decode cL_law 29 = .ok (.if_icmp .gt 946, 3) := by decide +kernel
theorem dL_law_32 : decode cL_law 32 = .ok (.aload_n 0, 1) := by decide +kernel
theorem dL_law_33 : decode cL_law 33 = .ok (.iload 4, 2) := by decide +kernel
theorem dL_law_35 : decode cL_law 35 = .ok (.iaload, 1) := by decide +kernel
theorem dL_law_36 : decode cL_law 36 = .ok (.bipush 15, 2) := by decide +kernel
theorem dL_law_38 : decode cL_law 38 = .ok (.iand, 1) := by decide +kernel
theorem dL_law_39 : decode cL_law 39 = .ok (.tableswitch 930 0 15 #[77, 137, 197, 245, 305, 365, 421, 501, 581, 629, 689, 745, 770, 831, 868, 905], 77) := by decide +kernel
theorem dL_law_116 : decode cL_law 116 = .ok (.aload_n 1, 1) := by decide +kernel
theorem dL_law_117 : decode cL_law 117 = .ok (.aload_n 0, 1) := by decide +kernel
theorem dL_law_118 : decode cL_law 118 = .ok (.iload 4, 2) := by decide +kernel
theorem dL_law_120 : decode cL_law 120 = .ok (.iconst 1, 1) := by decide +kernel
theorem dL_law_121 : decode cL_law 121 = .ok (.iadd, 1) := by decide +kernel
theorem dL_law_122 : decode cL_law 122 = .ok (.iaload, 1) := by decide +kernel
theorem dL_law_123 : decode cL_law 123 = .ok (.aload_n 0, 1) := by decide +kernel
theorem dL_law_124 : decode cL_law 124 = .ok (.iload 4, 2) := by decide +kernel
theorem dL_law_126 : decode cL_law 126 = .ok (.iconst 2, 1) := by decide +kernel
theorem dL_law_127 : decode cL_law 127 = .ok (.iadd, 1) := by decide +kernel
theorem dL_law_128 : decode cL_law 128 = .ok (.iaload, 1) := by decide +kernel
theorem dL_law_129 : decode cL_law 129 = .ok (.aload_n 0, 1) := by decide +kernel
theorem dL_law_130 : decode cL_law 130 = .ok (.iload 4, 2) := by decide +kernel
theorem dL_law_132 : decode cL_law 132 = .ok (.iconst 3, 1) := by decide +kernel
theorem dL_law_133 : decode cL_law 133 = .ok (.iadd, 1) := by decide +kernel
theorem dL_law_134 : decode cL_law 134 = .ok (.iaload, 1) := by decide +kernel
theorem dL_law_135 : decode cL_law 135 = .ok (.invokestatic 54, 3) := by decide +kernel
theorem dL_law_138 : decode cL_law 138 = .ok (.istore 5, 2) := by decide +kernel
theorem dL_law_140 : decode cL_law 140 = .ok (.aload_n 2, 1) := by decide +kernel
theorem dL_law_141 : decode cL_law 141 = .ok (.aload_n 0, 1) := by decide +kernel
theorem dL_law_142 : decode cL_law 142 = .ok (.iload 4, 2) := by decide +kernel
theorem dL_law_144 : decode cL_law 144 = .ok (.iconst 1, 1) := by decide +kernel
theorem dL_law_145 : decode cL_law 145 = .ok (.iadd, 1) := by decide +kernel
theorem dL_law_146 : decode cL_law 146 = .ok (.iaload, 1) := by decide +kernel
theorem dL_law_147 : decode cL_law 147 = .ok (.aload_n 0, 1) := by decide +kernel
theorem dL_law_148 : decode cL_law 148 = .ok (.iload 4, 2) := by decide +kernel
theorem dL_law_150 : decode cL_law 150 = .ok (.iconst 2, 1) := by decide +kernel
theorem dL_law_151 : decode cL_law 151 = .ok (.iadd, 1) := by decide +kernel
theorem dL_law_152 : decode cL_law 152 = .ok (.iaload, 1) := by decide +kernel
theorem dL_law_153 : decode cL_law 153 = .ok (.aload_n 0, 1) := by decide +kernel
theorem dL_law_154 : decode cL_law 154 = .ok (.iload 4, 2) := by decide +kernel
theorem dL_law_156 : decode cL_law 156 = .ok (.iconst 3, 1) := by decide +kernel
theorem dL_law_157 : decode cL_law 157 = .ok (.iadd, 1) := by decide +kernel
theorem dL_law_158 : decode cL_law 158 = .ok (.iaload, 1) := by decide +kernel
theorem dL_law_159 : decode cL_law 159 = .ok (.invokevirtual 59, 3) := by decide +kernel
theorem dL_law_162 : decode cL_law 162 = .ok (.aload_n 2, 1) := by decide +kernel
theorem dL_law_163 : decode cL_law 163 = .ok (.invokevirtual 60, 3) := by decide +kernel
theorem dL_law_166 : decode cL_law 166 = .ok (.iload 5, 2) := by decide +kernel
theorem dL_law_168 : decode cL_law 168 = .ok (.if_icmp .eq 5, 3) := by decide +kernel
theorem dL_law_171 : decode cL_law 171 = .ok (.iconst 0, 1) := by decide +kernel
theorem dL_law_172 : decode cL_law 172 = .ok (.ireturn, 1) := by decide +kernel
theorem dL_law_173 : decode cL_law 173 = .ok (.goto 796, 3) := by decide +kernel
theorem dL_law_176 : decode cL_law 176 = .ok (.aload_n 1, 1) := by decide +kernel
theorem dL_law_177 : decode cL_law 177 = .ok (.aload_n 0, 1) := by decide +kernel
theorem dL_law_178 : decode cL_law 178 = .ok (.iload 4, 2) := by decide +kernel
theorem dL_law_180 : decode cL_law 180 = .ok (.iconst 1, 1) := by decide +kernel
theorem dL_law_181 : decode cL_law 181 = .ok (.iadd, 1) := by decide +kernel
theorem dL_law_182 : decode cL_law 182 = .ok (.iaload, 1) := by decide +kernel
theorem dL_law_183 : decode cL_law 183 = .ok (.aload_n 0, 1) := by decide +kernel
theorem dL_law_184 : decode cL_law 184 = .ok (.iload 4, 2) := by decide +kernel
theorem dL_law_186 : decode cL_law 186 = .ok (.iconst 2, 1) := by decide +kernel
theorem dL_law_187 : decode cL_law 187 = .ok (.iadd, 1) := by decide +kernel
theorem dL_law_188 : decode cL_law 188 = .ok (.iaload, 1) := by decide +kernel
theorem dL_law_189 : decode cL_law 189 = .ok (.aload_n 0, 1) := by decide +kernel
theorem dL_law_190 : decode cL_law 190 = .ok (.iload 4, 2) := by decide +kernel
theorem dL_law_192 : decode cL_law 192 = .ok (.iconst 3, 1) := by decide +kernel
theorem dL_law_193 : decode cL_law 193 = .ok (.iadd, 1) := by decide +kernel
theorem dL_law_194 : decode cL_law 194 = .ok (.iaload, 1) := by decide +kernel
theorem dL_law_195 : decode cL_law 195 = .ok (.invokestatic 64, 3) := by decide +kernel
theorem dL_law_198 : decode cL_law 198 = .ok (.istore 5, 2) := by decide +kernel
theorem dL_law_200 : decode cL_law 200 = .ok (.aload_n 2, 1) := by decide +kernel
theorem dL_law_201 : decode cL_law 201 = .ok (.aload_n 0, 1) := by decide +kernel
theorem dL_law_202 : decode cL_law 202 = .ok (.iload 4, 2) := by decide +kernel
theorem dL_law_204 : decode cL_law 204 = .ok (.iconst 1, 1) := by decide +kernel
theorem dL_law_205 : decode cL_law 205 = .ok (.iadd, 1) := by decide +kernel
theorem dL_law_206 : decode cL_law 206 = .ok (.iaload, 1) := by decide +kernel
theorem dL_law_207 : decode cL_law 207 = .ok (.aload_n 0, 1) := by decide +kernel
theorem dL_law_208 : decode cL_law 208 = .ok (.iload 4, 2) := by decide +kernel
theorem dL_law_210 : decode cL_law 210 = .ok (.iconst 2, 1) := by decide +kernel
theorem dL_law_211 : decode cL_law 211 = .ok (.iadd, 1) := by decide +kernel
theorem dL_law_212 : decode cL_law 212 = .ok (.iaload, 1) := by decide +kernel
theorem dL_law_213 : decode cL_law 213 = .ok (.aload_n 0, 1) := by decide +kernel
theorem dL_law_214 : decode cL_law 214 = .ok (.iload 4, 2) := by decide +kernel
theorem dL_law_216 : decode cL_law 216 = .ok (.iconst 3, 1) := by decide +kernel
theorem dL_law_217 : decode cL_law 217 = .ok (.iadd, 1) := by decide +kernel
theorem dL_law_218 : decode cL_law 218 = .ok (.iaload, 1) := by decide +kernel
theorem dL_law_219 : decode cL_law 219 = .ok (.invokevirtual 66, 3) := by decide +kernel
theorem dL_law_222 : decode cL_law 222 = .ok (.aload_n 2, 1) := by decide +kernel
theorem dL_law_223 : decode cL_law 223 = .ok (.invokevirtual 60, 3) := by decide +kernel
theorem dL_law_226 : decode cL_law 226 = .ok (.iload 5, 2) := by decide +kernel
theorem dL_law_228 : decode cL_law 228 = .ok (.if_icmp .eq 5, 3) := by decide +kernel
theorem dL_law_231 : decode cL_law 231 = .ok (.iconst 0, 1) := by decide +kernel
theorem dL_law_232 : decode cL_law 232 = .ok (.ireturn, 1) := by decide +kernel
theorem dL_law_233 : decode cL_law 233 = .ok (.goto 736, 3) := by decide +kernel
theorem dL_law_236 : decode cL_law 236 = .ok (.aload_n 1, 1) := by decide +kernel
theorem dL_law_237 : decode cL_law 237 = .ok (.aload_n 0, 1) := by decide +kernel
theorem dL_law_238 : decode cL_law 238 = .ok (.iload 4, 2) := by decide +kernel
theorem dL_law_240 : decode cL_law 240 = .ok (.iconst 1, 1) := by decide +kernel
theorem dL_law_241 : decode cL_law 241 = .ok (.iadd, 1) := by decide +kernel
theorem dL_law_242 : decode cL_law 242 = .ok (.iaload, 1) := by decide +kernel
theorem dL_law_243 : decode cL_law 243 = .ok (.aload_n 0, 1) := by decide +kernel
theorem dL_law_244 : decode cL_law 244 = .ok (.iload 4, 2) := by decide +kernel
theorem dL_law_246 : decode cL_law 246 = .ok (.iconst 2, 1) := by decide +kernel
theorem dL_law_247 : decode cL_law 247 = .ok (.iadd, 1) := by decide +kernel
theorem dL_law_248 : decode cL_law 248 = .ok (.iaload, 1) := by decide +kernel
theorem dL_law_249 : decode cL_law 249 = .ok (.invokestatic 67, 3) := by decide +kernel
theorem dL_law_252 : decode cL_law 252 = .ok (.istore 5, 2) := by decide +kernel
theorem dL_law_254 : decode cL_law 254 = .ok (.aload_n 2, 1) := by decide +kernel
theorem dL_law_255 : decode cL_law 255 = .ok (.aload_n 0, 1) := by decide +kernel
theorem dL_law_256 : decode cL_law 256 = .ok (.iload 4, 2) := by decide +kernel
theorem dL_law_258 : decode cL_law 258 = .ok (.iconst 1, 1) := by decide +kernel
theorem dL_law_259 : decode cL_law 259 = .ok (.iadd, 1) := by decide +kernel
theorem dL_law_260 : decode cL_law 260 = .ok (.iaload, 1) := by decide +kernel
theorem dL_law_261 : decode cL_law 261 = .ok (.aload_n 0, 1) := by decide +kernel
theorem dL_law_262 : decode cL_law 262 = .ok (.iload 4, 2) := by decide +kernel
theorem dL_law_264 : decode cL_law 264 = .ok (.iconst 2, 1) := by decide +kernel
theorem dL_law_265 : decode cL_law 265 = .ok (.iadd, 1) := by decide +kernel
theorem dL_law_266 : decode cL_law 266 = .ok (.iaload, 1) := by decide +kernel
theorem dL_law_267 : decode cL_law 267 = .ok (.invokevirtual 70, 3) := by decide +kernel
theorem dL_law_270 : decode cL_law 270 = .ok (.aload_n 2, 1) := by decide +kernel
theorem dL_law_271 : decode cL_law 271 = .ok (.invokevirtual 60, 3) := by decide +kernel
theorem dL_law_274 : decode cL_law 274 = .ok (.iload 5, 2) := by decide +kernel
theorem dL_law_276 : decode cL_law 276 = .ok (.if_icmp .eq 5, 3) := by decide +kernel
theorem dL_law_279 : decode cL_law 279 = .ok (.iconst 0, 1) := by decide +kernel
theorem dL_law_280 : decode cL_law 280 = .ok (.ireturn, 1) := by decide +kernel
theorem dL_law_281 : decode cL_law 281 = .ok (.goto 688, 3) := by decide +kernel
theorem dL_law_284 : decode cL_law 284 = .ok (.aload_n 1, 1) := by decide +kernel
theorem dL_law_285 : decode cL_law 285 = .ok (.aload_n 0, 1) := by decide +kernel
theorem dL_law_286 : decode cL_law 286 = .ok (.iload 4, 2) := by decide +kernel
theorem dL_law_288 : decode cL_law 288 = .ok (.iconst 1, 1) := by decide +kernel
theorem dL_law_289 : decode cL_law 289 = .ok (.iadd, 1) := by decide +kernel
theorem dL_law_290 : decode cL_law 290 = .ok (.iaload, 1) := by decide +kernel
theorem dL_law_291 : decode cL_law 291 = .ok (.aload_n 0, 1) := by decide +kernel
theorem dL_law_292 : decode cL_law 292 = .ok (.iload 4, 2) := by decide +kernel
theorem dL_law_294 : decode cL_law 294 = .ok (.iconst 2, 1) := by decide +kernel
theorem dL_law_295 : decode cL_law 295 = .ok (.iadd, 1) := by decide +kernel
theorem dL_law_296 : decode cL_law 296 = .ok (.iaload, 1) := by decide +kernel
theorem dL_law_297 : decode cL_law 297 = .ok (.aload_n 0, 1) := by decide +kernel
theorem dL_law_298 : decode cL_law 298 = .ok (.iload 4, 2) := by decide +kernel
theorem dL_law_300 : decode cL_law 300 = .ok (.iconst 3, 1) := by decide +kernel
theorem dL_law_301 : decode cL_law 301 = .ok (.iadd, 1) := by decide +kernel
theorem dL_law_302 : decode cL_law 302 = .ok (.iaload, 1) := by decide +kernel
theorem dL_law_303 : decode cL_law 303 = .ok (.invokestatic 71, 3) := by decide +kernel
theorem dL_law_306 : decode cL_law 306 = .ok (.istore 5, 2) := by decide +kernel
theorem dL_law_308 : decode cL_law 308 = .ok (.aload_n 2, 1) := by decide +kernel
theorem dL_law_309 : decode cL_law 309 = .ok (.aload_n 0, 1) := by decide +kernel
theorem dL_law_310 : decode cL_law 310 = .ok (.iload 4, 2) := by decide +kernel
