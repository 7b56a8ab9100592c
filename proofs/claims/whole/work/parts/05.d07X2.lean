theorem dX2_part_80 : decode cX2_part 80 = .ok (.iload_n 2, 1) := by decide +kernel
theorem dX2_part_81 : decode cX2_part 81 = .ok (.isub, 1) := by decide +kernel
theorem dX2_part_82 : decode cX2_part 82 = .ok (.aload_n 0, 1) := by decide +kernel
theorem dX2_part_83 : decode cX2_part 83 = .ok (.getfield 32, 3) := by decide +kernel
theorem dX2_part_86 : decode cX2_part 86 = .ok (.iload_n 3, 1) := by decide +kernel
theorem dX2_part_87 : decode cX2_part 87 = .ok (.iaload, 1) := by decide +kernel
theorem dX2_part_88 : decode cX2_part 88 = .ok (.if_icmp .le 7, 3) := by decide +kernel
theorem dX2_part_91 : decode cX2_part 91 = .ok (.iconst 2, 1) := by decide +kernel
theorem dX2_part_92 : decode cX2_part 92 = .ok (.goto 4, 3) := by decide +kernel
theorem dX2_part_95 : decode cX2_part 95 = .ok (.iconst 0, 1) := by decide +kernel
theorem dX2_part_96 : decode cX2_part 96 = .ok (.putfield 54, 3) := by decide +kernel
theorem dX2_part_99 : decode cX2_part 99 = .ok (.aload_n 0, 1) := by decide +kernel
theorem dX2_part_100 : decode cX2_part 100 = .ok (.getfield 54, 3) := by decide +kernel
theorem dX2_part_103 : decode cX2_part 103 = .ok (.ifCond .le 4, 3) := by decide +kernel
theorem dX2_part_106 : decode cX2_part 106 = .ok (.return_, 1) := by decide +kernel
theorem dX2_part_107 : decode cX2_part 107 = .ok (.iload_n 2, 1) := by decide +kernel
theorem dX2_part_108 : decode cX2_part 108 = .ok (.aload_n 0, 1) := by decide +kernel
theorem dX2_part_109 : decode cX2_part 109 = .ok (.getfield 35, 3) := by decide +kernel
theorem dX2_part_112 : decode cX2_part 112 = .ok (.bipush 32, 2) := by decide +kernel
theorem dX2_part_114 : decode cX2_part 114 = .ok (.iload_n 1, 1) := by decide +kernel
theorem dX2_part_115 : decode cX2_part 115 = .ok (.iadd, 1) := by decide +kernel
theorem dX2_part_116 : decode cX2_part 116 = .ok (.iaload, 1) := by decide +kernel
theorem dX2_part_117 : decode cX2_part 117 = .ok (.if_icmp .ge 7, 3) := by decide +kernel
theorem dX2_part_120 : decode cX2_part 120 = .ok (.iload_n 2, 1) := by decide +kernel
theorem dX2_part_121 : decode cX2_part 121 = .ok (.goto 12, 3) := by decide +kernel
theorem dX2_part_124 : decode cX2_part 124 = .ok (.aload_n 0, 1) := by decide +kernel
theorem dX2_part_125 : decode cX2_part 125 = .ok (.getfield 35, 3) := by decide +kernel
theorem dX2_part_128 : decode cX2_part 128 = .ok (.bipush 32, 2) := by decide +kernel
theorem dX2_part_130 : decode cX2_part 130 = .ok (.iload_n 1, 1) := by decide +kernel
theorem dX2_part_131 : decode cX2_part 131 = .ok (.iadd, 1) := by decide +kernel
theorem dX2_part_132 : decode cX2_part 132 = .ok (.iaload, 1) := by decide +kernel
theorem dX2_part_133 : decode cX2_part 133 = .ok (.istore 5, 2) := by decide +kernel
theorem dX2_part_135 : decode cX2_part 135 = .ok (.aload_n 0, 1) := by decide +kernel
theorem dX2_part_136 : decode cX2_part 136 = .ok (.getfield 35, 3) := by decide +kernel
theorem dX2_part_139 : decode cX2_part 139 = .ok (.bipush 48, 2) := by decide +kernel
theorem dX2_part_141 : decode cX2_part 141 = .ok (.iconst 0, 1) := by decide +kernel
theorem dX2_part_142 : decode cX2_part 142 = .ok (.iastore, 1) := by decide +kernel
theorem dX2_part_143 : decode cX2_part 143 = .ok (.iload 5, 2) := by decide +kernel
theorem dX2_part_145 : decode cX2_part 145 = .ok (.istore 6, 2) := by decide +kernel
theorem dX2_part_147 : decode cX2_part 147 = .ok (.iload 6, 2) := by decide +kernel
theorem dX2_part_149 : decode cX2_part 149 = .ok (.aload_n 0, 1) := by decide +kernel
theorem dX2_part_150 : decode cX2_part 150 = .ok (.getfield 35, 3) := by decide +kernel
theorem dX2_part_153 : decode cX2_part 153 = .ok (.bipush 32, 2) := by decide +kernel
theorem dX2_part_155 : decode cX2_part 155 = .ok (.iload_n 1, 1) := by decide +kernel
theorem dX2_part_156 : decode cX2_part 156 = .ok (.iadd, 1) := by decide +kernel
theorem dX2_part_157 : decode cX2_part 157 = .ok (.iaload, 1) := by decide +kernel
theorem dX2_part_158 : decode cX2_part 158 = .ok (.if_icmp .ge 82, 3) := by decide +kernel
theorem dX2_part_161 : decode cX2_part 161 = .ok (.aload_n 0, 1) := by decide +kernel
theorem dX2_part_162 : decode cX2_part 162 = .ok (.getfield 39, 3) := by decide +kernel
theorem dX2_part_165 : decode cX2_part 165 = .ok (.ldc 97, 2) := by decide +kernel
theorem dX2_part_167 : decode cX2_part 167 = .ok (.aload_n 0, 1) := by decide +kernel
theorem dX2_part_168 : decode cX2_part 168 = .ok (.getfield 35, 3) := by decide +kernel
theorem dX2_part_171 : decode cX2_part 171 = .ok (.bipush 48, 2) := by decide +kernel
theorem dX2_part_173 : decode cX2_part 173 = .ok (.iaload, 1) := by decide +kernel
theorem dX2_part_174 : decode cX2_part 174 = .ok (.iadd, 1) := by decide +kernel
theorem dX2_part_175 : decode cX2_part 175 = .ok (.aload_n 0, 1) := by decide +kernel
theorem dX2_part_176 : decode cX2_part 176 = .ok (.getfield 39, 3) := by decide +kernel
theorem dX2_part_179 : decode cX2_part 179 = .ok (.sipush 1000, 3) := by decide +kernel
theorem dX2_part_182 : decode cX2_part 182 = .ok (.bipush 32, 2) := by decide +kernel
theorem dX2_part_184 : decode cX2_part 184 = .ok (.iload_n 1, 1) := by decide +kernel
theorem dX2_part_185 : decode cX2_part 185 = .ok (.iadd, 1) := by decide +kernel
theorem dX2_part_186 : decode cX2_part 186 = .ok (.imul, 1) := by decide +kernel
theorem dX2_part_187 : decode cX2_part 187 = .ok (.iload 6, 2) := by decide +kernel
theorem dX2_part_189 : decode cX2_part 189 = .ok (.iadd, 1) := by decide +kernel
theorem dX2_part_190 : decode cX2_part 190 = .ok (.iaload, 1) := by decide +kernel
theorem dX2_part_191 : decode cX2_part 191 = .ok (.iastore, 1) := by decide +kernel
theorem dX2_part_192 : decode cX2_part 192 = .ok (.aload_n 0, 1) := by decide +kernel
theorem dX2_part_193 : decode cX2_part 193 = .ok (.getfield 42, 3) := by decide +kernel
theorem dX2_part_196 : decode cX2_part 196 = .ok (.ldc 97, 2) := by decide +kernel
theorem dX2_part_198 : decode cX2_part 198 = .ok (.aload_n 0, 1) := by decide +kernel
theorem dX2_part_199 : decode cX2_part 199 = .ok (.getfield 35, 3) := by decide +kernel
theorem dX2_part_202 : decode cX2_part 202 = .ok (.bipush 48, 2) := by decide +kernel
theorem dX2_part_204 : decode cX2_part 204 = .ok (.iaload, 1) := by decide +kernel
theorem dX2_part_205 : decode cX2_part 205 = .ok (.iadd, 1) := by decide +kernel
theorem dX2_part_206 : decode cX2_part 206 = .ok (.aload_n 0, 1) := by decide +kernel
theorem dX2_part_207 : decode cX2_part 207 = .ok (.getfield 42, 3) := by decide +kernel
theorem dX2_part_210 : decode cX2_part 210 = .ok (.sipush 1000, 3) := by decide +kernel
theorem dX2_part_213 : decode cX2_part 213 = .ok (.bipush 32, 2) := by decide +kernel
theorem dX2_part_215 : decode cX2_part 215 = .ok (.iload_n 1, 1) := by decide +kernel
theorem dX2_part_216 : decode cX2_part 216 = .ok (.iadd, 1) := by decide +kernel
theorem dX2_part_217 : decode cX2_part 217 = .ok (.imul, 1) := by decide +kernel
theorem dX2_part_218 : decode cX2_part 218 = .ok (.iload 6, 2) := by decide +kernel
theorem dX2_part_220 : decode cX2_part 220 = .ok (.iadd, 1) := by decide +kernel
theorem dX2_part_221 : decode cX2_part 221 = .ok (.iaload, 1) := by decide +kernel
theorem dX2_part_222 : decode cX2_part 222 = .ok (.iastore, 1) := by decide +kernel
theorem dX2_part_223 : decode cX2_part 223 = .ok (.aload_n 0, 1) := by decide +kernel
theorem dX2_part_224 : decode cX2_part 224 = .ok (.getfield 35, 3) := by decide +kernel
theorem dX2_part_227 : decode cX2_part 227 = .ok (.bipush 48, 2) := by decide +kernel
theorem dX2_part_229 : decode cX2_part 229 = .ok (.dup2, 1) := by decide +kernel
theorem dX2_part_230 : decode cX2_part 230 = .ok (.iaload, 1) := by decide +kernel
theorem dX2_part_231 : decode cX2_part 231 = .ok (.iconst 1, 1) := by decide +kernel
theorem dX2_part_232 : decode cX2_part 232 = .ok (.iadd, 1) := by decide +kernel
theorem dX2_part_233 : decode cX2_part 233 = .ok (.iastore, 1) := by decide +kernel
theorem dX2_part_234 : decode cX2_part 234 = .ok (.iinc 6 1, 3) := by decide +kernel
theorem dX2_part_237 : decode cX2_part 237 = .ok (.goto (-90), 3) := by decide +kernel
theorem dX2_part_240 : decode cX2_part 240 = .ok (.aload_n 0, 1) := by decide +kernel
theorem dX2_part_241 : decode cX2_part 241 = .ok (.getfield 35, 3) := by decide +kernel
theorem dX2_part_244 : decode cX2_part 244 = .ok (.bipush 32, 2) := by decide +kernel
theorem dX2_part_246 : decode cX2_part 246 = .ok (.iload_n 1, 1) := by decide +kernel
theorem dX2_part_247 : decode cX2_part 247 = .ok (.iadd, 1) := by decide +kernel
theorem dX2_part_248 : decode cX2_part 248 = .ok (.iload 5, 2) := by decide +kernel
theorem dX2_part_250 : decode cX2_part 250 = .ok (.iastore, 1) := by decide +kernel
theorem dX2_part_251 : decode cX2_part 251 = .ok (.aload_n 0, 1) := by decide +kernel
theorem dX2_part_252 : decode cX2_part 252 = .ok (.getfield 35, 3) := by decide +kernel
theorem dX2_part_255 : decode cX2_part 255 = .ok (.bipush 48, 2) := by decide +kernel
theorem dX2_part_257 : decode cX2_part 257 = .ok (.iaload, 1) := by decide +kernel
theorem dX2_part_258 : decode cX2_part 258 = .ok (.ifCond .le 16, 3) := by decide +kernel
theorem dX2_part_261 : decode cX2_part 261 = .ok (.aload_n 0, 1) := by decide +kernel
theorem dX2_part_262 : decode cX2_part 262 = .ok (.bipush 48, 2) := by decide +kernel
theorem dX2_part_264 : decode cX2_part 264 = .ok (.bipush 32, 2) := by decide +kernel
theorem dX2_part_266 : decode cX2_part 266 = .ok (.iload_n 3, 1) := by decide +kernel
theorem dX2_part_267 : decode cX2_part 267 = .ok (.iadd, 1) := by decide +kernel
theorem dX2_part_268 : decode cX2_part 268 = .ok (.invokevirtual 84, 3) := by decide +kernel
theorem dX2_part_271 : decode cX2_part 271 = .ok (.goto (-20), 3) := by decide +kernel
theorem dX2_part_274 : decode cX2_part 274 = .ok (.return_, 1) := by decide +kernel
theorem dX2_dump_0 : decode cX2_dump 0 = .ok (.aload_n 0, 1) := by decide +kernel
theorem dX2_dump_1 : decode cX2_dump 1 = .ok (.iload_n 1, 1) := by decide +kernel
theorem dX2_dump_2 : decode cX2_dump 2 = .ok (.bipush 16, 2) := by decide +kernel
theorem dX2_dump_4 : decode cX2_dump 4 = .ok (.invokestatic 77, 3) := by decide +kernel
theorem dX2_dump_7 : decode cX2_dump 7 = .ok (.ifCond .ne 7, 3) := by decide +kernel
theorem dX2_dump_10 : decode cX2_dump 10 = .ok (.iconst 1, 1) := by decide +kernel
theorem dX2_dump_11 : decode cX2_dump 11 = .ok (.goto 4, 3) := by decide +kernel
theorem dX2_dump_14 : decode cX2_dump 14 = .ok (.iconst 0, 1) := by decide +kernel
theorem dX2_dump_15 : decode cX2_dump 15 = .ok (.putfield 54, 3) := by decide +kernel
theorem dX2_dump_18 : decode cX2_dump 18 = .ok (.aload_n 0, 1) := by decide +kernel
theorem dX2_dump_19 : decode cX2_dump 19 = .ok (.getfield 54, 3) := by decide +kernel
theorem dX2_dump_22 : decode cX2_dump 22 = .ok (.ifCond .le 5, 3) := by decide +kernel
theorem dX2_dump_25 : decode cX2_dump 25 = .ok (.iconst 0, 1) := by decide +kernel
theorem dX2_dump_26 : decode cX2_dump 26 = .ok (.ireturn, 1) := by decide +kernel
theorem dX2_dump_27 : decode cX2_dump 27 = .ok (.aload_n 0, 1) := by decide +kernel
theorem dX2_dump_28 : decode cX2_dump 28 = .ok (.getfield 35, 3) := by decide +kernel
theorem dX2_dump_31 : decode cX2_dump 31 = .ok (.bipush 32, 2) := by decide +kernel
theorem dX2_dump_33 : decode cX2_dump 33 = .ok (.iload_n 1, 1) := by decide +kernel
theorem dX2_dump_34 : decode cX2_dump 34 = .ok (.iadd, 1) := by decide +kernel
theorem dX2_dump_35 : decode cX2_dump 35 = .ok (.iaload, 1) := by decide +kernel
theorem dX2_dump_36 : decode cX2_dump 36 = .ok (.istore_n 2, 1) := by decide +kernel
theorem dX2_dump_37 : decode cX2_dump 37 = .ok (.aload_n 0, 1) := by decide +kernel
theorem dX2_dump_38 : decode cX2_dump 38 = .ok (.getfield 51, 3) := by decide +kernel
theorem dX2_dump_41 : decode cX2_dump 41 = .ok (.aload_n 0, 1) := by decide +kernel
theorem dX2_dump_42 : decode cX2_dump 42 = .ok (.getfield 29, 3) := by decide +kernel
theorem dX2_dump_45 : decode cX2_dump 45 = .ok (.iload_n 1, 1) := by decide +kernel
theorem dX2_dump_46 : decode cX2_dump 46 = .ok (.iaload, 1) := by decide +kernel
theorem dX2_dump_47 : decode cX2_dump 47 = .ok (.dup2, 1) := by decide +kernel
theorem dX2_dump_48 : decode cX2_dump 48 = .ok (.iaload, 1) := by decide +kernel
theorem dX2_dump_49 : decode cX2_dump 49 = .ok (.iload_n 2, 1) := by decide +kernel
theorem dX2_dump_50 : decode cX2_dump 50 = .ok (.iadd, 1) := by decide +kernel
theorem dX2_dump_51 : decode cX2_dump 51 = .ok (.iastore, 1) := by decide +kernel
theorem dX2_dump_52 : decode cX2_dump 52 = .ok (.aload_n 0, 1) := by decide +kernel
theorem dX2_dump_53 : decode cX2_dump 53 = .ok (.getfield 35, 3) := by decide +kernel
theorem dX2_dump_56 : decode cX2_dump 56 = .ok (.bipush 32, 2) := by decide +kernel
theorem dX2_dump_58 : decode cX2_dump 58 = .ok (.iload_n 1, 1) := by decide +kernel
theorem dX2_dump_59 : decode cX2_dump 59 = .ok (.iadd, 1) := by decide +kernel
theorem dX2_dump_60 : decode cX2_dump 60 = .ok (.iconst 0, 1) := by decide +kernel
theorem dX2_dump_61 : decode cX2_dump 61 = .ok (.iastore, 1) := by decide +kernel
theorem dX2_dump_62 : decode cX2_dump 62 = .ok (.iload_n 2, 1) := by decide +kernel
theorem dX2_dump_63 : decode cX2_dump 63 = .ok (.ireturn, 1) := by decide +kernel
theorem dX2_spend_0 : decode cX2_spend 0 = .ok (.aload_n 0, 1) := by decide +kernel
theorem dX2_spend_1 : decode cX2_spend 1 = .ok (.iconst 0, 1) := by decide +kernel
theorem dX2_spend_2 : decode cX2_spend 2 = .ok (.putfield 54, 3) := by decide +kernel
theorem dX2_spend_5 : decode cX2_spend 5 = .ok (.iload_n 1, 1) := by decide +kernel
theorem dX2_spend_6 : decode cX2_spend 6 = .ok (.ifCond .lt 22, 3) := by decide +kernel
theorem dX2_spend_9 : decode cX2_spend 9 = .ok (.iload_n 1, 1) := by decide +kernel
theorem dX2_spend_10 : decode cX2_spend 10 = .ok (.aload_n 0, 1) := by decide +kernel
theorem dX2_spend_11 : decode cX2_spend 11 = .ok (.getfield 7, 3) := by decide +kernel
theorem dX2_spend_14 : decode cX2_spend 14 = .ok (.if_icmp .gt 14, 3) := by decide +kernel
theorem dX2_spend_17 : decode cX2_spend 17 = .ok (.iload_n 1, 1) := by decide +kernel
theorem dX2_spend_18 : decode cX2_spend 18 = .ok (.ldc 73, 2) := by decide +kernel
theorem dX2_spend_20 : decode cX2_spend 20 = .ok (.aload_n 0, 1) := by decide +kernel
theorem dX2_spend_21 : decode cX2_spend 21 = .ok (.getfield 98, 3) := by decide +kernel
theorem dX2_spend_24 : decode cX2_spend 24 = .ok (.isub, 1) := by decide +kernel
theorem dX2_spend_25 : decode cX2_spend 25 = .ok (.if_icmp .le 5, 3) := by decide +kernel
theorem dX2_spend_28 : decode cX2_spend 28 = .ok (.iconst 0, 1) := by decide +kernel
theorem dX2_spend_29 : decode cX2_spend 29 = .ok (.ireturn, 1) := by decide +kernel
theorem dX2_spend_30 : decode cX2_spend 30 = .ok (.aload_n 0, 1) := by decide +kernel
theorem dX2_spend_31 : decode cX2_spend 31 = .ok (.dup, 1) := by decide +kernel
theorem dX2_spend_32 : decode cX2_spend 32 = .ok (.getfield 7, 3) := by decide +kernel
theorem dX2_spend_35 : decode cX2_spend 35 = .ok (.iload_n 1, 1) := by decide +kernel
theorem dX2_spend_36 : decode cX2_spend 36 = .ok (.isub, 1) := by decide +kernel
theorem dX2_spend_37 : decode cX2_spend 37 = .ok (.putfield 7, 3) := by decide +kernel
theorem dX2_spend_40 : decode cX2_spend 40 = .ok (.aload_n 0, 1) := by decide +kernel
theorem dX2_spend_41 : decode cX2_spend 41 = .ok (.dup, 1) := by decide +kernel
theorem dX2_spend_42 : decode cX2_spend 42 = .ok (.getfield 98, 3) := by decide +kernel
theorem dX2_spend_45 : decode cX2_spend 45 = .ok (.iload_n 1, 1) := by decide +kernel
theorem dX2_spend_46 : decode cX2_spend 46 = .ok (.iadd, 1) := by decide +kernel
theorem dX2_spend_47 : decode cX2_spend 47 = .ok (.putfield 98, 3) := by decide +kernel
theorem dX2_spend_50 : decode cX2_spend 50 = .ok (.iconst 1, 1) := by decide +kernel
theorem dX2_spend_51 : decode cX2_spend 51 = .ok (.ireturn, 1) := by decide +kernel
theorem dX2_rowOf_0 : decode cX2_rowOf 0 = .ok (.iload_n 1, 1) := by decide +kernel
theorem dX2_rowOf_1 : decode cX2_rowOf 1 = .ok (.bipush 8, 2) := by decide +kernel
theorem dX2_rowOf_3 : decode cX2_rowOf 3 = .ok (.if_icmp .lt 14, 3) := by decide +kernel
theorem dX2_rowOf_6 : decode cX2_rowOf 6 = .ok (.iload_n 1, 1) := by decide +kernel
theorem dX2_rowOf_7 : decode cX2_rowOf 7 = .ok (.bipush 24, 2) := by decide +kernel
theorem dX2_rowOf_9 : decode cX2_rowOf 9 = .ok (.if_icmp .ge 8, 3) := by decide +kernel
theorem dX2_rowOf_12 : decode cX2_rowOf 12 = .ok (.bipush 24, 2) := by decide +kernel
theorem dX2_rowOf_14 : decode cX2_rowOf 14 = .ok (.iload_n 1, 1) := by decide +kernel
theorem dX2_rowOf_15 : decode cX2_rowOf 15 = .ok (.iadd, 1) := by decide +kernel
theorem dX2_rowOf_16 : decode cX2_rowOf 16 = .ok (.ireturn, 1) := by decide +kernel
theorem dX2_rowOf_17 : decode cX2_rowOf 17 = .ok (.iload_n 1, 1) := by decide +kernel
theorem dX2_rowOf_18 : decode cX2_rowOf 18 = .ok (.bipush 8, 2) := by decide +kernel
theorem dX2_rowOf_20 : decode cX2_rowOf 20 = .ok (.invokestatic 77, 3) := by decide +kernel
theorem dX2_rowOf_23 : decode cX2_rowOf 23 = .ok (.ifCond .eq 19, 3) := by decide +kernel
theorem dX2_rowOf_26 : decode cX2_rowOf 26 = .ok (.iload_n 2, 1) := by decide +kernel
theorem dX2_rowOf_27 : decode cX2_rowOf 27 = .ok (.iconst 4, 1) := by decide +kernel
theorem dX2_rowOf_28 : decode cX2_rowOf 28 = .ok (.invokestatic 77, 3) := by decide +kernel
theorem dX2_rowOf_31 : decode cX2_rowOf 31 = .ok (.ifCond .eq 11, 3) := by decide +kernel
theorem dX2_rowOf_34 : decode cX2_rowOf 34 = .ok (.iconst 4, 1) := by decide +kernel
theorem dX2_rowOf_35 : decode cX2_rowOf 35 = .ok (.iload_n 1, 1) := by decide +kernel
theorem dX2_rowOf_36 : decode cX2_rowOf 36 = .ok (.imul, 1) := by decide +kernel
theorem dX2_rowOf_37 : decode cX2_rowOf 37 = .ok (.iload_n 2, 1) := by decide +kernel
theorem dX2_rowOf_38 : decode cX2_rowOf 38 = .ok (.iadd, 1) := by decide +kernel
theorem dX2_rowOf_39 : decode cX2_rowOf 39 = .ok (.goto 4, 3) := by decide +kernel
theorem dX2_rowOf_42 : decode cX2_rowOf 42 = .ok (.iconst (-1), 1) := by decide +kernel
theorem dX2_rowOf_43 : decode cX2_rowOf 43 = .ok (.ireturn, 1) := by decide +kernel
theorem dX2_packet_0 : decode cX2_packet 0 = .ok (.aload_n 0, 1) := by decide +kernel
theorem dX2_packet_1 : decode cX2_packet 1 = .ok (.iconst 0, 1) := by decide +kernel
theorem dX2_packet_2 : decode cX2_packet 2 = .ok (.putfield 54, 3) := by decide +kernel
theorem dX2_packet_5 : decode cX2_packet 5 = .ok (.aload_n 0, 1) := by decide +kernel
theorem dX2_packet_6 : decode cX2_packet 6 = .ok (.iload_n 1, 1) := by decide +kernel
theorem dX2_packet_7 : decode cX2_packet 7 = .ok (.iload_n 2, 1) := by decide +kernel
theorem dX2_packet_8 : decode cX2_packet 8 = .ok (.invokevirtual 101, 3) := by decide +kernel
theorem dX2_packet_11 : decode cX2_packet 11 = .ok (.istore 5, 2) := by decide +kernel
theorem dX2_packet_13 : decode cX2_packet 13 = .ok (.iload 5, 2) := by decide +kernel
theorem dX2_packet_15 : decode cX2_packet 15 = .ok (.iconst (-1), 1) := by decide +kernel
theorem dX2_packet_16 : decode cX2_packet 16 = .ok (.if_icmp .eq 29, 3) := by decide +kernel
theorem dX2_packet_19 : decode cX2_packet 19 = .ok (.iload_n 3, 1) := by decide +kernel
theorem dX2_packet_20 : decode cX2_packet 20 = .ok (.ifCond .lt 25, 3) := by decide +kernel
theorem dX2_packet_23 : decode cX2_packet 23 = .ok (.iload_n 3, 1) := by decide +kernel
theorem dX2_packet_24 : decode cX2_packet 24 = .ok (.aload_n 0, 1) := by decide +kernel
theorem dX2_packet_25 : decode cX2_packet 25 = .ok (.getfield 35, 3) := by decide +kernel
theorem dX2_packet_28 : decode cX2_packet 28 = .ok (.iload 5, 2) := by decide +kernel
theorem dX2_packet_30 : decode cX2_packet 30 = .ok (.iaload, 1) := by decide +kernel
theorem dX2_packet_31 : decode cX2_packet 31 = .ok (.if_icmp .ge 14, 3) := by decide +kernel
theorem dX2_packet_34 : decode cX2_packet 34 = .ok (.iload 4, 2) := by decide +kernel
theorem dX2_packet_36 : decode cX2_packet 36 = .ok (.ifCond .lt 9, 3) := by decide +kernel
theorem dX2_packet_39 : decode cX2_packet 39 = .ok (.iload 4, 2) := by decide +kernel
theorem dX2_packet_41 : decode cX2_packet 41 = .ok (.iconst 2, 1) := by decide +kernel
theorem dX2_packet_42 : decode cX2_packet 42 = .ok (.if_icmp .le 5, 3) := by decide +kernel
theorem dX2_packet_45 : decode cX2_packet 45 = .ok (.iconst (-1), 1) := by decide +kernel
theorem dX2_packet_46 : decode cX2_packet 46 = .ok (.ireturn, 1) := by decide +kernel
theorem dX2_packet_47 : decode cX2_packet 47 = .ok (.iconst 0, 1) := by decide +kernel
theorem dX2_packet_48 : decode cX2_packet 48 = .ok (.istore 6, 2) := by decide +kernel
theorem dX2_packet_50 : decode cX2_packet 50 = .ok (.iload_n 3, 1) := by decide +kernel
theorem dX2_packet_51 : decode cX2_packet 51 = .ok (.iconst 1, 1) := by decide +kernel
theorem dX2_packet_52 : decode cX2_packet 52 = .ok (.iadd, 1) := by decide +kernel
theorem dX2_packet_53 : decode cX2_packet 53 = .ok (.istore 7, 2) := by decide +kernel
theorem dX2_packet_55 : decode cX2_packet 55 = .ok (.iload 6, 2) := by decide +kernel
theorem dX2_packet_57 : decode cX2_packet 57 = .ok (.aload_n 0, 1) := by decide +kernel
theorem dX2_packet_58 : decode cX2_packet 58 = .ok (.getfield 35, 3) := by decide +kernel
theorem dX2_packet_61 : decode cX2_packet 61 = .ok (.iload 5, 2) := by decide +kernel
theorem dX2_packet_63 : decode cX2_packet 63 = .ok (.iaload, 1) := by decide +kernel
theorem dX2_packet_64 : decode cX2_packet 64 = .ok (.if_icmp .ge 28, 3) := by decide +kernel
theorem dX2_packet_67 : decode cX2_packet 67 = .ok (.iload 7, 2) := by decide +kernel
theorem dX2_packet_69 : decode cX2_packet 69 = .ok (.ifCond .le 23, 3) := by decide +kernel
theorem dX2_packet_72 : decode cX2_packet 72 = .ok (.aload_n 0, 1) := by decide +kernel
theorem dX2_packet_73 : decode cX2_packet 73 = .ok (.iload 5, 2) := by decide +kernel
theorem dX2_packet_75 : decode cX2_packet 75 = .ok (.iload 6, 2) := by decide +kernel
theorem dX2_packet_77 : decode cX2_packet 77 = .ok (.invokevirtual 57, 3) := by decide +kernel
theorem dX2_packet_80 : decode cX2_packet 80 = .ok (.ifCond .eq 6, 3) := by decide +kernel
theorem dX2_packet_83 : decode cX2_packet 83 = .ok (.iinc 7 (-1), 3) := by decide +kernel
theorem dX2_packet_86 : decode cX2_packet 86 = .ok (.iinc 6 1, 3) := by decide +kernel
theorem dX2_packet_89 : decode cX2_packet 89 = .ok (.goto (-34), 3) := by decide +kernel
theorem dX2_packet_92 : decode cX2_packet 92 = .ok (.iload 7, 2) := by decide +kernel
theorem dX2_packet_94 : decode cX2_packet 94 = .ok (.ifCond .le 5, 3) := by decide +kernel
theorem dX2_packet_97 : decode cX2_packet 97 = .ok (.iconst (-1), 1) := by decide +kernel
theorem dX2_packet_98 : decode cX2_packet 98 = .ok (.ireturn, 1) := by decide +kernel
theorem dX2_packet_99 : decode cX2_packet 99 = .ok (.iinc 6 (-1), 3) := by decide +kernel
theorem dX2_packet_102 : decode cX2_packet 102 = .ok (.iconst 1, 1) := by decide +kernel
theorem dX2_packet_103 : decode cX2_packet 103 = .ok (.istore 8, 2) := by decide +kernel
theorem dX2_packet_105 : decode cX2_packet 105 = .ok (.iload 6, 2) := by decide +kernel
theorem dX2_packet_107 : decode cX2_packet 107 = .ok (.iload 8, 2) := by decide +kernel
theorem dX2_packet_109 : decode cX2_packet 109 = .ok (.iadd, 1) := by decide +kernel
theorem dX2_packet_110 : decode cX2_packet 110 = .ok (.aload_n 0, 1) := by decide +kernel
theorem dX2_packet_111 : decode cX2_packet 111 = .ok (.getfield 35, 3) := by decide +kernel
theorem dX2_packet_114 : decode cX2_packet 114 = .ok (.iload 5, 2) := by decide +kernel
theorem dX2_packet_116 : decode cX2_packet 116 = .ok (.iaload, 1) := by decide +kernel
theorem dX2_packet_117 : decode cX2_packet 117 = .ok (.if_icmp .ge 23, 3) := by decide +kernel
theorem dX2_packet_120 : decode cX2_packet 120 = .ok (.aload_n 0, 1) := by decide +kernel
theorem dX2_packet_121 : decode cX2_packet 121 = .ok (.iload 5, 2) := by decide +kernel
theorem dX2_packet_123 : decode cX2_packet 123 = .ok (.iload 6, 2) := by decide +kernel
theorem dX2_packet_125 : decode cX2_packet 125 = .ok (.iload 8, 2) := by decide +kernel
theorem dX2_packet_127 : decode cX2_packet 127 = .ok (.iadd, 1) := by decide +kernel
theorem dX2_packet_128 : decode cX2_packet 128 = .ok (.invokevirtual 57, 3) := by decide +kernel
theorem dX2_packet_131 : decode cX2_packet 131 = .ok (.ifCond .ne 9, 3) := by decide +kernel
theorem dX2_packet_134 : decode cX2_packet 134 = .ok (.iinc 8 1, 3) := by decide +kernel
theorem dX2_packet_137 : decode cX2_packet 137 = .ok (.goto (-32), 3) := by decide +kernel
theorem dX2_packet_140 : decode cX2_packet 140 = .ok (.iload 4, 2) := by decide +kernel
theorem dX2_packet_142 : decode cX2_packet 142 = .ok (.ifCond .ne 20, 3) := by decide +kernel
theorem dX2_packet_145 : decode cX2_packet 145 = .ok (.aload_n 0, 1) := by decide +kernel
theorem dX2_packet_146 : decode cX2_packet 146 = .ok (.getfield 39, 3) := by decide +kernel
theorem dX2_packet_149 : decode cX2_packet 149 = .ok (.sipush 1000, 3) := by decide +kernel
theorem dX2_packet_152 : decode cX2_packet 152 = .ok (.iload 5, 2) := by decide +kernel
theorem dX2_packet_154 : decode cX2_packet 154 = .ok (.imul, 1) := by decide +kernel
theorem dX2_packet_155 : decode cX2_packet 155 = .ok (.iload 6, 2) := by decide +kernel
theorem dX2_packet_157 : decode cX2_packet 157 = .ok (.iadd, 1) := by decide +kernel
theorem dX2_packet_158 : decode cX2_packet 158 = .ok (.iaload, 1) := by decide +kernel
theorem dX2_packet_159 : decode cX2_packet 159 = .ok (.goto 28, 3) := by decide +kernel
theorem dX2_packet_162 : decode cX2_packet 162 = .ok (.iload 4, 2) := by decide +kernel
theorem dX2_packet_164 : decode cX2_packet 164 = .ok (.iconst 1, 1) := by decide +kernel
theorem dX2_packet_165 : decode cX2_packet 165 = .ok (.if_icmp .ne 8, 3) := by decide +kernel
theorem dX2_packet_168 : decode cX2_packet 168 = .ok (.iload 8, 2) := by decide +kernel
theorem dX2_packet_170 : decode cX2_packet 170 = .ok (.goto 17, 3) := by decide +kernel
theorem dX2_packet_173 : decode cX2_packet 173 = .ok (.aload_n 0, 1) := by decide +kernel
theorem dX2_packet_174 : decode cX2_packet 174 = .ok (.getfield 42, 3) := by decide +kernel
theorem dX2_packet_177 : decode cX2_packet 177 = .ok (.sipush 1000, 3) := by decide +kernel
theorem dX2_packet_180 : decode cX2_packet 180 = .ok (.iload 5, 2) := by decide +kernel
theorem dX2_packet_182 : decode cX2_packet 182 = .ok (.imul, 1) := by decide +kernel
theorem dX2_packet_183 : decode cX2_packet 183 = .ok (.iload 6, 2) := by decide +kernel
theorem dX2_packet_185 : decode cX2_packet 185 = .ok (.iadd, 1) := by decide +kernel
theorem dX2_packet_186 : decode cX2_packet 186 = .ok (.iaload, 1) := by decide +kernel
theorem dX2_packet_187 : decode cX2_packet 187 = .ok (.ireturn, 1) := by decide +kernel
theorem dX2_units_0 : decode cX2_units 0 = .ok (.aload_n 0, 1) := by decide +kernel
theorem dX2_units_1 : decode cX2_units 1 = .ok (.iconst 0, 1) := by decide +kernel
theorem dX2_units_2 : decode cX2_units 2 = .ok (.putfield 54, 3) := by decide +kernel
theorem dX2_units_5 : decode cX2_units 5 = .ok (.aload_n 0, 1) := by decide +kernel
theorem dX2_units_6 : decode cX2_units 6 = .ok (.iload_n 1, 1) := by decide +kernel
theorem dX2_units_7 : decode cX2_units 7 = .ok (.iload_n 2, 1) := by decide +kernel
theorem dX2_units_8 : decode cX2_units 8 = .ok (.invokevirtual 101, 3) := by decide +kernel
theorem dX2_units_11 : decode cX2_units 11 = .ok (.istore_n 3, 1) := by decide +kernel
theorem dX2_units_12 : decode cX2_units 12 = .ok (.iload_n 3, 1) := by decide +kernel
theorem dX2_units_13 : decode cX2_units 13 = .ok (.iconst (-1), 1) := by decide +kernel
