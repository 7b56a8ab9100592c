theorem dX2_apart_11 : decode cX2_apart 11 = .ok (.iload_n 0, 1) := by decide +kernel
theorem dX2_apart_12 : decode cX2_apart 12 = .ok (.iload_n 1, 1) := by decide +kernel
theorem dX2_apart_13 : decode cX2_apart 13 = .ok (.isub, 1) := by decide +kernel
theorem dX2_apart_14 : decode cX2_apart 14 = .ok (.ireturn, 1) := by decide +kernel
theorem dX2_pay_0 : decode cX2_pay 0 = .ok (.bipush 64, 2) := by decide +kernel
theorem dX2_pay_2 : decode cX2_pay 2 = .ok (.aload_n 0, 1) := by decide +kernel
theorem dX2_pay_3 : decode cX2_pay 3 = .ok (.getfield 74, 3) := by decide +kernel
theorem dX2_pay_6 : decode cX2_pay 6 = .ok (.iload_n 2, 1) := by decide +kernel
theorem dX2_pay_7 : decode cX2_pay 7 = .ok (.isub, 1) := by decide +kernel
theorem dX2_pay_8 : decode cX2_pay 8 = .ok (.bipush 64, 2) := by decide +kernel
theorem dX2_pay_10 : decode cX2_pay 10 = .ok (.idiv, 1) := by decide +kernel
theorem dX2_pay_11 : decode cX2_pay 11 = .ok (.isub, 1) := by decide +kernel
theorem dX2_pay_12 : decode cX2_pay 12 = .ok (.istore 4, 2) := by decide +kernel
theorem dX2_pay_14 : decode cX2_pay 14 = .ok (.iload 4, 2) := by decide +kernel
theorem dX2_pay_16 : decode cX2_pay 16 = .ok (.iconst 1, 1) := by decide +kernel
theorem dX2_pay_17 : decode cX2_pay 17 = .ok (.if_icmp .ge 7, 3) := by decide +kernel
theorem dX2_pay_20 : decode cX2_pay 20 = .ok (.iconst 1, 1) := by decide +kernel
theorem dX2_pay_21 : decode cX2_pay 21 = .ok (.goto 5, 3) := by decide +kernel
theorem dX2_pay_24 : decode cX2_pay 24 = .ok (.iload 4, 2) := by decide +kernel
theorem dX2_pay_26 : decode cX2_pay 26 = .ok (.istore 4, 2) := by decide +kernel
theorem dX2_pay_28 : decode cX2_pay 28 = .ok (.aload_n 0, 1) := by decide +kernel
theorem dX2_pay_29 : decode cX2_pay 29 = .ok (.getfield 13, 3) := by decide +kernel
theorem dX2_pay_32 : decode cX2_pay 32 = .ok (.iload_n 1, 1) := by decide +kernel
theorem dX2_pay_33 : decode cX2_pay 33 = .ok (.iaload, 1) := by decide +kernel
theorem dX2_pay_34 : decode cX2_pay 34 = .ok (.aload_n 0, 1) := by decide +kernel
theorem dX2_pay_35 : decode cX2_pay 35 = .ok (.getfield 13, 3) := by decide +kernel
theorem dX2_pay_38 : decode cX2_pay 38 = .ok (.iload_n 3, 1) := by decide +kernel
theorem dX2_pay_39 : decode cX2_pay 39 = .ok (.iaload, 1) := by decide +kernel
theorem dX2_pay_40 : decode cX2_pay 40 = .ok (.invokestatic 87, 3) := by decide +kernel
theorem dX2_pay_43 : decode cX2_pay 43 = .ok (.aload_n 0, 1) := by decide +kernel
theorem dX2_pay_44 : decode cX2_pay 44 = .ok (.getfield 17, 3) := by decide +kernel
theorem dX2_pay_47 : decode cX2_pay 47 = .ok (.iload_n 1, 1) := by decide +kernel
theorem dX2_pay_48 : decode cX2_pay 48 = .ok (.iaload, 1) := by decide +kernel
theorem dX2_pay_49 : decode cX2_pay 49 = .ok (.aload_n 0, 1) := by decide +kernel
theorem dX2_pay_50 : decode cX2_pay 50 = .ok (.getfield 17, 3) := by decide +kernel
theorem dX2_pay_53 : decode cX2_pay 53 = .ok (.iload_n 3, 1) := by decide +kernel
theorem dX2_pay_54 : decode cX2_pay 54 = .ok (.iaload, 1) := by decide +kernel
theorem dX2_pay_55 : decode cX2_pay 55 = .ok (.invokestatic 87, 3) := by decide +kernel
theorem dX2_pay_58 : decode cX2_pay 58 = .ok (.iadd, 1) := by decide +kernel
theorem dX2_pay_59 : decode cX2_pay 59 = .ok (.iload 4, 2) := by decide +kernel
theorem dX2_pay_61 : decode cX2_pay 61 = .ok (.imul, 1) := by decide +kernel
theorem dX2_pay_62 : decode cX2_pay 62 = .ok (.istore 5, 2) := by decide +kernel
theorem dX2_pay_64 : decode cX2_pay 64 = .ok (.iload 5, 2) := by decide +kernel
theorem dX2_pay_66 : decode cX2_pay 66 = .ok (.ldc 73, 2) := by decide +kernel
theorem dX2_pay_68 : decode cX2_pay 68 = .ok (.aload_n 0, 1) := by decide +kernel
theorem dX2_pay_69 : decode cX2_pay 69 = .ok (.getfield 7, 3) := by decide +kernel
theorem dX2_pay_72 : decode cX2_pay 72 = .ok (.isub, 1) := by decide +kernel
theorem dX2_pay_73 : decode cX2_pay 73 = .ok (.if_icmp .le 13, 3) := by decide +kernel
theorem dX2_pay_76 : decode cX2_pay 76 = .ok (.ldc 73, 2) := by decide +kernel
theorem dX2_pay_78 : decode cX2_pay 78 = .ok (.aload_n 0, 1) := by decide +kernel
theorem dX2_pay_79 : decode cX2_pay 79 = .ok (.getfield 7, 3) := by decide +kernel
theorem dX2_pay_82 : decode cX2_pay 82 = .ok (.isub, 1) := by decide +kernel
theorem dX2_pay_83 : decode cX2_pay 83 = .ok (.goto 5, 3) := by decide +kernel
theorem dX2_pay_86 : decode cX2_pay 86 = .ok (.iload 5, 2) := by decide +kernel
theorem dX2_pay_88 : decode cX2_pay 88 = .ok (.istore 5, 2) := by decide +kernel
theorem dX2_pay_90 : decode cX2_pay 90 = .ok (.iload 5, 2) := by decide +kernel
theorem dX2_pay_92 : decode cX2_pay 92 = .ok (.ldc 73, 2) := by decide +kernel
theorem dX2_pay_94 : decode cX2_pay 94 = .ok (.aload_n 0, 1) := by decide +kernel
theorem dX2_pay_95 : decode cX2_pay 95 = .ok (.getfield 91, 3) := by decide +kernel
theorem dX2_pay_98 : decode cX2_pay 98 = .ok (.isub, 1) := by decide +kernel
theorem dX2_pay_99 : decode cX2_pay 99 = .ok (.if_icmp .le 13, 3) := by decide +kernel
theorem dX2_pay_102 : decode cX2_pay 102 = .ok (.ldc 73, 2) := by decide +kernel
theorem dX2_pay_104 : decode cX2_pay 104 = .ok (.aload_n 0, 1) := by decide +kernel
theorem dX2_pay_105 : decode cX2_pay 105 = .ok (.getfield 91, 3) := by decide +kernel
theorem dX2_pay_108 : decode cX2_pay 108 = .ok (.isub, 1) := by decide +kernel
theorem dX2_pay_109 : decode cX2_pay 109 = .ok (.goto 5, 3) := by decide +kernel
theorem dX2_pay_112 : decode cX2_pay 112 = .ok (.iload 5, 2) := by decide +kernel
theorem dX2_pay_114 : decode cX2_pay 114 = .ok (.istore 5, 2) := by decide +kernel
theorem dX2_pay_116 : decode cX2_pay 116 = .ok (.aload_n 0, 1) := by decide +kernel
theorem dX2_pay_117 : decode cX2_pay 117 = .ok (.dup, 1) := by decide +kernel
theorem dX2_pay_118 : decode cX2_pay 118 = .ok (.getfield 7, 3) := by decide +kernel
theorem dX2_pay_121 : decode cX2_pay 121 = .ok (.iload 5, 2) := by decide +kernel
theorem dX2_pay_123 : decode cX2_pay 123 = .ok (.iadd, 1) := by decide +kernel
theorem dX2_pay_124 : decode cX2_pay 124 = .ok (.putfield 7, 3) := by decide +kernel
theorem dX2_pay_127 : decode cX2_pay 127 = .ok (.aload_n 0, 1) := by decide +kernel
theorem dX2_pay_128 : decode cX2_pay 128 = .ok (.dup, 1) := by decide +kernel
theorem dX2_pay_129 : decode cX2_pay 129 = .ok (.getfield 91, 3) := by decide +kernel
theorem dX2_pay_132 : decode cX2_pay 132 = .ok (.iload 5, 2) := by decide +kernel
theorem dX2_pay_134 : decode cX2_pay 134 = .ok (.iadd, 1) := by decide +kernel
theorem dX2_pay_135 : decode cX2_pay 135 = .ok (.putfield 91, 3) := by decide +kernel
theorem dX2_pay_138 : decode cX2_pay 138 = .ok (.return_, 1) := by decide +kernel
theorem dX2_unload_0 : decode cX2_unload 0 = .ok (.aload_n 0, 1) := by decide +kernel
theorem dX2_unload_1 : decode cX2_unload 1 = .ok (.iload_n 1, 1) := by decide +kernel
theorem dX2_unload_2 : decode cX2_unload 2 = .ok (.bipush 16, 2) := by decide +kernel
theorem dX2_unload_4 : decode cX2_unload 4 = .ok (.invokestatic 77, 3) := by decide +kernel
theorem dX2_unload_7 : decode cX2_unload 7 = .ok (.ifCond .eq 12, 3) := by decide +kernel
theorem dX2_unload_10 : decode cX2_unload 10 = .ok (.iload_n 2, 1) := by decide +kernel
theorem dX2_unload_11 : decode cX2_unload 11 = .ok (.bipush 8, 2) := by decide +kernel
theorem dX2_unload_13 : decode cX2_unload 13 = .ok (.invokestatic 77, 3) := by decide +kernel
theorem dX2_unload_16 : decode cX2_unload 16 = .ok (.ifCond .ne 7, 3) := by decide +kernel
theorem dX2_unload_19 : decode cX2_unload 19 = .ok (.iconst 1, 1) := by decide +kernel
theorem dX2_unload_20 : decode cX2_unload 20 = .ok (.goto 12, 3) := by decide +kernel
theorem dX2_unload_23 : decode cX2_unload 23 = .ok (.iload_n 3, 1) := by decide +kernel
theorem dX2_unload_24 : decode cX2_unload 24 = .ok (.ifCond .ge 7, 3) := by decide +kernel
theorem dX2_unload_27 : decode cX2_unload 27 = .ok (.iconst 2, 1) := by decide +kernel
theorem dX2_unload_28 : decode cX2_unload 28 = .ok (.goto 4, 3) := by decide +kernel
theorem dX2_unload_31 : decode cX2_unload 31 = .ok (.iconst 0, 1) := by decide +kernel
theorem dX2_unload_32 : decode cX2_unload 32 = .ok (.putfield 54, 3) := by decide +kernel
theorem dX2_unload_35 : decode cX2_unload 35 = .ok (.aload_n 0, 1) := by decide +kernel
theorem dX2_unload_36 : decode cX2_unload 36 = .ok (.getfield 54, 3) := by decide +kernel
theorem dX2_unload_39 : decode cX2_unload 39 = .ok (.ifCond .le 5, 3) := by decide +kernel
theorem dX2_unload_42 : decode cX2_unload 42 = .ok (.iconst 0, 1) := by decide +kernel
theorem dX2_unload_43 : decode cX2_unload 43 = .ok (.ireturn, 1) := by decide +kernel
theorem dX2_unload_44 : decode cX2_unload 44 = .ok (.aload_n 0, 1) := by decide +kernel
theorem dX2_unload_45 : decode cX2_unload 45 = .ok (.getfield 29, 3) := by decide +kernel
theorem dX2_unload_48 : decode cX2_unload 48 = .ok (.iload_n 1, 1) := by decide +kernel
theorem dX2_unload_49 : decode cX2_unload 49 = .ok (.iaload, 1) := by decide +kernel
theorem dX2_unload_50 : decode cX2_unload 50 = .ok (.istore 4, 2) := by decide +kernel
theorem dX2_unload_52 : decode cX2_unload 52 = .ok (.bipush 32, 2) := by decide +kernel
theorem dX2_unload_54 : decode cX2_unload 54 = .ok (.iload_n 1, 1) := by decide +kernel
theorem dX2_unload_55 : decode cX2_unload 55 = .ok (.iadd, 1) := by decide +kernel
theorem dX2_unload_56 : decode cX2_unload 56 = .ok (.istore 5, 2) := by decide +kernel
theorem dX2_unload_58 : decode cX2_unload 58 = .ok (.aload_n 0, 1) := by decide +kernel
theorem dX2_unload_59 : decode cX2_unload 59 = .ok (.getfield 20, 3) := by decide +kernel
theorem dX2_unload_62 : decode cX2_unload 62 = .ok (.iload_n 2, 1) := by decide +kernel
theorem dX2_unload_63 : decode cX2_unload 63 = .ok (.iaload, 1) := by decide +kernel
theorem dX2_unload_64 : decode cX2_unload 64 = .ok (.iload 4, 2) := by decide +kernel
theorem dX2_unload_66 : decode cX2_unload 66 = .ok (.ishr, 1) := by decide +kernel
theorem dX2_unload_67 : decode cX2_unload 67 = .ok (.iconst 1, 1) := by decide +kernel
theorem dX2_unload_68 : decode cX2_unload 68 = .ok (.iand, 1) := by decide +kernel
theorem dX2_unload_69 : decode cX2_unload 69 = .ok (.iconst 1, 1) := by decide +kernel
theorem dX2_unload_70 : decode cX2_unload 70 = .ok (.if_icmp .ne 7, 3) := by decide +kernel
theorem dX2_unload_73 : decode cX2_unload 73 = .ok (.iconst 1, 1) := by decide +kernel
theorem dX2_unload_74 : decode cX2_unload 74 = .ok (.goto 4, 3) := by decide +kernel
theorem dX2_unload_77 : decode cX2_unload 77 = .ok (.iconst 0, 1) := by decide +kernel
theorem dX2_unload_78 : decode cX2_unload 78 = .ok (.istore 6, 2) := by decide +kernel
theorem dX2_unload_80 : decode cX2_unload 80 = .ok (.iconst 0, 1) := by decide +kernel
theorem dX2_unload_81 : decode cX2_unload 81 = .ok (.istore 7, 2) := by decide +kernel
theorem dX2_unload_83 : decode cX2_unload 83 = .ok (.iload 7, 2) := by decide +kernel
theorem dX2_unload_85 : decode cX2_unload 85 = .ok (.iload_n 3, 1) := by decide +kernel
theorem dX2_unload_86 : decode cX2_unload 86 = .ok (.if_icmp .ge 131, 3) := by decide +kernel
theorem dX2_unload_89 : decode cX2_unload 89 = .ok (.aload_n 0, 1) := by decide +kernel
theorem dX2_unload_90 : decode cX2_unload 90 = .ok (.getfield 35, 3) := by decide +kernel
theorem dX2_unload_93 : decode cX2_unload 93 = .ok (.iload 5, 2) := by decide +kernel
theorem dX2_unload_95 : decode cX2_unload 95 = .ok (.iaload, 1) := by decide +kernel
theorem dX2_unload_96 : decode cX2_unload 96 = .ok (.ifCond .le 121, 3) := by decide +kernel
theorem dX2_unload_99 : decode cX2_unload 99 = .ok (.iload 6, 2) := by decide +kernel
theorem dX2_unload_101 : decode cX2_unload 101 = .ok (.ifCond .ne 20, 3) := by decide +kernel
theorem dX2_unload_104 : decode cX2_unload 104 = .ok (.aload_n 0, 1) := by decide +kernel
theorem dX2_unload_105 : decode cX2_unload 105 = .ok (.getfield 35, 3) := by decide +kernel
theorem dX2_unload_108 : decode cX2_unload 108 = .ok (.iconst 4, 1) := by decide +kernel
theorem dX2_unload_109 : decode cX2_unload 109 = .ok (.iload_n 2, 1) := by decide +kernel
theorem dX2_unload_110 : decode cX2_unload 110 = .ok (.imul, 1) := by decide +kernel
theorem dX2_unload_111 : decode cX2_unload 111 = .ok (.iload 4, 2) := by decide +kernel
theorem dX2_unload_113 : decode cX2_unload 113 = .ok (.iadd, 1) := by decide +kernel
theorem dX2_unload_114 : decode cX2_unload 114 = .ok (.iaload, 1) := by decide +kernel
theorem dX2_unload_115 : decode cX2_unload 115 = .ok (.sipush 999, 3) := by decide +kernel
theorem dX2_unload_118 : decode cX2_unload 118 = .ok (.if_icmp .ge 99, 3) := by decide +kernel
theorem dX2_unload_121 : decode cX2_unload 121 = .ok (.iinc 7 1, 3) := by decide +kernel
theorem dX2_unload_124 : decode cX2_unload 124 = .ok (.iload 6, 2) := by decide +kernel
theorem dX2_unload_126 : decode cX2_unload 126 = .ok (.ifCond .eq 76, 3) := by decide +kernel
theorem dX2_unload_129 : decode cX2_unload 129 = .ok (.aload_n 0, 1) := by decide +kernel
theorem dX2_unload_130 : decode cX2_unload 130 = .ok (.aload_n 0, 1) := by decide +kernel
theorem dX2_unload_131 : decode cX2_unload 131 = .ok (.getfield 39, 3) := by decide +kernel
theorem dX2_unload_134 : decode cX2_unload 134 = .ok (.sipush 1000, 3) := by decide +kernel
theorem dX2_unload_137 : decode cX2_unload 137 = .ok (.iload 5, 2) := by decide +kernel
theorem dX2_unload_139 : decode cX2_unload 139 = .ok (.imul, 1) := by decide +kernel
theorem dX2_unload_140 : decode cX2_unload 140 = .ok (.iaload, 1) := by decide +kernel
theorem dX2_unload_141 : decode cX2_unload 141 = .ok (.aload_n 0, 1) := by decide +kernel
theorem dX2_unload_142 : decode cX2_unload 142 = .ok (.getfield 42, 3) := by decide +kernel
theorem dX2_unload_145 : decode cX2_unload 145 = .ok (.sipush 1000, 3) := by decide +kernel
theorem dX2_unload_148 : decode cX2_unload 148 = .ok (.iload 5, 2) := by decide +kernel
theorem dX2_unload_150 : decode cX2_unload 150 = .ok (.imul, 1) := by decide +kernel
theorem dX2_unload_151 : decode cX2_unload 151 = .ok (.iaload, 1) := by decide +kernel
theorem dX2_unload_152 : decode cX2_unload 152 = .ok (.iload_n 2, 1) := by decide +kernel
theorem dX2_unload_153 : decode cX2_unload 153 = .ok (.invokevirtual 94, 3) := by decide +kernel
theorem dX2_unload_156 : decode cX2_unload 156 = .ok (.aload_n 0, 1) := by decide +kernel
theorem dX2_unload_157 : decode cX2_unload 157 = .ok (.iload 5, 2) := by decide +kernel
theorem dX2_unload_159 : decode cX2_unload 159 = .ok (.invokevirtual 65, 3) := by decide +kernel
theorem dX2_unload_162 : decode cX2_unload 162 = .ok (.aload_n 0, 1) := by decide +kernel
theorem dX2_unload_163 : decode cX2_unload 163 = .ok (.getfield 48, 3) := by decide +kernel
theorem dX2_unload_166 : decode cX2_unload 166 = .ok (.iload 4, 2) := by decide +kernel
theorem dX2_unload_168 : decode cX2_unload 168 = .ok (.dup2, 1) := by decide +kernel
theorem dX2_unload_169 : decode cX2_unload 169 = .ok (.iaload, 1) := by decide +kernel
theorem dX2_unload_170 : decode cX2_unload 170 = .ok (.iconst 1, 1) := by decide +kernel
theorem dX2_unload_171 : decode cX2_unload 171 = .ok (.iadd, 1) := by decide +kernel
theorem dX2_unload_172 : decode cX2_unload 172 = .ok (.iastore, 1) := by decide +kernel
theorem dX2_unload_173 : decode cX2_unload 173 = .ok (.aload_n 0, 1) := by decide +kernel
theorem dX2_unload_174 : decode cX2_unload 174 = .ok (.getfield 26, 3) := by decide +kernel
theorem dX2_unload_177 : decode cX2_unload 177 = .ok (.iconst 4, 1) := by decide +kernel
theorem dX2_unload_178 : decode cX2_unload 178 = .ok (.iload_n 2, 1) := by decide +kernel
theorem dX2_unload_179 : decode cX2_unload 179 = .ok (.imul, 1) := by decide +kernel
theorem dX2_unload_180 : decode cX2_unload 180 = .ok (.iload 4, 2) := by decide +kernel
theorem dX2_unload_182 : decode cX2_unload 182 = .ok (.iadd, 1) := by decide +kernel
theorem dX2_unload_183 : decode cX2_unload 183 = .ok (.iaload, 1) := by decide +kernel
theorem dX2_unload_184 : decode cX2_unload 184 = .ok (.istore 8, 2) := by decide +kernel
theorem dX2_unload_186 : decode cX2_unload 186 = .ok (.iload 8, 2) := by decide +kernel
theorem dX2_unload_188 : decode cX2_unload 188 = .ok (.iconst (-1), 1) := by decide +kernel
theorem dX2_unload_189 : decode cX2_unload 189 = .ok (.if_icmp .eq 10, 3) := by decide +kernel
theorem dX2_unload_192 : decode cX2_unload 192 = .ok (.aload_n 0, 1) := by decide +kernel
theorem dX2_unload_193 : decode cX2_unload 193 = .ok (.iload_n 2, 1) := by decide +kernel
theorem dX2_unload_194 : decode cX2_unload 194 = .ok (.iload 8, 2) := by decide +kernel
theorem dX2_unload_196 : decode cX2_unload 196 = .ok (.invokevirtual 80, 3) := by decide +kernel
theorem dX2_unload_199 : decode cX2_unload 199 = .ok (.goto (-116), 3) := by decide +kernel
theorem dX2_unload_202 : decode cX2_unload 202 = .ok (.aload_n 0, 1) := by decide +kernel
theorem dX2_unload_203 : decode cX2_unload 203 = .ok (.iload 5, 2) := by decide +kernel
theorem dX2_unload_205 : decode cX2_unload 205 = .ok (.iconst 4, 1) := by decide +kernel
theorem dX2_unload_206 : decode cX2_unload 206 = .ok (.iload_n 2, 1) := by decide +kernel
theorem dX2_unload_207 : decode cX2_unload 207 = .ok (.imul, 1) := by decide +kernel
theorem dX2_unload_208 : decode cX2_unload 208 = .ok (.iload 4, 2) := by decide +kernel
theorem dX2_unload_210 : decode cX2_unload 210 = .ok (.iadd, 1) := by decide +kernel
theorem dX2_unload_211 : decode cX2_unload 211 = .ok (.invokevirtual 84, 3) := by decide +kernel
theorem dX2_unload_214 : decode cX2_unload 214 = .ok (.goto (-131), 3) := by decide +kernel
theorem dX2_unload_217 : decode cX2_unload 217 = .ok (.iload 7, 2) := by decide +kernel
theorem dX2_unload_219 : decode cX2_unload 219 = .ok (.ireturn, 1) := by decide +kernel
theorem dX2_pour_0 : decode cX2_pour 0 = .ok (.iload_n 1, 1) := by decide +kernel
theorem dX2_pour_1 : decode cX2_pour 1 = .ok (.bipush 16, 2) := by decide +kernel
theorem dX2_pour_3 : decode cX2_pour 3 = .ok (.invokestatic 77, 3) := by decide +kernel
theorem dX2_pour_6 : decode cX2_pour 6 = .ok (.ifCond .eq 16, 3) := by decide +kernel
theorem dX2_pour_9 : decode cX2_pour 9 = .ok (.iload_n 2, 1) := by decide +kernel
theorem dX2_pour_10 : decode cX2_pour 10 = .ok (.bipush 16, 2) := by decide +kernel
theorem dX2_pour_12 : decode cX2_pour 12 = .ok (.invokestatic 77, 3) := by decide +kernel
theorem dX2_pour_15 : decode cX2_pour 15 = .ok (.ifCond .eq 7, 3) := by decide +kernel
theorem dX2_pour_18 : decode cX2_pour 18 = .ok (.iconst 1, 1) := by decide +kernel
theorem dX2_pour_19 : decode cX2_pour 19 = .ok (.goto 4, 3) := by decide +kernel
theorem dX2_pour_22 : decode cX2_pour 22 = .ok (.iconst 0, 1) := by decide +kernel
theorem dX2_pour_23 : decode cX2_pour 23 = .ok (.istore_n 3, 1) := by decide +kernel
theorem dX2_pour_24 : decode cX2_pour 24 = .ok (.aload_n 0, 1) := by decide +kernel
theorem dX2_pour_25 : decode cX2_pour 25 = .ok (.iload_n 3, 1) := by decide +kernel
theorem dX2_pour_26 : decode cX2_pour 26 = .ok (.ifCond .ne 7, 3) := by decide +kernel
theorem dX2_pour_29 : decode cX2_pour 29 = .ok (.iconst 1, 1) := by decide +kernel
theorem dX2_pour_30 : decode cX2_pour 30 = .ok (.goto 56, 3) := by decide +kernel
theorem dX2_pour_33 : decode cX2_pour 33 = .ok (.iload_n 1, 1) := by decide +kernel
theorem dX2_pour_34 : decode cX2_pour 34 = .ok (.iload_n 2, 1) := by decide +kernel
theorem dX2_pour_35 : decode cX2_pour 35 = .ok (.if_icmp .eq 46, 3) := by decide +kernel
theorem dX2_pour_38 : decode cX2_pour 38 = .ok (.aload_n 0, 1) := by decide +kernel
theorem dX2_pour_39 : decode cX2_pour 39 = .ok (.getfield 29, 3) := by decide +kernel
theorem dX2_pour_42 : decode cX2_pour 42 = .ok (.iload_n 1, 1) := by decide +kernel
theorem dX2_pour_43 : decode cX2_pour 43 = .ok (.iaload, 1) := by decide +kernel
theorem dX2_pour_44 : decode cX2_pour 44 = .ok (.aload_n 0, 1) := by decide +kernel
theorem dX2_pour_45 : decode cX2_pour 45 = .ok (.getfield 29, 3) := by decide +kernel
theorem dX2_pour_48 : decode cX2_pour 48 = .ok (.iload_n 2, 1) := by decide +kernel
theorem dX2_pour_49 : decode cX2_pour 49 = .ok (.iaload, 1) := by decide +kernel
theorem dX2_pour_50 : decode cX2_pour 50 = .ok (.if_icmp .ne 31, 3) := by decide +kernel
theorem dX2_pour_53 : decode cX2_pour 53 = .ok (.aload_n 0, 1) := by decide +kernel
theorem dX2_pour_54 : decode cX2_pour 54 = .ok (.getfield 35, 3) := by decide +kernel
theorem dX2_pour_57 : decode cX2_pour 57 = .ok (.bipush 32, 2) := by decide +kernel
theorem dX2_pour_59 : decode cX2_pour 59 = .ok (.iload_n 1, 1) := by decide +kernel
theorem dX2_pour_60 : decode cX2_pour 60 = .ok (.iadd, 1) := by decide +kernel
theorem dX2_pour_61 : decode cX2_pour 61 = .ok (.iaload, 1) := by decide +kernel
theorem dX2_pour_62 : decode cX2_pour 62 = .ok (.aload_n 0, 1) := by decide +kernel
theorem dX2_pour_63 : decode cX2_pour 63 = .ok (.getfield 35, 3) := by decide +kernel
theorem dX2_pour_66 : decode cX2_pour 66 = .ok (.bipush 32, 2) := by decide +kernel
theorem dX2_pour_68 : decode cX2_pour 68 = .ok (.iload_n 2, 1) := by decide +kernel
theorem dX2_pour_69 : decode cX2_pour 69 = .ok (.iadd, 1) := by decide +kernel
theorem dX2_pour_70 : decode cX2_pour 70 = .ok (.iaload, 1) := by decide +kernel
theorem dX2_pour_71 : decode cX2_pour 71 = .ok (.iadd, 1) := by decide +kernel
theorem dX2_pour_72 : decode cX2_pour 72 = .ok (.aload_n 0, 1) := by decide +kernel
theorem dX2_pour_73 : decode cX2_pour 73 = .ok (.getfield 32, 3) := by decide +kernel
theorem dX2_pour_76 : decode cX2_pour 76 = .ok (.iload_n 1, 1) := by decide +kernel
theorem dX2_pour_77 : decode cX2_pour 77 = .ok (.iaload, 1) := by decide +kernel
theorem dX2_pour_78 : decode cX2_pour 78 = .ok (.if_icmp .le 7, 3) := by decide +kernel
theorem dX2_pour_81 : decode cX2_pour 81 = .ok (.iconst 2, 1) := by decide +kernel
theorem dX2_pour_82 : decode cX2_pour 82 = .ok (.goto 4, 3) := by decide +kernel
theorem dX2_pour_85 : decode cX2_pour 85 = .ok (.iconst 0, 1) := by decide +kernel
theorem dX2_pour_86 : decode cX2_pour 86 = .ok (.putfield 54, 3) := by decide +kernel
theorem dX2_pour_89 : decode cX2_pour 89 = .ok (.aload_n 0, 1) := by decide +kernel
theorem dX2_pour_90 : decode cX2_pour 90 = .ok (.getfield 54, 3) := by decide +kernel
theorem dX2_pour_93 : decode cX2_pour 93 = .ok (.ifCond .ne 30, 3) := by decide +kernel
theorem dX2_pour_96 : decode cX2_pour 96 = .ok (.aload_n 0, 1) := by decide +kernel
theorem dX2_pour_97 : decode cX2_pour 97 = .ok (.getfield 35, 3) := by decide +kernel
theorem dX2_pour_100 : decode cX2_pour 100 = .ok (.bipush 32, 2) := by decide +kernel
theorem dX2_pour_102 : decode cX2_pour 102 = .ok (.iload_n 2, 1) := by decide +kernel
theorem dX2_pour_103 : decode cX2_pour 103 = .ok (.iadd, 1) := by decide +kernel
theorem dX2_pour_104 : decode cX2_pour 104 = .ok (.iaload, 1) := by decide +kernel
theorem dX2_pour_105 : decode cX2_pour 105 = .ok (.ifCond .le 18, 3) := by decide +kernel
theorem dX2_pour_108 : decode cX2_pour 108 = .ok (.aload_n 0, 1) := by decide +kernel
theorem dX2_pour_109 : decode cX2_pour 109 = .ok (.bipush 32, 2) := by decide +kernel
theorem dX2_pour_111 : decode cX2_pour 111 = .ok (.iload_n 2, 1) := by decide +kernel
theorem dX2_pour_112 : decode cX2_pour 112 = .ok (.iadd, 1) := by decide +kernel
theorem dX2_pour_113 : decode cX2_pour 113 = .ok (.bipush 32, 2) := by decide +kernel
theorem dX2_pour_115 : decode cX2_pour 115 = .ok (.iload_n 1, 1) := by decide +kernel
theorem dX2_pour_116 : decode cX2_pour 116 = .ok (.iadd, 1) := by decide +kernel
theorem dX2_pour_117 : decode cX2_pour 117 = .ok (.invokevirtual 84, 3) := by decide +kernel
theorem dX2_pour_120 : decode cX2_pour 120 = .ok (.goto (-31), 3) := by decide +kernel
theorem dX2_pour_123 : decode cX2_pour 123 = .ok (.return_, 1) := by decide +kernel
theorem dX2_part_0 : decode cX2_part 0 = .ok (.iload_n 1, 1) := by decide +kernel
theorem dX2_part_1 : decode cX2_part 1 = .ok (.bipush 16, 2) := by decide +kernel
theorem dX2_part_3 : decode cX2_part 3 = .ok (.invokestatic 77, 3) := by decide +kernel
theorem dX2_part_6 : decode cX2_part 6 = .ok (.ifCond .eq 16, 3) := by decide +kernel
theorem dX2_part_9 : decode cX2_part 9 = .ok (.iload_n 3, 1) := by decide +kernel
theorem dX2_part_10 : decode cX2_part 10 = .ok (.bipush 16, 2) := by decide +kernel
theorem dX2_part_12 : decode cX2_part 12 = .ok (.invokestatic 77, 3) := by decide +kernel
theorem dX2_part_15 : decode cX2_part 15 = .ok (.ifCond .eq 7, 3) := by decide +kernel
theorem dX2_part_18 : decode cX2_part 18 = .ok (.iconst 1, 1) := by decide +kernel
theorem dX2_part_19 : decode cX2_part 19 = .ok (.goto 4, 3) := by decide +kernel
theorem dX2_part_22 : decode cX2_part 22 = .ok (.iconst 0, 1) := by decide +kernel
theorem dX2_part_23 : decode cX2_part 23 = .ok (.istore 4, 2) := by decide +kernel
theorem dX2_part_25 : decode cX2_part 25 = .ok (.aload_n 0, 1) := by decide +kernel
theorem dX2_part_26 : decode cX2_part 26 = .ok (.iload 4, 2) := by decide +kernel
theorem dX2_part_28 : decode cX2_part 28 = .ok (.ifCond .ne 7, 3) := by decide +kernel
theorem dX2_part_31 : decode cX2_part 31 = .ok (.iconst 1, 1) := by decide +kernel
theorem dX2_part_32 : decode cX2_part 32 = .ok (.goto 64, 3) := by decide +kernel
theorem dX2_part_35 : decode cX2_part 35 = .ok (.iload_n 2, 1) := by decide +kernel
theorem dX2_part_36 : decode cX2_part 36 = .ok (.ifCond .lt 55, 3) := by decide +kernel
theorem dX2_part_39 : decode cX2_part 39 = .ok (.iload_n 1, 1) := by decide +kernel
theorem dX2_part_40 : decode cX2_part 40 = .ok (.iload_n 3, 1) := by decide +kernel
theorem dX2_part_41 : decode cX2_part 41 = .ok (.if_icmp .eq 50, 3) := by decide +kernel
theorem dX2_part_44 : decode cX2_part 44 = .ok (.aload_n 0, 1) := by decide +kernel
theorem dX2_part_45 : decode cX2_part 45 = .ok (.getfield 35, 3) := by decide +kernel
theorem dX2_part_48 : decode cX2_part 48 = .ok (.bipush 32, 2) := by decide +kernel
theorem dX2_part_50 : decode cX2_part 50 = .ok (.iload_n 3, 1) := by decide +kernel
theorem dX2_part_51 : decode cX2_part 51 = .ok (.iadd, 1) := by decide +kernel
theorem dX2_part_52 : decode cX2_part 52 = .ok (.iaload, 1) := by decide +kernel
theorem dX2_part_53 : decode cX2_part 53 = .ok (.ifCond .gt 38, 3) := by decide +kernel
theorem dX2_part_56 : decode cX2_part 56 = .ok (.aload_n 0, 1) := by decide +kernel
theorem dX2_part_57 : decode cX2_part 57 = .ok (.getfield 29, 3) := by decide +kernel
theorem dX2_part_60 : decode cX2_part 60 = .ok (.iload_n 1, 1) := by decide +kernel
theorem dX2_part_61 : decode cX2_part 61 = .ok (.iaload, 1) := by decide +kernel
theorem dX2_part_62 : decode cX2_part 62 = .ok (.aload_n 0, 1) := by decide +kernel
theorem dX2_part_63 : decode cX2_part 63 = .ok (.getfield 29, 3) := by decide +kernel
theorem dX2_part_66 : decode cX2_part 66 = .ok (.iload_n 3, 1) := by decide +kernel
theorem dX2_part_67 : decode cX2_part 67 = .ok (.iaload, 1) := by decide +kernel
theorem dX2_part_68 : decode cX2_part 68 = .ok (.if_icmp .ne 23, 3) := by decide +kernel
theorem dX2_part_71 : decode cX2_part 71 = .ok (.aload_n 0, 1) := by decide +kernel
theorem dX2_part_72 : decode cX2_part 72 = .ok (.getfield 35, 3) := by decide +kernel
theorem dX2_part_75 : decode cX2_part 75 = .ok (.bipush 32, 2) := by decide +kernel
theorem dX2_part_77 : decode cX2_part 77 = .ok (.iload_n 1, 1) := by decide +kernel
theorem dX2_part_78 : decode cX2_part 78 = .ok (.iadd, 1) := by decide +kernel
theorem dX2_part_79 : decode cX2_part 79 = .ok (.iaload, 1) := by decide +kernel
