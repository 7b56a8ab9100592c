theorem dX2_init_0 : decode cX2_init 0 = .ok (.aload_n 0, 1) := by decide +kernel
theorem dX2_init_1 : decode cX2_init 1 = .ok (.invokespecial 1, 3) := by decide +kernel
theorem dX2_init_4 : decode cX2_init 4 = .ok (.aload_n 0, 1) := by decide +kernel
theorem dX2_init_5 : decode cX2_init 5 = .ok (.sipush 10000, 3) := by decide +kernel
theorem dX2_init_8 : decode cX2_init 8 = .ok (.putfield 7, 3) := by decide +kernel
theorem dX2_init_11 : decode cX2_init 11 = .ok (.aload_n 0, 1) := by decide +kernel
theorem dX2_init_12 : decode cX2_init 12 = .ok (.bipush 8, 2) := by decide +kernel
theorem dX2_init_14 : decode cX2_init 14 = .ok (.newarray .int, 2) := by decide +kernel
theorem dX2_init_16 : decode cX2_init 16 = .ok (.putfield 13, 3) := by decide +kernel
theorem dX2_init_19 : decode cX2_init 19 = .ok (.aload_n 0, 1) := by decide +kernel
theorem dX2_init_20 : decode cX2_init 20 = .ok (.bipush 8, 2) := by decide +kernel
theorem dX2_init_22 : decode cX2_init 22 = .ok (.newarray .int, 2) := by decide +kernel
theorem dX2_init_24 : decode cX2_init 24 = .ok (.putfield 17, 3) := by decide +kernel
theorem dX2_init_27 : decode cX2_init 27 = .ok (.aload_n 0, 1) := by decide +kernel
theorem dX2_init_28 : decode cX2_init 28 = .ok (.bipush 8, 2) := by decide +kernel
theorem dX2_init_30 : decode cX2_init 30 = .ok (.newarray .int, 2) := by decide +kernel
theorem dX2_init_32 : decode cX2_init 32 = .ok (.putfield 20, 3) := by decide +kernel
theorem dX2_init_35 : decode cX2_init 35 = .ok (.aload_n 0, 1) := by decide +kernel
theorem dX2_init_36 : decode cX2_init 36 = .ok (.bipush 32, 2) := by decide +kernel
theorem dX2_init_38 : decode cX2_init 38 = .ok (.newarray .int, 2) := by decide +kernel
theorem dX2_init_40 : decode cX2_init 40 = .ok (.putfield 23, 3) := by decide +kernel
theorem dX2_init_43 : decode cX2_init 43 = .ok (.aload_n 0, 1) := by decide +kernel
theorem dX2_init_44 : decode cX2_init 44 = .ok (.bipush 32, 2) := by decide +kernel
theorem dX2_init_46 : decode cX2_init 46 = .ok (.newarray .int, 2) := by decide +kernel
theorem dX2_init_48 : decode cX2_init 48 = .ok (.putfield 26, 3) := by decide +kernel
theorem dX2_init_51 : decode cX2_init 51 = .ok (.aload_n 0, 1) := by decide +kernel
theorem dX2_init_52 : decode cX2_init 52 = .ok (.bipush 16, 2) := by decide +kernel
theorem dX2_init_54 : decode cX2_init 54 = .ok (.newarray .int, 2) := by decide +kernel
theorem dX2_init_56 : decode cX2_init 56 = .ok (.putfield 29, 3) := by decide +kernel
theorem dX2_init_59 : decode cX2_init 59 = .ok (.aload_n 0, 1) := by decide +kernel
theorem dX2_init_60 : decode cX2_init 60 = .ok (.bipush 16, 2) := by decide +kernel
theorem dX2_init_62 : decode cX2_init 62 = .ok (.newarray .int, 2) := by decide +kernel
theorem dX2_init_64 : decode cX2_init 64 = .ok (.putfield 32, 3) := by decide +kernel
theorem dX2_init_67 : decode cX2_init 67 = .ok (.aload_n 0, 1) := by decide +kernel
theorem dX2_init_68 : decode cX2_init 68 = .ok (.bipush 49, 2) := by decide +kernel
theorem dX2_init_70 : decode cX2_init 70 = .ok (.newarray .int, 2) := by decide +kernel
theorem dX2_init_72 : decode cX2_init 72 = .ok (.putfield 35, 3) := by decide +kernel
theorem dX2_init_75 : decode cX2_init 75 = .ok (.aload_n 0, 1) := by decide +kernel
theorem dX2_init_76 : decode cX2_init 76 = .ok (.ldc 38, 2) := by decide +kernel
theorem dX2_init_78 : decode cX2_init 78 = .ok (.newarray .int, 2) := by decide +kernel
theorem dX2_init_80 : decode cX2_init 80 = .ok (.putfield 39, 3) := by decide +kernel
theorem dX2_init_83 : decode cX2_init 83 = .ok (.aload_n 0, 1) := by decide +kernel
theorem dX2_init_84 : decode cX2_init 84 = .ok (.ldc 38, 2) := by decide +kernel
theorem dX2_init_86 : decode cX2_init 86 = .ok (.newarray .int, 2) := by decide +kernel
theorem dX2_init_88 : decode cX2_init 88 = .ok (.putfield 42, 3) := by decide +kernel
theorem dX2_init_91 : decode cX2_init 91 = .ok (.aload_n 0, 1) := by decide +kernel
theorem dX2_init_92 : decode cX2_init 92 = .ok (.iconst 4, 1) := by decide +kernel
theorem dX2_init_93 : decode cX2_init 93 = .ok (.newarray .int, 2) := by decide +kernel
theorem dX2_init_95 : decode cX2_init 95 = .ok (.putfield 45, 3) := by decide +kernel
theorem dX2_init_98 : decode cX2_init 98 = .ok (.aload_n 0, 1) := by decide +kernel
theorem dX2_init_99 : decode cX2_init 99 = .ok (.iconst 4, 1) := by decide +kernel
theorem dX2_init_100 : decode cX2_init 100 = .ok (.newarray .int, 2) := by decide +kernel
theorem dX2_init_102 : decode cX2_init 102 = .ok (.putfield 48, 3) := by decide +kernel
theorem dX2_init_105 : decode cX2_init 105 = .ok (.aload_n 0, 1) := by decide +kernel
theorem dX2_init_106 : decode cX2_init 106 = .ok (.iconst 4, 1) := by decide +kernel
theorem dX2_init_107 : decode cX2_init 107 = .ok (.newarray .int, 2) := by decide +kernel
theorem dX2_init_109 : decode cX2_init 109 = .ok (.putfield 51, 3) := by decide +kernel
theorem dX2_init_112 : decode cX2_init 112 = .ok (.iconst 0, 1) := by decide +kernel
theorem dX2_init_113 : decode cX2_init 113 = .ok (.istore_n 1, 1) := by decide +kernel
theorem dX2_init_114 : decode cX2_init 114 = .ok (.iload_n 1, 1) := by decide +kernel
theorem dX2_init_115 : decode cX2_init 115 = .ok (.bipush 32, 2) := by decide +kernel
theorem dX2_init_117 : decode cX2_init 117 = .ok (.if_icmp .ge 16, 3) := by decide +kernel
theorem dX2_init_120 : decode cX2_init 120 = .ok (.aload_n 0, 1) := by decide +kernel
theorem dX2_init_121 : decode cX2_init 121 = .ok (.getfield 26, 3) := by decide +kernel
theorem dX2_init_124 : decode cX2_init 124 = .ok (.iload_n 1, 1) := by decide +kernel
theorem dX2_init_125 : decode cX2_init 125 = .ok (.iconst (-1), 1) := by decide +kernel
theorem dX2_init_126 : decode cX2_init 126 = .ok (.iastore, 1) := by decide +kernel
theorem dX2_init_127 : decode cX2_init 127 = .ok (.iinc 1 1, 3) := by decide +kernel
theorem dX2_init_130 : decode cX2_init 130 = .ok (.goto (-16), 3) := by decide +kernel
theorem dX2_init_133 : decode cX2_init 133 = .ok (.return_, 1) := by decide +kernel
theorem dX2_thrown_0 : decode cX2_thrown 0 = .ok (.aload_n 0, 1) := by decide +kernel
theorem dX2_thrown_1 : decode cX2_thrown 1 = .ok (.getfield 54, 3) := by decide +kernel
theorem dX2_thrown_4 : decode cX2_thrown 4 = .ok (.ireturn, 1) := by decide +kernel
theorem dX2_in_0 : decode cX2_in 0 = .ok (.iload_n 0, 1) := by decide +kernel
theorem dX2_in_1 : decode cX2_in 1 = .ok (.ifCond .lt 12, 3) := by decide +kernel
theorem dX2_in_4 : decode cX2_in 4 = .ok (.iload_n 0, 1) := by decide +kernel
theorem dX2_in_5 : decode cX2_in 5 = .ok (.iload_n 1, 1) := by decide +kernel
theorem dX2_in_6 : decode cX2_in 6 = .ok (.if_icmp .ge 7, 3) := by decide +kernel
theorem dX2_in_9 : decode cX2_in 9 = .ok (.iconst 1, 1) := by decide +kernel
theorem dX2_in_10 : decode cX2_in 10 = .ok (.goto 4, 3) := by decide +kernel
theorem dX2_in_13 : decode cX2_in 13 = .ok (.iconst 0, 1) := by decide +kernel
theorem dX2_in_14 : decode cX2_in 14 = .ok (.ireturn, 1) := by decide +kernel
theorem dX2_packets_0 : decode cX2_packets 0 = .ok (.iconst 0, 1) := by decide +kernel
theorem dX2_packets_1 : decode cX2_packets 1 = .ok (.istore_n 2, 1) := by decide +kernel
theorem dX2_packets_2 : decode cX2_packets 2 = .ok (.iconst 0, 1) := by decide +kernel
theorem dX2_packets_3 : decode cX2_packets 3 = .ok (.istore_n 3, 1) := by decide +kernel
theorem dX2_packets_4 : decode cX2_packets 4 = .ok (.iload_n 3, 1) := by decide +kernel
theorem dX2_packets_5 : decode cX2_packets 5 = .ok (.aload_n 0, 1) := by decide +kernel
theorem dX2_packets_6 : decode cX2_packets 6 = .ok (.getfield 35, 3) := by decide +kernel
theorem dX2_packets_9 : decode cX2_packets 9 = .ok (.iload_n 1, 1) := by decide +kernel
theorem dX2_packets_10 : decode cX2_packets 10 = .ok (.iaload, 1) := by decide +kernel
theorem dX2_packets_11 : decode cX2_packets 11 = .ok (.if_icmp .ge 21, 3) := by decide +kernel
theorem dX2_packets_14 : decode cX2_packets 14 = .ok (.aload_n 0, 1) := by decide +kernel
theorem dX2_packets_15 : decode cX2_packets 15 = .ok (.iload_n 1, 1) := by decide +kernel
theorem dX2_packets_16 : decode cX2_packets 16 = .ok (.iload_n 3, 1) := by decide +kernel
theorem dX2_packets_17 : decode cX2_packets 17 = .ok (.invokevirtual 57, 3) := by decide +kernel
theorem dX2_packets_20 : decode cX2_packets 20 = .ok (.ifCond .eq 6, 3) := by decide +kernel
theorem dX2_packets_23 : decode cX2_packets 23 = .ok (.iinc 2 1, 3) := by decide +kernel
theorem dX2_packets_26 : decode cX2_packets 26 = .ok (.iinc 3 1, 3) := by decide +kernel
theorem dX2_packets_29 : decode cX2_packets 29 = .ok (.goto (-25), 3) := by decide +kernel
theorem dX2_packets_32 : decode cX2_packets 32 = .ok (.iload_n 2, 1) := by decide +kernel
theorem dX2_packets_33 : decode cX2_packets 33 = .ok (.ireturn, 1) := by decide +kernel
theorem dX2_isFirst_0 : decode cX2_isFirst 0 = .ok (.iload_n 2, 1) := by decide +kernel
theorem dX2_isFirst_1 : decode cX2_isFirst 1 = .ok (.ifCond .eq 61, 3) := by decide +kernel
theorem dX2_isFirst_4 : decode cX2_isFirst 4 = .ok (.aload_n 0, 1) := by decide +kernel
theorem dX2_isFirst_5 : decode cX2_isFirst 5 = .ok (.getfield 39, 3) := by decide +kernel
theorem dX2_isFirst_8 : decode cX2_isFirst 8 = .ok (.sipush 1000, 3) := by decide +kernel
theorem dX2_isFirst_11 : decode cX2_isFirst 11 = .ok (.iload_n 1, 1) := by decide +kernel
theorem dX2_isFirst_12 : decode cX2_isFirst 12 = .ok (.imul, 1) := by decide +kernel
theorem dX2_isFirst_13 : decode cX2_isFirst 13 = .ok (.iload_n 2, 1) := by decide +kernel
theorem dX2_isFirst_14 : decode cX2_isFirst 14 = .ok (.iadd, 1) := by decide +kernel
theorem dX2_isFirst_15 : decode cX2_isFirst 15 = .ok (.iaload, 1) := by decide +kernel
theorem dX2_isFirst_16 : decode cX2_isFirst 16 = .ok (.aload_n 0, 1) := by decide +kernel
theorem dX2_isFirst_17 : decode cX2_isFirst 17 = .ok (.getfield 39, 3) := by decide +kernel
theorem dX2_isFirst_20 : decode cX2_isFirst 20 = .ok (.sipush 1000, 3) := by decide +kernel
theorem dX2_isFirst_23 : decode cX2_isFirst 23 = .ok (.iload_n 1, 1) := by decide +kernel
theorem dX2_isFirst_24 : decode cX2_isFirst 24 = .ok (.imul, 1) := by decide +kernel
theorem dX2_isFirst_25 : decode cX2_isFirst 25 = .ok (.iload_n 2, 1) := by decide +kernel
theorem dX2_isFirst_26 : decode cX2_isFirst 26 = .ok (.iadd, 1) := by decide +kernel
theorem dX2_isFirst_27 : decode cX2_isFirst 27 = .ok (.iconst 1, 1) := by decide +kernel
theorem dX2_isFirst_28 : decode cX2_isFirst 28 = .ok (.isub, 1) := by decide +kernel
theorem dX2_isFirst_29 : decode cX2_isFirst 29 = .ok (.iaload, 1) := by decide +kernel
theorem dX2_isFirst_30 : decode cX2_isFirst 30 = .ok (.if_icmp .ne 32, 3) := by decide +kernel
theorem dX2_isFirst_33 : decode cX2_isFirst 33 = .ok (.aload_n 0, 1) := by decide +kernel
theorem dX2_isFirst_34 : decode cX2_isFirst 34 = .ok (.getfield 42, 3) := by decide +kernel
theorem dX2_isFirst_37 : decode cX2_isFirst 37 = .ok (.sipush 1000, 3) := by decide +kernel
theorem dX2_isFirst_40 : decode cX2_isFirst 40 = .ok (.iload_n 1, 1) := by decide +kernel
theorem dX2_isFirst_41 : decode cX2_isFirst 41 = .ok (.imul, 1) := by decide +kernel
theorem dX2_isFirst_42 : decode cX2_isFirst 42 = .ok (.iload_n 2, 1) := by decide +kernel
theorem dX2_isFirst_43 : decode cX2_isFirst 43 = .ok (.iadd, 1) := by decide +kernel
theorem dX2_isFirst_44 : decode cX2_isFirst 44 = .ok (.iaload, 1) := by decide +kernel
theorem dX2_isFirst_45 : decode cX2_isFirst 45 = .ok (.aload_n 0, 1) := by decide +kernel
theorem dX2_isFirst_46 : decode cX2_isFirst 46 = .ok (.getfield 42, 3) := by decide +kernel
theorem dX2_isFirst_49 : decode cX2_isFirst 49 = .ok (.sipush 1000, 3) := by decide +kernel
theorem dX2_isFirst_52 : decode cX2_isFirst 52 = .ok (.iload_n 1, 1) := by decide +kernel
theorem dX2_isFirst_53 : decode cX2_isFirst 53 = .ok (.imul, 1) := by decide +kernel
theorem dX2_isFirst_54 : decode cX2_isFirst 54 = .ok (.iload_n 2, 1) := by decide +kernel
theorem dX2_isFirst_55 : decode cX2_isFirst 55 = .ok (.iadd, 1) := by decide +kernel
theorem dX2_isFirst_56 : decode cX2_isFirst 56 = .ok (.iconst 1, 1) := by decide +kernel
theorem dX2_isFirst_57 : decode cX2_isFirst 57 = .ok (.isub, 1) := by decide +kernel
theorem dX2_isFirst_58 : decode cX2_isFirst 58 = .ok (.iaload, 1) := by decide +kernel
theorem dX2_isFirst_59 : decode cX2_isFirst 59 = .ok (.if_icmp .eq 7, 3) := by decide +kernel
theorem dX2_isFirst_62 : decode cX2_isFirst 62 = .ok (.iconst 1, 1) := by decide +kernel
theorem dX2_isFirst_63 : decode cX2_isFirst 63 = .ok (.goto 4, 3) := by decide +kernel
theorem dX2_isFirst_66 : decode cX2_isFirst 66 = .ok (.iconst 0, 1) := by decide +kernel
theorem dX2_isFirst_67 : decode cX2_isFirst 67 = .ok (.ireturn, 1) := by decide +kernel
theorem dX2_put_0 : decode cX2_put 0 = .ok (.sipush 1000, 3) := by decide +kernel
theorem dX2_put_3 : decode cX2_put 3 = .ok (.iload_n 1, 1) := by decide +kernel
theorem dX2_put_4 : decode cX2_put 4 = .ok (.imul, 1) := by decide +kernel
theorem dX2_put_5 : decode cX2_put 5 = .ok (.aload_n 0, 1) := by decide +kernel
theorem dX2_put_6 : decode cX2_put 6 = .ok (.getfield 35, 3) := by decide +kernel
theorem dX2_put_9 : decode cX2_put 9 = .ok (.iload_n 1, 1) := by decide +kernel
theorem dX2_put_10 : decode cX2_put 10 = .ok (.iaload, 1) := by decide +kernel
theorem dX2_put_11 : decode cX2_put 11 = .ok (.iadd, 1) := by decide +kernel
theorem dX2_put_12 : decode cX2_put 12 = .ok (.iconst 1, 1) := by decide +kernel
theorem dX2_put_13 : decode cX2_put 13 = .ok (.isub, 1) := by decide +kernel
theorem dX2_put_14 : decode cX2_put 14 = .ok (.istore 4, 2) := by decide +kernel
theorem dX2_put_16 : decode cX2_put 16 = .ok (.aload_n 0, 1) := by decide +kernel
theorem dX2_put_17 : decode cX2_put 17 = .ok (.getfield 35, 3) := by decide +kernel
theorem dX2_put_20 : decode cX2_put 20 = .ok (.iload_n 1, 1) := by decide +kernel
theorem dX2_put_21 : decode cX2_put 21 = .ok (.iaload, 1) := by decide +kernel
theorem dX2_put_22 : decode cX2_put 22 = .ok (.ifCond .le 39, 3) := by decide +kernel
theorem dX2_put_25 : decode cX2_put 25 = .ok (.aload_n 0, 1) := by decide +kernel
theorem dX2_put_26 : decode cX2_put 26 = .ok (.getfield 39, 3) := by decide +kernel
theorem dX2_put_29 : decode cX2_put 29 = .ok (.iload 4, 2) := by decide +kernel
theorem dX2_put_31 : decode cX2_put 31 = .ok (.iaload, 1) := by decide +kernel
theorem dX2_put_32 : decode cX2_put 32 = .ok (.iload_n 2, 1) := by decide +kernel
theorem dX2_put_33 : decode cX2_put 33 = .ok (.if_icmp .ne 14, 3) := by decide +kernel
theorem dX2_put_36 : decode cX2_put 36 = .ok (.aload_n 0, 1) := by decide +kernel
theorem dX2_put_37 : decode cX2_put 37 = .ok (.getfield 42, 3) := by decide +kernel
theorem dX2_put_40 : decode cX2_put 40 = .ok (.iload 4, 2) := by decide +kernel
theorem dX2_put_42 : decode cX2_put 42 = .ok (.iaload, 1) := by decide +kernel
theorem dX2_put_43 : decode cX2_put 43 = .ok (.iload_n 3, 1) := by decide +kernel
theorem dX2_put_44 : decode cX2_put 44 = .ok (.if_icmp .eq 17, 3) := by decide +kernel
theorem dX2_put_47 : decode cX2_put 47 = .ok (.aload_n 0, 1) := by decide +kernel
theorem dX2_put_48 : decode cX2_put 48 = .ok (.iload_n 1, 1) := by decide +kernel
theorem dX2_put_49 : decode cX2_put 49 = .ok (.invokevirtual 61, 3) := by decide +kernel
theorem dX2_put_52 : decode cX2_put 52 = .ok (.bipush 8, 2) := by decide +kernel
theorem dX2_put_54 : decode cX2_put 54 = .ok (.if_icmp .ne 7, 3) := by decide +kernel
theorem dX2_put_57 : decode cX2_put 57 = .ok (.iconst 1, 1) := by decide +kernel
theorem dX2_put_58 : decode cX2_put 58 = .ok (.goto 4, 3) := by decide +kernel
theorem dX2_put_61 : decode cX2_put 61 = .ok (.iconst 0, 1) := by decide +kernel
theorem dX2_put_62 : decode cX2_put 62 = .ok (.istore 5, 2) := by decide +kernel
theorem dX2_put_64 : decode cX2_put 64 = .ok (.aload_n 0, 1) := by decide +kernel
theorem dX2_put_65 : decode cX2_put 65 = .ok (.getfield 39, 3) := by decide +kernel
theorem dX2_put_68 : decode cX2_put 68 = .ok (.iload 4, 2) := by decide +kernel
theorem dX2_put_70 : decode cX2_put 70 = .ok (.iconst 1, 1) := by decide +kernel
theorem dX2_put_71 : decode cX2_put 71 = .ok (.iadd, 1) := by decide +kernel
theorem dX2_put_72 : decode cX2_put 72 = .ok (.iload 5, 2) := by decide +kernel
theorem dX2_put_74 : decode cX2_put 74 = .ok (.ifCond .eq 13, 3) := by decide +kernel
theorem dX2_put_77 : decode cX2_put 77 = .ok (.aload_n 0, 1) := by decide +kernel
theorem dX2_put_78 : decode cX2_put 78 = .ok (.getfield 39, 3) := by decide +kernel
theorem dX2_put_81 : decode cX2_put 81 = .ok (.iload 4, 2) := by decide +kernel
theorem dX2_put_83 : decode cX2_put 83 = .ok (.iaload, 1) := by decide +kernel
theorem dX2_put_84 : decode cX2_put 84 = .ok (.goto 4, 3) := by decide +kernel
theorem dX2_put_87 : decode cX2_put 87 = .ok (.iload_n 2, 1) := by decide +kernel
theorem dX2_put_88 : decode cX2_put 88 = .ok (.iastore, 1) := by decide +kernel
theorem dX2_put_89 : decode cX2_put 89 = .ok (.aload_n 0, 1) := by decide +kernel
theorem dX2_put_90 : decode cX2_put 90 = .ok (.getfield 42, 3) := by decide +kernel
theorem dX2_put_93 : decode cX2_put 93 = .ok (.iload 4, 2) := by decide +kernel
theorem dX2_put_95 : decode cX2_put 95 = .ok (.iconst 1, 1) := by decide +kernel
theorem dX2_put_96 : decode cX2_put 96 = .ok (.iadd, 1) := by decide +kernel
theorem dX2_put_97 : decode cX2_put 97 = .ok (.iload 5, 2) := by decide +kernel
theorem dX2_put_99 : decode cX2_put 99 = .ok (.ifCond .eq 13, 3) := by decide +kernel
theorem dX2_put_102 : decode cX2_put 102 = .ok (.aload_n 0, 1) := by decide +kernel
theorem dX2_put_103 : decode cX2_put 103 = .ok (.getfield 42, 3) := by decide +kernel
theorem dX2_put_106 : decode cX2_put 106 = .ok (.iload 4, 2) := by decide +kernel
theorem dX2_put_108 : decode cX2_put 108 = .ok (.iaload, 1) := by decide +kernel
theorem dX2_put_109 : decode cX2_put 109 = .ok (.goto 4, 3) := by decide +kernel
theorem dX2_put_112 : decode cX2_put 112 = .ok (.iload_n 3, 1) := by decide +kernel
theorem dX2_put_113 : decode cX2_put 113 = .ok (.iastore, 1) := by decide +kernel
theorem dX2_put_114 : decode cX2_put 114 = .ok (.aload_n 0, 1) := by decide +kernel
theorem dX2_put_115 : decode cX2_put 115 = .ok (.getfield 35, 3) := by decide +kernel
theorem dX2_put_118 : decode cX2_put 118 = .ok (.iload_n 1, 1) := by decide +kernel
theorem dX2_put_119 : decode cX2_put 119 = .ok (.dup2, 1) := by decide +kernel
theorem dX2_put_120 : decode cX2_put 120 = .ok (.iaload, 1) := by decide +kernel
theorem dX2_put_121 : decode cX2_put 121 = .ok (.iconst 1, 1) := by decide +kernel
theorem dX2_put_122 : decode cX2_put 122 = .ok (.iadd, 1) := by decide +kernel
theorem dX2_put_123 : decode cX2_put 123 = .ok (.iastore, 1) := by decide +kernel
theorem dX2_put_124 : decode cX2_put 124 = .ok (.return_, 1) := by decide +kernel
theorem dX2_move_0 : decode cX2_move 0 = .ok (.aload_n 0, 1) := by decide +kernel
theorem dX2_move_1 : decode cX2_move 1 = .ok (.getfield 39, 3) := by decide +kernel
theorem dX2_move_4 : decode cX2_move 4 = .ok (.sipush 1000, 3) := by decide +kernel
theorem dX2_move_7 : decode cX2_move 7 = .ok (.iload_n 1, 1) := by decide +kernel
theorem dX2_move_8 : decode cX2_move 8 = .ok (.imul, 1) := by decide +kernel
theorem dX2_move_9 : decode cX2_move 9 = .ok (.iaload, 1) := by decide +kernel
theorem dX2_move_10 : decode cX2_move 10 = .ok (.istore_n 3, 1) := by decide +kernel
theorem dX2_move_11 : decode cX2_move 11 = .ok (.aload_n 0, 1) := by decide +kernel
theorem dX2_move_12 : decode cX2_move 12 = .ok (.getfield 42, 3) := by decide +kernel
theorem dX2_move_15 : decode cX2_move 15 = .ok (.sipush 1000, 3) := by decide +kernel
theorem dX2_move_18 : decode cX2_move 18 = .ok (.iload_n 1, 1) := by decide +kernel
theorem dX2_move_19 : decode cX2_move 19 = .ok (.imul, 1) := by decide +kernel
theorem dX2_move_20 : decode cX2_move 20 = .ok (.iaload, 1) := by decide +kernel
theorem dX2_move_21 : decode cX2_move 21 = .ok (.istore 4, 2) := by decide +kernel
theorem dX2_move_23 : decode cX2_move 23 = .ok (.aload_n 0, 1) := by decide +kernel
theorem dX2_move_24 : decode cX2_move 24 = .ok (.iload_n 1, 1) := by decide +kernel
theorem dX2_move_25 : decode cX2_move 25 = .ok (.invokevirtual 65, 3) := by decide +kernel
theorem dX2_move_28 : decode cX2_move 28 = .ok (.aload_n 0, 1) := by decide +kernel
theorem dX2_move_29 : decode cX2_move 29 = .ok (.iload_n 2, 1) := by decide +kernel
theorem dX2_move_30 : decode cX2_move 30 = .ok (.iload_n 3, 1) := by decide +kernel
theorem dX2_move_31 : decode cX2_move 31 = .ok (.iload 4, 2) := by decide +kernel
theorem dX2_move_33 : decode cX2_move 33 = .ok (.invokevirtual 69, 3) := by decide +kernel
theorem dX2_move_36 : decode cX2_move 36 = .ok (.return_, 1) := by decide +kernel
theorem dX2_drop_0 : decode cX2_drop 0 = .ok (.aload_n 0, 1) := by decide +kernel
theorem dX2_drop_1 : decode cX2_drop 1 = .ok (.getfield 35, 3) := by decide +kernel
theorem dX2_drop_4 : decode cX2_drop 4 = .ok (.iload_n 1, 1) := by decide +kernel
theorem dX2_drop_5 : decode cX2_drop 5 = .ok (.dup2, 1) := by decide +kernel
theorem dX2_drop_6 : decode cX2_drop 6 = .ok (.iaload, 1) := by decide +kernel
theorem dX2_drop_7 : decode cX2_drop 7 = .ok (.iconst 1, 1) := by decide +kernel
theorem dX2_drop_8 : decode cX2_drop 8 = .ok (.isub, 1) := by decide +kernel
theorem dX2_drop_9 : decode cX2_drop 9 = .ok (.iastore, 1) := by decide +kernel
theorem dX2_drop_10 : decode cX2_drop 10 = .ok (.sipush 1000, 3) := by decide +kernel
theorem dX2_drop_13 : decode cX2_drop 13 = .ok (.iload_n 1, 1) := by decide +kernel
theorem dX2_drop_14 : decode cX2_drop 14 = .ok (.imul, 1) := by decide +kernel
theorem dX2_drop_15 : decode cX2_drop 15 = .ok (.istore_n 2, 1) := by decide +kernel
theorem dX2_drop_16 : decode cX2_drop 16 = .ok (.iload_n 2, 1) := by decide +kernel
theorem dX2_drop_17 : decode cX2_drop 17 = .ok (.sipush 1000, 3) := by decide +kernel
theorem dX2_drop_20 : decode cX2_drop 20 = .ok (.iload_n 1, 1) := by decide +kernel
theorem dX2_drop_21 : decode cX2_drop 21 = .ok (.imul, 1) := by decide +kernel
theorem dX2_drop_22 : decode cX2_drop 22 = .ok (.aload_n 0, 1) := by decide +kernel
theorem dX2_drop_23 : decode cX2_drop 23 = .ok (.getfield 35, 3) := by decide +kernel
theorem dX2_drop_26 : decode cX2_drop 26 = .ok (.iload_n 1, 1) := by decide +kernel
theorem dX2_drop_27 : decode cX2_drop 27 = .ok (.iaload, 1) := by decide +kernel
theorem dX2_drop_28 : decode cX2_drop 28 = .ok (.iadd, 1) := by decide +kernel
theorem dX2_drop_29 : decode cX2_drop 29 = .ok (.if_icmp .ge 37, 3) := by decide +kernel
theorem dX2_drop_32 : decode cX2_drop 32 = .ok (.aload_n 0, 1) := by decide +kernel
theorem dX2_drop_33 : decode cX2_drop 33 = .ok (.getfield 39, 3) := by decide +kernel
theorem dX2_drop_36 : decode cX2_drop 36 = .ok (.iload_n 2, 1) := by decide +kernel
theorem dX2_drop_37 : decode cX2_drop 37 = .ok (.aload_n 0, 1) := by decide +kernel
theorem dX2_drop_38 : decode cX2_drop 38 = .ok (.getfield 39, 3) := by decide +kernel
theorem dX2_drop_41 : decode cX2_drop 41 = .ok (.iload_n 2, 1) := by decide +kernel
theorem dX2_drop_42 : decode cX2_drop 42 = .ok (.iconst 1, 1) := by decide +kernel
theorem dX2_drop_43 : decode cX2_drop 43 = .ok (.iadd, 1) := by decide +kernel
theorem dX2_drop_44 : decode cX2_drop 44 = .ok (.iaload, 1) := by decide +kernel
theorem dX2_drop_45 : decode cX2_drop 45 = .ok (.iastore, 1) := by decide +kernel
theorem dX2_drop_46 : decode cX2_drop 46 = .ok (.aload_n 0, 1) := by decide +kernel
theorem dX2_drop_47 : decode cX2_drop 47 = .ok (.getfield 42, 3) := by decide +kernel
theorem dX2_drop_50 : decode cX2_drop 50 = .ok (.iload_n 2, 1) := by decide +kernel
theorem dX2_drop_51 : decode cX2_drop 51 = .ok (.aload_n 0, 1) := by decide +kernel
theorem dX2_drop_52 : decode cX2_drop 52 = .ok (.getfield 42, 3) := by decide +kernel
theorem dX2_drop_55 : decode cX2_drop 55 = .ok (.iload_n 2, 1) := by decide +kernel
theorem dX2_drop_56 : decode cX2_drop 56 = .ok (.iconst 1, 1) := by decide +kernel
theorem dX2_drop_57 : decode cX2_drop 57 = .ok (.iadd, 1) := by decide +kernel
theorem dX2_drop_58 : decode cX2_drop 58 = .ok (.iaload, 1) := by decide +kernel
theorem dX2_drop_59 : decode cX2_drop 59 = .ok (.iastore, 1) := by decide +kernel
theorem dX2_drop_60 : decode cX2_drop 60 = .ok (.iinc 2 1, 3) := by decide +kernel
theorem dX2_drop_63 : decode cX2_drop 63 = .ok (.goto (-47), 3) := by decide +kernel
theorem dX2_drop_66 : decode cX2_drop 66 = .ok (.return_, 1) := by decide +kernel
theorem dX2_produce_0 : decode cX2_produce 0 = .ok (.aload_n 0, 1) := by decide +kernel
theorem dX2_produce_1 : decode cX2_produce 1 = .ok (.getfield 35, 3) := by decide +kernel
theorem dX2_produce_4 : decode cX2_produce 4 = .ok (.iconst 4, 1) := by decide +kernel
theorem dX2_produce_5 : decode cX2_produce 5 = .ok (.iload_n 1, 1) := by decide +kernel
theorem dX2_produce_6 : decode cX2_produce 6 = .ok (.imul, 1) := by decide +kernel
theorem dX2_produce_7 : decode cX2_produce 7 = .ok (.iload_n 2, 1) := by decide +kernel
theorem dX2_produce_8 : decode cX2_produce 8 = .ok (.iadd, 1) := by decide +kernel
theorem dX2_produce_9 : decode cX2_produce 9 = .ok (.iaload, 1) := by decide +kernel
theorem dX2_produce_10 : decode cX2_produce 10 = .ok (.sipush 999, 3) := by decide +kernel
theorem dX2_produce_13 : decode cX2_produce 13 = .ok (.if_icmp .eq 14, 3) := by decide +kernel
theorem dX2_produce_16 : decode cX2_produce 16 = .ok (.aload_n 0, 1) := by decide +kernel
theorem dX2_produce_17 : decode cX2_produce 17 = .ok (.getfield 45, 3) := by decide +kernel
theorem dX2_produce_20 : decode cX2_produce 20 = .ok (.iload_n 2, 1) := by decide +kernel
theorem dX2_produce_21 : decode cX2_produce 21 = .ok (.iaload, 1) := by decide +kernel
theorem dX2_produce_22 : decode cX2_produce 22 = .ok (.ldc 73, 2) := by decide +kernel
theorem dX2_produce_24 : decode cX2_produce 24 = .ok (.if_icmp .ne 4, 3) := by decide +kernel
theorem dX2_produce_27 : decode cX2_produce 27 = .ok (.return_, 1) := by decide +kernel
theorem dX2_produce_28 : decode cX2_produce 28 = .ok (.aload_n 0, 1) := by decide +kernel
theorem dX2_produce_29 : decode cX2_produce 29 = .ok (.getfield 45, 3) := by decide +kernel
theorem dX2_produce_32 : decode cX2_produce 32 = .ok (.iload_n 2, 1) := by decide +kernel
theorem dX2_produce_33 : decode cX2_produce 33 = .ok (.dup2, 1) := by decide +kernel
theorem dX2_produce_34 : decode cX2_produce 34 = .ok (.iaload, 1) := by decide +kernel
theorem dX2_produce_35 : decode cX2_produce 35 = .ok (.iconst 1, 1) := by decide +kernel
theorem dX2_produce_36 : decode cX2_produce 36 = .ok (.iadd, 1) := by decide +kernel
theorem dX2_produce_37 : decode cX2_produce 37 = .ok (.iastore, 1) := by decide +kernel
theorem dX2_produce_38 : decode cX2_produce 38 = .ok (.aload_n 0, 1) := by decide +kernel
theorem dX2_produce_39 : decode cX2_produce 39 = .ok (.iconst 4, 1) := by decide +kernel
theorem dX2_produce_40 : decode cX2_produce 40 = .ok (.iload_n 1, 1) := by decide +kernel
theorem dX2_produce_41 : decode cX2_produce 41 = .ok (.imul, 1) := by decide +kernel
theorem dX2_produce_42 : decode cX2_produce 42 = .ok (.iload_n 2, 1) := by decide +kernel
theorem dX2_produce_43 : decode cX2_produce 43 = .ok (.iadd, 1) := by decide +kernel
theorem dX2_produce_44 : decode cX2_produce 44 = .ok (.iload_n 1, 1) := by decide +kernel
