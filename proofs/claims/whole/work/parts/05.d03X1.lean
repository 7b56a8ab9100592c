theorem dX1_deliverFrom_47 : decode cX1_deliverFrom 47 = .ok (.aload_n 1, 1) := by decide +kernel
theorem dX1_deliverFrom_48 : decode cX1_deliverFrom 48 = .ok (.iconst 0, 1) := by decide +kernel
theorem dX1_deliverFrom_49 : decode cX1_deliverFrom 49 = .ok (.iconst 0, 1) := by decide +kernel
theorem dX1_deliverFrom_50 : decode cX1_deliverFrom 50 = .ok (.invokevirtual 135, 3) := by decide +kernel
theorem dX1_deliverFrom_53 : decode cX1_deliverFrom 53 = .ok (.aload_n 1, 1) := by decide +kernel
theorem dX1_deliverFrom_54 : decode cX1_deliverFrom 54 = .ok (.iconst 0, 1) := by decide +kernel
theorem dX1_deliverFrom_55 : decode cX1_deliverFrom 55 = .ok (.iconst 2, 1) := by decide +kernel
theorem dX1_deliverFrom_56 : decode cX1_deliverFrom 56 = .ok (.invokevirtual 135, 3) := by decide +kernel
theorem dX1_deliverFrom_59 : decode cX1_deliverFrom 59 = .ok (.iload_n 2, 1) := by decide +kernel
theorem dX1_deliverFrom_60 : decode cX1_deliverFrom 60 = .ok (.invokevirtual 157, 3) := by decide +kernel
theorem dX1_deliverFrom_63 : decode cX1_deliverFrom 63 = .ok (.imul, 1) := by decide +kernel
theorem dX1_deliverFrom_64 : decode cX1_deliverFrom 64 = .ok (.invokevirtual 161, 3) := by decide +kernel
theorem dX1_deliverFrom_67 : decode cX1_deliverFrom 67 = .ok (.aload_n 1, 1) := by decide +kernel
theorem dX1_deliverFrom_68 : decode cX1_deliverFrom 68 = .ok (.iload 8, 2) := by decide +kernel
theorem dX1_deliverFrom_70 : decode cX1_deliverFrom 70 = .ok (.invokevirtual 164, 3) := by decide +kernel
theorem dX1_deliverFrom_73 : decode cX1_deliverFrom 73 = .ok (.iload 6, 2) := by decide +kernel
theorem dX1_deliverFrom_75 : decode cX1_deliverFrom 75 = .ok (.iload 8, 2) := by decide +kernel
theorem dX1_deliverFrom_77 : decode cX1_deliverFrom 77 = .ok (.isub, 1) := by decide +kernel
theorem dX1_deliverFrom_78 : decode cX1_deliverFrom 78 = .ok (.istore 6, 2) := by decide +kernel
theorem dX1_deliverFrom_80 : decode cX1_deliverFrom 80 = .ok (.iinc 7 1, 3) := by decide +kernel
theorem dX1_deliverFrom_83 : decode cX1_deliverFrom 83 = .ok (.goto (-65), 3) := by decide +kernel
theorem dX1_deliverFrom_86 : decode cX1_deliverFrom 86 = .ok (.aload_n 0, 1) := by decide +kernel
theorem dX1_deliverFrom_87 : decode cX1_deliverFrom 87 = .ok (.getfield 43, 3) := by decide +kernel
theorem dX1_deliverFrom_90 : decode cX1_deliverFrom 90 = .ok (.iload_n 3, 1) := by decide +kernel
theorem dX1_deliverFrom_91 : decode cX1_deliverFrom 91 = .ok (.dup2, 1) := by decide +kernel
theorem dX1_deliverFrom_92 : decode cX1_deliverFrom 92 = .ok (.iaload, 1) := by decide +kernel
theorem dX1_deliverFrom_93 : decode cX1_deliverFrom 93 = .ok (.iload 5, 2) := by decide +kernel
theorem dX1_deliverFrom_95 : decode cX1_deliverFrom 95 = .ok (.iadd, 1) := by decide +kernel
theorem dX1_deliverFrom_96 : decode cX1_deliverFrom 96 = .ok (.iastore, 1) := by decide +kernel
theorem dX1_deliverFrom_97 : decode cX1_deliverFrom 97 = .ok (.aload_n 0, 1) := by decide +kernel
theorem dX1_deliverFrom_98 : decode cX1_deliverFrom 98 = .ok (.getfield 19, 3) := by decide +kernel
theorem dX1_deliverFrom_101 : decode cX1_deliverFrom 101 = .ok (.iload_n 2, 1) := by decide +kernel
theorem dX1_deliverFrom_102 : decode cX1_deliverFrom 102 = .ok (.iload_n 3, 1) := by decide +kernel
theorem dX1_deliverFrom_103 : decode cX1_deliverFrom 103 = .ok (.invokestatic 74, 3) := by decide +kernel
theorem dX1_deliverFrom_106 : decode cX1_deliverFrom 106 = .ok (.iaload, 1) := by decide +kernel
theorem dX1_deliverFrom_107 : decode cX1_deliverFrom 107 = .ok (.istore 7, 2) := by decide +kernel
theorem dX1_deliverFrom_109 : decode cX1_deliverFrom 109 = .ok (.iload 7, 2) := by decide +kernel
theorem dX1_deliverFrom_111 : decode cX1_deliverFrom 111 = .ok (.iconst (-1), 1) := by decide +kernel
theorem dX1_deliverFrom_112 : decode cX1_deliverFrom 112 = .ok (.if_icmp .eq 12, 3) := by decide +kernel
theorem dX1_deliverFrom_115 : decode cX1_deliverFrom 115 = .ok (.aload_n 0, 1) := by decide +kernel
theorem dX1_deliverFrom_116 : decode cX1_deliverFrom 116 = .ok (.iload_n 2, 1) := by decide +kernel
theorem dX1_deliverFrom_117 : decode cX1_deliverFrom 117 = .ok (.iload 7, 2) := by decide +kernel
theorem dX1_deliverFrom_119 : decode cX1_deliverFrom 119 = .ok (.iload 5, 2) := by decide +kernel
theorem dX1_deliverFrom_121 : decode cX1_deliverFrom 121 = .ok (.invokevirtual 145, 3) := by decide +kernel
theorem dX1_deliverFrom_124 : decode cX1_deliverFrom 124 = .ok (.iload 5, 2) := by decide +kernel
theorem dX1_deliverFrom_126 : decode cX1_deliverFrom 126 = .ok (.ireturn, 1) := by decide +kernel
theorem dX1_payOfOne_0 : decode cX1_payOfOne 0 = .ok (.aload_n 0, 1) := by decide +kernel
theorem dX1_payOfOne_1 : decode cX1_payOfOne 1 = .ok (.getfield 22, 3) := by decide +kernel
theorem dX1_payOfOne_4 : decode cX1_payOfOne 4 = .ok (.iload_n 1, 1) := by decide +kernel
theorem dX1_payOfOne_5 : decode cX1_payOfOne 5 = .ok (.iaload, 1) := by decide +kernel
theorem dX1_payOfOne_6 : decode cX1_payOfOne 6 = .ok (.aload_n 0, 1) := by decide +kernel
theorem dX1_payOfOne_7 : decode cX1_payOfOne 7 = .ok (.getfield 22, 3) := by decide +kernel
theorem dX1_payOfOne_10 : decode cX1_payOfOne 10 = .ok (.iload_n 3, 1) := by decide +kernel
theorem dX1_payOfOne_11 : decode cX1_payOfOne 11 = .ok (.iaload, 1) := by decide +kernel
theorem dX1_payOfOne_12 : decode cX1_payOfOne 12 = .ok (.isub, 1) := by decide +kernel
theorem dX1_payOfOne_13 : decode cX1_payOfOne 13 = .ok (.invokestatic 167, 3) := by decide +kernel
theorem dX1_payOfOne_16 : decode cX1_payOfOne 16 = .ok (.istore 4, 2) := by decide +kernel
theorem dX1_payOfOne_18 : decode cX1_payOfOne 18 = .ok (.aload_n 0, 1) := by decide +kernel
theorem dX1_payOfOne_19 : decode cX1_payOfOne 19 = .ok (.getfield 25, 3) := by decide +kernel
theorem dX1_payOfOne_22 : decode cX1_payOfOne 22 = .ok (.iload_n 1, 1) := by decide +kernel
theorem dX1_payOfOne_23 : decode cX1_payOfOne 23 = .ok (.iaload, 1) := by decide +kernel
theorem dX1_payOfOne_24 : decode cX1_payOfOne 24 = .ok (.aload_n 0, 1) := by decide +kernel
theorem dX1_payOfOne_25 : decode cX1_payOfOne 25 = .ok (.getfield 25, 3) := by decide +kernel
theorem dX1_payOfOne_28 : decode cX1_payOfOne 28 = .ok (.iload_n 3, 1) := by decide +kernel
theorem dX1_payOfOne_29 : decode cX1_payOfOne 29 = .ok (.iaload, 1) := by decide +kernel
theorem dX1_payOfOne_30 : decode cX1_payOfOne 30 = .ok (.isub, 1) := by decide +kernel
theorem dX1_payOfOne_31 : decode cX1_payOfOne 31 = .ok (.invokestatic 167, 3) := by decide +kernel
theorem dX1_payOfOne_34 : decode cX1_payOfOne 34 = .ok (.istore 5, 2) := by decide +kernel
theorem dX1_payOfOne_36 : decode cX1_payOfOne 36 = .ok (.iconst 1, 1) := by decide +kernel
theorem dX1_payOfOne_37 : decode cX1_payOfOne 37 = .ok (.bipush 64, 2) := by decide +kernel
theorem dX1_payOfOne_39 : decode cX1_payOfOne 39 = .ok (.aload_n 0, 1) := by decide +kernel
theorem dX1_payOfOne_40 : decode cX1_payOfOne 40 = .ok (.getfield 49, 3) := by decide +kernel
theorem dX1_payOfOne_43 : decode cX1_payOfOne 43 = .ok (.iload_n 2, 1) := by decide +kernel
theorem dX1_payOfOne_44 : decode cX1_payOfOne 44 = .ok (.isub, 1) := by decide +kernel
theorem dX1_payOfOne_45 : decode cX1_payOfOne 45 = .ok (.bipush 64, 2) := by decide +kernel
theorem dX1_payOfOne_47 : decode cX1_payOfOne 47 = .ok (.idiv, 1) := by decide +kernel
theorem dX1_payOfOne_48 : decode cX1_payOfOne 48 = .ok (.isub, 1) := by decide +kernel
theorem dX1_payOfOne_49 : decode cX1_payOfOne 49 = .ok (.invokestatic 170, 3) := by decide +kernel
theorem dX1_payOfOne_52 : decode cX1_payOfOne 52 = .ok (.istore 6, 2) := by decide +kernel
theorem dX1_payOfOne_54 : decode cX1_payOfOne 54 = .ok (.iload 4, 2) := by decide +kernel
theorem dX1_payOfOne_56 : decode cX1_payOfOne 56 = .ok (.iload 5, 2) := by decide +kernel
theorem dX1_payOfOne_58 : decode cX1_payOfOne 58 = .ok (.iadd, 1) := by decide +kernel
theorem dX1_payOfOne_59 : decode cX1_payOfOne 59 = .ok (.iload 6, 2) := by decide +kernel
theorem dX1_payOfOne_61 : decode cX1_payOfOne 61 = .ok (.imul, 1) := by decide +kernel
theorem dX1_payOfOne_62 : decode cX1_payOfOne 62 = .ok (.ireturn, 1) := by decide +kernel
theorem dX1_earn_0 : decode cX1_earn 0 = .ok (.ldc 100, 2) := by decide +kernel
theorem dX1_earn_2 : decode cX1_earn 2 = .ok (.aload_n 0, 1) := by decide +kernel
theorem dX1_earn_3 : decode cX1_earn 3 = .ok (.getfield 53, 3) := by decide +kernel
theorem dX1_earn_6 : decode cX1_earn 6 = .ok (.isub, 1) := by decide +kernel
theorem dX1_earn_7 : decode cX1_earn 7 = .ok (.ldc 100, 2) := by decide +kernel
theorem dX1_earn_9 : decode cX1_earn 9 = .ok (.aload_n 0, 1) := by decide +kernel
theorem dX1_earn_10 : decode cX1_earn 10 = .ok (.getfield 56, 3) := by decide +kernel
theorem dX1_earn_13 : decode cX1_earn 13 = .ok (.isub, 1) := by decide +kernel
theorem dX1_earn_14 : decode cX1_earn 14 = .ok (.invokestatic 149, 3) := by decide +kernel
theorem dX1_earn_17 : decode cX1_earn 17 = .ok (.istore_n 2, 1) := by decide +kernel
theorem dX1_earn_18 : decode cX1_earn 18 = .ok (.iload_n 1, 1) := by decide +kernel
theorem dX1_earn_19 : decode cX1_earn 19 = .ok (.iload_n 2, 1) := by decide +kernel
theorem dX1_earn_20 : decode cX1_earn 20 = .ok (.invokestatic 149, 3) := by decide +kernel
theorem dX1_earn_23 : decode cX1_earn 23 = .ok (.istore_n 3, 1) := by decide +kernel
theorem dX1_earn_24 : decode cX1_earn 24 = .ok (.aload_n 0, 1) := by decide +kernel
theorem dX1_earn_25 : decode cX1_earn 25 = .ok (.dup, 1) := by decide +kernel
theorem dX1_earn_26 : decode cX1_earn 26 = .ok (.getfield 53, 3) := by decide +kernel
theorem dX1_earn_29 : decode cX1_earn 29 = .ok (.iload_n 3, 1) := by decide +kernel
theorem dX1_earn_30 : decode cX1_earn 30 = .ok (.iadd, 1) := by decide +kernel
theorem dX1_earn_31 : decode cX1_earn 31 = .ok (.putfield 53, 3) := by decide +kernel
theorem dX1_earn_34 : decode cX1_earn 34 = .ok (.aload_n 0, 1) := by decide +kernel
theorem dX1_earn_35 : decode cX1_earn 35 = .ok (.dup, 1) := by decide +kernel
theorem dX1_earn_36 : decode cX1_earn 36 = .ok (.getfield 56, 3) := by decide +kernel
theorem dX1_earn_39 : decode cX1_earn 39 = .ok (.iload_n 3, 1) := by decide +kernel
theorem dX1_earn_40 : decode cX1_earn 40 = .ok (.iadd, 1) := by decide +kernel
theorem dX1_earn_41 : decode cX1_earn 41 = .ok (.putfield 56, 3) := by decide +kernel
theorem dX1_earn_44 : decode cX1_earn 44 = .ok (.return_, 1) := by decide +kernel
theorem dX1_unitsInStocks_0 : decode cX1_unitsInStocks 0 = .ok (.iconst 0, 1) := by decide +kernel
theorem dX1_unitsInStocks_1 : decode cX1_unitsInStocks 1 = .ok (.istore_n 2, 1) := by decide +kernel
theorem dX1_unitsInStocks_2 : decode cX1_unitsInStocks 2 = .ok (.iconst 0, 1) := by decide +kernel
theorem dX1_unitsInStocks_3 : decode cX1_unitsInStocks 3 = .ok (.istore_n 3, 1) := by decide +kernel
theorem dX1_unitsInStocks_4 : decode cX1_unitsInStocks 4 = .ok (.iload_n 3, 1) := by decide +kernel
theorem dX1_unitsInStocks_5 : decode cX1_unitsInStocks 5 = .ok (.bipush 8, 2) := by decide +kernel
theorem dX1_unitsInStocks_7 : decode cX1_unitsInStocks 7 = .ok (.if_icmp .ge 25, 3) := by decide +kernel
theorem dX1_unitsInStocks_10 : decode cX1_unitsInStocks 10 = .ok (.iload_n 2, 1) := by decide +kernel
theorem dX1_unitsInStocks_11 : decode cX1_unitsInStocks 11 = .ok (.aload_n 0, 1) := by decide +kernel
theorem dX1_unitsInStocks_12 : decode cX1_unitsInStocks 12 = .ok (.getfield 11, 3) := by decide +kernel
theorem dX1_unitsInStocks_15 : decode cX1_unitsInStocks 15 = .ok (.iload_n 3, 1) := by decide +kernel
theorem dX1_unitsInStocks_16 : decode cX1_unitsInStocks 16 = .ok (.iload_n 1, 1) := by decide +kernel
theorem dX1_unitsInStocks_17 : decode cX1_unitsInStocks 17 = .ok (.invokestatic 74, 3) := by decide +kernel
theorem dX1_unitsInStocks_20 : decode cX1_unitsInStocks 20 = .ok (.aaload, 1) := by decide +kernel
theorem dX1_unitsInStocks_21 : decode cX1_unitsInStocks 21 = .ok (.invokevirtual 92, 3) := by decide +kernel
theorem dX1_unitsInStocks_24 : decode cX1_unitsInStocks 24 = .ok (.iadd, 1) := by decide +kernel
theorem dX1_unitsInStocks_25 : decode cX1_unitsInStocks 25 = .ok (.istore_n 2, 1) := by decide +kernel
theorem dX1_unitsInStocks_26 : decode cX1_unitsInStocks 26 = .ok (.iinc 3 1, 3) := by decide +kernel
theorem dX1_unitsInStocks_29 : decode cX1_unitsInStocks 29 = .ok (.goto (-25), 3) := by decide +kernel
theorem dX1_unitsInStocks_32 : decode cX1_unitsInStocks 32 = .ok (.iload_n 2, 1) := by decide +kernel
theorem dX1_unitsInStocks_33 : decode cX1_unitsInStocks 33 = .ok (.ireturn, 1) := by decide +kernel
theorem dX1_unitsInWagons_0 : decode cX1_unitsInWagons 0 = .ok (.iconst 0, 1) := by decide +kernel
theorem dX1_unitsInWagons_1 : decode cX1_unitsInWagons 1 = .ok (.istore_n 2, 1) := by decide +kernel
theorem dX1_unitsInWagons_2 : decode cX1_unitsInWagons 2 = .ok (.iconst 0, 1) := by decide +kernel
theorem dX1_unitsInWagons_3 : decode cX1_unitsInWagons 3 = .ok (.istore_n 3, 1) := by decide +kernel
theorem dX1_unitsInWagons_4 : decode cX1_unitsInWagons 4 = .ok (.iload_n 3, 1) := by decide +kernel
theorem dX1_unitsInWagons_5 : decode cX1_unitsInWagons 5 = .ok (.bipush 16, 2) := by decide +kernel
theorem dX1_unitsInWagons_7 : decode cX1_unitsInWagons 7 = .ok (.if_icmp .ge 31, 3) := by decide +kernel
theorem dX1_unitsInWagons_10 : decode cX1_unitsInWagons 10 = .ok (.aload_n 0, 1) := by decide +kernel
theorem dX1_unitsInWagons_11 : decode cX1_unitsInWagons 11 = .ok (.getfield 34, 3) := by decide +kernel
theorem dX1_unitsInWagons_14 : decode cX1_unitsInWagons 14 = .ok (.iload_n 3, 1) := by decide +kernel
theorem dX1_unitsInWagons_15 : decode cX1_unitsInWagons 15 = .ok (.iaload, 1) := by decide +kernel
theorem dX1_unitsInWagons_16 : decode cX1_unitsInWagons 16 = .ok (.iload_n 1, 1) := by decide +kernel
theorem dX1_unitsInWagons_17 : decode cX1_unitsInWagons 17 = .ok (.if_icmp .ne 15, 3) := by decide +kernel
theorem dX1_unitsInWagons_20 : decode cX1_unitsInWagons 20 = .ok (.iload_n 2, 1) := by decide +kernel
theorem dX1_unitsInWagons_21 : decode cX1_unitsInWagons 21 = .ok (.aload_n 0, 1) := by decide +kernel
theorem dX1_unitsInWagons_22 : decode cX1_unitsInWagons 22 = .ok (.getfield 31, 3) := by decide +kernel
theorem dX1_unitsInWagons_25 : decode cX1_unitsInWagons 25 = .ok (.iload_n 3, 1) := by decide +kernel
theorem dX1_unitsInWagons_26 : decode cX1_unitsInWagons 26 = .ok (.aaload, 1) := by decide +kernel
theorem dX1_unitsInWagons_27 : decode cX1_unitsInWagons 27 = .ok (.invokevirtual 92, 3) := by decide +kernel
theorem dX1_unitsInWagons_30 : decode cX1_unitsInWagons 30 = .ok (.iadd, 1) := by decide +kernel
theorem dX1_unitsInWagons_31 : decode cX1_unitsInWagons 31 = .ok (.istore_n 2, 1) := by decide +kernel
theorem dX1_unitsInWagons_32 : decode cX1_unitsInWagons 32 = .ok (.iinc 3 1, 3) := by decide +kernel
theorem dX1_unitsInWagons_35 : decode cX1_unitsInWagons 35 = .ok (.goto (-31), 3) := by decide +kernel
theorem dX1_unitsInWagons_38 : decode cX1_unitsInWagons 38 = .ok (.iload_n 2, 1) := by decide +kernel
theorem dX1_unitsInWagons_39 : decode cX1_unitsInWagons 39 = .ok (.ireturn, 1) := by decide +kernel
theorem dX1_rowAt_0 : decode cX1_rowAt 0 = .ok (.iload_n 1, 1) := by decide +kernel
theorem dX1_rowAt_1 : decode cX1_rowAt 1 = .ok (.invokestatic 173, 3) := by decide +kernel
theorem dX1_rowAt_4 : decode cX1_rowAt 4 = .ok (.ifCond .eq 25, 3) := by decide +kernel
theorem dX1_rowAt_7 : decode cX1_rowAt 7 = .ok (.iload_n 2, 1) := by decide +kernel
theorem dX1_rowAt_8 : decode cX1_rowAt 8 = .ok (.invokestatic 78, 3) := by decide +kernel
theorem dX1_rowAt_11 : decode cX1_rowAt 11 = .ok (.ifCond .eq 16, 3) := by decide +kernel
theorem dX1_rowAt_14 : decode cX1_rowAt 14 = .ok (.aload_n 0, 1) := by decide +kernel
theorem dX1_rowAt_15 : decode cX1_rowAt 15 = .ok (.getfield 11, 3) := by decide +kernel
theorem dX1_rowAt_18 : decode cX1_rowAt 18 = .ok (.iload_n 1, 1) := by decide +kernel
theorem dX1_rowAt_19 : decode cX1_rowAt 19 = .ok (.iload_n 2, 1) := by decide +kernel
theorem dX1_rowAt_20 : decode cX1_rowAt 20 = .ok (.invokestatic 74, 3) := by decide +kernel
theorem dX1_rowAt_23 : decode cX1_rowAt 23 = .ok (.aaload, 1) := by decide +kernel
theorem dX1_rowAt_24 : decode cX1_rowAt 24 = .ok (.goto 4, 3) := by decide +kernel
theorem dX1_rowAt_27 : decode cX1_rowAt 27 = .ok (.aconst_null, 1) := by decide +kernel
theorem dX1_rowAt_28 : decode cX1_rowAt 28 = .ok (.areturn, 1) := by decide +kernel
theorem dX1_rowAt_29 : decode cX1_rowAt 29 = .ok (.iload_n 1, 1) := by decide +kernel
theorem dX1_rowAt_30 : decode cX1_rowAt 30 = .ok (.bipush 8, 2) := by decide +kernel
theorem dX1_rowAt_32 : decode cX1_rowAt 32 = .ok (.if_icmp .lt 9, 3) := by decide +kernel
theorem dX1_rowAt_35 : decode cX1_rowAt 35 = .ok (.iload_n 1, 1) := by decide +kernel
theorem dX1_rowAt_36 : decode cX1_rowAt 36 = .ok (.bipush 24, 2) := by decide +kernel
theorem dX1_rowAt_38 : decode cX1_rowAt 38 = .ok (.if_icmp .lt 5, 3) := by decide +kernel
theorem dX1_rowAt_41 : decode cX1_rowAt 41 = .ok (.aconst_null, 1) := by decide +kernel
theorem dX1_rowAt_42 : decode cX1_rowAt 42 = .ok (.areturn, 1) := by decide +kernel
theorem dX1_rowAt_43 : decode cX1_rowAt 43 = .ok (.aload_n 0, 1) := by decide +kernel
theorem dX1_rowAt_44 : decode cX1_rowAt 44 = .ok (.getfield 31, 3) := by decide +kernel
theorem dX1_rowAt_47 : decode cX1_rowAt 47 = .ok (.iload_n 1, 1) := by decide +kernel
theorem dX1_rowAt_48 : decode cX1_rowAt 48 = .ok (.bipush 8, 2) := by decide +kernel
theorem dX1_rowAt_50 : decode cX1_rowAt 50 = .ok (.isub, 1) := by decide +kernel
theorem dX1_rowAt_51 : decode cX1_rowAt 51 = .ok (.aaload, 1) := by decide +kernel
theorem dX1_rowAt_52 : decode cX1_rowAt 52 = .ok (.areturn, 1) := by decide +kernel
theorem dX1_checkFellows_0 : decode cX1_checkFellows 0 = .ok (.iload_n 1, 1) := by decide +kernel
theorem dX1_checkFellows_1 : decode cX1_checkFellows 1 = .ok (.iload_n 2, 1) := by decide +kernel
theorem dX1_checkFellows_2 : decode cX1_checkFellows 2 = .ok (.if_icmp .ne 13, 3) := by decide +kernel
theorem dX1_checkFellows_5 : decode cX1_checkFellows 5 = .ok (.new 82, 3) := by decide +kernel
theorem dX1_checkFellows_8 : decode cX1_checkFellows 8 = .ok (.dup, 1) := by decide +kernel
theorem dX1_checkFellows_9 : decode cX1_checkFellows 9 = .ok (.ldc 176, 2) := by decide +kernel
theorem dX1_checkFellows_11 : decode cX1_checkFellows 11 = .ok (.invokespecial 86, 3) := by decide +kernel
theorem dX1_checkFellows_14 : decode cX1_checkFellows 14 = .ok (.athrow, 1) := by decide +kernel
theorem dX1_checkFellows_15 : decode cX1_checkFellows 15 = .ok (.aload_n 0, 1) := by decide +kernel
theorem dX1_checkFellows_16 : decode cX1_checkFellows 16 = .ok (.getfield 34, 3) := by decide +kernel
theorem dX1_checkFellows_19 : decode cX1_checkFellows 19 = .ok (.iload_n 1, 1) := by decide +kernel
theorem dX1_checkFellows_20 : decode cX1_checkFellows 20 = .ok (.iaload, 1) := by decide +kernel
theorem dX1_checkFellows_21 : decode cX1_checkFellows 21 = .ok (.aload_n 0, 1) := by decide +kernel
theorem dX1_checkFellows_22 : decode cX1_checkFellows 22 = .ok (.getfield 34, 3) := by decide +kernel
theorem dX1_checkFellows_25 : decode cX1_checkFellows 25 = .ok (.iload_n 2, 1) := by decide +kernel
theorem dX1_checkFellows_26 : decode cX1_checkFellows 26 = .ok (.iaload, 1) := by decide +kernel
theorem dX1_checkFellows_27 : decode cX1_checkFellows 27 = .ok (.if_icmp .eq 13, 3) := by decide +kernel
theorem dX1_checkFellows_30 : decode cX1_checkFellows 30 = .ok (.new 82, 3) := by decide +kernel
theorem dX1_checkFellows_33 : decode cX1_checkFellows 33 = .ok (.dup, 1) := by decide +kernel
theorem dX1_checkFellows_34 : decode cX1_checkFellows 34 = .ok (.ldc 178, 2) := by decide +kernel
theorem dX1_checkFellows_36 : decode cX1_checkFellows 36 = .ok (.invokespecial 86, 3) := by decide +kernel
theorem dX1_checkFellows_39 : decode cX1_checkFellows 39 = .ok (.athrow, 1) := by decide +kernel
theorem dX1_checkFellows_40 : decode cX1_checkFellows 40 = .ok (.return_, 1) := by decide +kernel
theorem dX1_stockIndex_0 : decode cX1_stockIndex 0 = .ok (.iload_n 0, 1) := by decide +kernel
theorem dX1_stockIndex_1 : decode cX1_stockIndex 1 = .ok (.iconst 4, 1) := by decide +kernel
theorem dX1_stockIndex_2 : decode cX1_stockIndex 2 = .ok (.imul, 1) := by decide +kernel
theorem dX1_stockIndex_3 : decode cX1_stockIndex 3 = .ok (.iload_n 1, 1) := by decide +kernel
theorem dX1_stockIndex_4 : decode cX1_stockIndex 4 = .ok (.iadd, 1) := by decide +kernel
theorem dX1_stockIndex_5 : decode cX1_stockIndex 5 = .ok (.ireturn, 1) := by decide +kernel
theorem dX1_isStation_0 : decode cX1_isStation 0 = .ok (.iload_n 0, 1) := by decide +kernel
theorem dX1_isStation_1 : decode cX1_isStation 1 = .ok (.ifCond .lt 13, 3) := by decide +kernel
theorem dX1_isStation_4 : decode cX1_isStation 4 = .ok (.iload_n 0, 1) := by decide +kernel
theorem dX1_isStation_5 : decode cX1_isStation 5 = .ok (.bipush 8, 2) := by decide +kernel
theorem dX1_isStation_7 : decode cX1_isStation 7 = .ok (.if_icmp .ge 7, 3) := by decide +kernel
theorem dX1_isStation_10 : decode cX1_isStation 10 = .ok (.iconst 1, 1) := by decide +kernel
theorem dX1_isStation_11 : decode cX1_isStation 11 = .ok (.goto 4, 3) := by decide +kernel
theorem dX1_isStation_14 : decode cX1_isStation 14 = .ok (.iconst 0, 1) := by decide +kernel
theorem dX1_isStation_15 : decode cX1_isStation 15 = .ok (.ireturn, 1) := by decide +kernel
theorem dX1_isKind_0 : decode cX1_isKind 0 = .ok (.iload_n 0, 1) := by decide +kernel
theorem dX1_isKind_1 : decode cX1_isKind 1 = .ok (.ifCond .lt 12, 3) := by decide +kernel
theorem dX1_isKind_4 : decode cX1_isKind 4 = .ok (.iload_n 0, 1) := by decide +kernel
theorem dX1_isKind_5 : decode cX1_isKind 5 = .ok (.iconst 4, 1) := by decide +kernel
theorem dX1_isKind_6 : decode cX1_isKind 6 = .ok (.if_icmp .ge 7, 3) := by decide +kernel
theorem dX1_isKind_9 : decode cX1_isKind 9 = .ok (.iconst 1, 1) := by decide +kernel
theorem dX1_isKind_10 : decode cX1_isKind 10 = .ok (.goto 4, 3) := by decide +kernel
theorem dX1_isKind_13 : decode cX1_isKind 13 = .ok (.iconst 0, 1) := by decide +kernel
theorem dX1_isKind_14 : decode cX1_isKind 14 = .ok (.ireturn, 1) := by decide +kernel
theorem dX1_checkStation_0 : decode cX1_checkStation 0 = .ok (.iload_n 0, 1) := by decide +kernel
theorem dX1_checkStation_1 : decode cX1_checkStation 1 = .ok (.invokestatic 173, 3) := by decide +kernel
theorem dX1_checkStation_4 : decode cX1_checkStation 4 = .ok (.ifCond .ne 13, 3) := by decide +kernel
theorem dX1_checkStation_7 : decode cX1_checkStation 7 = .ok (.new 180, 3) := by decide +kernel
theorem dX1_checkStation_10 : decode cX1_checkStation 10 = .ok (.dup, 1) := by decide +kernel
theorem dX1_checkStation_11 : decode cX1_checkStation 11 = .ok (.ldc 182, 2) := by decide +kernel
theorem dX1_checkStation_13 : decode cX1_checkStation 13 = .ok (.invokespecial 184, 3) := by decide +kernel
theorem dX1_checkStation_16 : decode cX1_checkStation 16 = .ok (.athrow, 1) := by decide +kernel
theorem dX1_checkStation_17 : decode cX1_checkStation 17 = .ok (.return_, 1) := by decide +kernel
theorem dX1_checkKind_0 : decode cX1_checkKind 0 = .ok (.iload_n 0, 1) := by decide +kernel
theorem dX1_checkKind_1 : decode cX1_checkKind 1 = .ok (.invokestatic 78, 3) := by decide +kernel
theorem dX1_checkKind_4 : decode cX1_checkKind 4 = .ok (.ifCond .ne 13, 3) := by decide +kernel
theorem dX1_checkKind_7 : decode cX1_checkKind 7 = .ok (.new 180, 3) := by decide +kernel
theorem dX1_checkKind_10 : decode cX1_checkKind 10 = .ok (.dup, 1) := by decide +kernel
theorem dX1_checkKind_11 : decode cX1_checkKind 11 = .ok (.ldc 185, 2) := by decide +kernel
theorem dX1_checkKind_13 : decode cX1_checkKind 13 = .ok (.invokespecial 184, 3) := by decide +kernel
theorem dX1_checkKind_16 : decode cX1_checkKind 16 = .ok (.athrow, 1) := by decide +kernel
theorem dX1_checkKind_17 : decode cX1_checkKind 17 = .ok (.return_, 1) := by decide +kernel
theorem dX1_checkWagon_0 : decode cX1_checkWagon 0 = .ok (.iload_n 0, 1) := by decide +kernel
theorem dX1_checkWagon_1 : decode cX1_checkWagon 1 = .ok (.ifCond .lt 9, 3) := by decide +kernel
theorem dX1_checkWagon_4 : decode cX1_checkWagon 4 = .ok (.iload_n 0, 1) := by decide +kernel
theorem dX1_checkWagon_5 : decode cX1_checkWagon 5 = .ok (.bipush 16, 2) := by decide +kernel
theorem dX1_checkWagon_7 : decode cX1_checkWagon 7 = .ok (.if_icmp .lt 13, 3) := by decide +kernel
theorem dX1_checkWagon_10 : decode cX1_checkWagon 10 = .ok (.new 180, 3) := by decide +kernel
theorem dX1_checkWagon_13 : decode cX1_checkWagon 13 = .ok (.dup, 1) := by decide +kernel
theorem dX1_checkWagon_14 : decode cX1_checkWagon 14 = .ok (.ldc 187, 2) := by decide +kernel
theorem dX1_checkWagon_16 : decode cX1_checkWagon 16 = .ok (.invokespecial 184, 3) := by decide +kernel
theorem dX1_checkWagon_19 : decode cX1_checkWagon 19 = .ok (.athrow, 1) := by decide +kernel
theorem dX1_checkWagon_20 : decode cX1_checkWagon 20 = .ok (.return_, 1) := by decide +kernel
theorem dX1_checkRange_0 : decode cX1_checkRange 0 = .ok (.iload_n 0, 1) := by decide +kernel
theorem dX1_checkRange_1 : decode cX1_checkRange 1 = .ok (.ifCond .lt 8, 3) := by decide +kernel
theorem dX1_checkRange_4 : decode cX1_checkRange 4 = .ok (.iload_n 0, 1) := by decide +kernel
theorem dX1_checkRange_5 : decode cX1_checkRange 5 = .ok (.iload_n 1, 1) := by decide +kernel
theorem dX1_checkRange_6 : decode cX1_checkRange 6 = .ok (.if_icmp .le 13, 3) := by decide +kernel
theorem dX1_checkRange_9 : decode cX1_checkRange 9 = .ok (.new 82, 3) := by decide +kernel
theorem dX1_checkRange_12 : decode cX1_checkRange 12 = .ok (.dup, 1) := by decide +kernel
theorem dX1_checkRange_13 : decode cX1_checkRange 13 = .ok (.ldc 189, 2) := by decide +kernel
theorem dX1_checkRange_15 : decode cX1_checkRange 15 = .ok (.invokespecial 86, 3) := by decide +kernel
theorem dX1_checkRange_18 : decode cX1_checkRange 18 = .ok (.athrow, 1) := by decide +kernel
theorem dX1_checkRange_19 : decode cX1_checkRange 19 = .ok (.return_, 1) := by decide +kernel
theorem dX1_checkNotBelowZero_0 : decode cX1_checkNotBelowZero 0 = .ok (.iload_n 0, 1) := by decide +kernel
theorem dX1_checkNotBelowZero_1 : decode cX1_checkNotBelowZero 1 = .ok (.ifCond .ge 13, 3) := by decide +kernel
theorem dX1_checkNotBelowZero_4 : decode cX1_checkNotBelowZero 4 = .ok (.new 82, 3) := by decide +kernel
theorem dX1_checkNotBelowZero_7 : decode cX1_checkNotBelowZero 7 = .ok (.dup, 1) := by decide +kernel
theorem dX1_checkNotBelowZero_8 : decode cX1_checkNotBelowZero 8 = .ok (.ldc 191, 2) := by decide +kernel
theorem dX1_checkNotBelowZero_10 : decode cX1_checkNotBelowZero 10 = .ok (.invokespecial 86, 3) := by decide +kernel
theorem dX1_checkNotBelowZero_13 : decode cX1_checkNotBelowZero 13 = .ok (.athrow, 1) := by decide +kernel
theorem dX1_checkNotBelowZero_14 : decode cX1_checkNotBelowZero 14 = .ok (.return_, 1) := by decide +kernel
