theorem dX1_unload_57 : decode cX1_unload 57 = .ok (.getfield 11, 3) := by decide +kernel
theorem dX1_unload_60 : decode cX1_unload 60 = .ok (.iload_n 2, 1) := by decide +kernel
theorem dX1_unload_61 : decode cX1_unload 61 = .ok (.iload 4, 2) := by decide +kernel
theorem dX1_unload_63 : decode cX1_unload 63 = .ok (.invokestatic 74, 3) := by decide +kernel
theorem dX1_unload_66 : decode cX1_unload 66 = .ok (.aaload, 1) := by decide +kernel
theorem dX1_unload_67 : decode cX1_unload 67 = .ok (.iload_n 3, 1) := by decide +kernel
theorem dX1_unload_68 : decode cX1_unload 68 = .ok (.sipush 999, 3) := by decide +kernel
theorem dX1_unload_71 : decode cX1_unload 71 = .ok (.invokevirtual 109, 3) := by decide +kernel
theorem dX1_unload_74 : decode cX1_unload 74 = .ok (.ireturn, 1) := by decide +kernel
theorem dX1_pour_0 : decode cX1_pour 0 = .ok (.iload_n 1, 1) := by decide +kernel
theorem dX1_pour_1 : decode cX1_pour 1 = .ok (.invokestatic 89, 3) := by decide +kernel
theorem dX1_pour_4 : decode cX1_pour 4 = .ok (.iload_n 2, 1) := by decide +kernel
theorem dX1_pour_5 : decode cX1_pour 5 = .ok (.invokestatic 89, 3) := by decide +kernel
theorem dX1_pour_8 : decode cX1_pour 8 = .ok (.aload_n 0, 1) := by decide +kernel
theorem dX1_pour_9 : decode cX1_pour 9 = .ok (.iload_n 1, 1) := by decide +kernel
theorem dX1_pour_10 : decode cX1_pour 10 = .ok (.iload_n 2, 1) := by decide +kernel
theorem dX1_pour_11 : decode cX1_pour 11 = .ok (.invokevirtual 117, 3) := by decide +kernel
theorem dX1_pour_14 : decode cX1_pour 14 = .ok (.aload_n 0, 1) := by decide +kernel
theorem dX1_pour_15 : decode cX1_pour 15 = .ok (.getfield 31, 3) := by decide +kernel
theorem dX1_pour_18 : decode cX1_pour 18 = .ok (.iload_n 2, 1) := by decide +kernel
theorem dX1_pour_19 : decode cX1_pour 19 = .ok (.aaload, 1) := by decide +kernel
theorem dX1_pour_20 : decode cX1_pour 20 = .ok (.invokevirtual 92, 3) := by decide +kernel
theorem dX1_pour_23 : decode cX1_pour 23 = .ok (.istore_n 3, 1) := by decide +kernel
theorem dX1_pour_24 : decode cX1_pour 24 = .ok (.iload_n 3, 1) := by decide +kernel
theorem dX1_pour_25 : decode cX1_pour 25 = .ok (.aload_n 0, 1) := by decide +kernel
theorem dX1_pour_26 : decode cX1_pour 26 = .ok (.getfield 37, 3) := by decide +kernel
theorem dX1_pour_29 : decode cX1_pour 29 = .ok (.iload_n 1, 1) := by decide +kernel
theorem dX1_pour_30 : decode cX1_pour 30 = .ok (.iaload, 1) := by decide +kernel
theorem dX1_pour_31 : decode cX1_pour 31 = .ok (.aload_n 0, 1) := by decide +kernel
theorem dX1_pour_32 : decode cX1_pour 32 = .ok (.getfield 31, 3) := by decide +kernel
theorem dX1_pour_35 : decode cX1_pour 35 = .ok (.iload_n 1, 1) := by decide +kernel
theorem dX1_pour_36 : decode cX1_pour 36 = .ok (.aaload, 1) := by decide +kernel
theorem dX1_pour_37 : decode cX1_pour 37 = .ok (.invokevirtual 92, 3) := by decide +kernel
theorem dX1_pour_40 : decode cX1_pour 40 = .ok (.isub, 1) := by decide +kernel
theorem dX1_pour_41 : decode cX1_pour 41 = .ok (.if_icmp .le 13, 3) := by decide +kernel
theorem dX1_pour_44 : decode cX1_pour 44 = .ok (.new 82, 3) := by decide +kernel
theorem dX1_pour_47 : decode cX1_pour 47 = .ok (.dup, 1) := by decide +kernel
theorem dX1_pour_48 : decode cX1_pour 48 = .ok (.ldc 120, 2) := by decide +kernel
theorem dX1_pour_50 : decode cX1_pour 50 = .ok (.invokespecial 86, 3) := by decide +kernel
theorem dX1_pour_53 : decode cX1_pour 53 = .ok (.athrow, 1) := by decide +kernel
theorem dX1_pour_54 : decode cX1_pour 54 = .ok (.aload_n 0, 1) := by decide +kernel
theorem dX1_pour_55 : decode cX1_pour 55 = .ok (.getfield 31, 3) := by decide +kernel
theorem dX1_pour_58 : decode cX1_pour 58 = .ok (.iload_n 2, 1) := by decide +kernel
theorem dX1_pour_59 : decode cX1_pour 59 = .ok (.aaload, 1) := by decide +kernel
theorem dX1_pour_60 : decode cX1_pour 60 = .ok (.aload_n 0, 1) := by decide +kernel
theorem dX1_pour_61 : decode cX1_pour 61 = .ok (.getfield 31, 3) := by decide +kernel
theorem dX1_pour_64 : decode cX1_pour 64 = .ok (.iload_n 1, 1) := by decide +kernel
theorem dX1_pour_65 : decode cX1_pour 65 = .ok (.aaload, 1) := by decide +kernel
theorem dX1_pour_66 : decode cX1_pour 66 = .ok (.iload_n 3, 1) := by decide +kernel
theorem dX1_pour_67 : decode cX1_pour 67 = .ok (.aload_n 0, 1) := by decide +kernel
theorem dX1_pour_68 : decode cX1_pour 68 = .ok (.getfield 37, 3) := by decide +kernel
theorem dX1_pour_71 : decode cX1_pour 71 = .ok (.iload_n 1, 1) := by decide +kernel
theorem dX1_pour_72 : decode cX1_pour 72 = .ok (.iaload, 1) := by decide +kernel
theorem dX1_pour_73 : decode cX1_pour 73 = .ok (.invokevirtual 109, 3) := by decide +kernel
theorem dX1_pour_76 : decode cX1_pour 76 = .ok (.pop, 1) := by decide +kernel
theorem dX1_pour_77 : decode cX1_pour 77 = .ok (.return_, 1) := by decide +kernel
theorem dX1_part_0 : decode cX1_part 0 = .ok (.iload_n 1, 1) := by decide +kernel
theorem dX1_part_1 : decode cX1_part 1 = .ok (.invokestatic 89, 3) := by decide +kernel
theorem dX1_part_4 : decode cX1_part 4 = .ok (.iload_n 3, 1) := by decide +kernel
theorem dX1_part_5 : decode cX1_part 5 = .ok (.invokestatic 89, 3) := by decide +kernel
theorem dX1_part_8 : decode cX1_part 8 = .ok (.iload_n 2, 1) := by decide +kernel
theorem dX1_part_9 : decode cX1_part 9 = .ok (.invokestatic 106, 3) := by decide +kernel
theorem dX1_part_12 : decode cX1_part 12 = .ok (.aload_n 0, 1) := by decide +kernel
theorem dX1_part_13 : decode cX1_part 13 = .ok (.iload_n 1, 1) := by decide +kernel
theorem dX1_part_14 : decode cX1_part 14 = .ok (.iload_n 3, 1) := by decide +kernel
theorem dX1_part_15 : decode cX1_part 15 = .ok (.invokevirtual 117, 3) := by decide +kernel
theorem dX1_part_18 : decode cX1_part 18 = .ok (.aload_n 0, 1) := by decide +kernel
theorem dX1_part_19 : decode cX1_part 19 = .ok (.getfield 31, 3) := by decide +kernel
theorem dX1_part_22 : decode cX1_part 22 = .ok (.iload_n 3, 1) := by decide +kernel
theorem dX1_part_23 : decode cX1_part 23 = .ok (.aaload, 1) := by decide +kernel
theorem dX1_part_24 : decode cX1_part 24 = .ok (.invokevirtual 92, 3) := by decide +kernel
theorem dX1_part_27 : decode cX1_part 27 = .ok (.ifCond .le 13, 3) := by decide +kernel
theorem dX1_part_30 : decode cX1_part 30 = .ok (.new 82, 3) := by decide +kernel
theorem dX1_part_33 : decode cX1_part 33 = .ok (.dup, 1) := by decide +kernel
theorem dX1_part_34 : decode cX1_part 34 = .ok (.ldc 122, 2) := by decide +kernel
theorem dX1_part_36 : decode cX1_part 36 = .ok (.invokespecial 86, 3) := by decide +kernel
theorem dX1_part_39 : decode cX1_part 39 = .ok (.athrow, 1) := by decide +kernel
theorem dX1_part_40 : decode cX1_part 40 = .ok (.aload_n 0, 1) := by decide +kernel
theorem dX1_part_41 : decode cX1_part 41 = .ok (.getfield 31, 3) := by decide +kernel
theorem dX1_part_44 : decode cX1_part 44 = .ok (.iload_n 1, 1) := by decide +kernel
theorem dX1_part_45 : decode cX1_part 45 = .ok (.aaload, 1) := by decide +kernel
theorem dX1_part_46 : decode cX1_part 46 = .ok (.invokevirtual 92, 3) := by decide +kernel
theorem dX1_part_49 : decode cX1_part 49 = .ok (.iload_n 2, 1) := by decide +kernel
theorem dX1_part_50 : decode cX1_part 50 = .ok (.isub, 1) := by decide +kernel
theorem dX1_part_51 : decode cX1_part 51 = .ok (.aload_n 0, 1) := by decide +kernel
theorem dX1_part_52 : decode cX1_part 52 = .ok (.getfield 37, 3) := by decide +kernel
theorem dX1_part_55 : decode cX1_part 55 = .ok (.iload_n 3, 1) := by decide +kernel
theorem dX1_part_56 : decode cX1_part 56 = .ok (.iaload, 1) := by decide +kernel
theorem dX1_part_57 : decode cX1_part 57 = .ok (.if_icmp .le 13, 3) := by decide +kernel
theorem dX1_part_60 : decode cX1_part 60 = .ok (.new 82, 3) := by decide +kernel
theorem dX1_part_63 : decode cX1_part 63 = .ok (.dup, 1) := by decide +kernel
theorem dX1_part_64 : decode cX1_part 64 = .ok (.ldc 120, 2) := by decide +kernel
theorem dX1_part_66 : decode cX1_part 66 = .ok (.invokespecial 86, 3) := by decide +kernel
theorem dX1_part_69 : decode cX1_part 69 = .ok (.athrow, 1) := by decide +kernel
theorem dX1_part_70 : decode cX1_part 70 = .ok (.aload_n 0, 1) := by decide +kernel
theorem dX1_part_71 : decode cX1_part 71 = .ok (.getfield 31, 3) := by decide +kernel
theorem dX1_part_74 : decode cX1_part 74 = .ok (.iload_n 1, 1) := by decide +kernel
theorem dX1_part_75 : decode cX1_part 75 = .ok (.aaload, 1) := by decide +kernel
theorem dX1_part_76 : decode cX1_part 76 = .ok (.iload_n 2, 1) := by decide +kernel
theorem dX1_part_77 : decode cX1_part 77 = .ok (.aload_n 0, 1) := by decide +kernel
theorem dX1_part_78 : decode cX1_part 78 = .ok (.getfield 31, 3) := by decide +kernel
theorem dX1_part_81 : decode cX1_part 81 = .ok (.iload_n 3, 1) := by decide +kernel
theorem dX1_part_82 : decode cX1_part 82 = .ok (.aaload, 1) := by decide +kernel
theorem dX1_part_83 : decode cX1_part 83 = .ok (.invokevirtual 124, 3) := by decide +kernel
theorem dX1_part_86 : decode cX1_part 86 = .ok (.return_, 1) := by decide +kernel
theorem dX1_dump_0 : decode cX1_dump 0 = .ok (.iload_n 1, 1) := by decide +kernel
theorem dX1_dump_1 : decode cX1_dump 1 = .ok (.invokestatic 89, 3) := by decide +kernel
theorem dX1_dump_4 : decode cX1_dump 4 = .ok (.aload_n 0, 1) := by decide +kernel
theorem dX1_dump_5 : decode cX1_dump 5 = .ok (.getfield 31, 3) := by decide +kernel
theorem dX1_dump_8 : decode cX1_dump 8 = .ok (.iload_n 1, 1) := by decide +kernel
theorem dX1_dump_9 : decode cX1_dump 9 = .ok (.aaload, 1) := by decide +kernel
theorem dX1_dump_10 : decode cX1_dump 10 = .ok (.invokevirtual 92, 3) := by decide +kernel
theorem dX1_dump_13 : decode cX1_dump 13 = .ok (.istore_n 2, 1) := by decide +kernel
theorem dX1_dump_14 : decode cX1_dump 14 = .ok (.aload_n 0, 1) := by decide +kernel
theorem dX1_dump_15 : decode cX1_dump 15 = .ok (.getfield 31, 3) := by decide +kernel
theorem dX1_dump_18 : decode cX1_dump 18 = .ok (.iload_n 1, 1) := by decide +kernel
theorem dX1_dump_19 : decode cX1_dump 19 = .ok (.aaload, 1) := by decide +kernel
theorem dX1_dump_20 : decode cX1_dump 20 = .ok (.invokevirtual 128, 3) := by decide +kernel
theorem dX1_dump_23 : decode cX1_dump 23 = .ok (.aload_n 0, 1) := by decide +kernel
theorem dX1_dump_24 : decode cX1_dump 24 = .ok (.getfield 46, 3) := by decide +kernel
theorem dX1_dump_27 : decode cX1_dump 27 = .ok (.aload_n 0, 1) := by decide +kernel
theorem dX1_dump_28 : decode cX1_dump 28 = .ok (.getfield 34, 3) := by decide +kernel
theorem dX1_dump_31 : decode cX1_dump 31 = .ok (.iload_n 1, 1) := by decide +kernel
theorem dX1_dump_32 : decode cX1_dump 32 = .ok (.iaload, 1) := by decide +kernel
theorem dX1_dump_33 : decode cX1_dump 33 = .ok (.dup2, 1) := by decide +kernel
theorem dX1_dump_34 : decode cX1_dump 34 = .ok (.iaload, 1) := by decide +kernel
theorem dX1_dump_35 : decode cX1_dump 35 = .ok (.iload_n 2, 1) := by decide +kernel
theorem dX1_dump_36 : decode cX1_dump 36 = .ok (.iadd, 1) := by decide +kernel
theorem dX1_dump_37 : decode cX1_dump 37 = .ok (.iastore, 1) := by decide +kernel
theorem dX1_dump_38 : decode cX1_dump 38 = .ok (.iload_n 2, 1) := by decide +kernel
theorem dX1_dump_39 : decode cX1_dump 39 = .ok (.ireturn, 1) := by decide +kernel
theorem dX1_spend_0 : decode cX1_spend 0 = .ok (.iload_n 1, 1) := by decide +kernel
theorem dX1_spend_1 : decode cX1_spend 1 = .ok (.ifCond .lt 22, 3) := by decide +kernel
theorem dX1_spend_4 : decode cX1_spend 4 = .ok (.iload_n 1, 1) := by decide +kernel
theorem dX1_spend_5 : decode cX1_spend 5 = .ok (.aload_n 0, 1) := by decide +kernel
theorem dX1_spend_6 : decode cX1_spend 6 = .ok (.getfield 53, 3) := by decide +kernel
theorem dX1_spend_9 : decode cX1_spend 9 = .ok (.if_icmp .gt 14, 3) := by decide +kernel
theorem dX1_spend_12 : decode cX1_spend 12 = .ok (.iload_n 1, 1) := by decide +kernel
theorem dX1_spend_13 : decode cX1_spend 13 = .ok (.ldc 100, 2) := by decide +kernel
theorem dX1_spend_15 : decode cX1_spend 15 = .ok (.aload_n 0, 1) := by decide +kernel
theorem dX1_spend_16 : decode cX1_spend 16 = .ok (.getfield 59, 3) := by decide +kernel
theorem dX1_spend_19 : decode cX1_spend 19 = .ok (.isub, 1) := by decide +kernel
theorem dX1_spend_20 : decode cX1_spend 20 = .ok (.if_icmp .le 5, 3) := by decide +kernel
theorem dX1_spend_23 : decode cX1_spend 23 = .ok (.iconst 0, 1) := by decide +kernel
theorem dX1_spend_24 : decode cX1_spend 24 = .ok (.ireturn, 1) := by decide +kernel
theorem dX1_spend_25 : decode cX1_spend 25 = .ok (.aload_n 0, 1) := by decide +kernel
theorem dX1_spend_26 : decode cX1_spend 26 = .ok (.dup, 1) := by decide +kernel
theorem dX1_spend_27 : decode cX1_spend 27 = .ok (.getfield 53, 3) := by decide +kernel
theorem dX1_spend_30 : decode cX1_spend 30 = .ok (.iload_n 1, 1) := by decide +kernel
theorem dX1_spend_31 : decode cX1_spend 31 = .ok (.isub, 1) := by decide +kernel
theorem dX1_spend_32 : decode cX1_spend 32 = .ok (.putfield 53, 3) := by decide +kernel
theorem dX1_spend_35 : decode cX1_spend 35 = .ok (.aload_n 0, 1) := by decide +kernel
theorem dX1_spend_36 : decode cX1_spend 36 = .ok (.dup, 1) := by decide +kernel
theorem dX1_spend_37 : decode cX1_spend 37 = .ok (.getfield 59, 3) := by decide +kernel
theorem dX1_spend_40 : decode cX1_spend 40 = .ok (.iload_n 1, 1) := by decide +kernel
theorem dX1_spend_41 : decode cX1_spend 41 = .ok (.iadd, 1) := by decide +kernel
theorem dX1_spend_42 : decode cX1_spend 42 = .ok (.putfield 59, 3) := by decide +kernel
theorem dX1_spend_45 : decode cX1_spend 45 = .ok (.iconst 1, 1) := by decide +kernel
theorem dX1_spend_46 : decode cX1_spend 46 = .ok (.ireturn, 1) := by decide +kernel
theorem dX1_packet_0 : decode cX1_packet 0 = .ok (.aload_n 0, 1) := by decide +kernel
theorem dX1_packet_1 : decode cX1_packet 1 = .ok (.iload_n 1, 1) := by decide +kernel
theorem dX1_packet_2 : decode cX1_packet 2 = .ok (.iload_n 2, 1) := by decide +kernel
theorem dX1_packet_3 : decode cX1_packet 3 = .ok (.invokevirtual 131, 3) := by decide +kernel
theorem dX1_packet_6 : decode cX1_packet 6 = .ok (.astore 5, 2) := by decide +kernel
theorem dX1_packet_8 : decode cX1_packet 8 = .ok (.aload 5, 2) := by decide +kernel
theorem dX1_packet_10 : decode cX1_packet 10 = .ok (.ifnonnull 7, 3) := by decide +kernel
theorem dX1_packet_13 : decode cX1_packet 13 = .ok (.iconst (-1), 1) := by decide +kernel
theorem dX1_packet_14 : decode cX1_packet 14 = .ok (.goto 11, 3) := by decide +kernel
theorem dX1_packet_17 : decode cX1_packet 17 = .ok (.aload 5, 2) := by decide +kernel
theorem dX1_packet_19 : decode cX1_packet 19 = .ok (.iload_n 3, 1) := by decide +kernel
theorem dX1_packet_20 : decode cX1_packet 20 = .ok (.iload 4, 2) := by decide +kernel
theorem dX1_packet_22 : decode cX1_packet 22 = .ok (.invokevirtual 135, 3) := by decide +kernel
theorem dX1_packet_25 : decode cX1_packet 25 = .ok (.ireturn, 1) := by decide +kernel
theorem dX1_units_0 : decode cX1_units 0 = .ok (.aload_n 0, 1) := by decide +kernel
theorem dX1_units_1 : decode cX1_units 1 = .ok (.iload_n 1, 1) := by decide +kernel
theorem dX1_units_2 : decode cX1_units 2 = .ok (.iload_n 2, 1) := by decide +kernel
theorem dX1_units_3 : decode cX1_units 3 = .ok (.invokevirtual 131, 3) := by decide +kernel
theorem dX1_units_6 : decode cX1_units 6 = .ok (.astore_n 3, 1) := by decide +kernel
theorem dX1_units_7 : decode cX1_units 7 = .ok (.aload_n 3, 1) := by decide +kernel
theorem dX1_units_8 : decode cX1_units 8 = .ok (.ifnonnull 7, 3) := by decide +kernel
theorem dX1_units_11 : decode cX1_units 11 = .ok (.iconst (-1), 1) := by decide +kernel
theorem dX1_units_12 : decode cX1_units 12 = .ok (.goto 7, 3) := by decide +kernel
theorem dX1_units_15 : decode cX1_units 15 = .ok (.aload_n 3, 1) := by decide +kernel
theorem dX1_units_16 : decode cX1_units 16 = .ok (.invokevirtual 92, 3) := by decide +kernel
theorem dX1_units_19 : decode cX1_units 19 = .ok (.ireturn, 1) := by decide +kernel
theorem dX1_count_0 : decode cX1_count 0 = .ok (.iload_n 1, 1) := by decide +kernel
theorem dX1_count_1 : decode cX1_count 1 = .ok (.invokestatic 78, 3) := by decide +kernel
theorem dX1_count_4 : decode cX1_count 4 = .ok (.ifCond .ne 5, 3) := by decide +kernel
theorem dX1_count_7 : decode cX1_count 7 = .ok (.iconst (-1), 1) := by decide +kernel
theorem dX1_count_8 : decode cX1_count 8 = .ok (.ireturn, 1) := by decide +kernel
theorem dX1_count_9 : decode cX1_count 9 = .ok (.iload_n 2, 1) := by decide +kernel
theorem dX1_count_10 : decode cX1_count 10 = .ok (.tableswitch 67 0 4 #[34, 41, 48, 55, 61], 34) := by decide +kernel
theorem dX1_count_44 : decode cX1_count 44 = .ok (.aload_n 0, 1) := by decide +kernel
theorem dX1_count_45 : decode cX1_count 45 = .ok (.getfield 40, 3) := by decide +kernel
theorem dX1_count_48 : decode cX1_count 48 = .ok (.iload_n 1, 1) := by decide +kernel
theorem dX1_count_49 : decode cX1_count 49 = .ok (.iaload, 1) := by decide +kernel
theorem dX1_count_50 : decode cX1_count 50 = .ok (.ireturn, 1) := by decide +kernel
theorem dX1_count_51 : decode cX1_count 51 = .ok (.aload_n 0, 1) := by decide +kernel
theorem dX1_count_52 : decode cX1_count 52 = .ok (.getfield 43, 3) := by decide +kernel
theorem dX1_count_55 : decode cX1_count 55 = .ok (.iload_n 1, 1) := by decide +kernel
theorem dX1_count_56 : decode cX1_count 56 = .ok (.iaload, 1) := by decide +kernel
theorem dX1_count_57 : decode cX1_count 57 = .ok (.ireturn, 1) := by decide +kernel
theorem dX1_count_58 : decode cX1_count 58 = .ok (.aload_n 0, 1) := by decide +kernel
theorem dX1_count_59 : decode cX1_count 59 = .ok (.getfield 46, 3) := by decide +kernel
theorem dX1_count_62 : decode cX1_count 62 = .ok (.iload_n 1, 1) := by decide +kernel
theorem dX1_count_63 : decode cX1_count 63 = .ok (.iaload, 1) := by decide +kernel
theorem dX1_count_64 : decode cX1_count 64 = .ok (.ireturn, 1) := by decide +kernel
theorem dX1_count_65 : decode cX1_count 65 = .ok (.aload_n 0, 1) := by decide +kernel
theorem dX1_count_66 : decode cX1_count 66 = .ok (.iload_n 1, 1) := by decide +kernel
theorem dX1_count_67 : decode cX1_count 67 = .ok (.invokevirtual 138, 3) := by decide +kernel
theorem dX1_count_70 : decode cX1_count 70 = .ok (.ireturn, 1) := by decide +kernel
theorem dX1_count_71 : decode cX1_count 71 = .ok (.aload_n 0, 1) := by decide +kernel
theorem dX1_count_72 : decode cX1_count 72 = .ok (.iload_n 1, 1) := by decide +kernel
theorem dX1_count_73 : decode cX1_count 73 = .ok (.invokevirtual 142, 3) := by decide +kernel
theorem dX1_count_76 : decode cX1_count 76 = .ok (.ireturn, 1) := by decide +kernel
theorem dX1_count_77 : decode cX1_count 77 = .ok (.iconst (-1), 1) := by decide +kernel
theorem dX1_count_78 : decode cX1_count 78 = .ok (.ireturn, 1) := by decide +kernel
theorem dX1_sum_0 : decode cX1_sum 0 = .ok (.iload_n 1, 1) := by decide +kernel
theorem dX1_sum_1 : decode cX1_sum 1 = .ok (.tableswitch 51 0 3 #[31, 36, 41, 46], 31) := by decide +kernel
theorem dX1_sum_32 : decode cX1_sum 32 = .ok (.aload_n 0, 1) := by decide +kernel
theorem dX1_sum_33 : decode cX1_sum 33 = .ok (.getfield 53, 3) := by decide +kernel
theorem dX1_sum_36 : decode cX1_sum 36 = .ok (.ireturn, 1) := by decide +kernel
theorem dX1_sum_37 : decode cX1_sum 37 = .ok (.aload_n 0, 1) := by decide +kernel
theorem dX1_sum_38 : decode cX1_sum 38 = .ok (.getfield 56, 3) := by decide +kernel
theorem dX1_sum_41 : decode cX1_sum 41 = .ok (.ireturn, 1) := by decide +kernel
theorem dX1_sum_42 : decode cX1_sum 42 = .ok (.aload_n 0, 1) := by decide +kernel
theorem dX1_sum_43 : decode cX1_sum 43 = .ok (.getfield 59, 3) := by decide +kernel
theorem dX1_sum_46 : decode cX1_sum 46 = .ok (.ireturn, 1) := by decide +kernel
theorem dX1_sum_47 : decode cX1_sum 47 = .ok (.aload_n 0, 1) := by decide +kernel
theorem dX1_sum_48 : decode cX1_sum 48 = .ok (.getfield 49, 3) := by decide +kernel
theorem dX1_sum_51 : decode cX1_sum 51 = .ok (.ireturn, 1) := by decide +kernel
theorem dX1_sum_52 : decode cX1_sum 52 = .ok (.iconst (-1), 1) := by decide +kernel
theorem dX1_sum_53 : decode cX1_sum 53 = .ok (.ireturn, 1) := by decide +kernel
theorem dX1_produceEverywhere_0 : decode cX1_produceEverywhere 0 = .ok (.iconst 0, 1) := by decide +kernel
theorem dX1_produceEverywhere_1 : decode cX1_produceEverywhere 1 = .ok (.istore_n 1, 1) := by decide +kernel
theorem dX1_produceEverywhere_2 : decode cX1_produceEverywhere 2 = .ok (.iload_n 1, 1) := by decide +kernel
theorem dX1_produceEverywhere_3 : decode cX1_produceEverywhere 3 = .ok (.bipush 8, 2) := by decide +kernel
theorem dX1_produceEverywhere_5 : decode cX1_produceEverywhere 5 = .ok (.if_icmp .ge 38, 3) := by decide +kernel
theorem dX1_produceEverywhere_8 : decode cX1_produceEverywhere 8 = .ok (.iconst 0, 1) := by decide +kernel
theorem dX1_produceEverywhere_9 : decode cX1_produceEverywhere 9 = .ok (.istore_n 2, 1) := by decide +kernel
theorem dX1_produceEverywhere_10 : decode cX1_produceEverywhere 10 = .ok (.iload_n 2, 1) := by decide +kernel
theorem dX1_produceEverywhere_11 : decode cX1_produceEverywhere 11 = .ok (.iconst 4, 1) := by decide +kernel
theorem dX1_produceEverywhere_12 : decode cX1_produceEverywhere 12 = .ok (.if_icmp .ge 25, 3) := by decide +kernel
theorem dX1_produceEverywhere_15 : decode cX1_produceEverywhere 15 = .ok (.aload_n 0, 1) := by decide +kernel
theorem dX1_produceEverywhere_16 : decode cX1_produceEverywhere 16 = .ok (.iload_n 1, 1) := by decide +kernel
theorem dX1_produceEverywhere_17 : decode cX1_produceEverywhere 17 = .ok (.iload_n 2, 1) := by decide +kernel
theorem dX1_produceEverywhere_18 : decode cX1_produceEverywhere 18 = .ok (.aload_n 0, 1) := by decide +kernel
theorem dX1_produceEverywhere_19 : decode cX1_produceEverywhere 19 = .ok (.getfield 15, 3) := by decide +kernel
theorem dX1_produceEverywhere_22 : decode cX1_produceEverywhere 22 = .ok (.iload_n 1, 1) := by decide +kernel
theorem dX1_produceEverywhere_23 : decode cX1_produceEverywhere 23 = .ok (.iload_n 2, 1) := by decide +kernel
theorem dX1_produceEverywhere_24 : decode cX1_produceEverywhere 24 = .ok (.invokestatic 74, 3) := by decide +kernel
theorem dX1_produceEverywhere_27 : decode cX1_produceEverywhere 27 = .ok (.iaload, 1) := by decide +kernel
theorem dX1_produceEverywhere_28 : decode cX1_produceEverywhere 28 = .ok (.invokevirtual 145, 3) := by decide +kernel
theorem dX1_produceEverywhere_31 : decode cX1_produceEverywhere 31 = .ok (.iinc 2 1, 3) := by decide +kernel
theorem dX1_produceEverywhere_34 : decode cX1_produceEverywhere 34 = .ok (.goto (-24), 3) := by decide +kernel
theorem dX1_produceEverywhere_37 : decode cX1_produceEverywhere 37 = .ok (.iinc 1 1, 3) := by decide +kernel
theorem dX1_produceEverywhere_40 : decode cX1_produceEverywhere 40 = .ok (.goto (-38), 3) := by decide +kernel
theorem dX1_produceEverywhere_43 : decode cX1_produceEverywhere 43 = .ok (.return_, 1) := by decide +kernel
theorem dX1_produce_0 : decode cX1_produce 0 = .ok (.aload_n 0, 1) := by decide +kernel
theorem dX1_produce_1 : decode cX1_produce 1 = .ok (.getfield 11, 3) := by decide +kernel
theorem dX1_produce_4 : decode cX1_produce 4 = .ok (.iload_n 1, 1) := by decide +kernel
theorem dX1_produce_5 : decode cX1_produce 5 = .ok (.iload_n 2, 1) := by decide +kernel
theorem dX1_produce_6 : decode cX1_produce 6 = .ok (.invokestatic 74, 3) := by decide +kernel
theorem dX1_produce_9 : decode cX1_produce 9 = .ok (.aaload, 1) := by decide +kernel
theorem dX1_produce_10 : decode cX1_produce 10 = .ok (.astore 4, 2) := by decide +kernel
theorem dX1_produce_12 : decode cX1_produce 12 = .ok (.sipush 999, 3) := by decide +kernel
theorem dX1_produce_15 : decode cX1_produce 15 = .ok (.aload 4, 2) := by decide +kernel
theorem dX1_produce_17 : decode cX1_produce 17 = .ok (.invokevirtual 92, 3) := by decide +kernel
theorem dX1_produce_20 : decode cX1_produce 20 = .ok (.isub, 1) := by decide +kernel
theorem dX1_produce_21 : decode cX1_produce 21 = .ok (.ldc 100, 2) := by decide +kernel
theorem dX1_produce_23 : decode cX1_produce 23 = .ok (.aload_n 0, 1) := by decide +kernel
theorem dX1_produce_24 : decode cX1_produce 24 = .ok (.getfield 40, 3) := by decide +kernel
theorem dX1_produce_27 : decode cX1_produce 27 = .ok (.iload_n 2, 1) := by decide +kernel
theorem dX1_produce_28 : decode cX1_produce 28 = .ok (.iaload, 1) := by decide +kernel
theorem dX1_produce_29 : decode cX1_produce 29 = .ok (.isub, 1) := by decide +kernel
theorem dX1_produce_30 : decode cX1_produce 30 = .ok (.invokestatic 149, 3) := by decide +kernel
theorem dX1_produce_33 : decode cX1_produce 33 = .ok (.istore 5, 2) := by decide +kernel
theorem dX1_produce_35 : decode cX1_produce 35 = .ok (.iload_n 3, 1) := by decide +kernel
theorem dX1_produce_36 : decode cX1_produce 36 = .ok (.iload 5, 2) := by decide +kernel
theorem dX1_produce_38 : decode cX1_produce 38 = .ok (.invokestatic 149, 3) := by decide +kernel
theorem dX1_produce_41 : decode cX1_produce 41 = .ok (.istore 6, 2) := by decide +kernel
theorem dX1_produce_43 : decode cX1_produce 43 = .ok (.aload 4, 2) := by decide +kernel
theorem dX1_produce_45 : decode cX1_produce 45 = .ok (.iload_n 1, 1) := by decide +kernel
theorem dX1_produce_46 : decode cX1_produce 46 = .ok (.aload_n 0, 1) := by decide +kernel
theorem dX1_produce_47 : decode cX1_produce 47 = .ok (.getfield 49, 3) := by decide +kernel
theorem dX1_produce_50 : decode cX1_produce 50 = .ok (.iload 6, 2) := by decide +kernel
theorem dX1_produce_52 : decode cX1_produce 52 = .ok (.invokevirtual 154, 3) := by decide +kernel
theorem dX1_produce_55 : decode cX1_produce 55 = .ok (.aload_n 0, 1) := by decide +kernel
theorem dX1_produce_56 : decode cX1_produce 56 = .ok (.getfield 40, 3) := by decide +kernel
theorem dX1_produce_59 : decode cX1_produce 59 = .ok (.iload_n 2, 1) := by decide +kernel
theorem dX1_produce_60 : decode cX1_produce 60 = .ok (.dup2, 1) := by decide +kernel
theorem dX1_produce_61 : decode cX1_produce 61 = .ok (.iaload, 1) := by decide +kernel
theorem dX1_produce_62 : decode cX1_produce 62 = .ok (.iload 6, 2) := by decide +kernel
theorem dX1_produce_64 : decode cX1_produce 64 = .ok (.iadd, 1) := by decide +kernel
theorem dX1_produce_65 : decode cX1_produce 65 = .ok (.iastore, 1) := by decide +kernel
theorem dX1_produce_66 : decode cX1_produce 66 = .ok (.return_, 1) := by decide +kernel
theorem dX1_deliverFrom_0 : decode cX1_deliverFrom 0 = .ok (.iload 4, 2) := by decide +kernel
theorem dX1_deliverFrom_2 : decode cX1_deliverFrom 2 = .ok (.aload_n 1, 1) := by decide +kernel
theorem dX1_deliverFrom_3 : decode cX1_deliverFrom 3 = .ok (.invokevirtual 92, 3) := by decide +kernel
theorem dX1_deliverFrom_6 : decode cX1_deliverFrom 6 = .ok (.invokestatic 149, 3) := by decide +kernel
theorem dX1_deliverFrom_9 : decode cX1_deliverFrom 9 = .ok (.istore 5, 2) := by decide +kernel
theorem dX1_deliverFrom_11 : decode cX1_deliverFrom 11 = .ok (.iload 5, 2) := by decide +kernel
theorem dX1_deliverFrom_13 : decode cX1_deliverFrom 13 = .ok (.istore 6, 2) := by decide +kernel
theorem dX1_deliverFrom_15 : decode cX1_deliverFrom 15 = .ok (.iconst 0, 1) := by decide +kernel
theorem dX1_deliverFrom_16 : decode cX1_deliverFrom 16 = .ok (.istore 7, 2) := by decide +kernel
theorem dX1_deliverFrom_18 : decode cX1_deliverFrom 18 = .ok (.iload 7, 2) := by decide +kernel
theorem dX1_deliverFrom_20 : decode cX1_deliverFrom 20 = .ok (.bipush 8, 2) := by decide +kernel
theorem dX1_deliverFrom_22 : decode cX1_deliverFrom 22 = .ok (.if_icmp .ge 64, 3) := by decide +kernel
theorem dX1_deliverFrom_25 : decode cX1_deliverFrom 25 = .ok (.iload 6, 2) := by decide +kernel
theorem dX1_deliverFrom_27 : decode cX1_deliverFrom 27 = .ok (.ifCond .le 59, 3) := by decide +kernel
theorem dX1_deliverFrom_30 : decode cX1_deliverFrom 30 = .ok (.iload 6, 2) := by decide +kernel
theorem dX1_deliverFrom_32 : decode cX1_deliverFrom 32 = .ok (.aload_n 1, 1) := by decide +kernel
theorem dX1_deliverFrom_33 : decode cX1_deliverFrom 33 = .ok (.iconst 0, 1) := by decide +kernel
theorem dX1_deliverFrom_34 : decode cX1_deliverFrom 34 = .ok (.iconst 1, 1) := by decide +kernel
theorem dX1_deliverFrom_35 : decode cX1_deliverFrom 35 = .ok (.invokevirtual 135, 3) := by decide +kernel
theorem dX1_deliverFrom_38 : decode cX1_deliverFrom 38 = .ok (.invokestatic 149, 3) := by decide +kernel
theorem dX1_deliverFrom_41 : decode cX1_deliverFrom 41 = .ok (.istore 8, 2) := by decide +kernel
theorem dX1_deliverFrom_43 : decode cX1_deliverFrom 43 = .ok (.aload_n 0, 1) := by decide +kernel
theorem dX1_deliverFrom_44 : decode cX1_deliverFrom 44 = .ok (.iload 8, 2) := by decide +kernel
theorem dX1_deliverFrom_46 : decode cX1_deliverFrom 46 = .ok (.aload_n 0, 1) := by decide +kernel
