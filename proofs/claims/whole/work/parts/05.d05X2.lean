theorem dX2_produce_45 : decode cX2_produce 45 = .ok (.aload_n 0, 1) := by decide +kernel
theorem dX2_produce_46 : decode cX2_produce 46 = .ok (.getfield 74, 3) := by decide +kernel
theorem dX2_produce_49 : decode cX2_produce 49 = .ok (.invokevirtual 69, 3) := by decide +kernel
theorem dX2_produce_52 : decode cX2_produce 52 = .ok (.return_, 1) := by decide +kernel
theorem dX2_place_0 : decode cX2_place 0 = .ok (.aload_n 0, 1) := by decide +kernel
theorem dX2_place_1 : decode cX2_place 1 = .ok (.iload_n 1, 1) := by decide +kernel
theorem dX2_place_2 : decode cX2_place 2 = .ok (.bipush 8, 2) := by decide +kernel
theorem dX2_place_4 : decode cX2_place 4 = .ok (.invokestatic 77, 3) := by decide +kernel
theorem dX2_place_7 : decode cX2_place 7 = .ok (.ifCond .ne 7, 3) := by decide +kernel
theorem dX2_place_10 : decode cX2_place 10 = .ok (.iconst 1, 1) := by decide +kernel
theorem dX2_place_11 : decode cX2_place 11 = .ok (.goto 26, 3) := by decide +kernel
theorem dX2_place_14 : decode cX2_place 14 = .ok (.iload_n 2, 1) := by decide +kernel
theorem dX2_place_15 : decode cX2_place 15 = .ok (.bipush 100, 2) := by decide +kernel
theorem dX2_place_17 : decode cX2_place 17 = .ok (.invokestatic 77, 3) := by decide +kernel
theorem dX2_place_20 : decode cX2_place 20 = .ok (.ifCond .eq 12, 3) := by decide +kernel
theorem dX2_place_23 : decode cX2_place 23 = .ok (.iload_n 3, 1) := by decide +kernel
theorem dX2_place_24 : decode cX2_place 24 = .ok (.bipush 100, 2) := by decide +kernel
theorem dX2_place_26 : decode cX2_place 26 = .ok (.invokestatic 77, 3) := by decide +kernel
theorem dX2_place_29 : decode cX2_place 29 = .ok (.ifCond .ne 7, 3) := by decide +kernel
theorem dX2_place_32 : decode cX2_place 32 = .ok (.iconst 2, 1) := by decide +kernel
theorem dX2_place_33 : decode cX2_place 33 = .ok (.goto 4, 3) := by decide +kernel
theorem dX2_place_36 : decode cX2_place 36 = .ok (.iconst 0, 1) := by decide +kernel
theorem dX2_place_37 : decode cX2_place 37 = .ok (.putfield 54, 3) := by decide +kernel
theorem dX2_place_40 : decode cX2_place 40 = .ok (.aload_n 0, 1) := by decide +kernel
theorem dX2_place_41 : decode cX2_place 41 = .ok (.getfield 54, 3) := by decide +kernel
theorem dX2_place_44 : decode cX2_place 44 = .ok (.ifCond .le 4, 3) := by decide +kernel
theorem dX2_place_47 : decode cX2_place 47 = .ok (.return_, 1) := by decide +kernel
theorem dX2_place_48 : decode cX2_place 48 = .ok (.aload_n 0, 1) := by decide +kernel
theorem dX2_place_49 : decode cX2_place 49 = .ok (.getfield 13, 3) := by decide +kernel
theorem dX2_place_52 : decode cX2_place 52 = .ok (.iload_n 1, 1) := by decide +kernel
theorem dX2_place_53 : decode cX2_place 53 = .ok (.iload_n 2, 1) := by decide +kernel
theorem dX2_place_54 : decode cX2_place 54 = .ok (.iastore, 1) := by decide +kernel
theorem dX2_place_55 : decode cX2_place 55 = .ok (.aload_n 0, 1) := by decide +kernel
theorem dX2_place_56 : decode cX2_place 56 = .ok (.getfield 17, 3) := by decide +kernel
theorem dX2_place_59 : decode cX2_place 59 = .ok (.iload_n 1, 1) := by decide +kernel
theorem dX2_place_60 : decode cX2_place 60 = .ok (.iload_n 3, 1) := by decide +kernel
theorem dX2_place_61 : decode cX2_place 61 = .ok (.iastore, 1) := by decide +kernel
theorem dX2_place_62 : decode cX2_place 62 = .ok (.return_, 1) := by decide +kernel
theorem dX2_rate_0 : decode cX2_rate 0 = .ok (.aload_n 0, 1) := by decide +kernel
theorem dX2_rate_1 : decode cX2_rate 1 = .ok (.iload_n 1, 1) := by decide +kernel
theorem dX2_rate_2 : decode cX2_rate 2 = .ok (.bipush 8, 2) := by decide +kernel
theorem dX2_rate_4 : decode cX2_rate 4 = .ok (.invokestatic 77, 3) := by decide +kernel
theorem dX2_rate_7 : decode cX2_rate 7 = .ok (.ifCond .eq 11, 3) := by decide +kernel
theorem dX2_rate_10 : decode cX2_rate 10 = .ok (.iload_n 2, 1) := by decide +kernel
theorem dX2_rate_11 : decode cX2_rate 11 = .ok (.iconst 4, 1) := by decide +kernel
theorem dX2_rate_12 : decode cX2_rate 12 = .ok (.invokestatic 77, 3) := by decide +kernel
theorem dX2_rate_15 : decode cX2_rate 15 = .ok (.ifCond .ne 7, 3) := by decide +kernel
theorem dX2_rate_18 : decode cX2_rate 18 = .ok (.iconst 1, 1) := by decide +kernel
theorem dX2_rate_19 : decode cX2_rate 19 = .ok (.goto 17, 3) := by decide +kernel
theorem dX2_rate_22 : decode cX2_rate 22 = .ok (.iload_n 3, 1) := by decide +kernel
theorem dX2_rate_23 : decode cX2_rate 23 = .ok (.bipush 32, 2) := by decide +kernel
theorem dX2_rate_25 : decode cX2_rate 25 = .ok (.invokestatic 77, 3) := by decide +kernel
theorem dX2_rate_28 : decode cX2_rate 28 = .ok (.ifCond .ne 7, 3) := by decide +kernel
theorem dX2_rate_31 : decode cX2_rate 31 = .ok (.iconst 2, 1) := by decide +kernel
theorem dX2_rate_32 : decode cX2_rate 32 = .ok (.goto 4, 3) := by decide +kernel
theorem dX2_rate_35 : decode cX2_rate 35 = .ok (.iconst 0, 1) := by decide +kernel
theorem dX2_rate_36 : decode cX2_rate 36 = .ok (.putfield 54, 3) := by decide +kernel
theorem dX2_rate_39 : decode cX2_rate 39 = .ok (.aload_n 0, 1) := by decide +kernel
theorem dX2_rate_40 : decode cX2_rate 40 = .ok (.getfield 54, 3) := by decide +kernel
theorem dX2_rate_43 : decode cX2_rate 43 = .ok (.ifCond .ne 14, 3) := by decide +kernel
theorem dX2_rate_46 : decode cX2_rate 46 = .ok (.aload_n 0, 1) := by decide +kernel
theorem dX2_rate_47 : decode cX2_rate 47 = .ok (.getfield 23, 3) := by decide +kernel
theorem dX2_rate_50 : decode cX2_rate 50 = .ok (.iconst 4, 1) := by decide +kernel
theorem dX2_rate_51 : decode cX2_rate 51 = .ok (.iload_n 1, 1) := by decide +kernel
theorem dX2_rate_52 : decode cX2_rate 52 = .ok (.imul, 1) := by decide +kernel
theorem dX2_rate_53 : decode cX2_rate 53 = .ok (.iload_n 2, 1) := by decide +kernel
theorem dX2_rate_54 : decode cX2_rate 54 = .ok (.iadd, 1) := by decide +kernel
theorem dX2_rate_55 : decode cX2_rate 55 = .ok (.iload_n 3, 1) := by decide +kernel
theorem dX2_rate_56 : decode cX2_rate 56 = .ok (.iastore, 1) := by decide +kernel
theorem dX2_rate_57 : decode cX2_rate 57 = .ok (.return_, 1) := by decide +kernel
theorem dX2_accept_0 : decode cX2_accept 0 = .ok (.aload_n 0, 1) := by decide +kernel
theorem dX2_accept_1 : decode cX2_accept 1 = .ok (.iload_n 1, 1) := by decide +kernel
theorem dX2_accept_2 : decode cX2_accept 2 = .ok (.bipush 8, 2) := by decide +kernel
theorem dX2_accept_4 : decode cX2_accept 4 = .ok (.invokestatic 77, 3) := by decide +kernel
theorem dX2_accept_7 : decode cX2_accept 7 = .ok (.ifCond .ne 7, 3) := by decide +kernel
theorem dX2_accept_10 : decode cX2_accept 10 = .ok (.iconst 1, 1) := by decide +kernel
theorem dX2_accept_11 : decode cX2_accept 11 = .ok (.goto 17, 3) := by decide +kernel
theorem dX2_accept_14 : decode cX2_accept 14 = .ok (.iload_n 2, 1) := by decide +kernel
theorem dX2_accept_15 : decode cX2_accept 15 = .ok (.bipush 16, 2) := by decide +kernel
theorem dX2_accept_17 : decode cX2_accept 17 = .ok (.invokestatic 77, 3) := by decide +kernel
theorem dX2_accept_20 : decode cX2_accept 20 = .ok (.ifCond .ne 7, 3) := by decide +kernel
theorem dX2_accept_23 : decode cX2_accept 23 = .ok (.iconst 2, 1) := by decide +kernel
theorem dX2_accept_24 : decode cX2_accept 24 = .ok (.goto 4, 3) := by decide +kernel
theorem dX2_accept_27 : decode cX2_accept 27 = .ok (.iconst 0, 1) := by decide +kernel
theorem dX2_accept_28 : decode cX2_accept 28 = .ok (.putfield 54, 3) := by decide +kernel
theorem dX2_accept_31 : decode cX2_accept 31 = .ok (.aload_n 0, 1) := by decide +kernel
theorem dX2_accept_32 : decode cX2_accept 32 = .ok (.getfield 54, 3) := by decide +kernel
theorem dX2_accept_35 : decode cX2_accept 35 = .ok (.ifCond .ne 10, 3) := by decide +kernel
theorem dX2_accept_38 : decode cX2_accept 38 = .ok (.aload_n 0, 1) := by decide +kernel
theorem dX2_accept_39 : decode cX2_accept 39 = .ok (.getfield 20, 3) := by decide +kernel
theorem dX2_accept_42 : decode cX2_accept 42 = .ok (.iload_n 1, 1) := by decide +kernel
theorem dX2_accept_43 : decode cX2_accept 43 = .ok (.iload_n 2, 1) := by decide +kernel
theorem dX2_accept_44 : decode cX2_accept 44 = .ok (.iastore, 1) := by decide +kernel
theorem dX2_accept_45 : decode cX2_accept 45 = .ok (.return_, 1) := by decide +kernel
theorem dX2_make_0 : decode cX2_make 0 = .ok (.aload_n 0, 1) := by decide +kernel
theorem dX2_make_1 : decode cX2_make 1 = .ok (.iload_n 1, 1) := by decide +kernel
theorem dX2_make_2 : decode cX2_make 2 = .ok (.bipush 8, 2) := by decide +kernel
theorem dX2_make_4 : decode cX2_make 4 = .ok (.invokestatic 77, 3) := by decide +kernel
theorem dX2_make_7 : decode cX2_make 7 = .ok (.ifCond .eq 11, 3) := by decide +kernel
theorem dX2_make_10 : decode cX2_make 10 = .ok (.iload_n 2, 1) := by decide +kernel
theorem dX2_make_11 : decode cX2_make 11 = .ok (.iconst 4, 1) := by decide +kernel
theorem dX2_make_12 : decode cX2_make 12 = .ok (.invokestatic 77, 3) := by decide +kernel
theorem dX2_make_15 : decode cX2_make 15 = .ok (.ifCond .ne 7, 3) := by decide +kernel
theorem dX2_make_18 : decode cX2_make 18 = .ok (.iconst 1, 1) := by decide +kernel
theorem dX2_make_19 : decode cX2_make 19 = .ok (.goto 21, 3) := by decide +kernel
theorem dX2_make_22 : decode cX2_make 22 = .ok (.iload_n 3, 1) := by decide +kernel
theorem dX2_make_23 : decode cX2_make 23 = .ok (.iconst (-1), 1) := by decide +kernel
theorem dX2_make_24 : decode cX2_make 24 = .ok (.if_icmp .eq 15, 3) := by decide +kernel
theorem dX2_make_27 : decode cX2_make 27 = .ok (.iload_n 3, 1) := by decide +kernel
theorem dX2_make_28 : decode cX2_make 28 = .ok (.iconst 4, 1) := by decide +kernel
theorem dX2_make_29 : decode cX2_make 29 = .ok (.invokestatic 77, 3) := by decide +kernel
theorem dX2_make_32 : decode cX2_make 32 = .ok (.ifCond .ne 7, 3) := by decide +kernel
theorem dX2_make_35 : decode cX2_make 35 = .ok (.iconst 2, 1) := by decide +kernel
theorem dX2_make_36 : decode cX2_make 36 = .ok (.goto 4, 3) := by decide +kernel
theorem dX2_make_39 : decode cX2_make 39 = .ok (.iconst 0, 1) := by decide +kernel
theorem dX2_make_40 : decode cX2_make 40 = .ok (.putfield 54, 3) := by decide +kernel
theorem dX2_make_43 : decode cX2_make 43 = .ok (.aload_n 0, 1) := by decide +kernel
theorem dX2_make_44 : decode cX2_make 44 = .ok (.getfield 54, 3) := by decide +kernel
theorem dX2_make_47 : decode cX2_make 47 = .ok (.ifCond .ne 14, 3) := by decide +kernel
theorem dX2_make_50 : decode cX2_make 50 = .ok (.aload_n 0, 1) := by decide +kernel
theorem dX2_make_51 : decode cX2_make 51 = .ok (.getfield 26, 3) := by decide +kernel
theorem dX2_make_54 : decode cX2_make 54 = .ok (.iconst 4, 1) := by decide +kernel
theorem dX2_make_55 : decode cX2_make 55 = .ok (.iload_n 1, 1) := by decide +kernel
theorem dX2_make_56 : decode cX2_make 56 = .ok (.imul, 1) := by decide +kernel
theorem dX2_make_57 : decode cX2_make 57 = .ok (.iload_n 2, 1) := by decide +kernel
theorem dX2_make_58 : decode cX2_make 58 = .ok (.iadd, 1) := by decide +kernel
theorem dX2_make_59 : decode cX2_make 59 = .ok (.iload_n 3, 1) := by decide +kernel
theorem dX2_make_60 : decode cX2_make 60 = .ok (.iastore, 1) := by decide +kernel
theorem dX2_make_61 : decode cX2_make 61 = .ok (.return_, 1) := by decide +kernel
theorem dX2_wagon_0 : decode cX2_wagon 0 = .ok (.aload_n 0, 1) := by decide +kernel
theorem dX2_wagon_1 : decode cX2_wagon 1 = .ok (.iload_n 1, 1) := by decide +kernel
theorem dX2_wagon_2 : decode cX2_wagon 2 = .ok (.bipush 16, 2) := by decide +kernel
theorem dX2_wagon_4 : decode cX2_wagon 4 = .ok (.invokestatic 77, 3) := by decide +kernel
theorem dX2_wagon_7 : decode cX2_wagon 7 = .ok (.ifCond .eq 11, 3) := by decide +kernel
theorem dX2_wagon_10 : decode cX2_wagon 10 = .ok (.iload_n 2, 1) := by decide +kernel
theorem dX2_wagon_11 : decode cX2_wagon 11 = .ok (.iconst 4, 1) := by decide +kernel
theorem dX2_wagon_12 : decode cX2_wagon 12 = .ok (.invokestatic 77, 3) := by decide +kernel
theorem dX2_wagon_15 : decode cX2_wagon 15 = .ok (.ifCond .ne 7, 3) := by decide +kernel
theorem dX2_wagon_18 : decode cX2_wagon 18 = .ok (.iconst 1, 1) := by decide +kernel
theorem dX2_wagon_19 : decode cX2_wagon 19 = .ok (.goto 52, 3) := by decide +kernel
theorem dX2_wagon_22 : decode cX2_wagon 22 = .ok (.iload_n 3, 1) := by decide +kernel
theorem dX2_wagon_23 : decode cX2_wagon 23 = .ok (.bipush 81, 2) := by decide +kernel
theorem dX2_wagon_25 : decode cX2_wagon 25 = .ok (.invokestatic 77, 3) := by decide +kernel
theorem dX2_wagon_28 : decode cX2_wagon 28 = .ok (.ifCond .eq 38, 3) := by decide +kernel
theorem dX2_wagon_31 : decode cX2_wagon 31 = .ok (.aload_n 0, 1) := by decide +kernel
theorem dX2_wagon_32 : decode cX2_wagon 32 = .ok (.getfield 35, 3) := by decide +kernel
theorem dX2_wagon_35 : decode cX2_wagon 35 = .ok (.bipush 32, 2) := by decide +kernel
theorem dX2_wagon_37 : decode cX2_wagon 37 = .ok (.iload_n 1, 1) := by decide +kernel
theorem dX2_wagon_38 : decode cX2_wagon 38 = .ok (.iadd, 1) := by decide +kernel
theorem dX2_wagon_39 : decode cX2_wagon 39 = .ok (.iaload, 1) := by decide +kernel
theorem dX2_wagon_40 : decode cX2_wagon 40 = .ok (.iload_n 3, 1) := by decide +kernel
theorem dX2_wagon_41 : decode cX2_wagon 41 = .ok (.if_icmp .gt 25, 3) := by decide +kernel
theorem dX2_wagon_44 : decode cX2_wagon 44 = .ok (.aload_n 0, 1) := by decide +kernel
theorem dX2_wagon_45 : decode cX2_wagon 45 = .ok (.getfield 35, 3) := by decide +kernel
theorem dX2_wagon_48 : decode cX2_wagon 48 = .ok (.bipush 32, 2) := by decide +kernel
theorem dX2_wagon_50 : decode cX2_wagon 50 = .ok (.iload_n 1, 1) := by decide +kernel
theorem dX2_wagon_51 : decode cX2_wagon 51 = .ok (.iadd, 1) := by decide +kernel
theorem dX2_wagon_52 : decode cX2_wagon 52 = .ok (.iaload, 1) := by decide +kernel
theorem dX2_wagon_53 : decode cX2_wagon 53 = .ok (.ifCond .le 17, 3) := by decide +kernel
theorem dX2_wagon_56 : decode cX2_wagon 56 = .ok (.aload_n 0, 1) := by decide +kernel
theorem dX2_wagon_57 : decode cX2_wagon 57 = .ok (.getfield 29, 3) := by decide +kernel
theorem dX2_wagon_60 : decode cX2_wagon 60 = .ok (.iload_n 1, 1) := by decide +kernel
theorem dX2_wagon_61 : decode cX2_wagon 61 = .ok (.iaload, 1) := by decide +kernel
theorem dX2_wagon_62 : decode cX2_wagon 62 = .ok (.iload_n 2, 1) := by decide +kernel
theorem dX2_wagon_63 : decode cX2_wagon 63 = .ok (.if_icmp .eq 7, 3) := by decide +kernel
theorem dX2_wagon_66 : decode cX2_wagon 66 = .ok (.iconst 2, 1) := by decide +kernel
theorem dX2_wagon_67 : decode cX2_wagon 67 = .ok (.goto 4, 3) := by decide +kernel
theorem dX2_wagon_70 : decode cX2_wagon 70 = .ok (.iconst 0, 1) := by decide +kernel
theorem dX2_wagon_71 : decode cX2_wagon 71 = .ok (.putfield 54, 3) := by decide +kernel
theorem dX2_wagon_74 : decode cX2_wagon 74 = .ok (.aload_n 0, 1) := by decide +kernel
theorem dX2_wagon_75 : decode cX2_wagon 75 = .ok (.getfield 54, 3) := by decide +kernel
theorem dX2_wagon_78 : decode cX2_wagon 78 = .ok (.ifCond .le 4, 3) := by decide +kernel
theorem dX2_wagon_81 : decode cX2_wagon 81 = .ok (.return_, 1) := by decide +kernel
theorem dX2_wagon_82 : decode cX2_wagon 82 = .ok (.aload_n 0, 1) := by decide +kernel
theorem dX2_wagon_83 : decode cX2_wagon 83 = .ok (.getfield 29, 3) := by decide +kernel
theorem dX2_wagon_86 : decode cX2_wagon 86 = .ok (.iload_n 1, 1) := by decide +kernel
theorem dX2_wagon_87 : decode cX2_wagon 87 = .ok (.iload_n 2, 1) := by decide +kernel
theorem dX2_wagon_88 : decode cX2_wagon 88 = .ok (.iastore, 1) := by decide +kernel
theorem dX2_wagon_89 : decode cX2_wagon 89 = .ok (.aload_n 0, 1) := by decide +kernel
theorem dX2_wagon_90 : decode cX2_wagon 90 = .ok (.getfield 32, 3) := by decide +kernel
theorem dX2_wagon_93 : decode cX2_wagon 93 = .ok (.iload_n 1, 1) := by decide +kernel
theorem dX2_wagon_94 : decode cX2_wagon 94 = .ok (.iload_n 3, 1) := by decide +kernel
theorem dX2_wagon_95 : decode cX2_wagon 95 = .ok (.iastore, 1) := by decide +kernel
theorem dX2_wagon_96 : decode cX2_wagon 96 = .ok (.return_, 1) := by decide +kernel
theorem dX2_pass_0 : decode cX2_pass 0 = .ok (.aload_n 0, 1) := by decide +kernel
theorem dX2_pass_1 : decode cX2_pass 1 = .ok (.iload_n 1, 1) := by decide +kernel
theorem dX2_pass_2 : decode cX2_pass 2 = .ok (.sipush 2001, 3) := by decide +kernel
theorem dX2_pass_5 : decode cX2_pass 5 = .ok (.invokestatic 77, 3) := by decide +kernel
theorem dX2_pass_8 : decode cX2_pass 8 = .ok (.ifCond .eq 14, 3) := by decide +kernel
theorem dX2_pass_11 : decode cX2_pass 11 = .ok (.iload_n 1, 1) := by decide +kernel
theorem dX2_pass_12 : decode cX2_pass 12 = .ok (.ldc 73, 2) := by decide +kernel
theorem dX2_pass_14 : decode cX2_pass 14 = .ok (.aload_n 0, 1) := by decide +kernel
theorem dX2_pass_15 : decode cX2_pass 15 = .ok (.getfield 74, 3) := by decide +kernel
theorem dX2_pass_18 : decode cX2_pass 18 = .ok (.isub, 1) := by decide +kernel
theorem dX2_pass_19 : decode cX2_pass 19 = .ok (.if_icmp .le 7, 3) := by decide +kernel
theorem dX2_pass_22 : decode cX2_pass 22 = .ok (.iconst 1, 1) := by decide +kernel
theorem dX2_pass_23 : decode cX2_pass 23 = .ok (.goto 4, 3) := by decide +kernel
theorem dX2_pass_26 : decode cX2_pass 26 = .ok (.iconst 0, 1) := by decide +kernel
theorem dX2_pass_27 : decode cX2_pass 27 = .ok (.putfield 54, 3) := by decide +kernel
theorem dX2_pass_30 : decode cX2_pass 30 = .ok (.aload_n 0, 1) := by decide +kernel
theorem dX2_pass_31 : decode cX2_pass 31 = .ok (.getfield 54, 3) := by decide +kernel
theorem dX2_pass_34 : decode cX2_pass 34 = .ok (.ifCond .le 5, 3) := by decide +kernel
theorem dX2_pass_37 : decode cX2_pass 37 = .ok (.iconst 0, 1) := by decide +kernel
theorem dX2_pass_38 : decode cX2_pass 38 = .ok (.ireturn, 1) := by decide +kernel
theorem dX2_pass_39 : decode cX2_pass 39 = .ok (.iconst 0, 1) := by decide +kernel
theorem dX2_pass_40 : decode cX2_pass 40 = .ok (.istore_n 2, 1) := by decide +kernel
theorem dX2_pass_41 : decode cX2_pass 41 = .ok (.iload_n 2, 1) := by decide +kernel
theorem dX2_pass_42 : decode cX2_pass 42 = .ok (.iload_n 1, 1) := by decide +kernel
theorem dX2_pass_43 : decode cX2_pass 43 = .ok (.if_icmp .ge 76, 3) := by decide +kernel
theorem dX2_pass_46 : decode cX2_pass 46 = .ok (.aload_n 0, 1) := by decide +kernel
theorem dX2_pass_47 : decode cX2_pass 47 = .ok (.dup, 1) := by decide +kernel
theorem dX2_pass_48 : decode cX2_pass 48 = .ok (.getfield 74, 3) := by decide +kernel
theorem dX2_pass_51 : decode cX2_pass 51 = .ok (.iconst 1, 1) := by decide +kernel
theorem dX2_pass_52 : decode cX2_pass 52 = .ok (.iadd, 1) := by decide +kernel
theorem dX2_pass_53 : decode cX2_pass 53 = .ok (.putfield 74, 3) := by decide +kernel
theorem dX2_pass_56 : decode cX2_pass 56 = .ok (.aload_n 0, 1) := by decide +kernel
theorem dX2_pass_57 : decode cX2_pass 57 = .ok (.getfield 74, 3) := by decide +kernel
theorem dX2_pass_60 : decode cX2_pass 60 = .ok (.bipush 16, 2) := by decide +kernel
theorem dX2_pass_62 : decode cX2_pass 62 = .ok (.irem, 1) := by decide +kernel
theorem dX2_pass_63 : decode cX2_pass 63 = .ok (.ifCond .eq 6, 3) := by decide +kernel
theorem dX2_pass_66 : decode cX2_pass 66 = .ok (.goto 47, 3) := by decide +kernel
theorem dX2_pass_69 : decode cX2_pass 69 = .ok (.iconst 0, 1) := by decide +kernel
theorem dX2_pass_70 : decode cX2_pass 70 = .ok (.istore_n 3, 1) := by decide +kernel
theorem dX2_pass_71 : decode cX2_pass 71 = .ok (.iload_n 3, 1) := by decide +kernel
theorem dX2_pass_72 : decode cX2_pass 72 = .ok (.bipush 32, 2) := by decide +kernel
theorem dX2_pass_74 : decode cX2_pass 74 = .ok (.if_icmp .ge 39, 3) := by decide +kernel
theorem dX2_pass_77 : decode cX2_pass 77 = .ok (.iconst 0, 1) := by decide +kernel
theorem dX2_pass_78 : decode cX2_pass 78 = .ok (.istore 4, 2) := by decide +kernel
theorem dX2_pass_80 : decode cX2_pass 80 = .ok (.iload 4, 2) := by decide +kernel
theorem dX2_pass_82 : decode cX2_pass 82 = .ok (.aload_n 0, 1) := by decide +kernel
theorem dX2_pass_83 : decode cX2_pass 83 = .ok (.getfield 23, 3) := by decide +kernel
theorem dX2_pass_86 : decode cX2_pass 86 = .ok (.iload_n 3, 1) := by decide +kernel
theorem dX2_pass_87 : decode cX2_pass 87 = .ok (.iaload, 1) := by decide +kernel
theorem dX2_pass_88 : decode cX2_pass 88 = .ok (.if_icmp .ge 19, 3) := by decide +kernel
theorem dX2_pass_91 : decode cX2_pass 91 = .ok (.aload_n 0, 1) := by decide +kernel
theorem dX2_pass_92 : decode cX2_pass 92 = .ok (.iload_n 3, 1) := by decide +kernel
theorem dX2_pass_93 : decode cX2_pass 93 = .ok (.iconst 4, 1) := by decide +kernel
theorem dX2_pass_94 : decode cX2_pass 94 = .ok (.idiv, 1) := by decide +kernel
theorem dX2_pass_95 : decode cX2_pass 95 = .ok (.iload_n 3, 1) := by decide +kernel
theorem dX2_pass_96 : decode cX2_pass 96 = .ok (.iconst 4, 1) := by decide +kernel
theorem dX2_pass_97 : decode cX2_pass 97 = .ok (.irem, 1) := by decide +kernel
theorem dX2_pass_98 : decode cX2_pass 98 = .ok (.invokevirtual 80, 3) := by decide +kernel
theorem dX2_pass_101 : decode cX2_pass 101 = .ok (.iinc 4 1, 3) := by decide +kernel
theorem dX2_pass_104 : decode cX2_pass 104 = .ok (.goto (-24), 3) := by decide +kernel
theorem dX2_pass_107 : decode cX2_pass 107 = .ok (.iinc 3 1, 3) := by decide +kernel
theorem dX2_pass_110 : decode cX2_pass 110 = .ok (.goto (-39), 3) := by decide +kernel
theorem dX2_pass_113 : decode cX2_pass 113 = .ok (.iinc 2 1, 3) := by decide +kernel
theorem dX2_pass_116 : decode cX2_pass 116 = .ok (.goto (-75), 3) := by decide +kernel
theorem dX2_pass_119 : decode cX2_pass 119 = .ok (.aload_n 0, 1) := by decide +kernel
theorem dX2_pass_120 : decode cX2_pass 120 = .ok (.getfield 74, 3) := by decide +kernel
theorem dX2_pass_123 : decode cX2_pass 123 = .ok (.ireturn, 1) := by decide +kernel
theorem dX2_load_0 : decode cX2_load 0 = .ok (.aload_n 0, 1) := by decide +kernel
theorem dX2_load_1 : decode cX2_load 1 = .ok (.iload_n 1, 1) := by decide +kernel
theorem dX2_load_2 : decode cX2_load 2 = .ok (.bipush 16, 2) := by decide +kernel
theorem dX2_load_4 : decode cX2_load 4 = .ok (.invokestatic 77, 3) := by decide +kernel
theorem dX2_load_7 : decode cX2_load 7 = .ok (.ifCond .eq 12, 3) := by decide +kernel
theorem dX2_load_10 : decode cX2_load 10 = .ok (.iload_n 2, 1) := by decide +kernel
theorem dX2_load_11 : decode cX2_load 11 = .ok (.bipush 8, 2) := by decide +kernel
theorem dX2_load_13 : decode cX2_load 13 = .ok (.invokestatic 77, 3) := by decide +kernel
theorem dX2_load_16 : decode cX2_load 16 = .ok (.ifCond .ne 7, 3) := by decide +kernel
theorem dX2_load_19 : decode cX2_load 19 = .ok (.iconst 1, 1) := by decide +kernel
theorem dX2_load_20 : decode cX2_load 20 = .ok (.goto 12, 3) := by decide +kernel
theorem dX2_load_23 : decode cX2_load 23 = .ok (.iload_n 3, 1) := by decide +kernel
theorem dX2_load_24 : decode cX2_load 24 = .ok (.ifCond .ge 7, 3) := by decide +kernel
theorem dX2_load_27 : decode cX2_load 27 = .ok (.iconst 2, 1) := by decide +kernel
theorem dX2_load_28 : decode cX2_load 28 = .ok (.goto 4, 3) := by decide +kernel
theorem dX2_load_31 : decode cX2_load 31 = .ok (.iconst 0, 1) := by decide +kernel
theorem dX2_load_32 : decode cX2_load 32 = .ok (.putfield 54, 3) := by decide +kernel
theorem dX2_load_35 : decode cX2_load 35 = .ok (.aload_n 0, 1) := by decide +kernel
theorem dX2_load_36 : decode cX2_load 36 = .ok (.getfield 54, 3) := by decide +kernel
theorem dX2_load_39 : decode cX2_load 39 = .ok (.ifCond .le 5, 3) := by decide +kernel
theorem dX2_load_42 : decode cX2_load 42 = .ok (.iconst 0, 1) := by decide +kernel
theorem dX2_load_43 : decode cX2_load 43 = .ok (.ireturn, 1) := by decide +kernel
theorem dX2_load_44 : decode cX2_load 44 = .ok (.iconst 4, 1) := by decide +kernel
theorem dX2_load_45 : decode cX2_load 45 = .ok (.iload_n 2, 1) := by decide +kernel
theorem dX2_load_46 : decode cX2_load 46 = .ok (.imul, 1) := by decide +kernel
theorem dX2_load_47 : decode cX2_load 47 = .ok (.aload_n 0, 1) := by decide +kernel
theorem dX2_load_48 : decode cX2_load 48 = .ok (.getfield 29, 3) := by decide +kernel
theorem dX2_load_51 : decode cX2_load 51 = .ok (.iload_n 1, 1) := by decide +kernel
theorem dX2_load_52 : decode cX2_load 52 = .ok (.iaload, 1) := by decide +kernel
theorem dX2_load_53 : decode cX2_load 53 = .ok (.iadd, 1) := by decide +kernel
theorem dX2_load_54 : decode cX2_load 54 = .ok (.istore 4, 2) := by decide +kernel
theorem dX2_load_56 : decode cX2_load 56 = .ok (.iconst 0, 1) := by decide +kernel
theorem dX2_load_57 : decode cX2_load 57 = .ok (.istore 5, 2) := by decide +kernel
theorem dX2_load_59 : decode cX2_load 59 = .ok (.iload 5, 2) := by decide +kernel
theorem dX2_load_61 : decode cX2_load 61 = .ok (.iload_n 3, 1) := by decide +kernel
theorem dX2_load_62 : decode cX2_load 62 = .ok (.if_icmp .ge 47, 3) := by decide +kernel
theorem dX2_load_65 : decode cX2_load 65 = .ok (.aload_n 0, 1) := by decide +kernel
theorem dX2_load_66 : decode cX2_load 66 = .ok (.getfield 35, 3) := by decide +kernel
theorem dX2_load_69 : decode cX2_load 69 = .ok (.iload 4, 2) := by decide +kernel
theorem dX2_load_71 : decode cX2_load 71 = .ok (.iaload, 1) := by decide +kernel
theorem dX2_load_72 : decode cX2_load 72 = .ok (.ifCond .le 37, 3) := by decide +kernel
theorem dX2_load_75 : decode cX2_load 75 = .ok (.aload_n 0, 1) := by decide +kernel
theorem dX2_load_76 : decode cX2_load 76 = .ok (.getfield 35, 3) := by decide +kernel
theorem dX2_load_79 : decode cX2_load 79 = .ok (.bipush 32, 2) := by decide +kernel
theorem dX2_load_81 : decode cX2_load 81 = .ok (.iload_n 1, 1) := by decide +kernel
theorem dX2_load_82 : decode cX2_load 82 = .ok (.iadd, 1) := by decide +kernel
theorem dX2_load_83 : decode cX2_load 83 = .ok (.iaload, 1) := by decide +kernel
theorem dX2_load_84 : decode cX2_load 84 = .ok (.aload_n 0, 1) := by decide +kernel
theorem dX2_load_85 : decode cX2_load 85 = .ok (.getfield 32, 3) := by decide +kernel
theorem dX2_load_88 : decode cX2_load 88 = .ok (.iload_n 1, 1) := by decide +kernel
theorem dX2_load_89 : decode cX2_load 89 = .ok (.iaload, 1) := by decide +kernel
theorem dX2_load_90 : decode cX2_load 90 = .ok (.if_icmp .ge 19, 3) := by decide +kernel
theorem dX2_load_93 : decode cX2_load 93 = .ok (.aload_n 0, 1) := by decide +kernel
theorem dX2_load_94 : decode cX2_load 94 = .ok (.iload 4, 2) := by decide +kernel
theorem dX2_load_96 : decode cX2_load 96 = .ok (.bipush 32, 2) := by decide +kernel
theorem dX2_load_98 : decode cX2_load 98 = .ok (.iload_n 1, 1) := by decide +kernel
theorem dX2_load_99 : decode cX2_load 99 = .ok (.iadd, 1) := by decide +kernel
theorem dX2_load_100 : decode cX2_load 100 = .ok (.invokevirtual 84, 3) := by decide +kernel
theorem dX2_load_103 : decode cX2_load 103 = .ok (.iinc 5 1, 3) := by decide +kernel
theorem dX2_load_106 : decode cX2_load 106 = .ok (.goto (-47), 3) := by decide +kernel
theorem dX2_load_109 : decode cX2_load 109 = .ok (.iload 5, 2) := by decide +kernel
theorem dX2_load_111 : decode cX2_load 111 = .ok (.ireturn, 1) := by decide +kernel
theorem dX2_apart_0 : decode cX2_apart 0 = .ok (.iload_n 0, 1) := by decide +kernel
theorem dX2_apart_1 : decode cX2_apart 1 = .ok (.iload_n 1, 1) := by decide +kernel
theorem dX2_apart_2 : decode cX2_apart 2 = .ok (.if_icmp .ge 9, 3) := by decide +kernel
theorem dX2_apart_5 : decode cX2_apart 5 = .ok (.iload_n 1, 1) := by decide +kernel
theorem dX2_apart_6 : decode cX2_apart 6 = .ok (.iload_n 0, 1) := by decide +kernel
theorem dX2_apart_7 : decode cX2_apart 7 = .ok (.isub, 1) := by decide +kernel
theorem dX2_apart_8 : decode cX2_apart 8 = .ok (.goto 6, 3) := by decide +kernel
