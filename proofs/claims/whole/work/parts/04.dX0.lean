theorem dX0_init_0 : decode cX0_init 0 = .ok (.aload_n 0, 1) := by decide +kernel
theorem dX0_init_1 : decode cX0_init 1 = .ok (.invokespecial 3, 3) := by decide +kernel
theorem dX0_init_4 : decode cX0_init 4 = .ok (.aload_n 0, 1) := by decide +kernel
theorem dX0_init_5 : decode cX0_init 5 = .ok (.bipush 8, 2) := by decide +kernel
theorem dX0_init_7 : decode cX0_init 7 = .ok (.newarray .int, 2) := by decide +kernel
theorem dX0_init_9 : decode cX0_init 9 = .ok (.putfield 9, 3) := by decide +kernel
theorem dX0_init_12 : decode cX0_init 12 = .ok (.aload_n 0, 1) := by decide +kernel
theorem dX0_init_13 : decode cX0_init 13 = .ok (.bipush 8, 2) := by decide +kernel
theorem dX0_init_15 : decode cX0_init 15 = .ok (.newarray .int, 2) := by decide +kernel
theorem dX0_init_17 : decode cX0_init 17 = .ok (.putfield 15, 3) := by decide +kernel
theorem dX0_init_20 : decode cX0_init 20 = .ok (.aload_n 0, 1) := by decide +kernel
theorem dX0_init_21 : decode cX0_init 21 = .ok (.bipush 8, 2) := by decide +kernel
theorem dX0_init_23 : decode cX0_init 23 = .ok (.newarray .int, 2) := by decide +kernel
theorem dX0_init_25 : decode cX0_init 25 = .ok (.putfield 18, 3) := by decide +kernel
theorem dX0_init_28 : decode cX0_init 28 = .ok (.aload_n 0, 1) := by decide +kernel
theorem dX0_init_29 : decode cX0_init 29 = .ok (.iconst 0, 1) := by decide +kernel
theorem dX0_init_30 : decode cX0_init 30 = .ok (.putfield 21, 3) := by decide +kernel
theorem dX0_init_33 : decode cX0_init 33 = .ok (.aload_n 0, 1) := by decide +kernel
theorem dX0_init_34 : decode cX0_init 34 = .ok (.iconst 0, 1) := by decide +kernel
theorem dX0_init_35 : decode cX0_init 35 = .ok (.putfield 25, 3) := by decide +kernel
theorem dX0_init_38 : decode cX0_init 38 = .ok (.return_, 1) := by decide +kernel
theorem dX0_total_0 : decode cX0_total 0 = .ok (.aload_n 0, 1) := by decide +kernel
theorem dX0_total_1 : decode cX0_total 1 = .ok (.getfield 25, 3) := by decide +kernel
theorem dX0_total_4 : decode cX0_total 4 = .ok (.ireturn, 1) := by decide +kernel
theorem dX0_look_0 : decode cX0_look 0 = .ok (.iload_n 1, 1) := by decide +kernel
theorem dX0_look_1 : decode cX0_look 1 = .ok (.ifCond .lt 11, 3) := by decide +kernel
theorem dX0_look_4 : decode cX0_look 4 = .ok (.iload_n 1, 1) := by decide +kernel
theorem dX0_look_5 : decode cX0_look 5 = .ok (.aload_n 0, 1) := by decide +kernel
theorem dX0_look_6 : decode cX0_look 6 = .ok (.getfield 21, 3) := by decide +kernel
theorem dX0_look_9 : decode cX0_look 9 = .ok (.if_icmp .lt 5, 3) := by decide +kernel
theorem dX0_look_12 : decode cX0_look 12 = .ok (.iconst (-1), 1) := by decide +kernel
theorem dX0_look_13 : decode cX0_look 13 = .ok (.ireturn, 1) := by decide +kernel
theorem dX0_look_14 : decode cX0_look 14 = .ok (.iload_n 2, 1) := by decide +kernel
theorem dX0_look_15 : decode cX0_look 15 = .ok (.tableswitch 46 0 2 #[25, 32, 39], 25) := by decide +kernel
theorem dX0_look_40 : decode cX0_look 40 = .ok (.aload_n 0, 1) := by decide +kernel
theorem dX0_look_41 : decode cX0_look 41 = .ok (.getfield 9, 3) := by decide +kernel
theorem dX0_look_44 : decode cX0_look 44 = .ok (.iload_n 1, 1) := by decide +kernel
theorem dX0_look_45 : decode cX0_look 45 = .ok (.iaload, 1) := by decide +kernel
theorem dX0_look_46 : decode cX0_look 46 = .ok (.ireturn, 1) := by decide +kernel
theorem dX0_look_47 : decode cX0_look 47 = .ok (.aload_n 0, 1) := by decide +kernel
theorem dX0_look_48 : decode cX0_look 48 = .ok (.getfield 15, 3) := by decide +kernel
theorem dX0_look_51 : decode cX0_look 51 = .ok (.iload_n 1, 1) := by decide +kernel
theorem dX0_look_52 : decode cX0_look 52 = .ok (.iaload, 1) := by decide +kernel
theorem dX0_look_53 : decode cX0_look 53 = .ok (.ireturn, 1) := by decide +kernel
theorem dX0_look_54 : decode cX0_look 54 = .ok (.aload_n 0, 1) := by decide +kernel
theorem dX0_look_55 : decode cX0_look 55 = .ok (.getfield 18, 3) := by decide +kernel
theorem dX0_look_58 : decode cX0_look 58 = .ok (.iload_n 1, 1) := by decide +kernel
theorem dX0_look_59 : decode cX0_look 59 = .ok (.iaload, 1) := by decide +kernel
theorem dX0_look_60 : decode cX0_look 60 = .ok (.ireturn, 1) := by decide +kernel
theorem dX0_look_61 : decode cX0_look 61 = .ok (.iconst (-1), 1) := by decide +kernel
theorem dX0_look_62 : decode cX0_look 62 = .ok (.ireturn, 1) := by decide +kernel
theorem dX0_clear_0 : decode cX0_clear 0 = .ok (.aload_n 0, 1) := by decide +kernel
theorem dX0_clear_1 : decode cX0_clear 1 = .ok (.iconst 0, 1) := by decide +kernel
theorem dX0_clear_2 : decode cX0_clear 2 = .ok (.putfield 21, 3) := by decide +kernel
theorem dX0_clear_5 : decode cX0_clear 5 = .ok (.aload_n 0, 1) := by decide +kernel
theorem dX0_clear_6 : decode cX0_clear 6 = .ok (.iconst 0, 1) := by decide +kernel
theorem dX0_clear_7 : decode cX0_clear 7 = .ok (.putfield 25, 3) := by decide +kernel
theorem dX0_clear_10 : decode cX0_clear 10 = .ok (.return_, 1) := by decide +kernel
theorem dX0_putBehind_0 : decode cX0_putBehind 0 = .ok (.iload_n 3, 1) := by decide +kernel
theorem dX0_putBehind_1 : decode cX0_putBehind 1 = .ok (.ifCond .gt 4, 3) := by decide +kernel
theorem dX0_putBehind_4 : decode cX0_putBehind 4 = .ok (.return_, 1) := by decide +kernel
theorem dX0_putBehind_5 : decode cX0_putBehind 5 = .ok (.aload_n 0, 1) := by decide +kernel
theorem dX0_putBehind_6 : decode cX0_putBehind 6 = .ok (.getfield 21, 3) := by decide +kernel
theorem dX0_putBehind_9 : decode cX0_putBehind 9 = .ok (.bipush 8, 2) := by decide +kernel
theorem dX0_putBehind_11 : decode cX0_putBehind 11 = .ok (.if_icmp .ge 52, 3) := by decide +kernel
theorem dX0_putBehind_14 : decode cX0_putBehind 14 = .ok (.aload_n 0, 1) := by decide +kernel
theorem dX0_putBehind_15 : decode cX0_putBehind 15 = .ok (.iload_n 1, 1) := by decide +kernel
theorem dX0_putBehind_16 : decode cX0_putBehind 16 = .ok (.iload_n 2, 1) := by decide +kernel
theorem dX0_putBehind_17 : decode cX0_putBehind 17 = .ok (.invokevirtual 28, 3) := by decide +kernel
theorem dX0_putBehind_20 : decode cX0_putBehind 20 = .ok (.ifCond .ne 43, 3) := by decide +kernel
theorem dX0_putBehind_23 : decode cX0_putBehind 23 = .ok (.aload_n 0, 1) := by decide +kernel
theorem dX0_putBehind_24 : decode cX0_putBehind 24 = .ok (.getfield 9, 3) := by decide +kernel
theorem dX0_putBehind_27 : decode cX0_putBehind 27 = .ok (.aload_n 0, 1) := by decide +kernel
theorem dX0_putBehind_28 : decode cX0_putBehind 28 = .ok (.getfield 21, 3) := by decide +kernel
theorem dX0_putBehind_31 : decode cX0_putBehind 31 = .ok (.iload_n 1, 1) := by decide +kernel
theorem dX0_putBehind_32 : decode cX0_putBehind 32 = .ok (.iastore, 1) := by decide +kernel
theorem dX0_putBehind_33 : decode cX0_putBehind 33 = .ok (.aload_n 0, 1) := by decide +kernel
theorem dX0_putBehind_34 : decode cX0_putBehind 34 = .ok (.getfield 18, 3) := by decide +kernel
theorem dX0_putBehind_37 : decode cX0_putBehind 37 = .ok (.aload_n 0, 1) := by decide +kernel
theorem dX0_putBehind_38 : decode cX0_putBehind 38 = .ok (.getfield 21, 3) := by decide +kernel
theorem dX0_putBehind_41 : decode cX0_putBehind 41 = .ok (.iload_n 2, 1) := by decide +kernel
theorem dX0_putBehind_42 : decode cX0_putBehind 42 = .ok (.iastore, 1) := by decide +kernel
theorem dX0_putBehind_43 : decode cX0_putBehind 43 = .ok (.aload_n 0, 1) := by decide +kernel
theorem dX0_putBehind_44 : decode cX0_putBehind 44 = .ok (.getfield 15, 3) := by decide +kernel
theorem dX0_putBehind_47 : decode cX0_putBehind 47 = .ok (.aload_n 0, 1) := by decide +kernel
theorem dX0_putBehind_48 : decode cX0_putBehind 48 = .ok (.getfield 21, 3) := by decide +kernel
theorem dX0_putBehind_51 : decode cX0_putBehind 51 = .ok (.iconst 0, 1) := by decide +kernel
theorem dX0_putBehind_52 : decode cX0_putBehind 52 = .ok (.iastore, 1) := by decide +kernel
theorem dX0_putBehind_53 : decode cX0_putBehind 53 = .ok (.aload_n 0, 1) := by decide +kernel
theorem dX0_putBehind_54 : decode cX0_putBehind 54 = .ok (.dup, 1) := by decide +kernel
theorem dX0_putBehind_55 : decode cX0_putBehind 55 = .ok (.getfield 21, 3) := by decide +kernel
theorem dX0_putBehind_58 : decode cX0_putBehind 58 = .ok (.iconst 1, 1) := by decide +kernel
theorem dX0_putBehind_59 : decode cX0_putBehind 59 = .ok (.iadd, 1) := by decide +kernel
theorem dX0_putBehind_60 : decode cX0_putBehind 60 = .ok (.putfield 21, 3) := by decide +kernel
theorem dX0_putBehind_63 : decode cX0_putBehind 63 = .ok (.aload_n 0, 1) := by decide +kernel
theorem dX0_putBehind_64 : decode cX0_putBehind 64 = .ok (.getfield 15, 3) := by decide +kernel
theorem dX0_putBehind_67 : decode cX0_putBehind 67 = .ok (.aload_n 0, 1) := by decide +kernel
theorem dX0_putBehind_68 : decode cX0_putBehind 68 = .ok (.getfield 21, 3) := by decide +kernel
theorem dX0_putBehind_71 : decode cX0_putBehind 71 = .ok (.iconst 1, 1) := by decide +kernel
theorem dX0_putBehind_72 : decode cX0_putBehind 72 = .ok (.isub, 1) := by decide +kernel
theorem dX0_putBehind_73 : decode cX0_putBehind 73 = .ok (.dup2, 1) := by decide +kernel
theorem dX0_putBehind_74 : decode cX0_putBehind 74 = .ok (.iaload, 1) := by decide +kernel
theorem dX0_putBehind_75 : decode cX0_putBehind 75 = .ok (.iload_n 3, 1) := by decide +kernel
theorem dX0_putBehind_76 : decode cX0_putBehind 76 = .ok (.iadd, 1) := by decide +kernel
theorem dX0_putBehind_77 : decode cX0_putBehind 77 = .ok (.iastore, 1) := by decide +kernel
theorem dX0_putBehind_78 : decode cX0_putBehind 78 = .ok (.aload_n 0, 1) := by decide +kernel
theorem dX0_putBehind_79 : decode cX0_putBehind 79 = .ok (.dup, 1) := by decide +kernel
theorem dX0_putBehind_80 : decode cX0_putBehind 80 = .ok (.getfield 25, 3) := by decide +kernel
theorem dX0_putBehind_83 : decode cX0_putBehind 83 = .ok (.iload_n 3, 1) := by decide +kernel
theorem dX0_putBehind_84 : decode cX0_putBehind 84 = .ok (.iadd, 1) := by decide +kernel
theorem dX0_putBehind_85 : decode cX0_putBehind 85 = .ok (.putfield 25, 3) := by decide +kernel
theorem dX0_putBehind_88 : decode cX0_putBehind 88 = .ok (.return_, 1) := by decide +kernel
theorem dX0_lastIs_0 : decode cX0_lastIs 0 = .ok (.aload_n 0, 1) := by decide +kernel
theorem dX0_lastIs_1 : decode cX0_lastIs 1 = .ok (.getfield 21, 3) := by decide +kernel
theorem dX0_lastIs_4 : decode cX0_lastIs 4 = .ok (.iconst 1, 1) := by decide +kernel
theorem dX0_lastIs_5 : decode cX0_lastIs 5 = .ok (.isub, 1) := by decide +kernel
theorem dX0_lastIs_6 : decode cX0_lastIs 6 = .ok (.istore_n 3, 1) := by decide +kernel
theorem dX0_lastIs_7 : decode cX0_lastIs 7 = .ok (.iload_n 3, 1) := by decide +kernel
theorem dX0_lastIs_8 : decode cX0_lastIs 8 = .ok (.ifCond .lt 27, 3) := by decide +kernel
theorem dX0_lastIs_11 : decode cX0_lastIs 11 = .ok (.aload_n 0, 1) := by decide +kernel
theorem dX0_lastIs_12 : decode cX0_lastIs 12 = .ok (.getfield 9, 3) := by decide +kernel
theorem dX0_lastIs_15 : decode cX0_lastIs 15 = .ok (.iload_n 3, 1) := by decide +kernel
theorem dX0_lastIs_16 : decode cX0_lastIs 16 = .ok (.iaload, 1) := by decide +kernel
theorem dX0_lastIs_17 : decode cX0_lastIs 17 = .ok (.iload_n 1, 1) := by decide +kernel
theorem dX0_lastIs_18 : decode cX0_lastIs 18 = .ok (.if_icmp .ne 17, 3) := by decide +kernel
theorem dX0_lastIs_21 : decode cX0_lastIs 21 = .ok (.aload_n 0, 1) := by decide +kernel
theorem dX0_lastIs_22 : decode cX0_lastIs 22 = .ok (.getfield 18, 3) := by decide +kernel
theorem dX0_lastIs_25 : decode cX0_lastIs 25 = .ok (.iload_n 3, 1) := by decide +kernel
theorem dX0_lastIs_26 : decode cX0_lastIs 26 = .ok (.iaload, 1) := by decide +kernel
theorem dX0_lastIs_27 : decode cX0_lastIs 27 = .ok (.iload_n 2, 1) := by decide +kernel
theorem dX0_lastIs_28 : decode cX0_lastIs 28 = .ok (.if_icmp .ne 7, 3) := by decide +kernel
theorem dX0_lastIs_31 : decode cX0_lastIs 31 = .ok (.iconst 1, 1) := by decide +kernel
theorem dX0_lastIs_32 : decode cX0_lastIs 32 = .ok (.goto 4, 3) := by decide +kernel
theorem dX0_lastIs_35 : decode cX0_lastIs 35 = .ok (.iconst 0, 1) := by decide +kernel
theorem dX0_lastIs_36 : decode cX0_lastIs 36 = .ok (.ireturn, 1) := by decide +kernel
theorem dX0_takeFromFirst_0 : decode cX0_takeFromFirst 0 = .ok (.aload_n 0, 1) := by decide +kernel
theorem dX0_takeFromFirst_1 : decode cX0_takeFromFirst 1 = .ok (.getfield 15, 3) := by decide +kernel
theorem dX0_takeFromFirst_4 : decode cX0_takeFromFirst 4 = .ok (.iconst 0, 1) := by decide +kernel
theorem dX0_takeFromFirst_5 : decode cX0_takeFromFirst 5 = .ok (.dup2, 1) := by decide +kernel
theorem dX0_takeFromFirst_6 : decode cX0_takeFromFirst 6 = .ok (.iaload, 1) := by decide +kernel
theorem dX0_takeFromFirst_7 : decode cX0_takeFromFirst 7 = .ok (.iload_n 1, 1) := by decide +kernel
theorem dX0_takeFromFirst_8 : decode cX0_takeFromFirst 8 = .ok (.isub, 1) := by decide +kernel
theorem dX0_takeFromFirst_9 : decode cX0_takeFromFirst 9 = .ok (.iastore, 1) := by decide +kernel
theorem dX0_takeFromFirst_10 : decode cX0_takeFromFirst 10 = .ok (.aload_n 0, 1) := by decide +kernel
theorem dX0_takeFromFirst_11 : decode cX0_takeFromFirst 11 = .ok (.dup, 1) := by decide +kernel
theorem dX0_takeFromFirst_12 : decode cX0_takeFromFirst 12 = .ok (.getfield 25, 3) := by decide +kernel
theorem dX0_takeFromFirst_15 : decode cX0_takeFromFirst 15 = .ok (.iload_n 1, 1) := by decide +kernel
theorem dX0_takeFromFirst_16 : decode cX0_takeFromFirst 16 = .ok (.isub, 1) := by decide +kernel
theorem dX0_takeFromFirst_17 : decode cX0_takeFromFirst 17 = .ok (.putfield 25, 3) := by decide +kernel
theorem dX0_takeFromFirst_20 : decode cX0_takeFromFirst 20 = .ok (.aload_n 0, 1) := by decide +kernel
theorem dX0_takeFromFirst_21 : decode cX0_takeFromFirst 21 = .ok (.getfield 15, 3) := by decide +kernel
theorem dX0_takeFromFirst_24 : decode cX0_takeFromFirst 24 = .ok (.iconst 0, 1) := by decide +kernel
theorem dX0_takeFromFirst_25 : decode cX0_takeFromFirst 25 = .ok (.iaload, 1) := by decide +kernel
theorem dX0_takeFromFirst_26 : decode cX0_takeFromFirst 26 = .ok (.ifCond .ne 7, 3) := by decide +kernel
theorem dX0_takeFromFirst_29 : decode cX0_takeFromFirst 29 = .ok (.aload_n 0, 1) := by decide +kernel
theorem dX0_takeFromFirst_30 : decode cX0_takeFromFirst 30 = .ok (.invokevirtual 32, 3) := by decide +kernel
theorem dX0_takeFromFirst_33 : decode cX0_takeFromFirst 33 = .ok (.return_, 1) := by decide +kernel
theorem dX0_dropFirst_0 : decode cX0_dropFirst 0 = .ok (.iconst 1, 1) := by decide +kernel
theorem dX0_dropFirst_1 : decode cX0_dropFirst 1 = .ok (.istore_n 1, 1) := by decide +kernel
theorem dX0_dropFirst_2 : decode cX0_dropFirst 2 = .ok (.iload_n 1, 1) := by decide +kernel
theorem dX0_dropFirst_3 : decode cX0_dropFirst 3 = .ok (.aload_n 0, 1) := by decide +kernel
theorem dX0_dropFirst_4 : decode cX0_dropFirst 4 = .ok (.getfield 21, 3) := by decide +kernel
theorem dX0_dropFirst_7 : decode cX0_dropFirst 7 = .ok (.if_icmp .ge 51, 3) := by decide +kernel
theorem dX0_dropFirst_10 : decode cX0_dropFirst 10 = .ok (.aload_n 0, 1) := by decide +kernel
theorem dX0_dropFirst_11 : decode cX0_dropFirst 11 = .ok (.getfield 9, 3) := by decide +kernel
theorem dX0_dropFirst_14 : decode cX0_dropFirst 14 = .ok (.iload_n 1, 1) := by decide +kernel
theorem dX0_dropFirst_15 : decode cX0_dropFirst 15 = .ok (.iconst 1, 1) := by decide +kernel
theorem dX0_dropFirst_16 : decode cX0_dropFirst 16 = .ok (.isub, 1) := by decide +kernel
theorem dX0_dropFirst_17 : decode cX0_dropFirst 17 = .ok (.aload_n 0, 1) := by decide +kernel
theorem dX0_dropFirst_18 : decode cX0_dropFirst 18 = .ok (.getfield 9, 3) := by decide +kernel
theorem dX0_dropFirst_21 : decode cX0_dropFirst 21 = .ok (.iload_n 1, 1) := by decide +kernel
theorem dX0_dropFirst_22 : decode cX0_dropFirst 22 = .ok (.iaload, 1) := by decide +kernel
theorem dX0_dropFirst_23 : decode cX0_dropFirst 23 = .ok (.iastore, 1) := by decide +kernel
theorem dX0_dropFirst_24 : decode cX0_dropFirst 24 = .ok (.aload_n 0, 1) := by decide +kernel
theorem dX0_dropFirst_25 : decode cX0_dropFirst 25 = .ok (.getfield 15, 3) := by decide +kernel
theorem dX0_dropFirst_28 : decode cX0_dropFirst 28 = .ok (.iload_n 1, 1) := by decide +kernel
theorem dX0_dropFirst_29 : decode cX0_dropFirst 29 = .ok (.iconst 1, 1) := by decide +kernel
theorem dX0_dropFirst_30 : decode cX0_dropFirst 30 = .ok (.isub, 1) := by decide +kernel
theorem dX0_dropFirst_31 : decode cX0_dropFirst 31 = .ok (.aload_n 0, 1) := by decide +kernel
theorem dX0_dropFirst_32 : decode cX0_dropFirst 32 = .ok (.getfield 15, 3) := by decide +kernel
theorem dX0_dropFirst_35 : decode cX0_dropFirst 35 = .ok (.iload_n 1, 1) := by decide +kernel
theorem dX0_dropFirst_36 : decode cX0_dropFirst 36 = .ok (.iaload, 1) := by decide +kernel
theorem dX0_dropFirst_37 : decode cX0_dropFirst 37 = .ok (.iastore, 1) := by decide +kernel
theorem dX0_dropFirst_38 : decode cX0_dropFirst 38 = .ok (.aload_n 0, 1) := by decide +kernel
theorem dX0_dropFirst_39 : decode cX0_dropFirst 39 = .ok (.getfield 18, 3) := by decide +kernel
theorem dX0_dropFirst_42 : decode cX0_dropFirst 42 = .ok (.iload_n 1, 1) := by decide +kernel
theorem dX0_dropFirst_43 : decode cX0_dropFirst 43 = .ok (.iconst 1, 1) := by decide +kernel
theorem dX0_dropFirst_44 : decode cX0_dropFirst 44 = .ok (.isub, 1) := by decide +kernel
theorem dX0_dropFirst_45 : decode cX0_dropFirst 45 = .ok (.aload_n 0, 1) := by decide +kernel
theorem dX0_dropFirst_46 : decode cX0_dropFirst 46 = .ok (.getfield 18, 3) := by decide +kernel
theorem dX0_dropFirst_49 : decode cX0_dropFirst 49 = .ok (.iload_n 1, 1) := by decide +kernel
theorem dX0_dropFirst_50 : decode cX0_dropFirst 50 = .ok (.iaload, 1) := by decide +kernel
theorem dX0_dropFirst_51 : decode cX0_dropFirst 51 = .ok (.iastore, 1) := by decide +kernel
theorem dX0_dropFirst_52 : decode cX0_dropFirst 52 = .ok (.iinc 1 1, 3) := by decide +kernel
theorem dX0_dropFirst_55 : decode cX0_dropFirst 55 = .ok (.goto (-53), 3) := by decide +kernel
theorem dX0_dropFirst_58 : decode cX0_dropFirst 58 = .ok (.aload_n 0, 1) := by decide +kernel
theorem dX0_dropFirst_59 : decode cX0_dropFirst 59 = .ok (.dup, 1) := by decide +kernel
theorem dX0_dropFirst_60 : decode cX0_dropFirst 60 = .ok (.getfield 21, 3) := by decide +kernel
theorem dX0_dropFirst_63 : decode cX0_dropFirst 63 = .ok (.iconst 1, 1) := by decide +kernel
theorem dX0_dropFirst_64 : decode cX0_dropFirst 64 = .ok (.isub, 1) := by decide +kernel
theorem dX0_dropFirst_65 : decode cX0_dropFirst 65 = .ok (.putfield 21, 3) := by decide +kernel
theorem dX0_dropFirst_68 : decode cX0_dropFirst 68 = .ok (.return_, 1) := by decide +kernel
theorem dX0_moveTo_0 : decode cX0_moveTo 0 = .ok (.iload_n 2, 1) := by decide +kernel
theorem dX0_moveTo_1 : decode cX0_moveTo 1 = .ok (.aload_n 0, 1) := by decide +kernel
theorem dX0_moveTo_2 : decode cX0_moveTo 2 = .ok (.getfield 25, 3) := by decide +kernel
theorem dX0_moveTo_5 : decode cX0_moveTo 5 = .ok (.iload_n 3, 1) := by decide +kernel
theorem dX0_moveTo_6 : decode cX0_moveTo 6 = .ok (.aload_n 1, 1) := by decide +kernel
theorem dX0_moveTo_7 : decode cX0_moveTo 7 = .ok (.getfield 25, 3) := by decide +kernel
theorem dX0_moveTo_10 : decode cX0_moveTo 10 = .ok (.isub, 1) := by decide +kernel
theorem dX0_moveTo_11 : decode cX0_moveTo 11 = .ok (.invokestatic 35, 3) := by decide +kernel
theorem dX0_moveTo_14 : decode cX0_moveTo 14 = .ok (.invokestatic 35, 3) := by decide +kernel
theorem dX0_moveTo_17 : decode cX0_moveTo 17 = .ok (.istore 4, 2) := by decide +kernel
theorem dX0_moveTo_19 : decode cX0_moveTo 19 = .ok (.iload 4, 2) := by decide +kernel
theorem dX0_moveTo_21 : decode cX0_moveTo 21 = .ok (.istore 5, 2) := by decide +kernel
theorem dX0_moveTo_23 : decode cX0_moveTo 23 = .ok (.iconst 0, 1) := by decide +kernel
theorem dX0_moveTo_24 : decode cX0_moveTo 24 = .ok (.istore 6, 2) := by decide +kernel
theorem dX0_moveTo_26 : decode cX0_moveTo 26 = .ok (.iload 6, 2) := by decide +kernel
theorem dX0_moveTo_28 : decode cX0_moveTo 28 = .ok (.bipush 8, 2) := by decide +kernel
theorem dX0_moveTo_30 : decode cX0_moveTo 30 = .ok (.if_icmp .ge 58, 3) := by decide +kernel
theorem dX0_moveTo_33 : decode cX0_moveTo 33 = .ok (.iload 5, 2) := by decide +kernel
theorem dX0_moveTo_35 : decode cX0_moveTo 35 = .ok (.ifCond .le 53, 3) := by decide +kernel
theorem dX0_moveTo_38 : decode cX0_moveTo 38 = .ok (.iload 5, 2) := by decide +kernel
theorem dX0_moveTo_40 : decode cX0_moveTo 40 = .ok (.aload_n 0, 1) := by decide +kernel
theorem dX0_moveTo_41 : decode cX0_moveTo 41 = .ok (.getfield 15, 3) := by decide +kernel
theorem dX0_moveTo_44 : decode cX0_moveTo 44 = .ok (.iconst 0, 1) := by decide +kernel
theorem dX0_moveTo_45 : decode cX0_moveTo 45 = .ok (.iaload, 1) := by decide +kernel
theorem dX0_moveTo_46 : decode cX0_moveTo 46 = .ok (.invokestatic 35, 3) := by decide +kernel
theorem dX0_moveTo_49 : decode cX0_moveTo 49 = .ok (.istore 7, 2) := by decide +kernel
theorem dX0_moveTo_51 : decode cX0_moveTo 51 = .ok (.aload_n 1, 1) := by decide +kernel
theorem dX0_moveTo_52 : decode cX0_moveTo 52 = .ok (.aload_n 0, 1) := by decide +kernel
theorem dX0_moveTo_53 : decode cX0_moveTo 53 = .ok (.getfield 9, 3) := by decide +kernel
theorem dX0_moveTo_56 : decode cX0_moveTo 56 = .ok (.iconst 0, 1) := by decide +kernel
theorem dX0_moveTo_57 : decode cX0_moveTo 57 = .ok (.iaload, 1) := by decide +kernel
theorem dX0_moveTo_58 : decode cX0_moveTo 58 = .ok (.aload_n 0, 1) := by decide +kernel
theorem dX0_moveTo_59 : decode cX0_moveTo 59 = .ok (.getfield 18, 3) := by decide +kernel
theorem dX0_moveTo_62 : decode cX0_moveTo 62 = .ok (.iconst 0, 1) := by decide +kernel
theorem dX0_moveTo_63 : decode cX0_moveTo 63 = .ok (.iaload, 1) := by decide +kernel
theorem dX0_moveTo_64 : decode cX0_moveTo 64 = .ok (.iload 7, 2) := by decide +kernel
theorem dX0_moveTo_66 : decode cX0_moveTo 66 = .ok (.invokevirtual 41, 3) := by decide +kernel
theorem dX0_moveTo_69 : decode cX0_moveTo 69 = .ok (.aload_n 0, 1) := by decide +kernel
theorem dX0_moveTo_70 : decode cX0_moveTo 70 = .ok (.iload 7, 2) := by decide +kernel
theorem dX0_moveTo_72 : decode cX0_moveTo 72 = .ok (.invokevirtual 45, 3) := by decide +kernel
theorem dX0_moveTo_75 : decode cX0_moveTo 75 = .ok (.iload 5, 2) := by decide +kernel
theorem dX0_moveTo_77 : decode cX0_moveTo 77 = .ok (.iload 7, 2) := by decide +kernel
theorem dX0_moveTo_79 : decode cX0_moveTo 79 = .ok (.isub, 1) := by decide +kernel
theorem dX0_moveTo_80 : decode cX0_moveTo 80 = .ok (.istore 5, 2) := by decide +kernel
theorem dX0_moveTo_82 : decode cX0_moveTo 82 = .ok (.iinc 6 1, 3) := by decide +kernel
theorem dX0_moveTo_85 : decode cX0_moveTo 85 = .ok (.goto (-59), 3) := by decide +kernel
theorem dX0_moveTo_88 : decode cX0_moveTo 88 = .ok (.iload 4, 2) := by decide +kernel
theorem dX0_moveTo_90 : decode cX0_moveTo 90 = .ok (.ireturn, 1) := by decide +kernel
theorem dX0_moveAllBehind_0 : decode cX0_moveAllBehind 0 = .ok (.iload_n 1, 1) := by decide +kernel
theorem dX0_moveAllBehind_1 : decode cX0_moveAllBehind 1 = .ok (.aload_n 0, 1) := by decide +kernel
theorem dX0_moveAllBehind_2 : decode cX0_moveAllBehind 2 = .ok (.getfield 25, 3) := by decide +kernel
theorem dX0_moveAllBehind_5 : decode cX0_moveAllBehind 5 = .ok (.invokestatic 35, 3) := by decide +kernel
theorem dX0_moveAllBehind_8 : decode cX0_moveAllBehind 8 = .ok (.istore_n 3, 1) := by decide +kernel
theorem dX0_moveAllBehind_9 : decode cX0_moveAllBehind 9 = .ok (.iload_n 3, 1) := by decide +kernel
theorem dX0_moveAllBehind_10 : decode cX0_moveAllBehind 10 = .ok (.istore 4, 2) := by decide +kernel
theorem dX0_moveAllBehind_12 : decode cX0_moveAllBehind 12 = .ok (.iconst 0, 1) := by decide +kernel
theorem dX0_moveAllBehind_13 : decode cX0_moveAllBehind 13 = .ok (.istore 5, 2) := by decide +kernel
theorem dX0_moveAllBehind_15 : decode cX0_moveAllBehind 15 = .ok (.iconst 0, 1) := by decide +kernel
theorem dX0_moveAllBehind_16 : decode cX0_moveAllBehind 16 = .ok (.istore 6, 2) := by decide +kernel
theorem dX0_moveAllBehind_18 : decode cX0_moveAllBehind 18 = .ok (.iload 6, 2) := by decide +kernel
theorem dX0_moveAllBehind_20 : decode cX0_moveAllBehind 20 = .ok (.aload_n 0, 1) := by decide +kernel
theorem dX0_moveAllBehind_21 : decode cX0_moveAllBehind 21 = .ok (.getfield 21, 3) := by decide +kernel
theorem dX0_moveAllBehind_24 : decode cX0_moveAllBehind 24 = .ok (.if_icmp .ge 78, 3) := by decide +kernel
theorem dX0_moveAllBehind_27 : decode cX0_moveAllBehind 27 = .ok (.iload 4, 2) := by decide +kernel
theorem dX0_moveAllBehind_29 : decode cX0_moveAllBehind 29 = .ok (.aload_n 0, 1) := by decide +kernel
theorem dX0_moveAllBehind_30 : decode cX0_moveAllBehind 30 = .ok (.getfield 15, 3) := by decide +kernel
theorem dX0_moveAllBehind_33 : decode cX0_moveAllBehind 33 = .ok (.iload 6, 2) := by decide +kernel
theorem dX0_moveAllBehind_35 : decode cX0_moveAllBehind 35 = .ok (.iaload, 1) := by decide +kernel
theorem dX0_moveAllBehind_36 : decode cX0_moveAllBehind 36 = .ok (.invokestatic 35, 3) := by decide +kernel
theorem dX0_moveAllBehind_39 : decode cX0_moveAllBehind 39 = .ok (.istore 7, 2) := by decide +kernel
theorem dX0_moveAllBehind_41 : decode cX0_moveAllBehind 41 = .ok (.aload_n 2, 1) := by decide +kernel
theorem dX0_moveAllBehind_42 : decode cX0_moveAllBehind 42 = .ok (.aload_n 0, 1) := by decide +kernel
theorem dX0_moveAllBehind_43 : decode cX0_moveAllBehind 43 = .ok (.getfield 9, 3) := by decide +kernel
theorem dX0_moveAllBehind_46 : decode cX0_moveAllBehind 46 = .ok (.iload 6, 2) := by decide +kernel
theorem dX0_moveAllBehind_48 : decode cX0_moveAllBehind 48 = .ok (.iaload, 1) := by decide +kernel
theorem dX0_moveAllBehind_49 : decode cX0_moveAllBehind 49 = .ok (.aload_n 0, 1) := by decide +kernel
theorem dX0_moveAllBehind_50 : decode cX0_moveAllBehind 50 = .ok (.getfield 18, 3) := by decide +kernel
theorem dX0_moveAllBehind_53 : decode cX0_moveAllBehind 53 = .ok (.iload 6, 2) := by decide +kernel
theorem dX0_moveAllBehind_55 : decode cX0_moveAllBehind 55 = .ok (.iaload, 1) := by decide +kernel
theorem dX0_moveAllBehind_56 : decode cX0_moveAllBehind 56 = .ok (.aload_n 0, 1) := by decide +kernel
theorem dX0_moveAllBehind_57 : decode cX0_moveAllBehind 57 = .ok (.getfield 15, 3) := by decide +kernel
theorem dX0_moveAllBehind_60 : decode cX0_moveAllBehind 60 = .ok (.iload 6, 2) := by decide +kernel
theorem dX0_moveAllBehind_62 : decode cX0_moveAllBehind 62 = .ok (.iaload, 1) := by decide +kernel
theorem dX0_moveAllBehind_63 : decode cX0_moveAllBehind 63 = .ok (.iload 7, 2) := by decide +kernel
theorem dX0_moveAllBehind_65 : decode cX0_moveAllBehind 65 = .ok (.isub, 1) := by decide +kernel
theorem dX0_moveAllBehind_66 : decode cX0_moveAllBehind 66 = .ok (.invokevirtual 41, 3) := by decide +kernel
theorem dX0_moveAllBehind_69 : decode cX0_moveAllBehind 69 = .ok (.aload_n 0, 1) := by decide +kernel
theorem dX0_moveAllBehind_70 : decode cX0_moveAllBehind 70 = .ok (.getfield 15, 3) := by decide +kernel
theorem dX0_moveAllBehind_73 : decode cX0_moveAllBehind 73 = .ok (.iload 6, 2) := by decide +kernel
theorem dX0_moveAllBehind_75 : decode cX0_moveAllBehind 75 = .ok (.iload 7, 2) := by decide +kernel
theorem dX0_moveAllBehind_77 : decode cX0_moveAllBehind 77 = .ok (.iastore, 1) := by decide +kernel
theorem dX0_moveAllBehind_78 : decode cX0_moveAllBehind 78 = .ok (.iload 4, 2) := by decide +kernel
theorem dX0_moveAllBehind_80 : decode cX0_moveAllBehind 80 = .ok (.iload 7, 2) := by decide +kernel
theorem dX0_moveAllBehind_82 : decode cX0_moveAllBehind 82 = .ok (.isub, 1) := by decide +kernel
theorem dX0_moveAllBehind_83 : decode cX0_moveAllBehind 83 = .ok (.istore 4, 2) := by decide +kernel
theorem dX0_moveAllBehind_85 : decode cX0_moveAllBehind 85 = .ok (.iload 7, 2) := by decide +kernel
theorem dX0_moveAllBehind_87 : decode cX0_moveAllBehind 87 = .ok (.ifCond .le 9, 3) := by decide +kernel
theorem dX0_moveAllBehind_90 : decode cX0_moveAllBehind 90 = .ok (.iload 6, 2) := by decide +kernel
theorem dX0_moveAllBehind_92 : decode cX0_moveAllBehind 92 = .ok (.iconst 1, 1) := by decide +kernel
theorem dX0_moveAllBehind_93 : decode cX0_moveAllBehind 93 = .ok (.iadd, 1) := by decide +kernel
theorem dX0_moveAllBehind_94 : decode cX0_moveAllBehind 94 = .ok (.istore 5, 2) := by decide +kernel
theorem dX0_moveAllBehind_96 : decode cX0_moveAllBehind 96 = .ok (.iinc 6 1, 3) := by decide +kernel
theorem dX0_moveAllBehind_99 : decode cX0_moveAllBehind 99 = .ok (.goto (-81), 3) := by decide +kernel
theorem dX0_moveAllBehind_102 : decode cX0_moveAllBehind 102 = .ok (.aload_n 0, 1) := by decide +kernel
theorem dX0_moveAllBehind_103 : decode cX0_moveAllBehind 103 = .ok (.iload 5, 2) := by decide +kernel
theorem dX0_moveAllBehind_105 : decode cX0_moveAllBehind 105 = .ok (.putfield 21, 3) := by decide +kernel
theorem dX0_moveAllBehind_108 : decode cX0_moveAllBehind 108 = .ok (.aload_n 0, 1) := by decide +kernel
theorem dX0_moveAllBehind_109 : decode cX0_moveAllBehind 109 = .ok (.iload_n 3, 1) := by decide +kernel
theorem dX0_moveAllBehind_110 : decode cX0_moveAllBehind 110 = .ok (.putfield 25, 3) := by decide +kernel
theorem dX0_moveAllBehind_113 : decode cX0_moveAllBehind 113 = .ok (.return_, 1) := by decide +kernel
