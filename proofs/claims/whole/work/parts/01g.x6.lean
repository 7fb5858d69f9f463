theorem dX6_init_0 : decode cX6_init 0 = .ok (.aload_n 0, 1) := by decide +kernel
theorem dX6_init_1 : decode cX6_init 1 = .ok (.invokespecial 1, 3) := by decide +kernel
theorem dX6_init_4 : decode cX6_init 4 = .ok (.aload_n 0, 1) := by decide +kernel
theorem dX6_init_5 : decode cX6_init 5 = .ok (.iconst 4, 1) := by decide +kernel
theorem dX6_init_6 : decode cX6_init 6 = .ok (.newarray .int, 2) := by decide +kernel
theorem dX6_init_8 : decode cX6_init 8 = .ok (.putfield 9, 3) := by decide +kernel
theorem dX6_init_11 : decode cX6_init 11 = .ok (.aload_n 0, 1) := by decide +kernel
theorem dX6_init_12 : decode cX6_init 12 = .ok (.iconst 4, 1) := by decide +kernel
theorem dX6_init_13 : decode cX6_init 13 = .ok (.newarray .int, 2) := by decide +kernel
theorem dX6_init_15 : decode cX6_init 15 = .ok (.putfield 13, 3) := by decide +kernel
theorem dX6_init_18 : decode cX6_init 18 = .ok (.aload_n 0, 1) := by decide +kernel
theorem dX6_init_19 : decode cX6_init 19 = .ok (.bipush 32, 2) := by decide +kernel
theorem dX6_init_21 : decode cX6_init 21 = .ok (.newarray .int, 2) := by decide +kernel
theorem dX6_init_23 : decode cX6_init 23 = .ok (.putfield 16, 3) := by decide +kernel
theorem dX6_init_26 : decode cX6_init 26 = .ok (.aload_n 0, 1) := by decide +kernel
theorem dX6_init_27 : decode cX6_init 27 = .ok (.bipush 32, 2) := by decide +kernel
theorem dX6_init_29 : decode cX6_init 29 = .ok (.newarray .int, 2) := by decide +kernel
theorem dX6_init_31 : decode cX6_init 31 = .ok (.putfield 19, 3) := by decide +kernel
theorem dX6_init_34 : decode cX6_init 34 = .ok (.aload_n 0, 1) := by decide +kernel
theorem dX6_init_35 : decode cX6_init 35 = .ok (.bipush 12, 2) := by decide +kernel
theorem dX6_init_37 : decode cX6_init 37 = .ok (.newarray .int, 2) := by decide +kernel
theorem dX6_init_39 : decode cX6_init 39 = .ok (.putfield 22, 3) := by decide +kernel
theorem dX6_init_42 : decode cX6_init 42 = .ok (.aload_n 0, 1) := by decide +kernel
theorem dX6_init_43 : decode cX6_init 43 = .ok (.new 25, 3) := by decide +kernel
theorem dX6_init_46 : decode cX6_init 46 = .ok (.dup, 1) := by decide +kernel
theorem dX6_init_47 : decode cX6_init 47 = .ok (.aload_n 0, 1) := by decide +kernel
theorem dX6_init_48 : decode cX6_init 48 = .ok (.invokespecial 27, 3) := by decide +kernel
theorem dX6_init_51 : decode cX6_init 51 = .ok (.putfield 30, 3) := by decide +kernel
theorem dX6_init_54 : decode cX6_init 54 = .ok (.aload_n 0, 1) := by decide +kernel
theorem dX6_init_55 : decode cX6_init 55 = .ok (.new 25, 3) := by decide +kernel
theorem dX6_init_58 : decode cX6_init 58 = .ok (.dup, 1) := by decide +kernel
theorem dX6_init_59 : decode cX6_init 59 = .ok (.aload_n 0, 1) := by decide +kernel
theorem dX6_init_60 : decode cX6_init 60 = .ok (.invokespecial 27, 3) := by decide +kernel
theorem dX6_init_63 : decode cX6_init 63 = .ok (.putfield 34, 3) := by decide +kernel
theorem dX6_init_66 : decode cX6_init 66 = .ok (.return_, 1) := by decide +kernel
theorem dX6_thrown_0 : decode cX6_thrown 0 = .ok (.aload_n 0, 1) := by decide +kernel
theorem dX6_thrown_1 : decode cX6_thrown 1 = .ok (.getfield 37, 3) := by decide +kernel
theorem dX6_thrown_4 : decode cX6_thrown 4 = .ok (.ireturn, 1) := by decide +kernel
theorem dX6_no_0 : decode cX6_no 0 = .ok (.aload_n 0, 1) := by decide +kernel
theorem dX6_no_1 : decode cX6_no 1 = .ok (.iload_n 1, 1) := by decide +kernel
theorem dX6_no_2 : decode cX6_no 2 = .ok (.putfield 37, 3) := by decide +kernel
theorem dX6_no_5 : decode cX6_no 5 = .ok (.iconst 0, 1) := by decide +kernel
theorem dX6_no_6 : decode cX6_no 6 = .ok (.ireturn, 1) := by decide +kernel
theorem dX6_isIn_0 : decode cX6_isIn 0 = .ok (.iload_n 0, 1) := by decide +kernel
theorem dX6_isIn_1 : decode cX6_isIn 1 = .ok (.iload_n 1, 1) := by decide +kernel
theorem dX6_isIn_2 : decode cX6_isIn 2 = .ok (.if_icmp .lt 12, 3) := by decide +kernel
theorem dX6_isIn_5 : decode cX6_isIn 5 = .ok (.iload_n 0, 1) := by decide +kernel
theorem dX6_isIn_6 : decode cX6_isIn 6 = .ok (.iload_n 2, 1) := by decide +kernel
theorem dX6_isIn_7 : decode cX6_isIn 7 = .ok (.if_icmp .gt 7, 3) := by decide +kernel
theorem dX6_isIn_10 : decode cX6_isIn 10 = .ok (.iconst 1, 1) := by decide +kernel
theorem dX6_isIn_11 : decode cX6_isIn 11 = .ok (.goto 4, 3) := by decide +kernel
theorem dX6_isIn_14 : decode cX6_isIn 14 = .ok (.iconst 0, 1) := by decide +kernel
theorem dX6_isIn_15 : decode cX6_isIn 15 = .ok (.ireturn, 1) := by decide +kernel
theorem dX6_isJuggler_0 : decode cX6_isJuggler 0 = .ok (.iload_n 1, 1) := by decide +kernel
theorem dX6_isJuggler_1 : decode cX6_isJuggler 1 = .ok (.iconst 0, 1) := by decide +kernel
theorem dX6_isJuggler_2 : decode cX6_isJuggler 2 = .ok (.aload_n 0, 1) := by decide +kernel
theorem dX6_isJuggler_3 : decode cX6_isJuggler 3 = .ok (.getfield 41, 3) := by decide +kernel
theorem dX6_isJuggler_6 : decode cX6_isJuggler 6 = .ok (.iconst 1, 1) := by decide +kernel
theorem dX6_isJuggler_7 : decode cX6_isJuggler 7 = .ok (.isub, 1) := by decide +kernel
theorem dX6_isJuggler_8 : decode cX6_isJuggler 8 = .ok (.invokestatic 44, 3) := by decide +kernel
theorem dX6_isJuggler_11 : decode cX6_isJuggler 11 = .ok (.ireturn, 1) := by decide +kernel
theorem dX6_isThing_0 : decode cX6_isThing 0 = .ok (.iload_n 1, 1) := by decide +kernel
theorem dX6_isThing_1 : decode cX6_isThing 1 = .ok (.iconst 0, 1) := by decide +kernel
theorem dX6_isThing_2 : decode cX6_isThing 2 = .ok (.aload_n 0, 1) := by decide +kernel
theorem dX6_isThing_3 : decode cX6_isThing 3 = .ok (.getfield 48, 3) := by decide +kernel
theorem dX6_isThing_6 : decode cX6_isThing 6 = .ok (.iconst 1, 1) := by decide +kernel
theorem dX6_isThing_7 : decode cX6_isThing 7 = .ok (.isub, 1) := by decide +kernel
theorem dX6_isThing_8 : decode cX6_isThing 8 = .ok (.invokestatic 44, 3) := by decide +kernel
theorem dX6_isThing_11 : decode cX6_isThing 11 = .ok (.ireturn, 1) := by decide +kernel
theorem dX6_isPlace_0 : decode cX6_isPlace 0 = .ok (.aload_n 0, 1) := by decide +kernel
theorem dX6_isPlace_1 : decode cX6_isPlace 1 = .ok (.iload_n 1, 1) := by decide +kernel
theorem dX6_isPlace_2 : decode cX6_isPlace 2 = .ok (.invokevirtual 51, 3) := by decide +kernel
theorem dX6_isPlace_5 : decode cX6_isPlace 5 = .ok (.ifCond .eq 23, 3) := by decide +kernel
theorem dX6_isPlace_8 : decode cX6_isPlace 8 = .ok (.iload_n 2, 1) := by decide +kernel
theorem dX6_isPlace_9 : decode cX6_isPlace 9 = .ok (.iconst 0, 1) := by decide +kernel
theorem dX6_isPlace_10 : decode cX6_isPlace 10 = .ok (.aload_n 0, 1) := by decide +kernel
theorem dX6_isPlace_11 : decode cX6_isPlace 11 = .ok (.getfield 13, 3) := by decide +kernel
theorem dX6_isPlace_14 : decode cX6_isPlace 14 = .ok (.iload_n 1, 1) := by decide +kernel
theorem dX6_isPlace_15 : decode cX6_isPlace 15 = .ok (.iaload, 1) := by decide +kernel
theorem dX6_isPlace_16 : decode cX6_isPlace 16 = .ok (.iconst 1, 1) := by decide +kernel
theorem dX6_isPlace_17 : decode cX6_isPlace 17 = .ok (.isub, 1) := by decide +kernel
theorem dX6_isPlace_18 : decode cX6_isPlace 18 = .ok (.invokestatic 44, 3) := by decide +kernel
theorem dX6_isPlace_21 : decode cX6_isPlace 21 = .ok (.ifCond .eq 7, 3) := by decide +kernel
theorem dX6_isPlace_24 : decode cX6_isPlace 24 = .ok (.iconst 1, 1) := by decide +kernel
theorem dX6_isPlace_25 : decode cX6_isPlace 25 = .ok (.goto 4, 3) := by decide +kernel
theorem dX6_isPlace_28 : decode cX6_isPlace 28 = .ok (.iconst 0, 1) := by decide +kernel
theorem dX6_isPlace_29 : decode cX6_isPlace 29 = .ok (.ireturn, 1) := by decide +kernel
theorem dX6_beatsOf_0 : decode cX6_beatsOf 0 = .ok (.iload_n 0, 1) := by decide +kernel
theorem dX6_beatsOf_1 : decode cX6_beatsOf 1 = .ok (.iconst 1, 1) := by decide +kernel
theorem dX6_beatsOf_2 : decode cX6_beatsOf 2 = .ok (.if_icmp .ne 12, 3) := by decide +kernel
theorem dX6_beatsOf_5 : decode cX6_beatsOf 5 = .ok (.iload_n 1, 1) := by decide +kernel
theorem dX6_beatsOf_6 : decode cX6_beatsOf 6 = .ok (.iconst 3, 1) := by decide +kernel
theorem dX6_beatsOf_7 : decode cX6_beatsOf 7 = .ok (.if_icmp .lt 7, 3) := by decide +kernel
theorem dX6_beatsOf_10 : decode cX6_beatsOf 10 = .ok (.iload_n 1, 1) := by decide +kernel
theorem dX6_beatsOf_11 : decode cX6_beatsOf 11 = .ok (.iconst 1, 1) := by decide +kernel
theorem dX6_beatsOf_12 : decode cX6_beatsOf 12 = .ok (.isub, 1) := by decide +kernel
theorem dX6_beatsOf_13 : decode cX6_beatsOf 13 = .ok (.ireturn, 1) := by decide +kernel
theorem dX6_beatsOf_14 : decode cX6_beatsOf 14 = .ok (.iload_n 0, 1) := by decide +kernel
theorem dX6_beatsOf_15 : decode cX6_beatsOf 15 = .ok (.iconst 2, 1) := by decide +kernel
theorem dX6_beatsOf_16 : decode cX6_beatsOf 16 = .ok (.if_icmp .ne 14, 3) := by decide +kernel
theorem dX6_beatsOf_19 : decode cX6_beatsOf 19 = .ok (.iload_n 1, 1) := by decide +kernel
theorem dX6_beatsOf_20 : decode cX6_beatsOf 20 = .ok (.iconst 5, 1) := by decide +kernel
theorem dX6_beatsOf_21 : decode cX6_beatsOf 21 = .ok (.if_icmp .lt 9, 3) := by decide +kernel
theorem dX6_beatsOf_24 : decode cX6_beatsOf 24 = .ok (.iload_n 1, 1) := by decide +kernel
theorem dX6_beatsOf_25 : decode cX6_beatsOf 25 = .ok (.iconst 1, 1) := by decide +kernel
theorem dX6_beatsOf_26 : decode cX6_beatsOf 26 = .ok (.iadd, 1) := by decide +kernel
theorem dX6_beatsOf_27 : decode cX6_beatsOf 27 = .ok (.goto 4, 3) := by decide +kernel
theorem dX6_beatsOf_30 : decode cX6_beatsOf 30 = .ok (.iload_n 1, 1) := by decide +kernel
theorem dX6_beatsOf_31 : decode cX6_beatsOf 31 = .ok (.ireturn, 1) := by decide +kernel
theorem dX6_come_0 : decode cX6_come 0 = .ok (.aload_n 0, 1) := by decide +kernel
theorem dX6_come_1 : decode cX6_come 1 = .ok (.iconst 0, 1) := by decide +kernel
theorem dX6_come_2 : decode cX6_come 2 = .ok (.putfield 37, 3) := by decide +kernel
theorem dX6_come_5 : decode cX6_come 5 = .ok (.iload_n 1, 1) := by decide +kernel
theorem dX6_come_6 : decode cX6_come 6 = .ok (.iconst 1, 1) := by decide +kernel
theorem dX6_come_7 : decode cX6_come 7 = .ok (.bipush 9, 2) := by decide +kernel
theorem dX6_come_9 : decode cX6_come 9 = .ok (.invokestatic 44, 3) := by decide +kernel
theorem dX6_come_12 : decode cX6_come 12 = .ok (.ifCond .ne 9, 3) := by decide +kernel
theorem dX6_come_15 : decode cX6_come 15 = .ok (.aload_n 0, 1) := by decide +kernel
theorem dX6_come_16 : decode cX6_come 16 = .ok (.iconst 1, 1) := by decide +kernel
theorem dX6_come_17 : decode cX6_come 17 = .ok (.invokevirtual 55, 3) := by decide +kernel
theorem dX6_come_20 : decode cX6_come 20 = .ok (.ireturn, 1) := by decide +kernel
theorem dX6_come_21 : decode cX6_come 21 = .ok (.aload_n 0, 1) := by decide +kernel
theorem dX6_come_22 : decode cX6_come 22 = .ok (.getfield 41, 3) := by decide +kernel
theorem dX6_come_25 : decode cX6_come 25 = .ok (.iconst 4, 1) := by decide +kernel
theorem dX6_come_26 : decode cX6_come 26 = .ok (.if_icmp .ne 9, 3) := by decide +kernel
theorem dX6_come_29 : decode cX6_come 29 = .ok (.aload_n 0, 1) := by decide +kernel
theorem dX6_come_30 : decode cX6_come 30 = .ok (.iconst 2, 1) := by decide +kernel
theorem dX6_come_31 : decode cX6_come 31 = .ok (.invokevirtual 55, 3) := by decide +kernel
theorem dX6_come_34 : decode cX6_come 34 = .ok (.ireturn, 1) := by decide +kernel
theorem dX6_come_35 : decode cX6_come 35 = .ok (.aload_n 0, 1) := by decide +kernel
theorem dX6_come_36 : decode cX6_come 36 = .ok (.getfield 9, 3) := by decide +kernel
theorem dX6_come_39 : decode cX6_come 39 = .ok (.aload_n 0, 1) := by decide +kernel
theorem dX6_come_40 : decode cX6_come 40 = .ok (.getfield 41, 3) := by decide +kernel
theorem dX6_come_43 : decode cX6_come 43 = .ok (.iload_n 1, 1) := by decide +kernel
theorem dX6_come_44 : decode cX6_come 44 = .ok (.iastore, 1) := by decide +kernel
theorem dX6_come_45 : decode cX6_come 45 = .ok (.aload_n 0, 1) := by decide +kernel
theorem dX6_come_46 : decode cX6_come 46 = .ok (.getfield 13, 3) := by decide +kernel
theorem dX6_come_49 : decode cX6_come 49 = .ok (.aload_n 0, 1) := by decide +kernel
theorem dX6_come_50 : decode cX6_come 50 = .ok (.getfield 41, 3) := by decide +kernel
theorem dX6_come_53 : decode cX6_come 53 = .ok (.iconst 1, 1) := by decide +kernel
theorem dX6_come_54 : decode cX6_come 54 = .ok (.iastore, 1) := by decide +kernel
theorem dX6_come_55 : decode cX6_come 55 = .ok (.aload_n 0, 1) := by decide +kernel
theorem dX6_come_56 : decode cX6_come 56 = .ok (.getfield 19, 3) := by decide +kernel
theorem dX6_come_59 : decode cX6_come 59 = .ok (.bipush 8, 2) := by decide +kernel
theorem dX6_come_61 : decode cX6_come 61 = .ok (.aload_n 0, 1) := by decide +kernel
theorem dX6_come_62 : decode cX6_come 62 = .ok (.getfield 41, 3) := by decide +kernel
theorem dX6_come_65 : decode cX6_come 65 = .ok (.imul, 1) := by decide +kernel
theorem dX6_come_66 : decode cX6_come 66 = .ok (.aload_n 0, 1) := by decide +kernel
theorem dX6_come_67 : decode cX6_come 67 = .ok (.getfield 41, 3) := by decide +kernel
theorem dX6_come_70 : decode cX6_come 70 = .ok (.iastore, 1) := by decide +kernel
theorem dX6_come_71 : decode cX6_come 71 = .ok (.aload_n 0, 1) := by decide +kernel
theorem dX6_come_72 : decode cX6_come 72 = .ok (.dup, 1) := by decide +kernel
theorem dX6_come_73 : decode cX6_come 73 = .ok (.getfield 41, 3) := by decide +kernel
theorem dX6_come_76 : decode cX6_come 76 = .ok (.iconst 1, 1) := by decide +kernel
theorem dX6_come_77 : decode cX6_come 77 = .ok (.iadd, 1) := by decide +kernel
theorem dX6_come_78 : decode cX6_come 78 = .ok (.putfield 41, 3) := by decide +kernel
theorem dX6_come_81 : decode cX6_come 81 = .ok (.aload_n 0, 1) := by decide +kernel
theorem dX6_come_82 : decode cX6_come 82 = .ok (.getfield 41, 3) := by decide +kernel
theorem dX6_come_85 : decode cX6_come 85 = .ok (.iconst 1, 1) := by decide +kernel
theorem dX6_come_86 : decode cX6_come 86 = .ok (.isub, 1) := by decide +kernel
theorem dX6_come_87 : decode cX6_come 87 = .ok (.ireturn, 1) := by decide +kernel
theorem dX6_setPattern_0 : decode cX6_setPattern 0 = .ok (.aload_n 0, 1) := by decide +kernel
theorem dX6_setPattern_1 : decode cX6_setPattern 1 = .ok (.iconst 0, 1) := by decide +kernel
theorem dX6_setPattern_2 : decode cX6_setPattern 2 = .ok (.putfield 37, 3) := by decide +kernel
theorem dX6_setPattern_5 : decode cX6_setPattern 5 = .ok (.aload_n 0, 1) := by decide +kernel
theorem dX6_setPattern_6 : decode cX6_setPattern 6 = .ok (.iload_n 1, 1) := by decide +kernel
theorem dX6_setPattern_7 : decode cX6_setPattern 7 = .ok (.invokevirtual 51, 3) := by decide +kernel
theorem dX6_setPattern_10 : decode cX6_setPattern 10 = .ok (.ifCond .ne 9, 3) := by decide +kernel
theorem dX6_setPattern_13 : decode cX6_setPattern 13 = .ok (.aload_n 0, 1) := by decide +kernel
theorem dX6_setPattern_14 : decode cX6_setPattern 14 = .ok (.iconst 1, 1) := by decide +kernel
theorem dX6_setPattern_15 : decode cX6_setPattern 15 = .ok (.invokevirtual 55, 3) := by decide +kernel
theorem dX6_setPattern_18 : decode cX6_setPattern 18 = .ok (.ireturn, 1) := by decide +kernel
theorem dX6_setPattern_19 : decode cX6_setPattern 19 = .ok (.iconst 1, 1) := by decide +kernel
theorem dX6_setPattern_20 : decode cX6_setPattern 20 = .ok (.istore 4, 2) := by decide +kernel
theorem dX6_setPattern_22 : decode cX6_setPattern 22 = .ok (.iconst 0, 1) := by decide +kernel
theorem dX6_setPattern_23 : decode cX6_setPattern 23 = .ok (.istore 5, 2) := by decide +kernel
theorem dX6_setPattern_25 : decode cX6_setPattern 25 = .ok (.iload 5, 2) := by decide +kernel
theorem dX6_setPattern_27 : decode cX6_setPattern 27 = .ok (.iload_n 2, 1) := by decide +kernel
theorem dX6_setPattern_28 : decode cX6_setPattern 28 = .ok (.if_icmp .ge 23, 3) := by decide +kernel
theorem dX6_setPattern_31 : decode cX6_setPattern 31 = .ok (.iload 5, 2) := by decide +kernel
theorem dX6_setPattern_33 : decode cX6_setPattern 33 = .ok (.bipush 8, 2) := by decide +kernel
theorem dX6_setPattern_35 : decode cX6_setPattern 35 = .ok (.if_icmp .ge 16, 3) := by decide +kernel
theorem dX6_setPattern_38 : decode cX6_setPattern 38 = .ok (.iload 4, 2) := by decide +kernel
theorem dX6_setPattern_40 : decode cX6_setPattern 40 = .ok (.bipush 10, 2) := by decide +kernel
theorem dX6_setPattern_42 : decode cX6_setPattern 42 = .ok (.imul, 1) := by decide +kernel
theorem dX6_setPattern_43 : decode cX6_setPattern 43 = .ok (.istore 4, 2) := by decide +kernel
theorem dX6_setPattern_45 : decode cX6_setPattern 45 = .ok (.iinc 5 1, 3) := by decide +kernel
theorem dX6_setPattern_48 : decode cX6_setPattern 48 = .ok (.goto (-23), 3) := by decide +kernel
theorem dX6_setPattern_51 : decode cX6_setPattern 51 = .ok (.iload_n 2, 1) := by decide +kernel
theorem dX6_setPattern_52 : decode cX6_setPattern 52 = .ok (.iconst 1, 1) := by decide +kernel
theorem dX6_setPattern_53 : decode cX6_setPattern 53 = .ok (.bipush 8, 2) := by decide +kernel
theorem dX6_setPattern_55 : decode cX6_setPattern 55 = .ok (.invokestatic 44, 3) := by decide +kernel
theorem dX6_setPattern_58 : decode cX6_setPattern 58 = .ok (.ifCond .eq 15, 3) := by decide +kernel
theorem dX6_setPattern_61 : decode cX6_setPattern 61 = .ok (.iload_n 3, 1) := by decide +kernel
theorem dX6_setPattern_62 : decode cX6_setPattern 62 = .ok (.iconst 0, 1) := by decide +kernel
theorem dX6_setPattern_63 : decode cX6_setPattern 63 = .ok (.iload 4, 2) := by decide +kernel
theorem dX6_setPattern_65 : decode cX6_setPattern 65 = .ok (.iconst 1, 1) := by decide +kernel
theorem dX6_setPattern_66 : decode cX6_setPattern 66 = .ok (.isub, 1) := by decide +kernel
theorem dX6_setPattern_67 : decode cX6_setPattern 67 = .ok (.invokestatic 44, 3) := by decide +kernel
theorem dX6_setPattern_70 : decode cX6_setPattern 70 = .ok (.ifCond .ne 9, 3) := by decide +kernel
theorem dX6_setPattern_73 : decode cX6_setPattern 73 = .ok (.aload_n 0, 1) := by decide +kernel
theorem dX6_setPattern_74 : decode cX6_setPattern 74 = .ok (.iconst 2, 1) := by decide +kernel
theorem dX6_setPattern_75 : decode cX6_setPattern 75 = .ok (.invokevirtual 55, 3) := by decide +kernel
theorem dX6_setPattern_78 : decode cX6_setPattern 78 = .ok (.ireturn, 1) := by decide +kernel
theorem dX6_setPattern_79 : decode cX6_setPattern 79 = .ok (.aload_n 0, 1) := by decide +kernel
theorem dX6_setPattern_80 : decode cX6_setPattern 80 = .ok (.getfield 13, 3) := by decide +kernel
theorem dX6_setPattern_83 : decode cX6_setPattern 83 = .ok (.iload_n 1, 1) := by decide +kernel
theorem dX6_setPattern_84 : decode cX6_setPattern 84 = .ok (.iaload, 1) := by decide +kernel
theorem dX6_setPattern_85 : decode cX6_setPattern 85 = .ok (.istore 5, 2) := by decide +kernel
theorem dX6_setPattern_87 : decode cX6_setPattern 87 = .ok (.aload_n 0, 1) := by decide +kernel
theorem dX6_setPattern_88 : decode cX6_setPattern 88 = .ok (.getfield 13, 3) := by decide +kernel
theorem dX6_setPattern_91 : decode cX6_setPattern 91 = .ok (.iload_n 1, 1) := by decide +kernel
theorem dX6_setPattern_92 : decode cX6_setPattern 92 = .ok (.iload_n 2, 1) := by decide +kernel
theorem dX6_setPattern_93 : decode cX6_setPattern 93 = .ok (.iastore, 1) := by decide +kernel
theorem dX6_setPattern_94 : decode cX6_setPattern 94 = .ok (.iload_n 3, 1) := by decide +kernel
theorem dX6_setPattern_95 : decode cX6_setPattern 95 = .ok (.istore 6, 2) := by decide +kernel
theorem dX6_setPattern_97 : decode cX6_setPattern 97 = .ok (.iload_n 2, 1) := by decide +kernel
theorem dX6_setPattern_98 : decode cX6_setPattern 98 = .ok (.iconst 1, 1) := by decide +kernel
theorem dX6_setPattern_99 : decode cX6_setPattern 99 = .ok (.isub, 1) := by decide +kernel
theorem dX6_setPattern_100 : decode cX6_setPattern 100 = .ok (.istore 7, 2) := by decide +kernel
theorem dX6_setPattern_102 : decode cX6_setPattern 102 = .ok (.iload 7, 2) := by decide +kernel
theorem dX6_setPattern_104 : decode cX6_setPattern 104 = .ok (.ifCond .lt 46, 3) := by decide +kernel
theorem dX6_setPattern_107 : decode cX6_setPattern 107 = .ok (.aload_n 0, 1) := by decide +kernel
theorem dX6_setPattern_108 : decode cX6_setPattern 108 = .ok (.getfield 16, 3) := by decide +kernel
theorem dX6_setPattern_111 : decode cX6_setPattern 111 = .ok (.bipush 8, 2) := by decide +kernel
theorem dX6_setPattern_113 : decode cX6_setPattern 113 = .ok (.iload_n 1, 1) := by decide +kernel
theorem dX6_setPattern_114 : decode cX6_setPattern 114 = .ok (.imul, 1) := by decide +kernel
theorem dX6_setPattern_115 : decode cX6_setPattern 115 = .ok (.iload 7, 2) := by decide +kernel
theorem dX6_setPattern_117 : decode cX6_setPattern 117 = .ok (.iadd, 1) := by decide +kernel
theorem dX6_setPattern_118 : decode cX6_setPattern 118 = .ok (.iload 6, 2) := by decide +kernel
theorem dX6_setPattern_120 : decode cX6_setPattern 120 = .ok (.bipush 10, 2) := by decide +kernel
theorem dX6_setPattern_122 : decode cX6_setPattern 122 = .ok (.irem, 1) := by decide +kernel
theorem dX6_setPattern_123 : decode cX6_setPattern 123 = .ok (.iastore, 1) := by decide +kernel
theorem dX6_setPattern_124 : decode cX6_setPattern 124 = .ok (.aload_n 0, 1) := by decide +kernel
theorem dX6_setPattern_125 : decode cX6_setPattern 125 = .ok (.getfield 19, 3) := by decide +kernel
theorem dX6_setPattern_128 : decode cX6_setPattern 128 = .ok (.bipush 8, 2) := by decide +kernel
theorem dX6_setPattern_130 : decode cX6_setPattern 130 = .ok (.iload_n 1, 1) := by decide +kernel
theorem dX6_setPattern_131 : decode cX6_setPattern 131 = .ok (.imul, 1) := by decide +kernel
theorem dX6_setPattern_132 : decode cX6_setPattern 132 = .ok (.iload 7, 2) := by decide +kernel
theorem dX6_setPattern_134 : decode cX6_setPattern 134 = .ok (.iadd, 1) := by decide +kernel
theorem dX6_setPattern_135 : decode cX6_setPattern 135 = .ok (.iload_n 1, 1) := by decide +kernel
theorem dX6_setPattern_136 : decode cX6_setPattern 136 = .ok (.iastore, 1) := by decide +kernel
theorem dX6_setPattern_137 : decode cX6_setPattern 137 = .ok (.iload 6, 2) := by decide +kernel
theorem dX6_setPattern_139 : decode cX6_setPattern 139 = .ok (.bipush 10, 2) := by decide +kernel
theorem dX6_setPattern_141 : decode cX6_setPattern 141 = .ok (.idiv, 1) := by decide +kernel
theorem dX6_setPattern_142 : decode cX6_setPattern 142 = .ok (.istore 6, 2) := by decide +kernel
theorem dX6_setPattern_144 : decode cX6_setPattern 144 = .ok (.iinc 7 (-1), 3) := by decide +kernel
theorem dX6_setPattern_147 : decode cX6_setPattern 147 = .ok (.goto (-45), 3) := by decide +kernel
theorem dX6_setPattern_150 : decode cX6_setPattern 150 = .ok (.iload 5, 2) := by decide +kernel
theorem dX6_setPattern_152 : decode cX6_setPattern 152 = .ok (.ireturn, 1) := by decide +kernel
theorem dX6_pass_0 : decode cX6_pass 0 = .ok (.aload_n 0, 1) := by decide +kernel
theorem dX6_pass_1 : decode cX6_pass 1 = .ok (.iconst 0, 1) := by decide +kernel
theorem dX6_pass_2 : decode cX6_pass 2 = .ok (.putfield 37, 3) := by decide +kernel
theorem dX6_pass_5 : decode cX6_pass 5 = .ok (.aload_n 0, 1) := by decide +kernel
theorem dX6_pass_6 : decode cX6_pass 6 = .ok (.iload_n 1, 1) := by decide +kernel
theorem dX6_pass_7 : decode cX6_pass 7 = .ok (.iload_n 2, 1) := by decide +kernel
theorem dX6_pass_8 : decode cX6_pass 8 = .ok (.invokevirtual 59, 3) := by decide +kernel
theorem dX6_pass_11 : decode cX6_pass 11 = .ok (.ifCond .eq 11, 3) := by decide +kernel
theorem dX6_pass_14 : decode cX6_pass 14 = .ok (.aload_n 0, 1) := by decide +kernel
theorem dX6_pass_15 : decode cX6_pass 15 = .ok (.iload_n 3, 1) := by decide +kernel
theorem dX6_pass_16 : decode cX6_pass 16 = .ok (.invokevirtual 51, 3) := by decide +kernel
theorem dX6_pass_19 : decode cX6_pass 19 = .ok (.ifCond .ne 9, 3) := by decide +kernel
theorem dX6_pass_22 : decode cX6_pass 22 = .ok (.aload_n 0, 1) := by decide +kernel
theorem dX6_pass_23 : decode cX6_pass 23 = .ok (.iconst 1, 1) := by decide +kernel
theorem dX6_pass_24 : decode cX6_pass 24 = .ok (.invokevirtual 55, 3) := by decide +kernel
theorem dX6_pass_27 : decode cX6_pass 27 = .ok (.ireturn, 1) := by decide +kernel
theorem dX6_pass_28 : decode cX6_pass 28 = .ok (.aload_n 0, 1) := by decide +kernel
theorem dX6_pass_29 : decode cX6_pass 29 = .ok (.getfield 19, 3) := by decide +kernel
theorem dX6_pass_32 : decode cX6_pass 32 = .ok (.bipush 8, 2) := by decide +kernel
theorem dX6_pass_34 : decode cX6_pass 34 = .ok (.iload_n 1, 1) := by decide +kernel
theorem dX6_pass_35 : decode cX6_pass 35 = .ok (.imul, 1) := by decide +kernel
theorem dX6_pass_36 : decode cX6_pass 36 = .ok (.iload_n 2, 1) := by decide +kernel
theorem dX6_pass_37 : decode cX6_pass 37 = .ok (.iadd, 1) := by decide +kernel
theorem dX6_pass_38 : decode cX6_pass 38 = .ok (.iaload, 1) := by decide +kernel
theorem dX6_pass_39 : decode cX6_pass 39 = .ok (.istore 4, 2) := by decide +kernel
theorem dX6_pass_41 : decode cX6_pass 41 = .ok (.aload_n 0, 1) := by decide +kernel
theorem dX6_pass_42 : decode cX6_pass 42 = .ok (.getfield 19, 3) := by decide +kernel
theorem dX6_pass_45 : decode cX6_pass 45 = .ok (.bipush 8, 2) := by decide +kernel
theorem dX6_pass_47 : decode cX6_pass 47 = .ok (.iload_n 1, 1) := by decide +kernel
theorem dX6_pass_48 : decode cX6_pass 48 = .ok (.imul, 1) := by decide +kernel
theorem dX6_pass_49 : decode cX6_pass 49 = .ok (.iload_n 2, 1) := by decide +kernel
theorem dX6_pass_50 : decode cX6_pass 50 = .ok (.iadd, 1) := by decide +kernel
theorem dX6_pass_51 : decode cX6_pass 51 = .ok (.iload_n 3, 1) := by decide +kernel
theorem dX6_pass_52 : decode cX6_pass 52 = .ok (.iastore, 1) := by decide +kernel
theorem dX6_pass_53 : decode cX6_pass 53 = .ok (.iload 4, 2) := by decide +kernel
theorem dX6_pass_55 : decode cX6_pass 55 = .ok (.ireturn, 1) := by decide +kernel
theorem dX6_written_0 : decode cX6_written 0 = .ok (.aload_n 0, 1) := by decide +kernel
theorem dX6_written_1 : decode cX6_written 1 = .ok (.iconst 0, 1) := by decide +kernel
theorem dX6_written_2 : decode cX6_written 2 = .ok (.putfield 37, 3) := by decide +kernel
theorem dX6_written_5 : decode cX6_written 5 = .ok (.aload_n 0, 1) := by decide +kernel
theorem dX6_written_6 : decode cX6_written 6 = .ok (.iload_n 1, 1) := by decide +kernel
theorem dX6_written_7 : decode cX6_written 7 = .ok (.iload_n 2, 1) := by decide +kernel
theorem dX6_written_8 : decode cX6_written 8 = .ok (.invokevirtual 59, 3) := by decide +kernel
theorem dX6_written_11 : decode cX6_written 11 = .ok (.ifCond .eq 12, 3) := by decide +kernel
theorem dX6_written_14 : decode cX6_written 14 = .ok (.iload_n 3, 1) := by decide +kernel
theorem dX6_written_15 : decode cX6_written 15 = .ok (.iconst 0, 1) := by decide +kernel
theorem dX6_written_16 : decode cX6_written 16 = .ok (.iconst 1, 1) := by decide +kernel
theorem dX6_written_17 : decode cX6_written 17 = .ok (.invokestatic 44, 3) := by decide +kernel
theorem dX6_written_20 : decode cX6_written 20 = .ok (.ifCond .ne 9, 3) := by decide +kernel
theorem dX6_written_23 : decode cX6_written 23 = .ok (.aload_n 0, 1) := by decide +kernel
theorem dX6_written_24 : decode cX6_written 24 = .ok (.iconst 1, 1) := by decide +kernel
theorem dX6_written_25 : decode cX6_written 25 = .ok (.invokevirtual 55, 3) := by decide +kernel
theorem dX6_written_28 : decode cX6_written 28 = .ok (.ireturn, 1) := by decide +kernel
theorem dX6_written_29 : decode cX6_written 29 = .ok (.iload_n 3, 1) := by decide +kernel
theorem dX6_written_30 : decode cX6_written 30 = .ok (.ifCond .ne 17, 3) := by decide +kernel
theorem dX6_written_33 : decode cX6_written 33 = .ok (.aload_n 0, 1) := by decide +kernel
theorem dX6_written_34 : decode cX6_written 34 = .ok (.getfield 16, 3) := by decide +kernel
theorem dX6_written_37 : decode cX6_written 37 = .ok (.bipush 8, 2) := by decide +kernel
theorem dX6_written_39 : decode cX6_written 39 = .ok (.iload_n 1, 1) := by decide +kernel
theorem dX6_written_40 : decode cX6_written 40 = .ok (.imul, 1) := by decide +kernel
theorem dX6_written_41 : decode cX6_written 41 = .ok (.iload_n 2, 1) := by decide +kernel
theorem dX6_written_42 : decode cX6_written 42 = .ok (.iadd, 1) := by decide +kernel
theorem dX6_written_43 : decode cX6_written 43 = .ok (.iaload, 1) := by decide +kernel
theorem dX6_written_44 : decode cX6_written 44 = .ok (.goto 14, 3) := by decide +kernel
theorem dX6_written_47 : decode cX6_written 47 = .ok (.aload_n 0, 1) := by decide +kernel
theorem dX6_written_48 : decode cX6_written 48 = .ok (.getfield 19, 3) := by decide +kernel
theorem dX6_written_51 : decode cX6_written 51 = .ok (.bipush 8, 2) := by decide +kernel
theorem dX6_written_53 : decode cX6_written 53 = .ok (.iload_n 1, 1) := by decide +kernel
theorem dX6_written_54 : decode cX6_written 54 = .ok (.imul, 1) := by decide +kernel
theorem dX6_written_55 : decode cX6_written 55 = .ok (.iload_n 2, 1) := by decide +kernel
theorem dX6_written_56 : decode cX6_written 56 = .ok (.iadd, 1) := by decide +kernel
theorem dX6_written_57 : decode cX6_written 57 = .ok (.iaload, 1) := by decide +kernel
theorem dX6_written_58 : decode cX6_written 58 = .ok (.ireturn, 1) := by decide +kernel
theorem dX6_make_0 : decode cX6_make 0 = .ok (.aload_n 0, 1) := by decide +kernel
theorem dX6_make_1 : decode cX6_make 1 = .ok (.iconst 0, 1) := by decide +kernel
theorem dX6_make_2 : decode cX6_make 2 = .ok (.putfield 37, 3) := by decide +kernel
theorem dX6_make_5 : decode cX6_make 5 = .ok (.iload_n 1, 1) := by decide +kernel
theorem dX6_make_6 : decode cX6_make 6 = .ok (.iconst 0, 1) := by decide +kernel
theorem dX6_make_7 : decode cX6_make 7 = .ok (.iconst 2, 1) := by decide +kernel
theorem dX6_make_8 : decode cX6_make 8 = .ok (.invokestatic 44, 3) := by decide +kernel
theorem dX6_make_11 : decode cX6_make 11 = .ok (.ifCond .ne 9, 3) := by decide +kernel
theorem dX6_make_14 : decode cX6_make 14 = .ok (.aload_n 0, 1) := by decide +kernel
theorem dX6_make_15 : decode cX6_make 15 = .ok (.iconst 1, 1) := by decide +kernel
theorem dX6_make_16 : decode cX6_make 16 = .ok (.invokevirtual 55, 3) := by decide +kernel
theorem dX6_make_19 : decode cX6_make 19 = .ok (.ireturn, 1) := by decide +kernel
theorem dX6_make_20 : decode cX6_make 20 = .ok (.aload_n 0, 1) := by decide +kernel
theorem dX6_make_21 : decode cX6_make 21 = .ok (.getfield 48, 3) := by decide +kernel
theorem dX6_make_24 : decode cX6_make 24 = .ok (.bipush 12, 2) := by decide +kernel
theorem dX6_make_26 : decode cX6_make 26 = .ok (.if_icmp .ne 9, 3) := by decide +kernel
theorem dX6_make_29 : decode cX6_make 29 = .ok (.aload_n 0, 1) := by decide +kernel
theorem dX6_make_30 : decode cX6_make 30 = .ok (.iconst 2, 1) := by decide +kernel
theorem dX6_make_31 : decode cX6_make 31 = .ok (.invokevirtual 55, 3) := by decide +kernel
theorem dX6_make_34 : decode cX6_make 34 = .ok (.ireturn, 1) := by decide +kernel
theorem dX6_make_35 : decode cX6_make 35 = .ok (.aload_n 0, 1) := by decide +kernel
theorem dX6_make_36 : decode cX6_make 36 = .ok (.getfield 22, 3) := by decide +kernel
theorem dX6_make_39 : decode cX6_make 39 = .ok (.aload_n 0, 1) := by decide +kernel
theorem dX6_make_40 : decode cX6_make 40 = .ok (.getfield 48, 3) := by decide +kernel
theorem dX6_make_43 : decode cX6_make 43 = .ok (.iload_n 1, 1) := by decide +kernel
theorem dX6_make_44 : decode cX6_make 44 = .ok (.iastore, 1) := by decide +kernel
theorem dX6_make_45 : decode cX6_make 45 = .ok (.aload_n 0, 1) := by decide +kernel
theorem dX6_make_46 : decode cX6_make 46 = .ok (.dup, 1) := by decide +kernel
theorem dX6_make_47 : decode cX6_make 47 = .ok (.getfield 48, 3) := by decide +kernel
theorem dX6_make_50 : decode cX6_make 50 = .ok (.iconst 1, 1) := by decide +kernel
theorem dX6_make_51 : decode cX6_make 51 = .ok (.iadd, 1) := by decide +kernel
theorem dX6_make_52 : decode cX6_make 52 = .ok (.putfield 48, 3) := by decide +kernel
theorem dX6_make_55 : decode cX6_make 55 = .ok (.aload_n 0, 1) := by decide +kernel
theorem dX6_make_56 : decode cX6_make 56 = .ok (.getfield 48, 3) := by decide +kernel
theorem dX6_make_59 : decode cX6_make 59 = .ok (.iconst 1, 1) := by decide +kernel
theorem dX6_make_60 : decode cX6_make 60 = .ok (.isub, 1) := by decide +kernel
theorem dX6_make_61 : decode cX6_make 61 = .ok (.ireturn, 1) := by decide +kernel
theorem dX6_holds_0 : decode cX6_holds 0 = .ok (.aload_n 0, 1) := by decide +kernel
theorem dX6_holds_1 : decode cX6_holds 1 = .ok (.getfield 30, 3) := by decide +kernel
theorem dX6_holds_4 : decode cX6_holds 4 = .ok (.getfield 63, 3) := by decide +kernel
theorem dX6_holds_7 : decode cX6_holds 7 = .ok (.iconst 2, 1) := by decide +kernel
theorem dX6_holds_8 : decode cX6_holds 8 = .ok (.iload_n 1, 1) := by decide +kernel
theorem dX6_holds_9 : decode cX6_holds 9 = .ok (.imul, 1) := by decide +kernel
theorem dX6_holds_10 : decode cX6_holds 10 = .ok (.iaload, 1) := by decide +kernel
theorem dX6_holds_11 : decode cX6_holds 11 = .ok (.ifCond .le 7, 3) := by decide +kernel
theorem dX6_holds_14 : decode cX6_holds 14 = .ok (.iconst 1, 1) := by decide +kernel
theorem dX6_holds_15 : decode cX6_holds 15 = .ok (.goto 4, 3) := by decide +kernel
theorem dX6_holds_18 : decode cX6_holds 18 = .ok (.iconst 0, 1) := by decide +kernel
theorem dX6_holds_19 : decode cX6_holds 19 = .ok (.aload_n 0, 1) := by decide +kernel
theorem dX6_holds_20 : decode cX6_holds 20 = .ok (.getfield 30, 3) := by decide +kernel
theorem dX6_holds_23 : decode cX6_holds 23 = .ok (.getfield 63, 3) := by decide +kernel
theorem dX6_holds_26 : decode cX6_holds 26 = .ok (.iconst 2, 1) := by decide +kernel
theorem dX6_holds_27 : decode cX6_holds 27 = .ok (.iload_n 1, 1) := by decide +kernel
theorem dX6_holds_28 : decode cX6_holds 28 = .ok (.imul, 1) := by decide +kernel
theorem dX6_holds_29 : decode cX6_holds 29 = .ok (.iconst 1, 1) := by decide +kernel
theorem dX6_holds_30 : decode cX6_holds 30 = .ok (.iadd, 1) := by decide +kernel
theorem dX6_holds_31 : decode cX6_holds 31 = .ok (.iaload, 1) := by decide +kernel
theorem dX6_holds_32 : decode cX6_holds 32 = .ok (.ifCond .le 7, 3) := by decide +kernel
theorem dX6_holds_35 : decode cX6_holds 35 = .ok (.iconst 1, 1) := by decide +kernel
theorem dX6_holds_36 : decode cX6_holds 36 = .ok (.goto 4, 3) := by decide +kernel
theorem dX6_holds_39 : decode cX6_holds 39 = .ok (.iconst 0, 1) := by decide +kernel
theorem dX6_holds_40 : decode cX6_holds 40 = .ok (.iadd, 1) := by decide +kernel
theorem dX6_holds_41 : decode cX6_holds 41 = .ok (.ireturn, 1) := by decide +kernel
theorem dX6_give_0 : decode cX6_give 0 = .ok (.aload_n 0, 1) := by decide +kernel
theorem dX6_give_1 : decode cX6_give 1 = .ok (.iconst 0, 1) := by decide +kernel
theorem dX6_give_2 : decode cX6_give 2 = .ok (.putfield 37, 3) := by decide +kernel
theorem dX6_give_5 : decode cX6_give 5 = .ok (.aload_n 0, 1) := by decide +kernel
theorem dX6_give_6 : decode cX6_give 6 = .ok (.iload_n 1, 1) := by decide +kernel
theorem dX6_give_7 : decode cX6_give 7 = .ok (.invokevirtual 66, 3) := by decide +kernel
theorem dX6_give_10 : decode cX6_give 10 = .ok (.ifCond .eq 20, 3) := by decide +kernel
theorem dX6_give_13 : decode cX6_give 13 = .ok (.aload_n 0, 1) := by decide +kernel
theorem dX6_give_14 : decode cX6_give 14 = .ok (.iload_n 2, 1) := by decide +kernel
theorem dX6_give_15 : decode cX6_give 15 = .ok (.invokevirtual 51, 3) := by decide +kernel
theorem dX6_give_18 : decode cX6_give 18 = .ok (.ifCond .eq 12, 3) := by decide +kernel
theorem dX6_give_21 : decode cX6_give 21 = .ok (.iload_n 3, 1) := by decide +kernel
theorem dX6_give_22 : decode cX6_give 22 = .ok (.iconst 0, 1) := by decide +kernel
theorem dX6_give_23 : decode cX6_give 23 = .ok (.iconst 1, 1) := by decide +kernel
theorem dX6_give_24 : decode cX6_give 24 = .ok (.invokestatic 44, 3) := by decide +kernel
theorem dX6_give_27 : decode cX6_give 27 = .ok (.ifCond .ne 9, 3) := by decide +kernel
theorem dX6_give_30 : decode cX6_give 30 = .ok (.aload_n 0, 1) := by decide +kernel
theorem dX6_give_31 : decode cX6_give 31 = .ok (.iconst 1, 1) := by decide +kernel
theorem dX6_give_32 : decode cX6_give 32 = .ok (.invokevirtual 55, 3) := by decide +kernel
theorem dX6_give_35 : decode cX6_give 35 = .ok (.ireturn, 1) := by decide +kernel
theorem dX6_give_36 : decode cX6_give 36 = .ok (.aload_n 0, 1) := by decide +kernel
theorem dX6_give_37 : decode cX6_give 37 = .ok (.getfield 30, 3) := by decide +kernel
theorem dX6_give_40 : decode cX6_give 40 = .ok (.getfield 69, 3) := by decide +kernel
theorem dX6_give_43 : decode cX6_give 43 = .ok (.iload_n 1, 1) := by decide +kernel
theorem dX6_give_44 : decode cX6_give 44 = .ok (.iaload, 1) := by decide +kernel
theorem dX6_give_45 : decode cX6_give 45 = .ok (.ifCond .ne 19, 3) := by decide +kernel
theorem dX6_give_48 : decode cX6_give 48 = .ok (.aload_n 0, 1) := by decide +kernel
theorem dX6_give_49 : decode cX6_give 49 = .ok (.getfield 30, 3) := by decide +kernel
theorem dX6_give_52 : decode cX6_give 52 = .ok (.getfield 63, 3) := by decide +kernel
theorem dX6_give_55 : decode cX6_give 55 = .ok (.iconst 2, 1) := by decide +kernel
theorem dX6_give_56 : decode cX6_give 56 = .ok (.iload_n 2, 1) := by decide +kernel
theorem dX6_give_57 : decode cX6_give 57 = .ok (.imul, 1) := by decide +kernel
theorem dX6_give_58 : decode cX6_give 58 = .ok (.iload_n 3, 1) := by decide +kernel
theorem dX6_give_59 : decode cX6_give 59 = .ok (.iadd, 1) := by decide +kernel
theorem dX6_give_60 : decode cX6_give 60 = .ok (.iaload, 1) := by decide +kernel
theorem dX6_give_61 : decode cX6_give 61 = .ok (.ifCond .le 9, 3) := by decide +kernel
theorem dX6_give_64 : decode cX6_give 64 = .ok (.aload_n 0, 1) := by decide +kernel
theorem dX6_give_65 : decode cX6_give 65 = .ok (.iconst 2, 1) := by decide +kernel
theorem dX6_give_66 : decode cX6_give 66 = .ok (.invokevirtual 55, 3) := by decide +kernel
theorem dX6_give_69 : decode cX6_give 69 = .ok (.ireturn, 1) := by decide +kernel
theorem dX6_give_70 : decode cX6_give 70 = .ok (.aload_n 0, 1) := by decide +kernel
theorem dX6_give_71 : decode cX6_give 71 = .ok (.getfield 30, 3) := by decide +kernel
theorem dX6_give_74 : decode cX6_give 74 = .ok (.getfield 69, 3) := by decide +kernel
theorem dX6_give_77 : decode cX6_give 77 = .ok (.iload_n 1, 1) := by decide +kernel
theorem dX6_give_78 : decode cX6_give 78 = .ok (.iconst 1, 1) := by decide +kernel
theorem dX6_give_79 : decode cX6_give 79 = .ok (.iastore, 1) := by decide +kernel
theorem dX6_give_80 : decode cX6_give 80 = .ok (.aload_n 0, 1) := by decide +kernel
theorem dX6_give_81 : decode cX6_give 81 = .ok (.getfield 30, 3) := by decide +kernel
theorem dX6_give_84 : decode cX6_give 84 = .ok (.getfield 63, 3) := by decide +kernel
theorem dX6_give_87 : decode cX6_give 87 = .ok (.iconst 2, 1) := by decide +kernel
theorem dX6_give_88 : decode cX6_give 88 = .ok (.iload_n 2, 1) := by decide +kernel
theorem dX6_give_89 : decode cX6_give 89 = .ok (.imul, 1) := by decide +kernel
theorem dX6_give_90 : decode cX6_give 90 = .ok (.iload_n 3, 1) := by decide +kernel
theorem dX6_give_91 : decode cX6_give 91 = .ok (.iadd, 1) := by decide +kernel
theorem dX6_give_92 : decode cX6_give 92 = .ok (.iload_n 1, 1) := by decide +kernel
theorem dX6_give_93 : decode cX6_give 93 = .ok (.iconst 1, 1) := by decide +kernel
theorem dX6_give_94 : decode cX6_give 94 = .ok (.iadd, 1) := by decide +kernel
theorem dX6_give_95 : decode cX6_give 95 = .ok (.iastore, 1) := by decide +kernel
theorem dX6_give_96 : decode cX6_give 96 = .ok (.aload_n 0, 1) := by decide +kernel
theorem dX6_give_97 : decode cX6_give 97 = .ok (.iload_n 2, 1) := by decide +kernel
theorem dX6_give_98 : decode cX6_give 98 = .ok (.invokevirtual 72, 3) := by decide +kernel
theorem dX6_give_101 : decode cX6_give 101 = .ok (.ireturn, 1) := by decide +kernel
theorem dX6_thingTold_0 : decode cX6_thingTold 0 = .ok (.aload_n 0, 1) := by decide +kernel
theorem dX6_thingTold_1 : decode cX6_thingTold 1 = .ok (.getfield 30, 3) := by decide +kernel
theorem dX6_thingTold_4 : decode cX6_thingTold 4 = .ok (.iload_n 1, 1) := by decide +kernel
theorem dX6_thingTold_5 : decode cX6_thingTold 5 = .ok (.invokevirtual 75, 3) := by decide +kernel
theorem dX6_thingTold_8 : decode cX6_thingTold 8 = .ok (.istore_n 3, 1) := by decide +kernel
theorem dX6_thingTold_9 : decode cX6_thingTold 9 = .ok (.aload_n 0, 1) := by decide +kernel
theorem dX6_thingTold_10 : decode cX6_thingTold 10 = .ok (.getfield 30, 3) := by decide +kernel
theorem dX6_thingTold_13 : decode cX6_thingTold 13 = .ok (.getfield 69, 3) := by decide +kernel
theorem dX6_thingTold_16 : decode cX6_thingTold 16 = .ok (.iload_n 1, 1) := by decide +kernel
theorem dX6_thingTold_17 : decode cX6_thingTold 17 = .ok (.iaload, 1) := by decide +kernel
theorem dX6_thingTold_18 : decode cX6_thingTold 18 = .ok (.iconst 2, 1) := by decide +kernel
theorem dX6_thingTold_19 : decode cX6_thingTold 19 = .ok (.if_icmp .ne 7, 3) := by decide +kernel
theorem dX6_thingTold_22 : decode cX6_thingTold 22 = .ok (.iconst 1, 1) := by decide +kernel
theorem dX6_thingTold_23 : decode cX6_thingTold 23 = .ok (.goto 4, 3) := by decide +kernel
theorem dX6_thingTold_26 : decode cX6_thingTold 26 = .ok (.iconst 0, 1) := by decide +kernel
theorem dX6_thingTold_27 : decode cX6_thingTold 27 = .ok (.istore 4, 2) := by decide +kernel
theorem dX6_thingTold_29 : decode cX6_thingTold 29 = .ok (.bipush 7, 2) := by decide +kernel
theorem dX6_thingTold_31 : decode cX6_thingTold 31 = .ok (.newarray .int, 2) := by decide +kernel
theorem dX6_thingTold_33 : decode cX6_thingTold 33 = .ok (.dup, 1) := by decide +kernel
theorem dX6_thingTold_34 : decode cX6_thingTold 34 = .ok (.iconst 0, 1) := by decide +kernel
theorem dX6_thingTold_35 : decode cX6_thingTold 35 = .ok (.aload_n 0, 1) := by decide +kernel
theorem dX6_thingTold_36 : decode cX6_thingTold 36 = .ok (.getfield 22, 3) := by decide +kernel
theorem dX6_thingTold_39 : decode cX6_thingTold 39 = .ok (.iload_n 1, 1) := by decide +kernel
theorem dX6_thingTold_40 : decode cX6_thingTold 40 = .ok (.iaload, 1) := by decide +kernel
theorem dX6_thingTold_41 : decode cX6_thingTold 41 = .ok (.iastore, 1) := by decide +kernel
theorem dX6_thingTold_42 : decode cX6_thingTold 42 = .ok (.dup, 1) := by decide +kernel
theorem dX6_thingTold_43 : decode cX6_thingTold 43 = .ok (.iconst 1, 1) := by decide +kernel
theorem dX6_thingTold_44 : decode cX6_thingTold 44 = .ok (.aload_n 0, 1) := by decide +kernel
theorem dX6_thingTold_45 : decode cX6_thingTold 45 = .ok (.getfield 30, 3) := by decide +kernel
theorem dX6_thingTold_48 : decode cX6_thingTold 48 = .ok (.getfield 69, 3) := by decide +kernel
theorem dX6_thingTold_51 : decode cX6_thingTold 51 = .ok (.iload_n 1, 1) := by decide +kernel
theorem dX6_thingTold_52 : decode cX6_thingTold 52 = .ok (.iaload, 1) := by decide +kernel
theorem dX6_thingTold_53 : decode cX6_thingTold 53 = .ok (.iastore, 1) := by decide +kernel
theorem dX6_thingTold_54 : decode cX6_thingTold 54 = .ok (.dup, 1) := by decide +kernel
theorem dX6_thingTold_55 : decode cX6_thingTold 55 = .ok (.iconst 2, 1) := by decide +kernel
theorem dX6_thingTold_56 : decode cX6_thingTold 56 = .ok (.iload_n 3, 1) := by decide +kernel
theorem dX6_thingTold_57 : decode cX6_thingTold 57 = .ok (.iconst (-1), 1) := by decide +kernel
theorem dX6_thingTold_58 : decode cX6_thingTold 58 = .ok (.if_icmp .eq 9, 3) := by decide +kernel
theorem dX6_thingTold_61 : decode cX6_thingTold 61 = .ok (.iload_n 3, 1) := by decide +kernel
theorem dX6_thingTold_62 : decode cX6_thingTold 62 = .ok (.iconst 2, 1) := by decide +kernel
theorem dX6_thingTold_63 : decode cX6_thingTold 63 = .ok (.idiv, 1) := by decide +kernel
theorem dX6_thingTold_64 : decode cX6_thingTold 64 = .ok (.goto 21, 3) := by decide +kernel
theorem dX6_thingTold_67 : decode cX6_thingTold 67 = .ok (.iload 4, 2) := by decide +kernel
theorem dX6_thingTold_69 : decode cX6_thingTold 69 = .ok (.ifCond .eq 15, 3) := by decide +kernel
theorem dX6_thingTold_72 : decode cX6_thingTold 72 = .ok (.aload_n 0, 1) := by decide +kernel
theorem dX6_thingTold_73 : decode cX6_thingTold 73 = .ok (.getfield 30, 3) := by decide +kernel
theorem dX6_thingTold_76 : decode cX6_thingTold 76 = .ok (.getfield 78, 3) := by decide +kernel
theorem dX6_thingTold_79 : decode cX6_thingTold 79 = .ok (.iload_n 1, 1) := by decide +kernel
theorem dX6_thingTold_80 : decode cX6_thingTold 80 = .ok (.iaload, 1) := by decide +kernel
theorem dX6_thingTold_81 : decode cX6_thingTold 81 = .ok (.goto 4, 3) := by decide +kernel
theorem dX6_thingTold_84 : decode cX6_thingTold 84 = .ok (.iconst (-1), 1) := by decide +kernel
theorem dX6_thingTold_85 : decode cX6_thingTold 85 = .ok (.iastore, 1) := by decide +kernel
theorem dX6_thingTold_86 : decode cX6_thingTold 86 = .ok (.dup, 1) := by decide +kernel
theorem dX6_thingTold_87 : decode cX6_thingTold 87 = .ok (.iconst 3, 1) := by decide +kernel
theorem dX6_thingTold_88 : decode cX6_thingTold 88 = .ok (.iload_n 3, 1) := by decide +kernel
theorem dX6_thingTold_89 : decode cX6_thingTold 89 = .ok (.iconst (-1), 1) := by decide +kernel
theorem dX6_thingTold_90 : decode cX6_thingTold 90 = .ok (.if_icmp .eq 9, 3) := by decide +kernel
theorem dX6_thingTold_93 : decode cX6_thingTold 93 = .ok (.iload_n 3, 1) := by decide +kernel
theorem dX6_thingTold_94 : decode cX6_thingTold 94 = .ok (.iconst 2, 1) := by decide +kernel
theorem dX6_thingTold_95 : decode cX6_thingTold 95 = .ok (.irem, 1) := by decide +kernel
theorem dX6_thingTold_96 : decode cX6_thingTold 96 = .ok (.goto 4, 3) := by decide +kernel
theorem dX6_thingTold_99 : decode cX6_thingTold 99 = .ok (.iconst (-1), 1) := by decide +kernel
theorem dX6_thingTold_100 : decode cX6_thingTold 100 = .ok (.iastore, 1) := by decide +kernel
theorem dX6_thingTold_101 : decode cX6_thingTold 101 = .ok (.dup, 1) := by decide +kernel
theorem dX6_thingTold_102 : decode cX6_thingTold 102 = .ok (.iconst 4, 1) := by decide +kernel
theorem dX6_thingTold_103 : decode cX6_thingTold 103 = .ok (.iload 4, 2) := by decide +kernel
theorem dX6_thingTold_105 : decode cX6_thingTold 105 = .ok (.ifCond .eq 23, 3) := by decide +kernel
theorem dX6_thingTold_108 : decode cX6_thingTold 108 = .ok (.aload_n 0, 1) := by decide +kernel
theorem dX6_thingTold_109 : decode cX6_thingTold 109 = .ok (.getfield 30, 3) := by decide +kernel
theorem dX6_thingTold_112 : decode cX6_thingTold 112 = .ok (.getfield 81, 3) := by decide +kernel
theorem dX6_thingTold_115 : decode cX6_thingTold 115 = .ok (.iload_n 1, 1) := by decide +kernel
theorem dX6_thingTold_116 : decode cX6_thingTold 116 = .ok (.iaload, 1) := by decide +kernel
theorem dX6_thingTold_117 : decode cX6_thingTold 117 = .ok (.aload_n 0, 1) := by decide +kernel
theorem dX6_thingTold_118 : decode cX6_thingTold 118 = .ok (.getfield 30, 3) := by decide +kernel
theorem dX6_thingTold_121 : decode cX6_thingTold 121 = .ok (.getfield 84, 3) := by decide +kernel
theorem dX6_thingTold_124 : decode cX6_thingTold 124 = .ok (.isub, 1) := by decide +kernel
theorem dX6_thingTold_125 : decode cX6_thingTold 125 = .ok (.goto 4, 3) := by decide +kernel
theorem dX6_thingTold_128 : decode cX6_thingTold 128 = .ok (.iconst (-1), 1) := by decide +kernel
theorem dX6_thingTold_129 : decode cX6_thingTold 129 = .ok (.iastore, 1) := by decide +kernel
theorem dX6_thingTold_130 : decode cX6_thingTold 130 = .ok (.dup, 1) := by decide +kernel
theorem dX6_thingTold_131 : decode cX6_thingTold 131 = .ok (.iconst 5, 1) := by decide +kernel
theorem dX6_thingTold_132 : decode cX6_thingTold 132 = .ok (.aload_n 0, 1) := by decide +kernel
theorem dX6_thingTold_133 : decode cX6_thingTold 133 = .ok (.getfield 30, 3) := by decide +kernel
theorem dX6_thingTold_136 : decode cX6_thingTold 136 = .ok (.getfield 87, 3) := by decide +kernel
theorem dX6_thingTold_139 : decode cX6_thingTold 139 = .ok (.iload_n 1, 1) := by decide +kernel
theorem dX6_thingTold_140 : decode cX6_thingTold 140 = .ok (.iaload, 1) := by decide +kernel
theorem dX6_thingTold_141 : decode cX6_thingTold 141 = .ok (.iastore, 1) := by decide +kernel
theorem dX6_thingTold_142 : decode cX6_thingTold 142 = .ok (.dup, 1) := by decide +kernel
theorem dX6_thingTold_143 : decode cX6_thingTold 143 = .ok (.bipush 6, 2) := by decide +kernel
theorem dX6_thingTold_145 : decode cX6_thingTold 145 = .ok (.aload_n 0, 1) := by decide +kernel
theorem dX6_thingTold_146 : decode cX6_thingTold 146 = .ok (.getfield 30, 3) := by decide +kernel
theorem dX6_thingTold_149 : decode cX6_thingTold 149 = .ok (.getfield 90, 3) := by decide +kernel
theorem dX6_thingTold_152 : decode cX6_thingTold 152 = .ok (.iload_n 1, 1) := by decide +kernel
theorem dX6_thingTold_153 : decode cX6_thingTold 153 = .ok (.iaload, 1) := by decide +kernel
theorem dX6_thingTold_154 : decode cX6_thingTold 154 = .ok (.iastore, 1) := by decide +kernel
theorem dX6_thingTold_155 : decode cX6_thingTold 155 = .ok (.astore 5, 2) := by decide +kernel
theorem dX6_thingTold_157 : decode cX6_thingTold 157 = .ok (.aload 5, 2) := by decide +kernel
theorem dX6_thingTold_159 : decode cX6_thingTold 159 = .ok (.iload_n 2, 1) := by decide +kernel
theorem dX6_thingTold_160 : decode cX6_thingTold 160 = .ok (.iaload, 1) := by decide +kernel
theorem dX6_thingTold_161 : decode cX6_thingTold 161 = .ok (.ireturn, 1) := by decide +kernel
theorem dX6_thing_0 : decode cX6_thing 0 = .ok (.aload_n 0, 1) := by decide +kernel
theorem dX6_thing_1 : decode cX6_thing 1 = .ok (.iconst 0, 1) := by decide +kernel
theorem dX6_thing_2 : decode cX6_thing 2 = .ok (.putfield 37, 3) := by decide +kernel
theorem dX6_thing_5 : decode cX6_thing 5 = .ok (.aload_n 0, 1) := by decide +kernel
theorem dX6_thing_6 : decode cX6_thing 6 = .ok (.iload_n 1, 1) := by decide +kernel
theorem dX6_thing_7 : decode cX6_thing 7 = .ok (.invokevirtual 66, 3) := by decide +kernel
theorem dX6_thing_10 : decode cX6_thing 10 = .ok (.ifCond .eq 22, 3) := by decide +kernel
theorem dX6_thing_13 : decode cX6_thing 13 = .ok (.iload_n 2, 1) := by decide +kernel
theorem dX6_thing_14 : decode cX6_thing 14 = .ok (.iconst 0, 1) := by decide +kernel
theorem dX6_thing_15 : decode cX6_thing 15 = .ok (.bipush 6, 2) := by decide +kernel
theorem dX6_thing_17 : decode cX6_thing 17 = .ok (.invokestatic 44, 3) := by decide +kernel
theorem dX6_thing_20 : decode cX6_thing 20 = .ok (.ifCond .eq 12, 3) := by decide +kernel
theorem dX6_thing_23 : decode cX6_thing 23 = .ok (.aload_n 0, 1) := by decide +kernel
theorem dX6_thing_24 : decode cX6_thing 24 = .ok (.iload_n 1, 1) := by decide +kernel
theorem dX6_thing_25 : decode cX6_thing 25 = .ok (.iload_n 2, 1) := by decide +kernel
theorem dX6_thing_26 : decode cX6_thing 26 = .ok (.invokevirtual 93, 3) := by decide +kernel
theorem dX6_thing_29 : decode cX6_thing 29 = .ok (.goto 8, 3) := by decide +kernel
theorem dX6_thing_32 : decode cX6_thing 32 = .ok (.aload_n 0, 1) := by decide +kernel
theorem dX6_thing_33 : decode cX6_thing 33 = .ok (.iconst 1, 1) := by decide +kernel
theorem dX6_thing_34 : decode cX6_thing 34 = .ok (.invokevirtual 55, 3) := by decide +kernel
theorem dX6_thing_37 : decode cX6_thing 37 = .ok (.ireturn, 1) := by decide +kernel
theorem dX6_jugglerTold_0 : decode cX6_jugglerTold 0 = .ok (.iconst 0, 1) := by decide +kernel
theorem dX6_jugglerTold_1 : decode cX6_jugglerTold 1 = .ok (.istore_n 3, 1) := by decide +kernel
theorem dX6_jugglerTold_2 : decode cX6_jugglerTold 2 = .ok (.iconst 0, 1) := by decide +kernel
theorem dX6_jugglerTold_3 : decode cX6_jugglerTold 3 = .ok (.istore 4, 2) := by decide +kernel
theorem dX6_jugglerTold_5 : decode cX6_jugglerTold 5 = .ok (.iload 4, 2) := by decide +kernel
theorem dX6_jugglerTold_7 : decode cX6_jugglerTold 7 = .ok (.aload_n 0, 1) := by decide +kernel
theorem dX6_jugglerTold_8 : decode cX6_jugglerTold 8 = .ok (.getfield 48, 3) := by decide +kernel
theorem dX6_jugglerTold_11 : decode cX6_jugglerTold 11 = .ok (.if_icmp .ge 45, 3) := by decide +kernel
theorem dX6_jugglerTold_14 : decode cX6_jugglerTold 14 = .ok (.iload_n 3, 1) := by decide +kernel
theorem dX6_jugglerTold_15 : decode cX6_jugglerTold 15 = .ok (.aload_n 0, 1) := by decide +kernel
theorem dX6_jugglerTold_16 : decode cX6_jugglerTold 16 = .ok (.getfield 30, 3) := by decide +kernel
theorem dX6_jugglerTold_19 : decode cX6_jugglerTold 19 = .ok (.getfield 69, 3) := by decide +kernel
theorem dX6_jugglerTold_22 : decode cX6_jugglerTold 22 = .ok (.iload 4, 2) := by decide +kernel
theorem dX6_jugglerTold_24 : decode cX6_jugglerTold 24 = .ok (.iaload, 1) := by decide +kernel
theorem dX6_jugglerTold_25 : decode cX6_jugglerTold 25 = .ok (.iconst 2, 1) := by decide +kernel
theorem dX6_jugglerTold_26 : decode cX6_jugglerTold 26 = .ok (.if_icmp .ne 21, 3) := by decide +kernel
theorem dX6_jugglerTold_29 : decode cX6_jugglerTold 29 = .ok (.aload_n 0, 1) := by decide +kernel
theorem dX6_jugglerTold_30 : decode cX6_jugglerTold 30 = .ok (.getfield 30, 3) := by decide +kernel
theorem dX6_jugglerTold_33 : decode cX6_jugglerTold 33 = .ok (.getfield 78, 3) := by decide +kernel
theorem dX6_jugglerTold_36 : decode cX6_jugglerTold 36 = .ok (.iload 4, 2) := by decide +kernel
theorem dX6_jugglerTold_38 : decode cX6_jugglerTold 38 = .ok (.iaload, 1) := by decide +kernel
theorem dX6_jugglerTold_39 : decode cX6_jugglerTold 39 = .ok (.iload_n 1, 1) := by decide +kernel
theorem dX6_jugglerTold_40 : decode cX6_jugglerTold 40 = .ok (.if_icmp .ne 7, 3) := by decide +kernel
theorem dX6_jugglerTold_43 : decode cX6_jugglerTold 43 = .ok (.iconst 1, 1) := by decide +kernel
theorem dX6_jugglerTold_44 : decode cX6_jugglerTold 44 = .ok (.goto 4, 3) := by decide +kernel
theorem dX6_jugglerTold_47 : decode cX6_jugglerTold 47 = .ok (.iconst 0, 1) := by decide +kernel
theorem dX6_jugglerTold_48 : decode cX6_jugglerTold 48 = .ok (.iadd, 1) := by decide +kernel
theorem dX6_jugglerTold_49 : decode cX6_jugglerTold 49 = .ok (.istore_n 3, 1) := by decide +kernel
theorem dX6_jugglerTold_50 : decode cX6_jugglerTold 50 = .ok (.iinc 4 1, 3) := by decide +kernel
theorem dX6_jugglerTold_53 : decode cX6_jugglerTold 53 = .ok (.goto (-48), 3) := by decide +kernel
theorem dX6_jugglerTold_56 : decode cX6_jugglerTold 56 = .ok (.bipush 7, 2) := by decide +kernel
theorem dX6_jugglerTold_58 : decode cX6_jugglerTold 58 = .ok (.newarray .int, 2) := by decide +kernel
theorem dX6_jugglerTold_60 : decode cX6_jugglerTold 60 = .ok (.dup, 1) := by decide +kernel
theorem dX6_jugglerTold_61 : decode cX6_jugglerTold 61 = .ok (.iconst 0, 1) := by decide +kernel
theorem dX6_jugglerTold_62 : decode cX6_jugglerTold 62 = .ok (.aload_n 0, 1) := by decide +kernel
theorem dX6_jugglerTold_63 : decode cX6_jugglerTold 63 = .ok (.getfield 9, 3) := by decide +kernel
theorem dX6_jugglerTold_66 : decode cX6_jugglerTold 66 = .ok (.iload_n 1, 1) := by decide +kernel
theorem dX6_jugglerTold_67 : decode cX6_jugglerTold 67 = .ok (.iaload, 1) := by decide +kernel
theorem dX6_jugglerTold_68 : decode cX6_jugglerTold 68 = .ok (.iastore, 1) := by decide +kernel
theorem dX6_jugglerTold_69 : decode cX6_jugglerTold 69 = .ok (.dup, 1) := by decide +kernel
theorem dX6_jugglerTold_70 : decode cX6_jugglerTold 70 = .ok (.iconst 1, 1) := by decide +kernel
theorem dX6_jugglerTold_71 : decode cX6_jugglerTold 71 = .ok (.aload_n 0, 1) := by decide +kernel
theorem dX6_jugglerTold_72 : decode cX6_jugglerTold 72 = .ok (.getfield 30, 3) := by decide +kernel
theorem dX6_jugglerTold_75 : decode cX6_jugglerTold 75 = .ok (.getfield 97, 3) := by decide +kernel
theorem dX6_jugglerTold_78 : decode cX6_jugglerTold 78 = .ok (.iload_n 1, 1) := by decide +kernel
theorem dX6_jugglerTold_79 : decode cX6_jugglerTold 79 = .ok (.iaload, 1) := by decide +kernel
theorem dX6_jugglerTold_80 : decode cX6_jugglerTold 80 = .ok (.iastore, 1) := by decide +kernel
theorem dX6_jugglerTold_81 : decode cX6_jugglerTold 81 = .ok (.dup, 1) := by decide +kernel
theorem dX6_jugglerTold_82 : decode cX6_jugglerTold 82 = .ok (.iconst 2, 1) := by decide +kernel
theorem dX6_jugglerTold_83 : decode cX6_jugglerTold 83 = .ok (.aload_n 0, 1) := by decide +kernel
theorem dX6_jugglerTold_84 : decode cX6_jugglerTold 84 = .ok (.getfield 30, 3) := by decide +kernel
theorem dX6_jugglerTold_87 : decode cX6_jugglerTold 87 = .ok (.getfield 63, 3) := by decide +kernel
theorem dX6_jugglerTold_90 : decode cX6_jugglerTold 90 = .ok (.iconst 2, 1) := by decide +kernel
theorem dX6_jugglerTold_91 : decode cX6_jugglerTold 91 = .ok (.iload_n 1, 1) := by decide +kernel
theorem dX6_jugglerTold_92 : decode cX6_jugglerTold 92 = .ok (.imul, 1) := by decide +kernel
theorem dX6_jugglerTold_93 : decode cX6_jugglerTold 93 = .ok (.iaload, 1) := by decide +kernel
theorem dX6_jugglerTold_94 : decode cX6_jugglerTold 94 = .ok (.iconst 1, 1) := by decide +kernel
theorem dX6_jugglerTold_95 : decode cX6_jugglerTold 95 = .ok (.isub, 1) := by decide +kernel
theorem dX6_jugglerTold_96 : decode cX6_jugglerTold 96 = .ok (.iastore, 1) := by decide +kernel
theorem dX6_jugglerTold_97 : decode cX6_jugglerTold 97 = .ok (.dup, 1) := by decide +kernel
theorem dX6_jugglerTold_98 : decode cX6_jugglerTold 98 = .ok (.iconst 3, 1) := by decide +kernel
theorem dX6_jugglerTold_99 : decode cX6_jugglerTold 99 = .ok (.aload_n 0, 1) := by decide +kernel
theorem dX6_jugglerTold_100 : decode cX6_jugglerTold 100 = .ok (.getfield 30, 3) := by decide +kernel
theorem dX6_jugglerTold_103 : decode cX6_jugglerTold 103 = .ok (.getfield 63, 3) := by decide +kernel
theorem dX6_jugglerTold_106 : decode cX6_jugglerTold 106 = .ok (.iconst 2, 1) := by decide +kernel
theorem dX6_jugglerTold_107 : decode cX6_jugglerTold 107 = .ok (.iload_n 1, 1) := by decide +kernel
theorem dX6_jugglerTold_108 : decode cX6_jugglerTold 108 = .ok (.imul, 1) := by decide +kernel
theorem dX6_jugglerTold_109 : decode cX6_jugglerTold 109 = .ok (.iconst 1, 1) := by decide +kernel
theorem dX6_jugglerTold_110 : decode cX6_jugglerTold 110 = .ok (.iadd, 1) := by decide +kernel
theorem dX6_jugglerTold_111 : decode cX6_jugglerTold 111 = .ok (.iaload, 1) := by decide +kernel
theorem dX6_jugglerTold_112 : decode cX6_jugglerTold 112 = .ok (.iconst 1, 1) := by decide +kernel
theorem dX6_jugglerTold_113 : decode cX6_jugglerTold 113 = .ok (.isub, 1) := by decide +kernel
theorem dX6_jugglerTold_114 : decode cX6_jugglerTold 114 = .ok (.iastore, 1) := by decide +kernel
theorem dX6_jugglerTold_115 : decode cX6_jugglerTold 115 = .ok (.dup, 1) := by decide +kernel
theorem dX6_jugglerTold_116 : decode cX6_jugglerTold 116 = .ok (.iconst 4, 1) := by decide +kernel
theorem dX6_jugglerTold_117 : decode cX6_jugglerTold 117 = .ok (.aload_n 0, 1) := by decide +kernel
theorem dX6_jugglerTold_118 : decode cX6_jugglerTold 118 = .ok (.getfield 13, 3) := by decide +kernel
theorem dX6_jugglerTold_121 : decode cX6_jugglerTold 121 = .ok (.iload_n 1, 1) := by decide +kernel
theorem dX6_jugglerTold_122 : decode cX6_jugglerTold 122 = .ok (.iaload, 1) := by decide +kernel
theorem dX6_jugglerTold_123 : decode cX6_jugglerTold 123 = .ok (.iastore, 1) := by decide +kernel
theorem dX6_jugglerTold_124 : decode cX6_jugglerTold 124 = .ok (.dup, 1) := by decide +kernel
theorem dX6_jugglerTold_125 : decode cX6_jugglerTold 125 = .ok (.iconst 5, 1) := by decide +kernel
theorem dX6_jugglerTold_126 : decode cX6_jugglerTold 126 = .ok (.iload_n 3, 1) := by decide +kernel
theorem dX6_jugglerTold_127 : decode cX6_jugglerTold 127 = .ok (.iastore, 1) := by decide +kernel
theorem dX6_jugglerTold_128 : decode cX6_jugglerTold 128 = .ok (.dup, 1) := by decide +kernel
theorem dX6_jugglerTold_129 : decode cX6_jugglerTold 129 = .ok (.bipush 6, 2) := by decide +kernel
theorem dX6_jugglerTold_131 : decode cX6_jugglerTold 131 = .ok (.aload_n 0, 1) := by decide +kernel
theorem dX6_jugglerTold_132 : decode cX6_jugglerTold 132 = .ok (.getfield 30, 3) := by decide +kernel
theorem dX6_jugglerTold_135 : decode cX6_jugglerTold 135 = .ok (.getfield 100, 3) := by decide +kernel
theorem dX6_jugglerTold_138 : decode cX6_jugglerTold 138 = .ok (.iload_n 1, 1) := by decide +kernel
theorem dX6_jugglerTold_139 : decode cX6_jugglerTold 139 = .ok (.iaload, 1) := by decide +kernel
theorem dX6_jugglerTold_140 : decode cX6_jugglerTold 140 = .ok (.iastore, 1) := by decide +kernel
theorem dX6_jugglerTold_141 : decode cX6_jugglerTold 141 = .ok (.astore 4, 2) := by decide +kernel
theorem dX6_jugglerTold_143 : decode cX6_jugglerTold 143 = .ok (.aload 4, 2) := by decide +kernel
theorem dX6_jugglerTold_145 : decode cX6_jugglerTold 145 = .ok (.iload_n 2, 1) := by decide +kernel
theorem dX6_jugglerTold_146 : decode cX6_jugglerTold 146 = .ok (.iaload, 1) := by decide +kernel
theorem dX6_jugglerTold_147 : decode cX6_jugglerTold 147 = .ok (.ireturn, 1) := by decide +kernel
theorem dX6_juggler_0 : decode cX6_juggler 0 = .ok (.aload_n 0, 1) := by decide +kernel
theorem dX6_juggler_1 : decode cX6_juggler 1 = .ok (.iconst 0, 1) := by decide +kernel
theorem dX6_juggler_2 : decode cX6_juggler 2 = .ok (.putfield 37, 3) := by decide +kernel
theorem dX6_juggler_5 : decode cX6_juggler 5 = .ok (.aload_n 0, 1) := by decide +kernel
theorem dX6_juggler_6 : decode cX6_juggler 6 = .ok (.iload_n 1, 1) := by decide +kernel
theorem dX6_juggler_7 : decode cX6_juggler 7 = .ok (.invokevirtual 51, 3) := by decide +kernel
theorem dX6_juggler_10 : decode cX6_juggler 10 = .ok (.ifCond .eq 22, 3) := by decide +kernel
theorem dX6_juggler_13 : decode cX6_juggler 13 = .ok (.iload_n 2, 1) := by decide +kernel
theorem dX6_juggler_14 : decode cX6_juggler 14 = .ok (.iconst 0, 1) := by decide +kernel
theorem dX6_juggler_15 : decode cX6_juggler 15 = .ok (.bipush 6, 2) := by decide +kernel
theorem dX6_juggler_17 : decode cX6_juggler 17 = .ok (.invokestatic 44, 3) := by decide +kernel
theorem dX6_juggler_20 : decode cX6_juggler 20 = .ok (.ifCond .eq 12, 3) := by decide +kernel
theorem dX6_juggler_23 : decode cX6_juggler 23 = .ok (.aload_n 0, 1) := by decide +kernel
theorem dX6_juggler_24 : decode cX6_juggler 24 = .ok (.iload_n 1, 1) := by decide +kernel
theorem dX6_juggler_25 : decode cX6_juggler 25 = .ok (.iload_n 2, 1) := by decide +kernel
theorem dX6_juggler_26 : decode cX6_juggler 26 = .ok (.invokevirtual 103, 3) := by decide +kernel
theorem dX6_juggler_29 : decode cX6_juggler 29 = .ok (.goto 8, 3) := by decide +kernel
theorem dX6_juggler_32 : decode cX6_juggler 32 = .ok (.aload_n 0, 1) := by decide +kernel
theorem dX6_juggler_33 : decode cX6_juggler 33 = .ok (.iconst 1, 1) := by decide +kernel
theorem dX6_juggler_34 : decode cX6_juggler 34 = .ok (.invokevirtual 55, 3) := by decide +kernel
theorem dX6_juggler_37 : decode cX6_juggler 37 = .ok (.ireturn, 1) := by decide +kernel
theorem dX6_lasts_0 : decode cX6_lasts 0 = .ok (.aload_n 0, 1) := by decide +kernel
theorem dX6_lasts_1 : decode cX6_lasts 1 = .ok (.iconst 0, 1) := by decide +kernel
theorem dX6_lasts_2 : decode cX6_lasts 2 = .ok (.putfield 37, 3) := by decide +kernel
theorem dX6_lasts_5 : decode cX6_lasts 5 = .ok (.aload_n 0, 1) := by decide +kernel
theorem dX6_lasts_6 : decode cX6_lasts 6 = .ok (.iload_n 1, 1) := by decide +kernel
theorem dX6_lasts_7 : decode cX6_lasts 7 = .ok (.invokevirtual 51, 3) := by decide +kernel
theorem dX6_lasts_10 : decode cX6_lasts 10 = .ok (.ifCond .ne 17, 3) := by decide +kernel
theorem dX6_lasts_13 : decode cX6_lasts 13 = .ok (.aload_n 0, 1) := by decide +kernel
theorem dX6_lasts_14 : decode cX6_lasts 14 = .ok (.iconst 1, 1) := by decide +kernel
theorem dX6_lasts_15 : decode cX6_lasts 15 = .ok (.invokevirtual 55, 3) := by decide +kernel
theorem dX6_lasts_18 : decode cX6_lasts 18 = .ok (.ifCond .eq 7, 3) := by decide +kernel
theorem dX6_lasts_21 : decode cX6_lasts 21 = .ok (.iconst 1, 1) := by decide +kernel
theorem dX6_lasts_22 : decode cX6_lasts 22 = .ok (.goto 4, 3) := by decide +kernel
theorem dX6_lasts_25 : decode cX6_lasts 25 = .ok (.iconst 0, 1) := by decide +kernel
theorem dX6_lasts_26 : decode cX6_lasts 26 = .ok (.ireturn, 1) := by decide +kernel
theorem dX6_lasts_27 : decode cX6_lasts 27 = .ok (.iconst 0, 1) := by decide +kernel
theorem dX6_lasts_28 : decode cX6_lasts 28 = .ok (.istore_n 2, 1) := by decide +kernel
theorem dX6_lasts_29 : decode cX6_lasts 29 = .ok (.iconst 0, 1) := by decide +kernel
theorem dX6_lasts_30 : decode cX6_lasts 30 = .ok (.istore_n 3, 1) := by decide +kernel
theorem dX6_lasts_31 : decode cX6_lasts 31 = .ok (.iload_n 3, 1) := by decide +kernel
theorem dX6_lasts_32 : decode cX6_lasts 32 = .ok (.aload_n 0, 1) := by decide +kernel
theorem dX6_lasts_33 : decode cX6_lasts 33 = .ok (.getfield 13, 3) := by decide +kernel
theorem dX6_lasts_36 : decode cX6_lasts 36 = .ok (.iload_n 1, 1) := by decide +kernel
theorem dX6_lasts_37 : decode cX6_lasts 37 = .ok (.iaload, 1) := by decide +kernel
theorem dX6_lasts_38 : decode cX6_lasts 38 = .ok (.if_icmp .ge 34, 3) := by decide +kernel
theorem dX6_lasts_41 : decode cX6_lasts 41 = .ok (.iload_n 2, 1) := by decide +kernel
theorem dX6_lasts_42 : decode cX6_lasts 42 = .ok (.iconst 1, 1) := by decide +kernel
theorem dX6_lasts_43 : decode cX6_lasts 43 = .ok (.iload_n 3, 1) := by decide +kernel
theorem dX6_lasts_44 : decode cX6_lasts 44 = .ok (.aload_n 0, 1) := by decide +kernel
theorem dX6_lasts_45 : decode cX6_lasts 45 = .ok (.getfield 16, 3) := by decide +kernel
theorem dX6_lasts_48 : decode cX6_lasts 48 = .ok (.bipush 8, 2) := by decide +kernel
theorem dX6_lasts_50 : decode cX6_lasts 50 = .ok (.iload_n 1, 1) := by decide +kernel
theorem dX6_lasts_51 : decode cX6_lasts 51 = .ok (.imul, 1) := by decide +kernel
theorem dX6_lasts_52 : decode cX6_lasts 52 = .ok (.iload_n 3, 1) := by decide +kernel
theorem dX6_lasts_53 : decode cX6_lasts 53 = .ok (.iadd, 1) := by decide +kernel
theorem dX6_lasts_54 : decode cX6_lasts 54 = .ok (.iaload, 1) := by decide +kernel
theorem dX6_lasts_55 : decode cX6_lasts 55 = .ok (.iadd, 1) := by decide +kernel
theorem dX6_lasts_56 : decode cX6_lasts 56 = .ok (.aload_n 0, 1) := by decide +kernel
theorem dX6_lasts_57 : decode cX6_lasts 57 = .ok (.getfield 13, 3) := by decide +kernel
theorem dX6_lasts_60 : decode cX6_lasts 60 = .ok (.iload_n 1, 1) := by decide +kernel
theorem dX6_lasts_61 : decode cX6_lasts 61 = .ok (.iaload, 1) := by decide +kernel
theorem dX6_lasts_62 : decode cX6_lasts 62 = .ok (.irem, 1) := by decide +kernel
theorem dX6_lasts_63 : decode cX6_lasts 63 = .ok (.ishl, 1) := by decide +kernel
theorem dX6_lasts_64 : decode cX6_lasts 64 = .ok (.ior, 1) := by decide +kernel
theorem dX6_lasts_65 : decode cX6_lasts 65 = .ok (.istore_n 2, 1) := by decide +kernel
theorem dX6_lasts_66 : decode cX6_lasts 66 = .ok (.iinc 3 1, 3) := by decide +kernel
theorem dX6_lasts_69 : decode cX6_lasts 69 = .ok (.goto (-38), 3) := by decide +kernel
theorem dX6_lasts_72 : decode cX6_lasts 72 = .ok (.iload_n 2, 1) := by decide +kernel
theorem dX6_lasts_73 : decode cX6_lasts 73 = .ok (.iconst 1, 1) := by decide +kernel
theorem dX6_lasts_74 : decode cX6_lasts 74 = .ok (.aload_n 0, 1) := by decide +kernel
theorem dX6_lasts_75 : decode cX6_lasts 75 = .ok (.getfield 13, 3) := by decide +kernel
theorem dX6_lasts_78 : decode cX6_lasts 78 = .ok (.iload_n 1, 1) := by decide +kernel
theorem dX6_lasts_79 : decode cX6_lasts 79 = .ok (.iaload, 1) := by decide +kernel
theorem dX6_lasts_80 : decode cX6_lasts 80 = .ok (.ishl, 1) := by decide +kernel
theorem dX6_lasts_81 : decode cX6_lasts 81 = .ok (.iconst 1, 1) := by decide +kernel
theorem dX6_lasts_82 : decode cX6_lasts 82 = .ok (.isub, 1) := by decide +kernel
theorem dX6_lasts_83 : decode cX6_lasts 83 = .ok (.if_icmp .ne 7, 3) := by decide +kernel
theorem dX6_lasts_86 : decode cX6_lasts 86 = .ok (.iconst 1, 1) := by decide +kernel
theorem dX6_lasts_87 : decode cX6_lasts 87 = .ok (.goto 4, 3) := by decide +kernel
theorem dX6_lasts_90 : decode cX6_lasts 90 = .ok (.iconst 0, 1) := by decide +kernel
theorem dX6_lasts_91 : decode cX6_lasts 91 = .ok (.ireturn, 1) := by decide +kernel
theorem dX6_asks_0 : decode cX6_asks 0 = .ok (.aload_n 0, 1) := by decide +kernel
theorem dX6_asks_1 : decode cX6_asks 1 = .ok (.iconst 0, 1) := by decide +kernel
theorem dX6_asks_2 : decode cX6_asks 2 = .ok (.putfield 37, 3) := by decide +kernel
theorem dX6_asks_5 : decode cX6_asks 5 = .ok (.aload_n 0, 1) := by decide +kernel
theorem dX6_asks_6 : decode cX6_asks 6 = .ok (.iload_n 1, 1) := by decide +kernel
theorem dX6_asks_7 : decode cX6_asks 7 = .ok (.invokevirtual 51, 3) := by decide +kernel
theorem dX6_asks_10 : decode cX6_asks 10 = .ok (.ifCond .ne 9, 3) := by decide +kernel
theorem dX6_asks_13 : decode cX6_asks 13 = .ok (.aload_n 0, 1) := by decide +kernel
theorem dX6_asks_14 : decode cX6_asks 14 = .ok (.iconst 1, 1) := by decide +kernel
theorem dX6_asks_15 : decode cX6_asks 15 = .ok (.invokevirtual 55, 3) := by decide +kernel
theorem dX6_asks_18 : decode cX6_asks 18 = .ok (.ireturn, 1) := by decide +kernel
theorem dX6_asks_19 : decode cX6_asks 19 = .ok (.iconst 0, 1) := by decide +kernel
theorem dX6_asks_20 : decode cX6_asks 20 = .ok (.istore_n 2, 1) := by decide +kernel
theorem dX6_asks_21 : decode cX6_asks 21 = .ok (.iconst 0, 1) := by decide +kernel
theorem dX6_asks_22 : decode cX6_asks 22 = .ok (.istore_n 3, 1) := by decide +kernel
theorem dX6_asks_23 : decode cX6_asks 23 = .ok (.iload_n 3, 1) := by decide +kernel
theorem dX6_asks_24 : decode cX6_asks 24 = .ok (.aload_n 0, 1) := by decide +kernel
theorem dX6_asks_25 : decode cX6_asks 25 = .ok (.getfield 13, 3) := by decide +kernel
theorem dX6_asks_28 : decode cX6_asks 28 = .ok (.iload_n 1, 1) := by decide +kernel
theorem dX6_asks_29 : decode cX6_asks 29 = .ok (.iaload, 1) := by decide +kernel
theorem dX6_asks_30 : decode cX6_asks 30 = .ok (.if_icmp .ge 23, 3) := by decide +kernel
theorem dX6_asks_33 : decode cX6_asks 33 = .ok (.iload_n 2, 1) := by decide +kernel
theorem dX6_asks_34 : decode cX6_asks 34 = .ok (.aload_n 0, 1) := by decide +kernel
theorem dX6_asks_35 : decode cX6_asks 35 = .ok (.getfield 16, 3) := by decide +kernel
theorem dX6_asks_38 : decode cX6_asks 38 = .ok (.bipush 8, 2) := by decide +kernel
theorem dX6_asks_40 : decode cX6_asks 40 = .ok (.iload_n 1, 1) := by decide +kernel
theorem dX6_asks_41 : decode cX6_asks 41 = .ok (.imul, 1) := by decide +kernel
theorem dX6_asks_42 : decode cX6_asks 42 = .ok (.iload_n 3, 1) := by decide +kernel
theorem dX6_asks_43 : decode cX6_asks 43 = .ok (.iadd, 1) := by decide +kernel
theorem dX6_asks_44 : decode cX6_asks 44 = .ok (.iaload, 1) := by decide +kernel
theorem dX6_asks_45 : decode cX6_asks 45 = .ok (.iadd, 1) := by decide +kernel
theorem dX6_asks_46 : decode cX6_asks 46 = .ok (.istore_n 2, 1) := by decide +kernel
theorem dX6_asks_47 : decode cX6_asks 47 = .ok (.iinc 3 1, 3) := by decide +kernel
theorem dX6_asks_50 : decode cX6_asks 50 = .ok (.goto (-27), 3) := by decide +kernel
theorem dX6_asks_53 : decode cX6_asks 53 = .ok (.iload_n 2, 1) := by decide +kernel
theorem dX6_asks_54 : decode cX6_asks 54 = .ok (.aload_n 0, 1) := by decide +kernel
theorem dX6_asks_55 : decode cX6_asks 55 = .ok (.getfield 13, 3) := by decide +kernel
theorem dX6_asks_58 : decode cX6_asks 58 = .ok (.iload_n 1, 1) := by decide +kernel
theorem dX6_asks_59 : decode cX6_asks 59 = .ok (.iaload, 1) := by decide +kernel
theorem dX6_asks_60 : decode cX6_asks 60 = .ok (.irem, 1) := by decide +kernel
theorem dX6_asks_61 : decode cX6_asks 61 = .ok (.ifCond .ne 14, 3) := by decide +kernel
theorem dX6_asks_64 : decode cX6_asks 64 = .ok (.iload_n 2, 1) := by decide +kernel
theorem dX6_asks_65 : decode cX6_asks 65 = .ok (.aload_n 0, 1) := by decide +kernel
theorem dX6_asks_66 : decode cX6_asks 66 = .ok (.getfield 13, 3) := by decide +kernel
theorem dX6_asks_69 : decode cX6_asks 69 = .ok (.iload_n 1, 1) := by decide +kernel
theorem dX6_asks_70 : decode cX6_asks 70 = .ok (.iaload, 1) := by decide +kernel
theorem dX6_asks_71 : decode cX6_asks 71 = .ok (.idiv, 1) := by decide +kernel
theorem dX6_asks_72 : decode cX6_asks 72 = .ok (.goto 4, 3) := by decide +kernel
theorem dX6_asks_75 : decode cX6_asks 75 = .ok (.iconst (-1), 1) := by decide +kernel
theorem dX6_asks_76 : decode cX6_asks 76 = .ok (.ireturn, 1) := by decide +kernel
theorem dX6_shortest_0 : decode cX6_shortest 0 = .ok (.aload_n 0, 1) := by decide +kernel
theorem dX6_shortest_1 : decode cX6_shortest 1 = .ok (.iconst 0, 1) := by decide +kernel
theorem dX6_shortest_2 : decode cX6_shortest 2 = .ok (.putfield 37, 3) := by decide +kernel
theorem dX6_shortest_5 : decode cX6_shortest 5 = .ok (.aload_n 0, 1) := by decide +kernel
theorem dX6_shortest_6 : decode cX6_shortest 6 = .ok (.iload_n 1, 1) := by decide +kernel
theorem dX6_shortest_7 : decode cX6_shortest 7 = .ok (.invokevirtual 51, 3) := by decide +kernel
theorem dX6_shortest_10 : decode cX6_shortest 10 = .ok (.ifCond .ne 9, 3) := by decide +kernel
theorem dX6_shortest_13 : decode cX6_shortest 13 = .ok (.aload_n 0, 1) := by decide +kernel
theorem dX6_shortest_14 : decode cX6_shortest 14 = .ok (.iconst 1, 1) := by decide +kernel
theorem dX6_shortest_15 : decode cX6_shortest 15 = .ok (.invokevirtual 55, 3) := by decide +kernel
theorem dX6_shortest_18 : decode cX6_shortest 18 = .ok (.ireturn, 1) := by decide +kernel
theorem dX6_shortest_19 : decode cX6_shortest 19 = .ok (.iconst 1, 1) := by decide +kernel
theorem dX6_shortest_20 : decode cX6_shortest 20 = .ok (.istore_n 2, 1) := by decide +kernel
theorem dX6_shortest_21 : decode cX6_shortest 21 = .ok (.aload_n 0, 1) := by decide +kernel
theorem dX6_shortest_22 : decode cX6_shortest 22 = .ok (.iload_n 1, 1) := by decide +kernel
theorem dX6_shortest_23 : decode cX6_shortest 23 = .ok (.iload_n 2, 1) := by decide +kernel
theorem dX6_shortest_24 : decode cX6_shortest 24 = .ok (.invokevirtual 106, 3) := by decide +kernel
theorem dX6_shortest_27 : decode cX6_shortest 27 = .ok (.ifCond .ne 9, 3) := by decide +kernel
theorem dX6_shortest_30 : decode cX6_shortest 30 = .ok (.iinc 2 1, 3) := by decide +kernel
theorem dX6_shortest_33 : decode cX6_shortest 33 = .ok (.goto (-12), 3) := by decide +kernel
theorem dX6_shortest_36 : decode cX6_shortest 36 = .ok (.iload_n 2, 1) := by decide +kernel
theorem dX6_shortest_37 : decode cX6_shortest 37 = .ok (.ireturn, 1) := by decide +kernel
theorem dX6_isWritten_0 : decode cX6_isWritten 0 = .ok (.aload_n 0, 1) := by decide +kernel
theorem dX6_isWritten_1 : decode cX6_isWritten 1 = .ok (.getfield 13, 3) := by decide +kernel
theorem dX6_isWritten_4 : decode cX6_isWritten 4 = .ok (.iload_n 1, 1) := by decide +kernel
theorem dX6_isWritten_5 : decode cX6_isWritten 5 = .ok (.iaload, 1) := by decide +kernel
theorem dX6_isWritten_6 : decode cX6_isWritten 6 = .ok (.iload_n 2, 1) := by decide +kernel
theorem dX6_isWritten_7 : decode cX6_isWritten 7 = .ok (.irem, 1) := by decide +kernel
theorem dX6_isWritten_8 : decode cX6_isWritten 8 = .ok (.ifCond .le 5, 3) := by decide +kernel
theorem dX6_isWritten_11 : decode cX6_isWritten 11 = .ok (.iconst 0, 1) := by decide +kernel
theorem dX6_isWritten_12 : decode cX6_isWritten 12 = .ok (.ireturn, 1) := by decide +kernel
theorem dX6_isWritten_13 : decode cX6_isWritten 13 = .ok (.bipush 8, 2) := by decide +kernel
theorem dX6_isWritten_15 : decode cX6_isWritten 15 = .ok (.iload_n 1, 1) := by decide +kernel
theorem dX6_isWritten_16 : decode cX6_isWritten 16 = .ok (.imul, 1) := by decide +kernel
theorem dX6_isWritten_17 : decode cX6_isWritten 17 = .ok (.istore_n 3, 1) := by decide +kernel
theorem dX6_isWritten_18 : decode cX6_isWritten 18 = .ok (.iload_n 2, 1) := by decide +kernel
theorem dX6_isWritten_19 : decode cX6_isWritten 19 = .ok (.istore 4, 2) := by decide +kernel
theorem dX6_isWritten_21 : decode cX6_isWritten 21 = .ok (.iload 4, 2) := by decide +kernel
theorem dX6_isWritten_23 : decode cX6_isWritten 23 = .ok (.aload_n 0, 1) := by decide +kernel
theorem dX6_isWritten_24 : decode cX6_isWritten 24 = .ok (.getfield 13, 3) := by decide +kernel
theorem dX6_isWritten_27 : decode cX6_isWritten 27 = .ok (.iload_n 1, 1) := by decide +kernel
theorem dX6_isWritten_28 : decode cX6_isWritten 28 = .ok (.iaload, 1) := by decide +kernel
theorem dX6_isWritten_29 : decode cX6_isWritten 29 = .ok (.if_icmp .ge 57, 3) := by decide +kernel
theorem dX6_isWritten_32 : decode cX6_isWritten 32 = .ok (.aload_n 0, 1) := by decide +kernel
theorem dX6_isWritten_33 : decode cX6_isWritten 33 = .ok (.getfield 16, 3) := by decide +kernel
theorem dX6_isWritten_36 : decode cX6_isWritten 36 = .ok (.iload_n 3, 1) := by decide +kernel
theorem dX6_isWritten_37 : decode cX6_isWritten 37 = .ok (.iload 4, 2) := by decide +kernel
theorem dX6_isWritten_39 : decode cX6_isWritten 39 = .ok (.iadd, 1) := by decide +kernel
theorem dX6_isWritten_40 : decode cX6_isWritten 40 = .ok (.iaload, 1) := by decide +kernel
theorem dX6_isWritten_41 : decode cX6_isWritten 41 = .ok (.aload_n 0, 1) := by decide +kernel
theorem dX6_isWritten_42 : decode cX6_isWritten 42 = .ok (.getfield 16, 3) := by decide +kernel
theorem dX6_isWritten_45 : decode cX6_isWritten 45 = .ok (.iload_n 3, 1) := by decide +kernel
theorem dX6_isWritten_46 : decode cX6_isWritten 46 = .ok (.iload 4, 2) := by decide +kernel
theorem dX6_isWritten_48 : decode cX6_isWritten 48 = .ok (.iload_n 2, 1) := by decide +kernel
theorem dX6_isWritten_49 : decode cX6_isWritten 49 = .ok (.irem, 1) := by decide +kernel
theorem dX6_isWritten_50 : decode cX6_isWritten 50 = .ok (.iadd, 1) := by decide +kernel
theorem dX6_isWritten_51 : decode cX6_isWritten 51 = .ok (.iaload, 1) := by decide +kernel
theorem dX6_isWritten_52 : decode cX6_isWritten 52 = .ok (.if_icmp .ne 26, 3) := by decide +kernel
theorem dX6_isWritten_55 : decode cX6_isWritten 55 = .ok (.aload_n 0, 1) := by decide +kernel
theorem dX6_isWritten_56 : decode cX6_isWritten 56 = .ok (.getfield 19, 3) := by decide +kernel
theorem dX6_isWritten_59 : decode cX6_isWritten 59 = .ok (.iload_n 3, 1) := by decide +kernel
theorem dX6_isWritten_60 : decode cX6_isWritten 60 = .ok (.iload 4, 2) := by decide +kernel
theorem dX6_isWritten_62 : decode cX6_isWritten 62 = .ok (.iadd, 1) := by decide +kernel
theorem dX6_isWritten_63 : decode cX6_isWritten 63 = .ok (.iaload, 1) := by decide +kernel
theorem dX6_isWritten_64 : decode cX6_isWritten 64 = .ok (.aload_n 0, 1) := by decide +kernel
theorem dX6_isWritten_65 : decode cX6_isWritten 65 = .ok (.getfield 19, 3) := by decide +kernel
theorem dX6_isWritten_68 : decode cX6_isWritten 68 = .ok (.iload_n 3, 1) := by decide +kernel
theorem dX6_isWritten_69 : decode cX6_isWritten 69 = .ok (.iload 4, 2) := by decide +kernel
theorem dX6_isWritten_71 : decode cX6_isWritten 71 = .ok (.iload_n 2, 1) := by decide +kernel
theorem dX6_isWritten_72 : decode cX6_isWritten 72 = .ok (.irem, 1) := by decide +kernel
theorem dX6_isWritten_73 : decode cX6_isWritten 73 = .ok (.iadd, 1) := by decide +kernel
theorem dX6_isWritten_74 : decode cX6_isWritten 74 = .ok (.iaload, 1) := by decide +kernel
theorem dX6_isWritten_75 : decode cX6_isWritten 75 = .ok (.if_icmp .eq 5, 3) := by decide +kernel
theorem dX6_isWritten_78 : decode cX6_isWritten 78 = .ok (.iconst 0, 1) := by decide +kernel
theorem dX6_isWritten_79 : decode cX6_isWritten 79 = .ok (.ireturn, 1) := by decide +kernel
theorem dX6_isWritten_80 : decode cX6_isWritten 80 = .ok (.iinc 4 1, 3) := by decide +kernel
theorem dX6_isWritten_83 : decode cX6_isWritten 83 = .ok (.goto (-62), 3) := by decide +kernel
theorem dX6_isWritten_86 : decode cX6_isWritten 86 = .ok (.iconst 1, 1) := by decide +kernel
theorem dX6_isWritten_87 : decode cX6_isWritten 87 = .ok (.ireturn, 1) := by decide +kernel
theorem dX6_go_0 : decode cX6_go 0 = .ok (.aload_n 0, 1) := by decide +kernel
theorem dX6_go_1 : decode cX6_go 1 = .ok (.iconst 0, 1) := by decide +kernel
theorem dX6_go_2 : decode cX6_go 2 = .ok (.putfield 37, 3) := by decide +kernel
theorem dX6_go_5 : decode cX6_go 5 = .ok (.iload_n 1, 1) := by decide +kernel
theorem dX6_go_6 : decode cX6_go 6 = .ok (.iconst 1, 1) := by decide +kernel
theorem dX6_go_7 : decode cX6_go 7 = .ok (.sipush 200, 3) := by decide +kernel
theorem dX6_go_10 : decode cX6_go 10 = .ok (.invokestatic 44, 3) := by decide +kernel
theorem dX6_go_13 : decode cX6_go 13 = .ok (.ifCond .ne 9, 3) := by decide +kernel
theorem dX6_go_16 : decode cX6_go 16 = .ok (.aload_n 0, 1) := by decide +kernel
theorem dX6_go_17 : decode cX6_go 17 = .ok (.iconst 1, 1) := by decide +kernel
theorem dX6_go_18 : decode cX6_go 18 = .ok (.invokevirtual 55, 3) := by decide +kernel
theorem dX6_go_21 : decode cX6_go 21 = .ok (.ireturn, 1) := by decide +kernel
theorem dX6_go_22 : decode cX6_go 22 = .ok (.aload_n 0, 1) := by decide +kernel
theorem dX6_go_23 : decode cX6_go 23 = .ok (.getfield 30, 3) := by decide +kernel
theorem dX6_go_26 : decode cX6_go 26 = .ok (.aload_n 0, 1) := by decide +kernel
theorem dX6_go_27 : decode cX6_go 27 = .ok (.getfield 30, 3) := by decide +kernel
theorem dX6_go_30 : decode cX6_go 30 = .ok (.getfield 90, 3) := by decide +kernel
theorem dX6_go_33 : decode cX6_go 33 = .ok (.invokevirtual 109, 3) := by decide +kernel
theorem dX6_go_36 : decode cX6_go 36 = .ok (.istore_n 2, 1) := by decide +kernel
theorem dX6_go_37 : decode cX6_go 37 = .ok (.iconst 0, 1) := by decide +kernel
theorem dX6_go_38 : decode cX6_go 38 = .ok (.istore_n 3, 1) := by decide +kernel
theorem dX6_go_39 : decode cX6_go 39 = .ok (.iload_n 3, 1) := by decide +kernel
theorem dX6_go_40 : decode cX6_go 40 = .ok (.iload_n 1, 1) := by decide +kernel
theorem dX6_go_41 : decode cX6_go 41 = .ok (.if_icmp .ge 16, 3) := by decide +kernel
theorem dX6_go_44 : decode cX6_go 44 = .ok (.aload_n 0, 1) := by decide +kernel
theorem dX6_go_45 : decode cX6_go 45 = .ok (.getfield 30, 3) := by decide +kernel
theorem dX6_go_48 : decode cX6_go 48 = .ok (.invokevirtual 113, 3) := by decide +kernel
theorem dX6_go_51 : decode cX6_go 51 = .ok (.iinc 3 1, 3) := by decide +kernel
theorem dX6_go_54 : decode cX6_go 54 = .ok (.goto (-15), 3) := by decide +kernel
theorem dX6_go_57 : decode cX6_go 57 = .ok (.aload_n 0, 1) := by decide +kernel
theorem dX6_go_58 : decode cX6_go 58 = .ok (.getfield 30, 3) := by decide +kernel
theorem dX6_go_61 : decode cX6_go 61 = .ok (.aload_n 0, 1) := by decide +kernel
theorem dX6_go_62 : decode cX6_go 62 = .ok (.getfield 30, 3) := by decide +kernel
theorem dX6_go_65 : decode cX6_go 65 = .ok (.getfield 90, 3) := by decide +kernel
theorem dX6_go_68 : decode cX6_go 68 = .ok (.invokevirtual 109, 3) := by decide +kernel
theorem dX6_go_71 : decode cX6_go 71 = .ok (.iload_n 2, 1) := by decide +kernel
theorem dX6_go_72 : decode cX6_go 72 = .ok (.isub, 1) := by decide +kernel
theorem dX6_go_73 : decode cX6_go 73 = .ok (.ireturn, 1) := by decide +kernel
theorem dX6_counted_0 : decode cX6_counted 0 = .ok (.bipush 9, 2) := by decide +kernel
theorem dX6_counted_2 : decode cX6_counted 2 = .ok (.newarray .int, 2) := by decide +kernel
theorem dX6_counted_4 : decode cX6_counted 4 = .ok (.dup, 1) := by decide +kernel
theorem dX6_counted_5 : decode cX6_counted 5 = .ok (.iconst 0, 1) := by decide +kernel
theorem dX6_counted_6 : decode cX6_counted 6 = .ok (.aload_n 0, 1) := by decide +kernel
theorem dX6_counted_7 : decode cX6_counted 7 = .ok (.getfield 30, 3) := by decide +kernel
theorem dX6_counted_10 : decode cX6_counted 10 = .ok (.getfield 84, 3) := by decide +kernel
theorem dX6_counted_13 : decode cX6_counted 13 = .ok (.iastore, 1) := by decide +kernel
theorem dX6_counted_14 : decode cX6_counted 14 = .ok (.dup, 1) := by decide +kernel
theorem dX6_counted_15 : decode cX6_counted 15 = .ok (.iconst 1, 1) := by decide +kernel
theorem dX6_counted_16 : decode cX6_counted 16 = .ok (.aload_n 0, 1) := by decide +kernel
theorem dX6_counted_17 : decode cX6_counted 17 = .ok (.getfield 41, 3) := by decide +kernel
theorem dX6_counted_20 : decode cX6_counted 20 = .ok (.iastore, 1) := by decide +kernel
theorem dX6_counted_21 : decode cX6_counted 21 = .ok (.dup, 1) := by decide +kernel
theorem dX6_counted_22 : decode cX6_counted 22 = .ok (.iconst 2, 1) := by decide +kernel
theorem dX6_counted_23 : decode cX6_counted 23 = .ok (.aload_n 0, 1) := by decide +kernel
theorem dX6_counted_24 : decode cX6_counted 24 = .ok (.getfield 48, 3) := by decide +kernel
theorem dX6_counted_27 : decode cX6_counted 27 = .ok (.iastore, 1) := by decide +kernel
theorem dX6_counted_28 : decode cX6_counted 28 = .ok (.dup, 1) := by decide +kernel
theorem dX6_counted_29 : decode cX6_counted 29 = .ok (.iconst 3, 1) := by decide +kernel
theorem dX6_counted_30 : decode cX6_counted 30 = .ok (.aload_n 0, 1) := by decide +kernel
theorem dX6_counted_31 : decode cX6_counted 31 = .ok (.getfield 30, 3) := by decide +kernel
theorem dX6_counted_34 : decode cX6_counted 34 = .ok (.iconst 1, 1) := by decide +kernel
theorem dX6_counted_35 : decode cX6_counted 35 = .ok (.invokevirtual 116, 3) := by decide +kernel
theorem dX6_counted_38 : decode cX6_counted 38 = .ok (.iastore, 1) := by decide +kernel
theorem dX6_counted_39 : decode cX6_counted 39 = .ok (.dup, 1) := by decide +kernel
theorem dX6_counted_40 : decode cX6_counted 40 = .ok (.iconst 4, 1) := by decide +kernel
theorem dX6_counted_41 : decode cX6_counted 41 = .ok (.aload_n 0, 1) := by decide +kernel
theorem dX6_counted_42 : decode cX6_counted 42 = .ok (.getfield 30, 3) := by decide +kernel
theorem dX6_counted_45 : decode cX6_counted 45 = .ok (.iconst 2, 1) := by decide +kernel
theorem dX6_counted_46 : decode cX6_counted 46 = .ok (.invokevirtual 116, 3) := by decide +kernel
theorem dX6_counted_49 : decode cX6_counted 49 = .ok (.iastore, 1) := by decide +kernel
theorem dX6_counted_50 : decode cX6_counted 50 = .ok (.dup, 1) := by decide +kernel
theorem dX6_counted_51 : decode cX6_counted 51 = .ok (.iconst 5, 1) := by decide +kernel
theorem dX6_counted_52 : decode cX6_counted 52 = .ok (.aload_n 0, 1) := by decide +kernel
theorem dX6_counted_53 : decode cX6_counted 53 = .ok (.getfield 30, 3) := by decide +kernel
theorem dX6_counted_56 : decode cX6_counted 56 = .ok (.iconst 0, 1) := by decide +kernel
theorem dX6_counted_57 : decode cX6_counted 57 = .ok (.invokevirtual 116, 3) := by decide +kernel
theorem dX6_counted_60 : decode cX6_counted 60 = .ok (.iastore, 1) := by decide +kernel
theorem dX6_counted_61 : decode cX6_counted 61 = .ok (.dup, 1) := by decide +kernel
theorem dX6_counted_62 : decode cX6_counted 62 = .ok (.bipush 6, 2) := by decide +kernel
theorem dX6_counted_64 : decode cX6_counted 64 = .ok (.aload_n 0, 1) := by decide +kernel
theorem dX6_counted_65 : decode cX6_counted 65 = .ok (.getfield 30, 3) := by decide +kernel
theorem dX6_counted_68 : decode cX6_counted 68 = .ok (.iconst 3, 1) := by decide +kernel
theorem dX6_counted_69 : decode cX6_counted 69 = .ok (.invokevirtual 116, 3) := by decide +kernel
theorem dX6_counted_72 : decode cX6_counted 72 = .ok (.iastore, 1) := by decide +kernel
theorem dX6_counted_73 : decode cX6_counted 73 = .ok (.dup, 1) := by decide +kernel
theorem dX6_counted_74 : decode cX6_counted 74 = .ok (.bipush 7, 2) := by decide +kernel
theorem dX6_counted_76 : decode cX6_counted 76 = .ok (.aload_n 0, 1) := by decide +kernel
theorem dX6_counted_77 : decode cX6_counted 77 = .ok (.getfield 30, 3) := by decide +kernel
theorem dX6_counted_80 : decode cX6_counted 80 = .ok (.aload_n 0, 1) := by decide +kernel
theorem dX6_counted_81 : decode cX6_counted 81 = .ok (.getfield 30, 3) := by decide +kernel
theorem dX6_counted_84 : decode cX6_counted 84 = .ok (.getfield 90, 3) := by decide +kernel
theorem dX6_counted_87 : decode cX6_counted 87 = .ok (.invokevirtual 109, 3) := by decide +kernel
theorem dX6_counted_90 : decode cX6_counted 90 = .ok (.iastore, 1) := by decide +kernel
theorem dX6_counted_91 : decode cX6_counted 91 = .ok (.dup, 1) := by decide +kernel
theorem dX6_counted_92 : decode cX6_counted 92 = .ok (.bipush 8, 2) := by decide +kernel
theorem dX6_counted_94 : decode cX6_counted 94 = .ok (.aload_n 0, 1) := by decide +kernel
theorem dX6_counted_95 : decode cX6_counted 95 = .ok (.getfield 30, 3) := by decide +kernel
theorem dX6_counted_98 : decode cX6_counted 98 = .ok (.aload_n 0, 1) := by decide +kernel
theorem dX6_counted_99 : decode cX6_counted 99 = .ok (.getfield 30, 3) := by decide +kernel
theorem dX6_counted_102 : decode cX6_counted 102 = .ok (.getfield 87, 3) := by decide +kernel
theorem dX6_counted_105 : decode cX6_counted 105 = .ok (.invokevirtual 109, 3) := by decide +kernel
theorem dX6_counted_108 : decode cX6_counted 108 = .ok (.iastore, 1) := by decide +kernel
theorem dX6_counted_109 : decode cX6_counted 109 = .ok (.astore_n 2, 1) := by decide +kernel
theorem dX6_counted_110 : decode cX6_counted 110 = .ok (.aload_n 2, 1) := by decide +kernel
theorem dX6_counted_111 : decode cX6_counted 111 = .ok (.iload_n 1, 1) := by decide +kernel
theorem dX6_counted_112 : decode cX6_counted 112 = .ok (.iaload, 1) := by decide +kernel
theorem dX6_counted_113 : decode cX6_counted 113 = .ok (.ireturn, 1) := by decide +kernel
theorem dX6_count_0 : decode cX6_count 0 = .ok (.aload_n 0, 1) := by decide +kernel
theorem dX6_count_1 : decode cX6_count 1 = .ok (.iconst 0, 1) := by decide +kernel
theorem dX6_count_2 : decode cX6_count 2 = .ok (.putfield 37, 3) := by decide +kernel
theorem dX6_count_5 : decode cX6_count 5 = .ok (.iload_n 1, 1) := by decide +kernel
theorem dX6_count_6 : decode cX6_count 6 = .ok (.iconst 0, 1) := by decide +kernel
theorem dX6_count_7 : decode cX6_count 7 = .ok (.bipush 8, 2) := by decide +kernel
theorem dX6_count_9 : decode cX6_count 9 = .ok (.invokestatic 44, 3) := by decide +kernel
theorem dX6_count_12 : decode cX6_count 12 = .ok (.ifCond .eq 11, 3) := by decide +kernel
theorem dX6_count_15 : decode cX6_count 15 = .ok (.aload_n 0, 1) := by decide +kernel
theorem dX6_count_16 : decode cX6_count 16 = .ok (.iload_n 1, 1) := by decide +kernel
theorem dX6_count_17 : decode cX6_count 17 = .ok (.invokevirtual 119, 3) := by decide +kernel
theorem dX6_count_20 : decode cX6_count 20 = .ok (.goto 8, 3) := by decide +kernel
theorem dX6_count_23 : decode cX6_count 23 = .ok (.aload_n 0, 1) := by decide +kernel
theorem dX6_count_24 : decode cX6_count 24 = .ok (.iconst 1, 1) := by decide +kernel
theorem dX6_count_25 : decode cX6_count 25 = .ok (.invokevirtual 55, 3) := by decide +kernel
theorem dX6_count_28 : decode cX6_count 28 = .ok (.ireturn, 1) := by decide +kernel
theorem dX6_falls_0 : decode cX6_falls 0 = .ok (.aload_n 0, 1) := by decide +kernel
theorem dX6_falls_1 : decode cX6_falls 1 = .ok (.iconst 0, 1) := by decide +kernel
theorem dX6_falls_2 : decode cX6_falls 2 = .ok (.putfield 37, 3) := by decide +kernel
theorem dX6_falls_5 : decode cX6_falls 5 = .ok (.aload_n 0, 1) := by decide +kernel
theorem dX6_falls_6 : decode cX6_falls 6 = .ok (.getfield 30, 3) := by decide +kernel
theorem dX6_falls_9 : decode cX6_falls 9 = .ok (.aload_n 0, 1) := by decide +kernel
theorem dX6_falls_10 : decode cX6_falls 10 = .ok (.getfield 30, 3) := by decide +kernel
theorem dX6_falls_13 : decode cX6_falls 13 = .ok (.getfield 90, 3) := by decide +kernel
theorem dX6_falls_16 : decode cX6_falls 16 = .ok (.invokevirtual 109, 3) := by decide +kernel
theorem dX6_falls_19 : decode cX6_falls 19 = .ok (.istore_n 1, 1) := by decide +kernel
theorem dX6_falls_20 : decode cX6_falls 20 = .ok (.aload_n 0, 1) := by decide +kernel
theorem dX6_falls_21 : decode cX6_falls 21 = .ok (.getfield 34, 3) := by decide +kernel
theorem dX6_falls_24 : decode cX6_falls 24 = .ok (.aload_n 0, 1) := by decide +kernel
theorem dX6_falls_25 : decode cX6_falls 25 = .ok (.getfield 30, 3) := by decide +kernel
theorem dX6_falls_28 : decode cX6_falls 28 = .ok (.invokevirtual 122, 3) := by decide +kernel
theorem dX6_falls_31 : decode cX6_falls 31 = .ok (.iconst 1, 1) := by decide +kernel
theorem dX6_falls_32 : decode cX6_falls 32 = .ok (.istore_n 2, 1) := by decide +kernel
theorem dX6_falls_33 : decode cX6_falls 33 = .ok (.iload_n 2, 1) := by decide +kernel
theorem dX6_falls_34 : decode cX6_falls 34 = .ok (.sipush 200, 3) := by decide +kernel
theorem dX6_falls_37 : decode cX6_falls 37 = .ok (.if_icmp .gt 36, 3) := by decide +kernel
theorem dX6_falls_40 : decode cX6_falls 40 = .ok (.aload_n 0, 1) := by decide +kernel
theorem dX6_falls_41 : decode cX6_falls 41 = .ok (.getfield 34, 3) := by decide +kernel
theorem dX6_falls_44 : decode cX6_falls 44 = .ok (.invokevirtual 113, 3) := by decide +kernel
theorem dX6_falls_47 : decode cX6_falls 47 = .ok (.aload_n 0, 1) := by decide +kernel
theorem dX6_falls_48 : decode cX6_falls 48 = .ok (.getfield 34, 3) := by decide +kernel
theorem dX6_falls_51 : decode cX6_falls 51 = .ok (.aload_n 0, 1) := by decide +kernel
theorem dX6_falls_52 : decode cX6_falls 52 = .ok (.getfield 34, 3) := by decide +kernel
theorem dX6_falls_55 : decode cX6_falls 55 = .ok (.getfield 90, 3) := by decide +kernel
theorem dX6_falls_58 : decode cX6_falls 58 = .ok (.invokevirtual 109, 3) := by decide +kernel
theorem dX6_falls_61 : decode cX6_falls 61 = .ok (.iload_n 1, 1) := by decide +kernel
theorem dX6_falls_62 : decode cX6_falls 62 = .ok (.if_icmp .le 5, 3) := by decide +kernel
theorem dX6_falls_65 : decode cX6_falls 65 = .ok (.iload_n 2, 1) := by decide +kernel
theorem dX6_falls_66 : decode cX6_falls 66 = .ok (.ireturn, 1) := by decide +kernel
theorem dX6_falls_67 : decode cX6_falls 67 = .ok (.iinc 2 1, 3) := by decide +kernel
theorem dX6_falls_70 : decode cX6_falls 70 = .ok (.goto (-37), 3) := by decide +kernel
theorem dX6_falls_73 : decode cX6_falls 73 = .ok (.iconst (-1), 1) := by decide +kernel
theorem dX6_falls_74 : decode cX6_falls 74 = .ok (.ireturn, 1) := by decide +kernel
theorem dX6_fallsIn_0 : decode cX6_fallsIn 0 = .ok (.aload_n 0, 1) := by decide +kernel
theorem dX6_fallsIn_1 : decode cX6_fallsIn 1 = .ok (.getfield 34, 3) := by decide +kernel
theorem dX6_fallsIn_4 : decode cX6_fallsIn 4 = .ok (.aload_n 0, 1) := by decide +kernel
theorem dX6_fallsIn_5 : decode cX6_fallsIn 5 = .ok (.getfield 30, 3) := by decide +kernel
theorem dX6_fallsIn_8 : decode cX6_fallsIn 8 = .ok (.invokevirtual 122, 3) := by decide +kernel
theorem dX6_fallsIn_11 : decode cX6_fallsIn 11 = .ok (.iconst 0, 1) := by decide +kernel
theorem dX6_fallsIn_12 : decode cX6_fallsIn 12 = .ok (.istore_n 2, 1) := by decide +kernel
theorem dX6_fallsIn_13 : decode cX6_fallsIn 13 = .ok (.iload_n 2, 1) := by decide +kernel
theorem dX6_fallsIn_14 : decode cX6_fallsIn 14 = .ok (.iload_n 1, 1) := by decide +kernel
theorem dX6_fallsIn_15 : decode cX6_fallsIn 15 = .ok (.if_icmp .ge 16, 3) := by decide +kernel
theorem dX6_fallsIn_18 : decode cX6_fallsIn 18 = .ok (.aload_n 0, 1) := by decide +kernel
theorem dX6_fallsIn_19 : decode cX6_fallsIn 19 = .ok (.getfield 34, 3) := by decide +kernel
theorem dX6_fallsIn_22 : decode cX6_fallsIn 22 = .ok (.invokevirtual 113, 3) := by decide +kernel
theorem dX6_fallsIn_25 : decode cX6_fallsIn 25 = .ok (.iinc 2 1, 3) := by decide +kernel
theorem dX6_fallsIn_28 : decode cX6_fallsIn 28 = .ok (.goto (-15), 3) := by decide +kernel
theorem dX6_fallsIn_31 : decode cX6_fallsIn 31 = .ok (.aload_n 0, 1) := by decide +kernel
theorem dX6_fallsIn_32 : decode cX6_fallsIn 32 = .ok (.getfield 34, 3) := by decide +kernel
theorem dX6_fallsIn_35 : decode cX6_fallsIn 35 = .ok (.aload_n 0, 1) := by decide +kernel
theorem dX6_fallsIn_36 : decode cX6_fallsIn 36 = .ok (.getfield 34, 3) := by decide +kernel
theorem dX6_fallsIn_39 : decode cX6_fallsIn 39 = .ok (.getfield 90, 3) := by decide +kernel
theorem dX6_fallsIn_42 : decode cX6_fallsIn 42 = .ok (.invokevirtual 109, 3) := by decide +kernel
theorem dX6_fallsIn_45 : decode cX6_fallsIn 45 = .ok (.aload_n 0, 1) := by decide +kernel
theorem dX6_fallsIn_46 : decode cX6_fallsIn 46 = .ok (.getfield 30, 3) := by decide +kernel
theorem dX6_fallsIn_49 : decode cX6_fallsIn 49 = .ok (.aload_n 0, 1) := by decide +kernel
theorem dX6_fallsIn_50 : decode cX6_fallsIn 50 = .ok (.getfield 30, 3) := by decide +kernel
theorem dX6_fallsIn_53 : decode cX6_fallsIn 53 = .ok (.getfield 90, 3) := by decide +kernel
theorem dX6_fallsIn_56 : decode cX6_fallsIn 56 = .ok (.invokevirtual 109, 3) := by decide +kernel
theorem dX6_fallsIn_59 : decode cX6_fallsIn 59 = .ok (.isub, 1) := by decide +kernel
theorem dX6_fallsIn_60 : decode cX6_fallsIn 60 = .ok (.ireturn, 1) := by decide +kernel
theorem dX6_foresee_0 : decode cX6_foresee 0 = .ok (.aload_n 0, 1) := by decide +kernel
theorem dX6_foresee_1 : decode cX6_foresee 1 = .ok (.iconst 0, 1) := by decide +kernel
theorem dX6_foresee_2 : decode cX6_foresee 2 = .ok (.putfield 37, 3) := by decide +kernel
theorem dX6_foresee_5 : decode cX6_foresee 5 = .ok (.iload_n 1, 1) := by decide +kernel
theorem dX6_foresee_6 : decode cX6_foresee 6 = .ok (.iconst 1, 1) := by decide +kernel
theorem dX6_foresee_7 : decode cX6_foresee 7 = .ok (.sipush 200, 3) := by decide +kernel
theorem dX6_foresee_10 : decode cX6_foresee 10 = .ok (.invokestatic 44, 3) := by decide +kernel
theorem dX6_foresee_13 : decode cX6_foresee 13 = .ok (.ifCond .ne 9, 3) := by decide +kernel
theorem dX6_foresee_16 : decode cX6_foresee 16 = .ok (.aload_n 0, 1) := by decide +kernel
theorem dX6_foresee_17 : decode cX6_foresee 17 = .ok (.iconst 1, 1) := by decide +kernel
theorem dX6_foresee_18 : decode cX6_foresee 18 = .ok (.invokevirtual 55, 3) := by decide +kernel
theorem dX6_foresee_21 : decode cX6_foresee 21 = .ok (.ireturn, 1) := by decide +kernel
theorem dX6_foresee_22 : decode cX6_foresee 22 = .ok (.iload_n 2, 1) := by decide +kernel
theorem dX6_foresee_23 : decode cX6_foresee 23 = .ok (.iconst 0, 1) := by decide +kernel
theorem dX6_foresee_24 : decode cX6_foresee 24 = .ok (.iconst 2, 1) := by decide +kernel
theorem dX6_foresee_25 : decode cX6_foresee 25 = .ok (.invokestatic 44, 3) := by decide +kernel
theorem dX6_foresee_28 : decode cX6_foresee 28 = .ok (.ifCond .ne 9, 3) := by decide +kernel
theorem dX6_foresee_31 : decode cX6_foresee 31 = .ok (.aload_n 0, 1) := by decide +kernel
theorem dX6_foresee_32 : decode cX6_foresee 32 = .ok (.iconst 2, 1) := by decide +kernel
theorem dX6_foresee_33 : decode cX6_foresee 33 = .ok (.invokevirtual 55, 3) := by decide +kernel
theorem dX6_foresee_36 : decode cX6_foresee 36 = .ok (.ireturn, 1) := by decide +kernel
theorem dX6_foresee_37 : decode cX6_foresee 37 = .ok (.aload_n 0, 1) := by decide +kernel
theorem dX6_foresee_38 : decode cX6_foresee 38 = .ok (.iload_n 1, 1) := by decide +kernel
theorem dX6_foresee_39 : decode cX6_foresee 39 = .ok (.invokevirtual 126, 3) := by decide +kernel
theorem dX6_foresee_42 : decode cX6_foresee 42 = .ok (.istore_n 3, 1) := by decide +kernel
theorem dX6_foresee_43 : decode cX6_foresee 43 = .ok (.iload_n 2, 1) := by decide +kernel
theorem dX6_foresee_44 : decode cX6_foresee 44 = .ok (.ifCond .ne 14, 3) := by decide +kernel
theorem dX6_foresee_47 : decode cX6_foresee 47 = .ok (.aload_n 0, 1) := by decide +kernel
theorem dX6_foresee_48 : decode cX6_foresee 48 = .ok (.getfield 34, 3) := by decide +kernel
theorem dX6_foresee_51 : decode cX6_foresee 51 = .ok (.iconst 2, 1) := by decide +kernel
theorem dX6_foresee_52 : decode cX6_foresee 52 = .ok (.invokevirtual 116, 3) := by decide +kernel
theorem dX6_foresee_55 : decode cX6_foresee 55 = .ok (.goto 26, 3) := by decide +kernel
theorem dX6_foresee_58 : decode cX6_foresee 58 = .ok (.iload_n 2, 1) := by decide +kernel
theorem dX6_foresee_59 : decode cX6_foresee 59 = .ok (.iconst 1, 1) := by decide +kernel
theorem dX6_foresee_60 : decode cX6_foresee 60 = .ok (.if_icmp .ne 7, 3) := by decide +kernel
theorem dX6_foresee_63 : decode cX6_foresee 63 = .ok (.iload_n 3, 1) := by decide +kernel
theorem dX6_foresee_64 : decode cX6_foresee 64 = .ok (.goto 17, 3) := by decide +kernel
theorem dX6_foresee_67 : decode cX6_foresee 67 = .ok (.aload_n 0, 1) := by decide +kernel
theorem dX6_foresee_68 : decode cX6_foresee 68 = .ok (.getfield 34, 3) := by decide +kernel
theorem dX6_foresee_71 : decode cX6_foresee 71 = .ok (.aload_n 0, 1) := by decide +kernel
theorem dX6_foresee_72 : decode cX6_foresee 72 = .ok (.getfield 34, 3) := by decide +kernel
theorem dX6_foresee_75 : decode cX6_foresee 75 = .ok (.getfield 97, 3) := by decide +kernel
theorem dX6_foresee_78 : decode cX6_foresee 78 = .ok (.invokevirtual 109, 3) := by decide +kernel
theorem dX6_foresee_81 : decode cX6_foresee 81 = .ok (.ireturn, 1) := by decide +kernel
theorem dX6_advise_0 : decode cX6_advise 0 = .ok (.aload_n 0, 1) := by decide +kernel
theorem dX6_advise_1 : decode cX6_advise 1 = .ok (.iconst 0, 1) := by decide +kernel
theorem dX6_advise_2 : decode cX6_advise 2 = .ok (.putfield 37, 3) := by decide +kernel
theorem dX6_advise_5 : decode cX6_advise 5 = .ok (.aload_n 0, 1) := by decide +kernel
theorem dX6_advise_6 : decode cX6_advise 6 = .ok (.iload_n 1, 1) := by decide +kernel
theorem dX6_advise_7 : decode cX6_advise 7 = .ok (.invokevirtual 51, 3) := by decide +kernel
theorem dX6_advise_10 : decode cX6_advise 10 = .ok (.ifCond .ne 9, 3) := by decide +kernel
theorem dX6_advise_13 : decode cX6_advise 13 = .ok (.aload_n 0, 1) := by decide +kernel
theorem dX6_advise_14 : decode cX6_advise 14 = .ok (.iconst 1, 1) := by decide +kernel
theorem dX6_advise_15 : decode cX6_advise 15 = .ok (.invokevirtual 55, 3) := by decide +kernel
theorem dX6_advise_18 : decode cX6_advise 18 = .ok (.ireturn, 1) := by decide +kernel
theorem dX6_advise_19 : decode cX6_advise 19 = .ok (.iload_n 2, 1) := by decide +kernel
theorem dX6_advise_20 : decode cX6_advise 20 = .ok (.iconst 1, 1) := by decide +kernel
theorem dX6_advise_21 : decode cX6_advise 21 = .ok (.bipush 60, 2) := by decide +kernel
theorem dX6_advise_23 : decode cX6_advise 23 = .ok (.invokestatic 44, 3) := by decide +kernel
theorem dX6_advise_26 : decode cX6_advise 26 = .ok (.ifCond .ne 9, 3) := by decide +kernel
theorem dX6_advise_29 : decode cX6_advise 29 = .ok (.aload_n 0, 1) := by decide +kernel
theorem dX6_advise_30 : decode cX6_advise 30 = .ok (.iconst 2, 1) := by decide +kernel
theorem dX6_advise_31 : decode cX6_advise 31 = .ok (.invokevirtual 55, 3) := by decide +kernel
theorem dX6_advise_34 : decode cX6_advise 34 = .ok (.ireturn, 1) := by decide +kernel
theorem dX6_advise_35 : decode cX6_advise 35 = .ok (.aload_n 0, 1) := by decide +kernel
theorem dX6_advise_36 : decode cX6_advise 36 = .ok (.iload_n 2, 1) := by decide +kernel
theorem dX6_advise_37 : decode cX6_advise 37 = .ok (.invokevirtual 126, 3) := by decide +kernel
theorem dX6_advise_40 : decode cX6_advise 40 = .ok (.istore_n 3, 1) := by decide +kernel
theorem dX6_advise_41 : decode cX6_advise 41 = .ok (.iconst (-1), 1) := by decide +kernel
theorem dX6_advise_42 : decode cX6_advise 42 = .ok (.istore 4, 2) := by decide +kernel
theorem dX6_advise_44 : decode cX6_advise 44 = .ok (.iconst 0, 1) := by decide +kernel
theorem dX6_advise_45 : decode cX6_advise 45 = .ok (.istore 5, 2) := by decide +kernel
theorem dX6_advise_47 : decode cX6_advise 47 = .ok (.iload 5, 2) := by decide +kernel
theorem dX6_advise_49 : decode cX6_advise 49 = .ok (.aload_n 0, 1) := by decide +kernel
theorem dX6_advise_50 : decode cX6_advise 50 = .ok (.getfield 13, 3) := by decide +kernel
theorem dX6_advise_53 : decode cX6_advise 53 = .ok (.iload_n 1, 1) := by decide +kernel
theorem dX6_advise_54 : decode cX6_advise 54 = .ok (.iaload, 1) := by decide +kernel
theorem dX6_advise_55 : decode cX6_advise 55 = .ok (.if_icmp .ge 90, 3) := by decide +kernel
theorem dX6_advise_58 : decode cX6_advise 58 = .ok (.bipush 8, 2) := by decide +kernel
theorem dX6_advise_60 : decode cX6_advise 60 = .ok (.iload_n 1, 1) := by decide +kernel
theorem dX6_advise_61 : decode cX6_advise 61 = .ok (.imul, 1) := by decide +kernel
theorem dX6_advise_62 : decode cX6_advise 62 = .ok (.iload 5, 2) := by decide +kernel
theorem dX6_advise_64 : decode cX6_advise 64 = .ok (.iadd, 1) := by decide +kernel
theorem dX6_advise_65 : decode cX6_advise 65 = .ok (.istore 6, 2) := by decide +kernel
theorem dX6_advise_67 : decode cX6_advise 67 = .ok (.aload_n 0, 1) := by decide +kernel
theorem dX6_advise_68 : decode cX6_advise 68 = .ok (.getfield 16, 3) := by decide +kernel
theorem dX6_advise_71 : decode cX6_advise 71 = .ok (.iload 6, 2) := by decide +kernel
theorem dX6_advise_73 : decode cX6_advise 73 = .ok (.iaload, 1) := by decide +kernel
theorem dX6_advise_74 : decode cX6_advise 74 = .ok (.istore 7, 2) := by decide +kernel
theorem dX6_advise_76 : decode cX6_advise 76 = .ok (.iconst 0, 1) := by decide +kernel
theorem dX6_advise_77 : decode cX6_advise 77 = .ok (.istore 8, 2) := by decide +kernel
theorem dX6_advise_79 : decode cX6_advise 79 = .ok (.iload 8, 2) := by decide +kernel
theorem dX6_advise_81 : decode cX6_advise 81 = .ok (.bipush 9, 2) := by decide +kernel
theorem dX6_advise_83 : decode cX6_advise 83 = .ok (.if_icmp .gt 47, 3) := by decide +kernel
theorem dX6_advise_86 : decode cX6_advise 86 = .ok (.aload_n 0, 1) := by decide +kernel
theorem dX6_advise_87 : decode cX6_advise 87 = .ok (.getfield 16, 3) := by decide +kernel
theorem dX6_advise_90 : decode cX6_advise 90 = .ok (.iload 6, 2) := by decide +kernel
theorem dX6_advise_92 : decode cX6_advise 92 = .ok (.iload 8, 2) := by decide +kernel
theorem dX6_advise_94 : decode cX6_advise 94 = .ok (.iastore, 1) := by decide +kernel
theorem dX6_advise_95 : decode cX6_advise 95 = .ok (.aload_n 0, 1) := by decide +kernel
theorem dX6_advise_96 : decode cX6_advise 96 = .ok (.iload_n 2, 1) := by decide +kernel
theorem dX6_advise_97 : decode cX6_advise 97 = .ok (.invokevirtual 126, 3) := by decide +kernel
theorem dX6_advise_100 : decode cX6_advise 100 = .ok (.istore 9, 2) := by decide +kernel
theorem dX6_advise_102 : decode cX6_advise 102 = .ok (.iload 9, 2) := by decide +kernel
theorem dX6_advise_104 : decode cX6_advise 104 = .ok (.iload_n 3, 1) := by decide +kernel
theorem dX6_advise_105 : decode cX6_advise 105 = .ok (.if_icmp .lt 6, 3) := by decide +kernel
theorem dX6_advise_108 : decode cX6_advise 108 = .ok (.goto 16, 3) := by decide +kernel
theorem dX6_advise_111 : decode cX6_advise 111 = .ok (.iload 9, 2) := by decide +kernel
theorem dX6_advise_113 : decode cX6_advise 113 = .ok (.istore_n 3, 1) := by decide +kernel
theorem dX6_advise_114 : decode cX6_advise 114 = .ok (.bipush 10, 2) := by decide +kernel
theorem dX6_advise_116 : decode cX6_advise 116 = .ok (.iload 5, 2) := by decide +kernel
theorem dX6_advise_118 : decode cX6_advise 118 = .ok (.imul, 1) := by decide +kernel
theorem dX6_advise_119 : decode cX6_advise 119 = .ok (.iload 8, 2) := by decide +kernel
theorem dX6_advise_121 : decode cX6_advise 121 = .ok (.iadd, 1) := by decide +kernel
theorem dX6_advise_122 : decode cX6_advise 122 = .ok (.istore 4, 2) := by decide +kernel
theorem dX6_advise_124 : decode cX6_advise 124 = .ok (.iinc 8 1, 3) := by decide +kernel
theorem dX6_advise_127 : decode cX6_advise 127 = .ok (.goto (-48), 3) := by decide +kernel
theorem dX6_advise_130 : decode cX6_advise 130 = .ok (.aload_n 0, 1) := by decide +kernel
theorem dX6_advise_131 : decode cX6_advise 131 = .ok (.getfield 16, 3) := by decide +kernel
theorem dX6_advise_134 : decode cX6_advise 134 = .ok (.iload 6, 2) := by decide +kernel
theorem dX6_advise_136 : decode cX6_advise 136 = .ok (.iload 7, 2) := by decide +kernel
theorem dX6_advise_138 : decode cX6_advise 138 = .ok (.iastore, 1) := by decide +kernel
theorem dX6_advise_139 : decode cX6_advise 139 = .ok (.iinc 5 1, 3) := by decide +kernel
theorem dX6_advise_142 : decode cX6_advise 142 = .ok (.goto (-95), 3) := by decide +kernel
theorem dX6_advise_145 : decode cX6_advise 145 = .ok (.iload 4, 2) := by decide +kernel
theorem dX6_advise_147 : decode cX6_advise 147 = .ok (.ireturn, 1) := by decide +kernel
theorem dX6_mean_0 : decode cX6_mean 0 = .ok (.aload_n 0, 1) := by decide +kernel
theorem dX6_mean_1 : decode cX6_mean 1 = .ok (.iconst 0, 1) := by decide +kernel
theorem dX6_mean_2 : decode cX6_mean 2 = .ok (.putfield 37, 3) := by decide +kernel
theorem dX6_mean_5 : decode cX6_mean 5 = .ok (.aload_n 0, 1) := by decide +kernel
theorem dX6_mean_6 : decode cX6_mean 6 = .ok (.getfield 30, 3) := by decide +kernel
theorem dX6_mean_9 : decode cX6_mean 9 = .ok (.getfield 84, 3) := by decide +kernel
theorem dX6_mean_12 : decode cX6_mean 12 = .ok (.ifCond .ne 7, 3) := by decide +kernel
theorem dX6_mean_15 : decode cX6_mean 15 = .ok (.dconst 0, 1) := by decide +kernel
theorem dX6_mean_16 : decode cX6_mean 16 = .ok (.goto 27, 3) := by decide +kernel
theorem dX6_mean_19 : decode cX6_mean 19 = .ok (.aload_n 0, 1) := by decide +kernel
theorem dX6_mean_20 : decode cX6_mean 20 = .ok (.getfield 30, 3) := by decide +kernel
theorem dX6_mean_23 : decode cX6_mean 23 = .ok (.aload_n 0, 1) := by decide +kernel
theorem dX6_mean_24 : decode cX6_mean 24 = .ok (.getfield 30, 3) := by decide +kernel
theorem dX6_mean_27 : decode cX6_mean 27 = .ok (.getfield 87, 3) := by decide +kernel
theorem dX6_mean_30 : decode cX6_mean 30 = .ok (.invokevirtual 109, 3) := by decide +kernel
theorem dX6_mean_33 : decode cX6_mean 33 = .ok (.i2d, 1) := by decide +kernel
theorem dX6_mean_34 : decode cX6_mean 34 = .ok (.aload_n 0, 1) := by decide +kernel
theorem dX6_mean_35 : decode cX6_mean 35 = .ok (.getfield 30, 3) := by decide +kernel
theorem dX6_mean_38 : decode cX6_mean 38 = .ok (.getfield 84, 3) := by decide +kernel
theorem dX6_mean_41 : decode cX6_mean 41 = .ok (.i2d, 1) := by decide +kernel
theorem dX6_mean_42 : decode cX6_mean 42 = .ok (.ddiv, 1) := by decide +kernel
theorem dX6_mean_43 : decode cX6_mean 43 = .ok (.dreturn, 1) := by decide +kernel
theorem dX6_digest_0 : decode cX6_digest 0 = .ok (.aload_n 0, 1) := by decide +kernel
theorem dX6_digest_1 : decode cX6_digest 1 = .ok (.iconst 0, 1) := by decide +kernel
theorem dX6_digest_2 : decode cX6_digest 2 = .ok (.putfield 37, 3) := by decide +kernel
theorem dX6_digest_5 : decode cX6_digest 5 = .ok (.ldc2_w 129, 3) := by decide +kernel
theorem dX6_digest_8 : decode cX6_digest 8 = .ok (.lstore_n 1, 1) := by decide +kernel
theorem dX6_digest_9 : decode cX6_digest 9 = .ok (.iconst 0, 1) := by decide +kernel
theorem dX6_digest_10 : decode cX6_digest 10 = .ok (.istore_n 3, 1) := by decide +kernel
theorem dX6_digest_11 : decode cX6_digest 11 = .ok (.iload_n 3, 1) := by decide +kernel
theorem dX6_digest_12 : decode cX6_digest 12 = .ok (.bipush 8, 2) := by decide +kernel
theorem dX6_digest_14 : decode cX6_digest 14 = .ok (.if_icmp .gt 22, 3) := by decide +kernel
theorem dX6_digest_17 : decode cX6_digest 17 = .ok (.lload_n 1, 1) := by decide +kernel
theorem dX6_digest_18 : decode cX6_digest 18 = .ok (.ldc2_w 131, 3) := by decide +kernel
theorem dX6_digest_21 : decode cX6_digest 21 = .ok (.lmul, 1) := by decide +kernel
theorem dX6_digest_22 : decode cX6_digest 22 = .ok (.aload_n 0, 1) := by decide +kernel
theorem dX6_digest_23 : decode cX6_digest 23 = .ok (.iload_n 3, 1) := by decide +kernel
theorem dX6_digest_24 : decode cX6_digest 24 = .ok (.invokevirtual 119, 3) := by decide +kernel
theorem dX6_digest_27 : decode cX6_digest 27 = .ok (.i2l, 1) := by decide +kernel
theorem dX6_digest_28 : decode cX6_digest 28 = .ok (.ladd, 1) := by decide +kernel
theorem dX6_digest_29 : decode cX6_digest 29 = .ok (.lstore_n 1, 1) := by decide +kernel
theorem dX6_digest_30 : decode cX6_digest 30 = .ok (.iinc 3 1, 3) := by decide +kernel
theorem dX6_digest_33 : decode cX6_digest 33 = .ok (.goto (-22), 3) := by decide +kernel
theorem dX6_digest_36 : decode cX6_digest 36 = .ok (.iconst 0, 1) := by decide +kernel
theorem dX6_digest_37 : decode cX6_digest 37 = .ok (.istore_n 3, 1) := by decide +kernel
theorem dX6_digest_38 : decode cX6_digest 38 = .ok (.iload_n 3, 1) := by decide +kernel
theorem dX6_digest_39 : decode cX6_digest 39 = .ok (.aload_n 0, 1) := by decide +kernel
theorem dX6_digest_40 : decode cX6_digest 40 = .ok (.getfield 41, 3) := by decide +kernel
theorem dX6_digest_43 : decode cX6_digest 43 = .ok (.if_icmp .ge 98, 3) := by decide +kernel
theorem dX6_digest_46 : decode cX6_digest 46 = .ok (.iconst 0, 1) := by decide +kernel
theorem dX6_digest_47 : decode cX6_digest 47 = .ok (.istore 4, 2) := by decide +kernel
theorem dX6_digest_49 : decode cX6_digest 49 = .ok (.iload 4, 2) := by decide +kernel
theorem dX6_digest_51 : decode cX6_digest 51 = .ok (.bipush 6, 2) := by decide +kernel
theorem dX6_digest_53 : decode cX6_digest 53 = .ok (.if_icmp .gt 24, 3) := by decide +kernel
theorem dX6_digest_56 : decode cX6_digest 56 = .ok (.lload_n 1, 1) := by decide +kernel
theorem dX6_digest_57 : decode cX6_digest 57 = .ok (.ldc2_w 131, 3) := by decide +kernel
theorem dX6_digest_60 : decode cX6_digest 60 = .ok (.lmul, 1) := by decide +kernel
theorem dX6_digest_61 : decode cX6_digest 61 = .ok (.aload_n 0, 1) := by decide +kernel
theorem dX6_digest_62 : decode cX6_digest 62 = .ok (.iload_n 3, 1) := by decide +kernel
theorem dX6_digest_63 : decode cX6_digest 63 = .ok (.iload 4, 2) := by decide +kernel
theorem dX6_digest_65 : decode cX6_digest 65 = .ok (.invokevirtual 103, 3) := by decide +kernel
theorem dX6_digest_68 : decode cX6_digest 68 = .ok (.i2l, 1) := by decide +kernel
theorem dX6_digest_69 : decode cX6_digest 69 = .ok (.ladd, 1) := by decide +kernel
theorem dX6_digest_70 : decode cX6_digest 70 = .ok (.lstore_n 1, 1) := by decide +kernel
theorem dX6_digest_71 : decode cX6_digest 71 = .ok (.iinc 4 1, 3) := by decide +kernel
theorem dX6_digest_74 : decode cX6_digest 74 = .ok (.goto (-25), 3) := by decide +kernel
theorem dX6_digest_77 : decode cX6_digest 77 = .ok (.iconst 0, 1) := by decide +kernel
theorem dX6_digest_78 : decode cX6_digest 78 = .ok (.istore 4, 2) := by decide +kernel
theorem dX6_digest_80 : decode cX6_digest 80 = .ok (.iload 4, 2) := by decide +kernel
theorem dX6_digest_82 : decode cX6_digest 82 = .ok (.aload_n 0, 1) := by decide +kernel
theorem dX6_digest_83 : decode cX6_digest 83 = .ok (.getfield 13, 3) := by decide +kernel
theorem dX6_digest_86 : decode cX6_digest 86 = .ok (.iload_n 3, 1) := by decide +kernel
theorem dX6_digest_87 : decode cX6_digest 87 = .ok (.iaload, 1) := by decide +kernel
theorem dX6_digest_88 : decode cX6_digest 88 = .ok (.if_icmp .ge 47, 3) := by decide +kernel
theorem dX6_digest_91 : decode cX6_digest 91 = .ok (.lload_n 1, 1) := by decide +kernel
theorem dX6_digest_92 : decode cX6_digest 92 = .ok (.ldc2_w 131, 3) := by decide +kernel
theorem dX6_digest_95 : decode cX6_digest 95 = .ok (.lmul, 1) := by decide +kernel
theorem dX6_digest_96 : decode cX6_digest 96 = .ok (.aload_n 0, 1) := by decide +kernel
theorem dX6_digest_97 : decode cX6_digest 97 = .ok (.getfield 16, 3) := by decide +kernel
theorem dX6_digest_100 : decode cX6_digest 100 = .ok (.bipush 8, 2) := by decide +kernel
theorem dX6_digest_102 : decode cX6_digest 102 = .ok (.iload_n 3, 1) := by decide +kernel
theorem dX6_digest_103 : decode cX6_digest 103 = .ok (.imul, 1) := by decide +kernel
theorem dX6_digest_104 : decode cX6_digest 104 = .ok (.iload 4, 2) := by decide +kernel
theorem dX6_digest_106 : decode cX6_digest 106 = .ok (.iadd, 1) := by decide +kernel
theorem dX6_digest_107 : decode cX6_digest 107 = .ok (.iaload, 1) := by decide +kernel
theorem dX6_digest_108 : decode cX6_digest 108 = .ok (.i2l, 1) := by decide +kernel
theorem dX6_digest_109 : decode cX6_digest 109 = .ok (.ladd, 1) := by decide +kernel
theorem dX6_digest_110 : decode cX6_digest 110 = .ok (.ldc2_w 131, 3) := by decide +kernel
theorem dX6_digest_113 : decode cX6_digest 113 = .ok (.lmul, 1) := by decide +kernel
theorem dX6_digest_114 : decode cX6_digest 114 = .ok (.aload_n 0, 1) := by decide +kernel
theorem dX6_digest_115 : decode cX6_digest 115 = .ok (.getfield 19, 3) := by decide +kernel
theorem dX6_digest_118 : decode cX6_digest 118 = .ok (.bipush 8, 2) := by decide +kernel
theorem dX6_digest_120 : decode cX6_digest 120 = .ok (.iload_n 3, 1) := by decide +kernel
theorem dX6_digest_121 : decode cX6_digest 121 = .ok (.imul, 1) := by decide +kernel
theorem dX6_digest_122 : decode cX6_digest 122 = .ok (.iload 4, 2) := by decide +kernel
theorem dX6_digest_124 : decode cX6_digest 124 = .ok (.iadd, 1) := by decide +kernel
theorem dX6_digest_125 : decode cX6_digest 125 = .ok (.iaload, 1) := by decide +kernel
theorem dX6_digest_126 : decode cX6_digest 126 = .ok (.i2l, 1) := by decide +kernel
theorem dX6_digest_127 : decode cX6_digest 127 = .ok (.ladd, 1) := by decide +kernel
theorem dX6_digest_128 : decode cX6_digest 128 = .ok (.lstore_n 1, 1) := by decide +kernel
theorem dX6_digest_129 : decode cX6_digest 129 = .ok (.iinc 4 1, 3) := by decide +kernel
theorem dX6_digest_132 : decode cX6_digest 132 = .ok (.goto (-52), 3) := by decide +kernel
theorem dX6_digest_135 : decode cX6_digest 135 = .ok (.iinc 3 1, 3) := by decide +kernel
theorem dX6_digest_138 : decode cX6_digest 138 = .ok (.goto (-100), 3) := by decide +kernel
theorem dX6_digest_141 : decode cX6_digest 141 = .ok (.iconst 0, 1) := by decide +kernel
theorem dX6_digest_142 : decode cX6_digest 142 = .ok (.istore_n 3, 1) := by decide +kernel
theorem dX6_digest_143 : decode cX6_digest 143 = .ok (.iload_n 3, 1) := by decide +kernel
theorem dX6_digest_144 : decode cX6_digest 144 = .ok (.aload_n 0, 1) := by decide +kernel
theorem dX6_digest_145 : decode cX6_digest 145 = .ok (.getfield 48, 3) := by decide +kernel
theorem dX6_digest_148 : decode cX6_digest 148 = .ok (.if_icmp .ge 40, 3) := by decide +kernel
theorem dX6_digest_151 : decode cX6_digest 151 = .ok (.iconst 0, 1) := by decide +kernel
theorem dX6_digest_152 : decode cX6_digest 152 = .ok (.istore 4, 2) := by decide +kernel
theorem dX6_digest_154 : decode cX6_digest 154 = .ok (.iload 4, 2) := by decide +kernel
theorem dX6_digest_156 : decode cX6_digest 156 = .ok (.bipush 6, 2) := by decide +kernel
theorem dX6_digest_158 : decode cX6_digest 158 = .ok (.if_icmp .gt 24, 3) := by decide +kernel
theorem dX6_digest_161 : decode cX6_digest 161 = .ok (.lload_n 1, 1) := by decide +kernel
theorem dX6_digest_162 : decode cX6_digest 162 = .ok (.ldc2_w 131, 3) := by decide +kernel
theorem dX6_digest_165 : decode cX6_digest 165 = .ok (.lmul, 1) := by decide +kernel
theorem dX6_digest_166 : decode cX6_digest 166 = .ok (.aload_n 0, 1) := by decide +kernel
theorem dX6_digest_167 : decode cX6_digest 167 = .ok (.iload_n 3, 1) := by decide +kernel
theorem dX6_digest_168 : decode cX6_digest 168 = .ok (.iload 4, 2) := by decide +kernel
theorem dX6_digest_170 : decode cX6_digest 170 = .ok (.invokevirtual 93, 3) := by decide +kernel
theorem dX6_digest_173 : decode cX6_digest 173 = .ok (.i2l, 1) := by decide +kernel
theorem dX6_digest_174 : decode cX6_digest 174 = .ok (.ladd, 1) := by decide +kernel
theorem dX6_digest_175 : decode cX6_digest 175 = .ok (.lstore_n 1, 1) := by decide +kernel
theorem dX6_digest_176 : decode cX6_digest 176 = .ok (.iinc 4 1, 3) := by decide +kernel
theorem dX6_digest_179 : decode cX6_digest 179 = .ok (.goto (-25), 3) := by decide +kernel
theorem dX6_digest_182 : decode cX6_digest 182 = .ok (.iinc 3 1, 3) := by decide +kernel
theorem dX6_digest_185 : decode cX6_digest 185 = .ok (.goto (-42), 3) := by decide +kernel
theorem dX6_digest_188 : decode cX6_digest 188 = .ok (.lload_n 1, 1) := by decide +kernel
theorem dX6_digest_189 : decode cX6_digest 189 = .ok (.lreturn, 1) := by decide +kernel
