theorem dX4_init_0 : decode cX4_init 0 = .ok (.aload_n 0, 1) := by decide +kernel
theorem dX4_init_1 : decode cX4_init 1 = .ok (.invokespecial 1, 3) := by decide +kernel
theorem dX4_init_4 : decode cX4_init 4 = .ok (.aload_n 0, 1) := by decide +kernel
theorem dX4_init_5 : decode cX4_init 5 = .ok (.new 7, 3) := by decide +kernel
theorem dX4_init_8 : decode cX4_init 8 = .ok (.dup, 1) := by decide +kernel
theorem dX4_init_9 : decode cX4_init 9 = .ok (.invokespecial 9, 3) := by decide +kernel
theorem dX4_init_12 : decode cX4_init 12 = .ok (.putfield 10, 3) := by decide +kernel
theorem dX4_init_15 : decode cX4_init 15 = .ok (.aload_n 0, 1) := by decide +kernel
theorem dX4_init_16 : decode cX4_init 16 = .ok (.new 7, 3) := by decide +kernel
theorem dX4_init_19 : decode cX4_init 19 = .ok (.dup, 1) := by decide +kernel
theorem dX4_init_20 : decode cX4_init 20 = .ok (.invokespecial 9, 3) := by decide +kernel
theorem dX4_init_23 : decode cX4_init 23 = .ok (.putfield 16, 3) := by decide +kernel
theorem dX4_init_26 : decode cX4_init 26 = .ok (.return_, 1) := by decide +kernel
theorem dX4_come_0 : decode cX4_come 0 = .ok (.iload_n 1, 1) := by decide +kernel
theorem dX4_come_1 : decode cX4_come 1 = .ok (.iconst 1, 1) := by decide +kernel
theorem dX4_come_2 : decode cX4_come 2 = .ok (.if_icmp .lt 9, 3) := by decide +kernel
theorem dX4_come_5 : decode cX4_come 5 = .ok (.iload_n 1, 1) := by decide +kernel
theorem dX4_come_6 : decode cX4_come 6 = .ok (.bipush 9, 2) := by decide +kernel
theorem dX4_come_8 : decode cX4_come 8 = .ok (.if_icmp .le 13, 3) := by decide +kernel
theorem dX4_come_11 : decode cX4_come 11 = .ok (.new 19, 3) := by decide +kernel
theorem dX4_come_14 : decode cX4_come 14 = .ok (.dup, 1) := by decide +kernel
theorem dX4_come_15 : decode cX4_come 15 = .ok (.ldc 21, 2) := by decide +kernel
theorem dX4_come_17 : decode cX4_come 17 = .ok (.invokespecial 23, 3) := by decide +kernel
theorem dX4_come_20 : decode cX4_come 20 = .ok (.athrow, 1) := by decide +kernel
theorem dX4_come_21 : decode cX4_come 21 = .ok (.aload_n 0, 1) := by decide +kernel
theorem dX4_come_22 : decode cX4_come 22 = .ok (.getfield 10, 3) := by decide +kernel
theorem dX4_come_25 : decode cX4_come 25 = .ok (.getfield 26, 3) := by decide +kernel
theorem dX4_come_28 : decode cX4_come 28 = .ok (.iconst 4, 1) := by decide +kernel
theorem dX4_come_29 : decode cX4_come 29 = .ok (.if_icmp .lt 13, 3) := by decide +kernel
theorem dX4_come_32 : decode cX4_come 32 = .ok (.new 30, 3) := by decide +kernel
theorem dX4_come_35 : decode cX4_come 35 = .ok (.dup, 1) := by decide +kernel
theorem dX4_come_36 : decode cX4_come 36 = .ok (.ldc 32, 2) := by decide +kernel
theorem dX4_come_38 : decode cX4_come 38 = .ok (.invokespecial 34, 3) := by decide +kernel
theorem dX4_come_41 : decode cX4_come 41 = .ok (.athrow, 1) := by decide +kernel
theorem dX4_come_42 : decode cX4_come 42 = .ok (.aload_n 0, 1) := by decide +kernel
theorem dX4_come_43 : decode cX4_come 43 = .ok (.getfield 10, 3) := by decide +kernel
theorem dX4_come_46 : decode cX4_come 46 = .ok (.iload_n 1, 1) := by decide +kernel
theorem dX4_come_47 : decode cX4_come 47 = .ok (.invokevirtual 35, 3) := by decide +kernel
theorem dX4_come_50 : decode cX4_come 50 = .ok (.ireturn, 1) := by decide +kernel
theorem dX4_setPattern_0 : decode cX4_setPattern 0 = .ok (.aload_n 0, 1) := by decide +kernel
theorem dX4_setPattern_1 : decode cX4_setPattern 1 = .ok (.iload_n 1, 1) := by decide +kernel
theorem dX4_setPattern_2 : decode cX4_setPattern 2 = .ok (.invokevirtual 39, 3) := by decide +kernel
theorem dX4_setPattern_5 : decode cX4_setPattern 5 = .ok (.iload_n 2, 1) := by decide +kernel
theorem dX4_setPattern_6 : decode cX4_setPattern 6 = .ok (.iconst 1, 1) := by decide +kernel
theorem dX4_setPattern_7 : decode cX4_setPattern 7 = .ok (.if_icmp .lt 9, 3) := by decide +kernel
theorem dX4_setPattern_10 : decode cX4_setPattern 10 = .ok (.iload_n 2, 1) := by decide +kernel
theorem dX4_setPattern_11 : decode cX4_setPattern 11 = .ok (.bipush 8, 2) := by decide +kernel
theorem dX4_setPattern_13 : decode cX4_setPattern 13 = .ok (.if_icmp .le 13, 3) := by decide +kernel
theorem dX4_setPattern_16 : decode cX4_setPattern 16 = .ok (.new 19, 3) := by decide +kernel
theorem dX4_setPattern_19 : decode cX4_setPattern 19 = .ok (.dup, 1) := by decide +kernel
theorem dX4_setPattern_20 : decode cX4_setPattern 20 = .ok (.ldc 43, 2) := by decide +kernel
theorem dX4_setPattern_22 : decode cX4_setPattern 22 = .ok (.invokespecial 23, 3) := by decide +kernel
theorem dX4_setPattern_25 : decode cX4_setPattern 25 = .ok (.athrow, 1) := by decide +kernel
theorem dX4_setPattern_26 : decode cX4_setPattern 26 = .ok (.iload_n 3, 1) := by decide +kernel
theorem dX4_setPattern_27 : decode cX4_setPattern 27 = .ok (.ifCond .lt 11, 3) := by decide +kernel
theorem dX4_setPattern_30 : decode cX4_setPattern 30 = .ok (.iload_n 3, 1) := by decide +kernel
theorem dX4_setPattern_31 : decode cX4_setPattern 31 = .ok (.iload_n 2, 1) := by decide +kernel
theorem dX4_setPattern_32 : decode cX4_setPattern 32 = .ok (.invokestatic 45, 3) := by decide +kernel
theorem dX4_setPattern_35 : decode cX4_setPattern 35 = .ok (.if_icmp .lt 13, 3) := by decide +kernel
theorem dX4_setPattern_38 : decode cX4_setPattern 38 = .ok (.new 19, 3) := by decide +kernel
theorem dX4_setPattern_41 : decode cX4_setPattern 41 = .ok (.dup, 1) := by decide +kernel
theorem dX4_setPattern_42 : decode cX4_setPattern 42 = .ok (.ldc 48, 2) := by decide +kernel
theorem dX4_setPattern_44 : decode cX4_setPattern 44 = .ok (.invokespecial 23, 3) := by decide +kernel
theorem dX4_setPattern_47 : decode cX4_setPattern 47 = .ok (.athrow, 1) := by decide +kernel
theorem dX4_setPattern_48 : decode cX4_setPattern 48 = .ok (.aload_n 0, 1) := by decide +kernel
theorem dX4_setPattern_49 : decode cX4_setPattern 49 = .ok (.getfield 10, 3) := by decide +kernel
theorem dX4_setPattern_52 : decode cX4_setPattern 52 = .ok (.getfield 50, 3) := by decide +kernel
theorem dX4_setPattern_55 : decode cX4_setPattern 55 = .ok (.iload_n 1, 1) := by decide +kernel
theorem dX4_setPattern_56 : decode cX4_setPattern 56 = .ok (.aaload, 1) := by decide +kernel
theorem dX4_setPattern_57 : decode cX4_setPattern 57 = .ok (.getfield 54, 3) := by decide +kernel
theorem dX4_setPattern_60 : decode cX4_setPattern 60 = .ok (.astore 4, 2) := by decide +kernel
theorem dX4_setPattern_62 : decode cX4_setPattern 62 = .ok (.aload 4, 2) := by decide +kernel
theorem dX4_setPattern_64 : decode cX4_setPattern 64 = .ok (.getfield 60, 3) := by decide +kernel
theorem dX4_setPattern_67 : decode cX4_setPattern 67 = .ok (.istore 5, 2) := by decide +kernel
theorem dX4_setPattern_69 : decode cX4_setPattern 69 = .ok (.aload 4, 2) := by decide +kernel
theorem dX4_setPattern_71 : decode cX4_setPattern 71 = .ok (.iload_n 1, 1) := by decide +kernel
theorem dX4_setPattern_72 : decode cX4_setPattern 72 = .ok (.iload_n 2, 1) := by decide +kernel
theorem dX4_setPattern_73 : decode cX4_setPattern 73 = .ok (.iload_n 3, 1) := by decide +kernel
theorem dX4_setPattern_74 : decode cX4_setPattern 74 = .ok (.invokevirtual 65, 3) := by decide +kernel
theorem dX4_setPattern_77 : decode cX4_setPattern 77 = .ok (.iload 5, 2) := by decide +kernel
theorem dX4_setPattern_79 : decode cX4_setPattern 79 = .ok (.ireturn, 1) := by decide +kernel
theorem dX4_pass_0 : decode cX4_pass 0 = .ok (.aload_n 0, 1) := by decide +kernel
theorem dX4_pass_1 : decode cX4_pass 1 = .ok (.iload_n 1, 1) := by decide +kernel
theorem dX4_pass_2 : decode cX4_pass 2 = .ok (.iload_n 2, 1) := by decide +kernel
theorem dX4_pass_3 : decode cX4_pass 3 = .ok (.invokevirtual 69, 3) := by decide +kernel
theorem dX4_pass_6 : decode cX4_pass 6 = .ok (.aload_n 0, 1) := by decide +kernel
theorem dX4_pass_7 : decode cX4_pass 7 = .ok (.iload_n 3, 1) := by decide +kernel
theorem dX4_pass_8 : decode cX4_pass 8 = .ok (.invokevirtual 39, 3) := by decide +kernel
theorem dX4_pass_11 : decode cX4_pass 11 = .ok (.aload_n 0, 1) := by decide +kernel
theorem dX4_pass_12 : decode cX4_pass 12 = .ok (.getfield 10, 3) := by decide +kernel
theorem dX4_pass_15 : decode cX4_pass 15 = .ok (.getfield 50, 3) := by decide +kernel
theorem dX4_pass_18 : decode cX4_pass 18 = .ok (.iload_n 1, 1) := by decide +kernel
theorem dX4_pass_19 : decode cX4_pass 19 = .ok (.aaload, 1) := by decide +kernel
theorem dX4_pass_20 : decode cX4_pass 20 = .ok (.getfield 54, 3) := by decide +kernel
theorem dX4_pass_23 : decode cX4_pass 23 = .ok (.astore 4, 2) := by decide +kernel
theorem dX4_pass_25 : decode cX4_pass 25 = .ok (.aload 4, 2) := by decide +kernel
theorem dX4_pass_27 : decode cX4_pass 27 = .ok (.getfield 73, 3) := by decide +kernel
theorem dX4_pass_30 : decode cX4_pass 30 = .ok (.iload_n 2, 1) := by decide +kernel
theorem dX4_pass_31 : decode cX4_pass 31 = .ok (.iaload, 1) := by decide +kernel
theorem dX4_pass_32 : decode cX4_pass 32 = .ok (.istore 5, 2) := by decide +kernel
theorem dX4_pass_34 : decode cX4_pass 34 = .ok (.aload 4, 2) := by decide +kernel
theorem dX4_pass_36 : decode cX4_pass 36 = .ok (.getfield 73, 3) := by decide +kernel
theorem dX4_pass_39 : decode cX4_pass 39 = .ok (.iload_n 2, 1) := by decide +kernel
theorem dX4_pass_40 : decode cX4_pass 40 = .ok (.iload_n 3, 1) := by decide +kernel
theorem dX4_pass_41 : decode cX4_pass 41 = .ok (.iastore, 1) := by decide +kernel
theorem dX4_pass_42 : decode cX4_pass 42 = .ok (.iload 5, 2) := by decide +kernel
theorem dX4_pass_44 : decode cX4_pass 44 = .ok (.ireturn, 1) := by decide +kernel
theorem dX4_written_0 : decode cX4_written 0 = .ok (.aload_n 0, 1) := by decide +kernel
theorem dX4_written_1 : decode cX4_written 1 = .ok (.iload_n 1, 1) := by decide +kernel
theorem dX4_written_2 : decode cX4_written 2 = .ok (.iload_n 2, 1) := by decide +kernel
theorem dX4_written_3 : decode cX4_written 3 = .ok (.invokevirtual 69, 3) := by decide +kernel
theorem dX4_written_6 : decode cX4_written 6 = .ok (.iload_n 3, 1) := by decide +kernel
theorem dX4_written_7 : decode cX4_written 7 = .ok (.iconst 2, 1) := by decide +kernel
theorem dX4_written_8 : decode cX4_written 8 = .ok (.invokestatic 77, 3) := by decide +kernel
theorem dX4_written_11 : decode cX4_written 11 = .ok (.aload_n 0, 1) := by decide +kernel
theorem dX4_written_12 : decode cX4_written 12 = .ok (.getfield 10, 3) := by decide +kernel
theorem dX4_written_15 : decode cX4_written 15 = .ok (.getfield 50, 3) := by decide +kernel
theorem dX4_written_18 : decode cX4_written 18 = .ok (.iload_n 1, 1) := by decide +kernel
theorem dX4_written_19 : decode cX4_written 19 = .ok (.aaload, 1) := by decide +kernel
theorem dX4_written_20 : decode cX4_written 20 = .ok (.getfield 54, 3) := by decide +kernel
theorem dX4_written_23 : decode cX4_written 23 = .ok (.astore 4, 2) := by decide +kernel
theorem dX4_written_25 : decode cX4_written 25 = .ok (.iload_n 3, 1) := by decide +kernel
theorem dX4_written_26 : decode cX4_written 26 = .ok (.ifCond .ne 13, 3) := by decide +kernel
theorem dX4_written_29 : decode cX4_written 29 = .ok (.aload 4, 2) := by decide +kernel
theorem dX4_written_31 : decode cX4_written 31 = .ok (.getfield 80, 3) := by decide +kernel
theorem dX4_written_34 : decode cX4_written 34 = .ok (.iload_n 2, 1) := by decide +kernel
theorem dX4_written_35 : decode cX4_written 35 = .ok (.iaload, 1) := by decide +kernel
theorem dX4_written_36 : decode cX4_written 36 = .ok (.goto 10, 3) := by decide +kernel
theorem dX4_written_39 : decode cX4_written 39 = .ok (.aload 4, 2) := by decide +kernel
theorem dX4_written_41 : decode cX4_written 41 = .ok (.getfield 73, 3) := by decide +kernel
theorem dX4_written_44 : decode cX4_written 44 = .ok (.iload_n 2, 1) := by decide +kernel
theorem dX4_written_45 : decode cX4_written 45 = .ok (.iaload, 1) := by decide +kernel
theorem dX4_written_46 : decode cX4_written 46 = .ok (.ireturn, 1) := by decide +kernel
theorem dX4_make_0 : decode cX4_make 0 = .ok (.iload_n 1, 1) := by decide +kernel
theorem dX4_make_1 : decode cX4_make 1 = .ok (.ifCond .lt 8, 3) := by decide +kernel
theorem dX4_make_4 : decode cX4_make 4 = .ok (.iload_n 1, 1) := by decide +kernel
theorem dX4_make_5 : decode cX4_make 5 = .ok (.iconst 3, 1) := by decide +kernel
theorem dX4_make_6 : decode cX4_make 6 = .ok (.if_icmp .lt 13, 3) := by decide +kernel
theorem dX4_make_9 : decode cX4_make 9 = .ok (.new 19, 3) := by decide +kernel
theorem dX4_make_12 : decode cX4_make 12 = .ok (.dup, 1) := by decide +kernel
theorem dX4_make_13 : decode cX4_make 13 = .ok (.ldc 83, 2) := by decide +kernel
theorem dX4_make_15 : decode cX4_make 15 = .ok (.invokespecial 23, 3) := by decide +kernel
theorem dX4_make_18 : decode cX4_make 18 = .ok (.athrow, 1) := by decide +kernel
theorem dX4_make_19 : decode cX4_make 19 = .ok (.aload_n 0, 1) := by decide +kernel
theorem dX4_make_20 : decode cX4_make 20 = .ok (.getfield 10, 3) := by decide +kernel
theorem dX4_make_23 : decode cX4_make 23 = .ok (.getfield 85, 3) := by decide +kernel
theorem dX4_make_26 : decode cX4_make 26 = .ok (.bipush 12, 2) := by decide +kernel
theorem dX4_make_28 : decode cX4_make 28 = .ok (.if_icmp .lt 13, 3) := by decide +kernel
theorem dX4_make_31 : decode cX4_make 31 = .ok (.new 30, 3) := by decide +kernel
theorem dX4_make_34 : decode cX4_make 34 = .ok (.dup, 1) := by decide +kernel
theorem dX4_make_35 : decode cX4_make 35 = .ok (.ldc 88, 2) := by decide +kernel
theorem dX4_make_37 : decode cX4_make 37 = .ok (.invokespecial 34, 3) := by decide +kernel
theorem dX4_make_40 : decode cX4_make 40 = .ok (.athrow, 1) := by decide +kernel
theorem dX4_make_41 : decode cX4_make 41 = .ok (.aload_n 0, 1) := by decide +kernel
theorem dX4_make_42 : decode cX4_make 42 = .ok (.getfield 10, 3) := by decide +kernel
theorem dX4_make_45 : decode cX4_make 45 = .ok (.iload_n 1, 1) := by decide +kernel
theorem dX4_make_46 : decode cX4_make 46 = .ok (.invokevirtual 90, 3) := by decide +kernel
theorem dX4_make_49 : decode cX4_make 49 = .ok (.ireturn, 1) := by decide +kernel
theorem dX4_give_0 : decode cX4_give 0 = .ok (.aload_n 0, 1) := by decide +kernel
theorem dX4_give_1 : decode cX4_give 1 = .ok (.iload_n 1, 1) := by decide +kernel
theorem dX4_give_2 : decode cX4_give 2 = .ok (.invokevirtual 93, 3) := by decide +kernel
theorem dX4_give_5 : decode cX4_give 5 = .ok (.aload_n 0, 1) := by decide +kernel
theorem dX4_give_6 : decode cX4_give 6 = .ok (.iload_n 2, 1) := by decide +kernel
theorem dX4_give_7 : decode cX4_give 7 = .ok (.invokevirtual 39, 3) := by decide +kernel
theorem dX4_give_10 : decode cX4_give 10 = .ok (.iload_n 3, 1) := by decide +kernel
theorem dX4_give_11 : decode cX4_give 11 = .ok (.ifCond .lt 8, 3) := by decide +kernel
theorem dX4_give_14 : decode cX4_give 14 = .ok (.iload_n 3, 1) := by decide +kernel
theorem dX4_give_15 : decode cX4_give 15 = .ok (.iconst 2, 1) := by decide +kernel
theorem dX4_give_16 : decode cX4_give 16 = .ok (.if_icmp .lt 13, 3) := by decide +kernel
theorem dX4_give_19 : decode cX4_give 19 = .ok (.new 96, 3) := by decide +kernel
theorem dX4_give_22 : decode cX4_give 22 = .ok (.dup, 1) := by decide +kernel
theorem dX4_give_23 : decode cX4_give 23 = .ok (.ldc 98, 2) := by decide +kernel
theorem dX4_give_25 : decode cX4_give 25 = .ok (.invokespecial 100, 3) := by decide +kernel
theorem dX4_give_28 : decode cX4_give 28 = .ok (.athrow, 1) := by decide +kernel
theorem dX4_give_29 : decode cX4_give 29 = .ok (.aload_n 0, 1) := by decide +kernel
theorem dX4_give_30 : decode cX4_give 30 = .ok (.getfield 10, 3) := by decide +kernel
theorem dX4_give_33 : decode cX4_give 33 = .ok (.getfield 101, 3) := by decide +kernel
theorem dX4_give_36 : decode cX4_give 36 = .ok (.iload_n 1, 1) := by decide +kernel
theorem dX4_give_37 : decode cX4_give 37 = .ok (.aaload, 1) := by decide +kernel
theorem dX4_give_38 : decode cX4_give 38 = .ok (.getfield 105, 3) := by decide +kernel
theorem dX4_give_41 : decode cX4_give 41 = .ok (.ifCond .eq 13, 3) := by decide +kernel
theorem dX4_give_44 : decode cX4_give 44 = .ok (.new 30, 3) := by decide +kernel
theorem dX4_give_47 : decode cX4_give 47 = .ok (.dup, 1) := by decide +kernel
theorem dX4_give_48 : decode cX4_give 48 = .ok (.ldc 110, 2) := by decide +kernel
theorem dX4_give_50 : decode cX4_give 50 = .ok (.invokespecial 34, 3) := by decide +kernel
theorem dX4_give_53 : decode cX4_give 53 = .ok (.athrow, 1) := by decide +kernel
theorem dX4_give_54 : decode cX4_give 54 = .ok (.aload_n 0, 1) := by decide +kernel
theorem dX4_give_55 : decode cX4_give 55 = .ok (.getfield 10, 3) := by decide +kernel
theorem dX4_give_58 : decode cX4_give 58 = .ok (.getfield 50, 3) := by decide +kernel
theorem dX4_give_61 : decode cX4_give 61 = .ok (.iload_n 2, 1) := by decide +kernel
theorem dX4_give_62 : decode cX4_give 62 = .ok (.aaload, 1) := by decide +kernel
theorem dX4_give_63 : decode cX4_give 63 = .ok (.getfield 112, 3) := by decide +kernel
theorem dX4_give_66 : decode cX4_give 66 = .ok (.iload_n 3, 1) := by decide +kernel
theorem dX4_give_67 : decode cX4_give 67 = .ok (.iaload, 1) := by decide +kernel
theorem dX4_give_68 : decode cX4_give 68 = .ok (.iconst (-1), 1) := by decide +kernel
theorem dX4_give_69 : decode cX4_give 69 = .ok (.if_icmp .eq 13, 3) := by decide +kernel
theorem dX4_give_72 : decode cX4_give 72 = .ok (.new 30, 3) := by decide +kernel
theorem dX4_give_75 : decode cX4_give 75 = .ok (.dup, 1) := by decide +kernel
theorem dX4_give_76 : decode cX4_give 76 = .ok (.ldc 115, 2) := by decide +kernel
theorem dX4_give_78 : decode cX4_give 78 = .ok (.invokespecial 34, 3) := by decide +kernel
theorem dX4_give_81 : decode cX4_give 81 = .ok (.athrow, 1) := by decide +kernel
theorem dX4_give_82 : decode cX4_give 82 = .ok (.aload_n 0, 1) := by decide +kernel
theorem dX4_give_83 : decode cX4_give 83 = .ok (.getfield 10, 3) := by decide +kernel
theorem dX4_give_86 : decode cX4_give 86 = .ok (.iload_n 1, 1) := by decide +kernel
theorem dX4_give_87 : decode cX4_give 87 = .ok (.iload_n 2, 1) := by decide +kernel
theorem dX4_give_88 : decode cX4_give 88 = .ok (.iload_n 3, 1) := by decide +kernel
theorem dX4_give_89 : decode cX4_give 89 = .ok (.invokevirtual 117, 3) := by decide +kernel
theorem dX4_give_92 : decode cX4_give 92 = .ok (.aload_n 0, 1) := by decide +kernel
theorem dX4_give_93 : decode cX4_give 93 = .ok (.getfield 10, 3) := by decide +kernel
theorem dX4_give_96 : decode cX4_give 96 = .ok (.getfield 50, 3) := by decide +kernel
theorem dX4_give_99 : decode cX4_give 99 = .ok (.iload_n 2, 1) := by decide +kernel
theorem dX4_give_100 : decode cX4_give 100 = .ok (.aaload, 1) := by decide +kernel
theorem dX4_give_101 : decode cX4_give 101 = .ok (.invokevirtual 120, 3) := by decide +kernel
theorem dX4_give_104 : decode cX4_give 104 = .ok (.ireturn, 1) := by decide +kernel
theorem dX4_thing_0 : decode cX4_thing 0 = .ok (.aload_n 0, 1) := by decide +kernel
theorem dX4_thing_1 : decode cX4_thing 1 = .ok (.iload_n 1, 1) := by decide +kernel
theorem dX4_thing_2 : decode cX4_thing 2 = .ok (.invokevirtual 93, 3) := by decide +kernel
theorem dX4_thing_5 : decode cX4_thing 5 = .ok (.iload_n 2, 1) := by decide +kernel
theorem dX4_thing_6 : decode cX4_thing 6 = .ok (.bipush 7, 2) := by decide +kernel
theorem dX4_thing_8 : decode cX4_thing 8 = .ok (.invokestatic 77, 3) := by decide +kernel
theorem dX4_thing_11 : decode cX4_thing 11 = .ok (.aload_n 0, 1) := by decide +kernel
theorem dX4_thing_12 : decode cX4_thing 12 = .ok (.getfield 10, 3) := by decide +kernel
theorem dX4_thing_15 : decode cX4_thing 15 = .ok (.iload_n 1, 1) := by decide +kernel
theorem dX4_thing_16 : decode cX4_thing 16 = .ok (.iload_n 2, 1) := by decide +kernel
theorem dX4_thing_17 : decode cX4_thing 17 = .ok (.invokevirtual 124, 3) := by decide +kernel
theorem dX4_thing_20 : decode cX4_thing 20 = .ok (.ireturn, 1) := by decide +kernel
theorem dX4_juggler_0 : decode cX4_juggler 0 = .ok (.aload_n 0, 1) := by decide +kernel
theorem dX4_juggler_1 : decode cX4_juggler 1 = .ok (.iload_n 1, 1) := by decide +kernel
theorem dX4_juggler_2 : decode cX4_juggler 2 = .ok (.invokevirtual 39, 3) := by decide +kernel
theorem dX4_juggler_5 : decode cX4_juggler 5 = .ok (.iload_n 2, 1) := by decide +kernel
theorem dX4_juggler_6 : decode cX4_juggler 6 = .ok (.bipush 7, 2) := by decide +kernel
theorem dX4_juggler_8 : decode cX4_juggler 8 = .ok (.invokestatic 77, 3) := by decide +kernel
theorem dX4_juggler_11 : decode cX4_juggler 11 = .ok (.aload_n 0, 1) := by decide +kernel
theorem dX4_juggler_12 : decode cX4_juggler 12 = .ok (.getfield 10, 3) := by decide +kernel
theorem dX4_juggler_15 : decode cX4_juggler 15 = .ok (.iload_n 1, 1) := by decide +kernel
theorem dX4_juggler_16 : decode cX4_juggler 16 = .ok (.iload_n 2, 1) := by decide +kernel
theorem dX4_juggler_17 : decode cX4_juggler 17 = .ok (.invokevirtual 128, 3) := by decide +kernel
theorem dX4_juggler_20 : decode cX4_juggler 20 = .ok (.ireturn, 1) := by decide +kernel
theorem dX4_go_0 : decode cX4_go 0 = .ok (.iload_n 1, 1) := by decide +kernel
theorem dX4_go_1 : decode cX4_go 1 = .ok (.sipush 200, 3) := by decide +kernel
theorem dX4_go_4 : decode cX4_go 4 = .ok (.invokestatic 141, 3) := by decide +kernel
theorem dX4_go_7 : decode cX4_go 7 = .ok (.aload_n 0, 1) := by decide +kernel
theorem dX4_go_8 : decode cX4_go 8 = .ok (.getfield 10, 3) := by decide +kernel
theorem dX4_go_11 : decode cX4_go 11 = .ok (.iload_n 1, 1) := by decide +kernel
theorem dX4_go_12 : decode cX4_go 12 = .ok (.invokevirtual 144, 3) := by decide +kernel
theorem dX4_go_15 : decode cX4_go 15 = .ok (.ireturn, 1) := by decide +kernel
theorem dX4_count_0 : decode cX4_count 0 = .ok (.iload_n 1, 1) := by decide +kernel
theorem dX4_count_1 : decode cX4_count 1 = .ok (.bipush 9, 2) := by decide +kernel
theorem dX4_count_3 : decode cX4_count 3 = .ok (.invokestatic 77, 3) := by decide +kernel
theorem dX4_count_6 : decode cX4_count 6 = .ok (.aload_n 0, 1) := by decide +kernel
theorem dX4_count_7 : decode cX4_count 7 = .ok (.getfield 10, 3) := by decide +kernel
theorem dX4_count_10 : decode cX4_count 10 = .ok (.iload_n 1, 1) := by decide +kernel
theorem dX4_count_11 : decode cX4_count 11 = .ok (.invokevirtual 147, 3) := by decide +kernel
theorem dX4_count_14 : decode cX4_count 14 = .ok (.ireturn, 1) := by decide +kernel
theorem dX4_falls_0 : decode cX4_falls 0 = .ok (.aload_n 0, 1) := by decide +kernel
theorem dX4_falls_1 : decode cX4_falls 1 = .ok (.getfield 16, 3) := by decide +kernel
theorem dX4_falls_4 : decode cX4_falls 4 = .ok (.aload_n 0, 1) := by decide +kernel
theorem dX4_falls_5 : decode cX4_falls 5 = .ok (.getfield 10, 3) := by decide +kernel
theorem dX4_falls_8 : decode cX4_falls 8 = .ok (.invokevirtual 150, 3) := by decide +kernel
theorem dX4_falls_11 : decode cX4_falls 11 = .ok (.iconst 1, 1) := by decide +kernel
theorem dX4_falls_12 : decode cX4_falls 12 = .ok (.istore_n 1, 1) := by decide +kernel
theorem dX4_falls_13 : decode cX4_falls 13 = .ok (.iload_n 1, 1) := by decide +kernel
theorem dX4_falls_14 : decode cX4_falls 14 = .ok (.sipush 200, 3) := by decide +kernel
theorem dX4_falls_17 : decode cX4_falls 17 = .ok (.if_icmp .gt 21, 3) := by decide +kernel
theorem dX4_falls_20 : decode cX4_falls 20 = .ok (.aload_n 0, 1) := by decide +kernel
theorem dX4_falls_21 : decode cX4_falls 21 = .ok (.getfield 16, 3) := by decide +kernel
theorem dX4_falls_24 : decode cX4_falls 24 = .ok (.invokevirtual 154, 3) := by decide +kernel
theorem dX4_falls_27 : decode cX4_falls 27 = .ok (.ifCond .le 5, 3) := by decide +kernel
theorem dX4_falls_30 : decode cX4_falls 30 = .ok (.iload_n 1, 1) := by decide +kernel
theorem dX4_falls_31 : decode cX4_falls 31 = .ok (.ireturn, 1) := by decide +kernel
theorem dX4_falls_32 : decode cX4_falls 32 = .ok (.iinc 1 1, 3) := by decide +kernel
theorem dX4_falls_35 : decode cX4_falls 35 = .ok (.goto (-22), 3) := by decide +kernel
theorem dX4_falls_38 : decode cX4_falls 38 = .ok (.iconst (-1), 1) := by decide +kernel
theorem dX4_falls_39 : decode cX4_falls 39 = .ok (.ireturn, 1) := by decide +kernel
theorem dX4_foresee_0 : decode cX4_foresee 0 = .ok (.iload_n 1, 1) := by decide +kernel
theorem dX4_foresee_1 : decode cX4_foresee 1 = .ok (.sipush 200, 3) := by decide +kernel
theorem dX4_foresee_4 : decode cX4_foresee 4 = .ok (.invokestatic 141, 3) := by decide +kernel
theorem dX4_foresee_7 : decode cX4_foresee 7 = .ok (.iload_n 2, 1) := by decide +kernel
theorem dX4_foresee_8 : decode cX4_foresee 8 = .ok (.iconst 3, 1) := by decide +kernel
theorem dX4_foresee_9 : decode cX4_foresee 9 = .ok (.invokestatic 77, 3) := by decide +kernel
theorem dX4_foresee_12 : decode cX4_foresee 12 = .ok (.aload_n 0, 1) := by decide +kernel
theorem dX4_foresee_13 : decode cX4_foresee 13 = .ok (.getfield 16, 3) := by decide +kernel
theorem dX4_foresee_16 : decode cX4_foresee 16 = .ok (.aload_n 0, 1) := by decide +kernel
theorem dX4_foresee_17 : decode cX4_foresee 17 = .ok (.getfield 10, 3) := by decide +kernel
theorem dX4_foresee_20 : decode cX4_foresee 20 = .ok (.invokevirtual 150, 3) := by decide +kernel
theorem dX4_foresee_23 : decode cX4_foresee 23 = .ok (.aload_n 0, 1) := by decide +kernel
theorem dX4_foresee_24 : decode cX4_foresee 24 = .ok (.getfield 16, 3) := by decide +kernel
theorem dX4_foresee_27 : decode cX4_foresee 27 = .ok (.iload_n 1, 1) := by decide +kernel
theorem dX4_foresee_28 : decode cX4_foresee 28 = .ok (.invokevirtual 144, 3) := by decide +kernel
theorem dX4_foresee_31 : decode cX4_foresee 31 = .ok (.istore_n 3, 1) := by decide +kernel
theorem dX4_foresee_32 : decode cX4_foresee 32 = .ok (.iload_n 2, 1) := by decide +kernel
theorem dX4_foresee_33 : decode cX4_foresee 33 = .ok (.lookupswitch 38 #[(0, 27), (1, 36)], 27) := by decide +kernel
theorem dX4_foresee_60 : decode cX4_foresee 60 = .ok (.aload_n 0, 1) := by decide +kernel
theorem dX4_foresee_61 : decode cX4_foresee 61 = .ok (.getfield 16, 3) := by decide +kernel
theorem dX4_foresee_64 : decode cX4_foresee 64 = .ok (.iconst 2, 1) := by decide +kernel
theorem dX4_foresee_65 : decode cX4_foresee 65 = .ok (.invokevirtual 157, 3) := by decide +kernel
theorem dX4_foresee_68 : decode cX4_foresee 68 = .ok (.ireturn, 1) := by decide +kernel
theorem dX4_foresee_69 : decode cX4_foresee 69 = .ok (.iload_n 3, 1) := by decide +kernel
theorem dX4_foresee_70 : decode cX4_foresee 70 = .ok (.ireturn, 1) := by decide +kernel
theorem dX4_foresee_71 : decode cX4_foresee 71 = .ok (.aload_n 0, 1) := by decide +kernel
theorem dX4_foresee_72 : decode cX4_foresee 72 = .ok (.getfield 16, 3) := by decide +kernel
theorem dX4_foresee_75 : decode cX4_foresee 75 = .ok (.invokevirtual 160, 3) := by decide +kernel
theorem dX4_foresee_78 : decode cX4_foresee 78 = .ok (.ireturn, 1) := by decide +kernel
theorem dX4_advise_0 : decode cX4_advise 0 = .ok (.aload_n 0, 1) := by decide +kernel
theorem dX4_advise_1 : decode cX4_advise 1 = .ok (.iload_n 1, 1) := by decide +kernel
theorem dX4_advise_2 : decode cX4_advise 2 = .ok (.invokevirtual 39, 3) := by decide +kernel
theorem dX4_advise_5 : decode cX4_advise 5 = .ok (.iload_n 2, 1) := by decide +kernel
theorem dX4_advise_6 : decode cX4_advise 6 = .ok (.bipush 60, 2) := by decide +kernel
theorem dX4_advise_8 : decode cX4_advise 8 = .ok (.invokestatic 141, 3) := by decide +kernel
theorem dX4_advise_11 : decode cX4_advise 11 = .ok (.aload_n 0, 1) := by decide +kernel
theorem dX4_advise_12 : decode cX4_advise 12 = .ok (.getfield 16, 3) := by decide +kernel
theorem dX4_advise_15 : decode cX4_advise 15 = .ok (.aload_n 0, 1) := by decide +kernel
theorem dX4_advise_16 : decode cX4_advise 16 = .ok (.getfield 10, 3) := by decide +kernel
theorem dX4_advise_19 : decode cX4_advise 19 = .ok (.invokevirtual 150, 3) := by decide +kernel
theorem dX4_advise_22 : decode cX4_advise 22 = .ok (.aload_n 0, 1) := by decide +kernel
theorem dX4_advise_23 : decode cX4_advise 23 = .ok (.getfield 16, 3) := by decide +kernel
theorem dX4_advise_26 : decode cX4_advise 26 = .ok (.iload_n 2, 1) := by decide +kernel
theorem dX4_advise_27 : decode cX4_advise 27 = .ok (.invokevirtual 144, 3) := by decide +kernel
theorem dX4_advise_30 : decode cX4_advise 30 = .ok (.istore_n 3, 1) := by decide +kernel
theorem dX4_advise_31 : decode cX4_advise 31 = .ok (.iconst (-1), 1) := by decide +kernel
theorem dX4_advise_32 : decode cX4_advise 32 = .ok (.istore 4, 2) := by decide +kernel
theorem dX4_advise_34 : decode cX4_advise 34 = .ok (.aload_n 0, 1) := by decide +kernel
theorem dX4_advise_35 : decode cX4_advise 35 = .ok (.getfield 10, 3) := by decide +kernel
theorem dX4_advise_38 : decode cX4_advise 38 = .ok (.getfield 50, 3) := by decide +kernel
theorem dX4_advise_41 : decode cX4_advise 41 = .ok (.iload_n 1, 1) := by decide +kernel
theorem dX4_advise_42 : decode cX4_advise 42 = .ok (.aaload, 1) := by decide +kernel
theorem dX4_advise_43 : decode cX4_advise 43 = .ok (.getfield 54, 3) := by decide +kernel
theorem dX4_advise_46 : decode cX4_advise 46 = .ok (.getfield 60, 3) := by decide +kernel
theorem dX4_advise_49 : decode cX4_advise 49 = .ok (.istore 5, 2) := by decide +kernel
theorem dX4_advise_51 : decode cX4_advise 51 = .ok (.iconst 0, 1) := by decide +kernel
theorem dX4_advise_52 : decode cX4_advise 52 = .ok (.istore 6, 2) := by decide +kernel
theorem dX4_advise_54 : decode cX4_advise 54 = .ok (.iload 6, 2) := by decide +kernel
theorem dX4_advise_56 : decode cX4_advise 56 = .ok (.iload 5, 2) := by decide +kernel
theorem dX4_advise_58 : decode cX4_advise 58 = .ok (.if_icmp .ge 60, 3) := by decide +kernel
theorem dX4_advise_61 : decode cX4_advise 61 = .ok (.iconst 0, 1) := by decide +kernel
theorem dX4_advise_62 : decode cX4_advise 62 = .ok (.istore 7, 2) := by decide +kernel
theorem dX4_advise_64 : decode cX4_advise 64 = .ok (.iload 7, 2) := by decide +kernel
theorem dX4_advise_66 : decode cX4_advise 66 = .ok (.bipush 9, 2) := by decide +kernel
theorem dX4_advise_68 : decode cX4_advise 68 = .ok (.if_icmp .gt 44, 3) := by decide +kernel
theorem dX4_advise_71 : decode cX4_advise 71 = .ok (.iload_n 3, 1) := by decide +kernel
theorem dX4_advise_72 : decode cX4_advise 72 = .ok (.ifCond .le 40, 3) := by decide +kernel
theorem dX4_advise_75 : decode cX4_advise 75 = .ok (.aload_n 0, 1) := by decide +kernel
theorem dX4_advise_76 : decode cX4_advise 76 = .ok (.iload_n 1, 1) := by decide +kernel
theorem dX4_advise_77 : decode cX4_advise 77 = .ok (.iload 6, 2) := by decide +kernel
theorem dX4_advise_79 : decode cX4_advise 79 = .ok (.iload 7, 2) := by decide +kernel
theorem dX4_advise_81 : decode cX4_advise 81 = .ok (.iload_n 2, 1) := by decide +kernel
theorem dX4_advise_82 : decode cX4_advise 82 = .ok (.invokevirtual 163, 3) := by decide +kernel
theorem dX4_advise_85 : decode cX4_advise 85 = .ok (.istore 8, 2) := by decide +kernel
theorem dX4_advise_87 : decode cX4_advise 87 = .ok (.iload 8, 2) := by decide +kernel
theorem dX4_advise_89 : decode cX4_advise 89 = .ok (.iload_n 3, 1) := by decide +kernel
theorem dX4_advise_90 : decode cX4_advise 90 = .ok (.if_icmp .ge 16, 3) := by decide +kernel
theorem dX4_advise_93 : decode cX4_advise 93 = .ok (.iload 8, 2) := by decide +kernel
theorem dX4_advise_95 : decode cX4_advise 95 = .ok (.istore_n 3, 1) := by decide +kernel
theorem dX4_advise_96 : decode cX4_advise 96 = .ok (.bipush 10, 2) := by decide +kernel
theorem dX4_advise_98 : decode cX4_advise 98 = .ok (.iload 6, 2) := by decide +kernel
theorem dX4_advise_100 : decode cX4_advise 100 = .ok (.imul, 1) := by decide +kernel
theorem dX4_advise_101 : decode cX4_advise 101 = .ok (.iload 7, 2) := by decide +kernel
theorem dX4_advise_103 : decode cX4_advise 103 = .ok (.iadd, 1) := by decide +kernel
theorem dX4_advise_104 : decode cX4_advise 104 = .ok (.istore 4, 2) := by decide +kernel
theorem dX4_advise_106 : decode cX4_advise 106 = .ok (.iinc 7 1, 3) := by decide +kernel
theorem dX4_advise_109 : decode cX4_advise 109 = .ok (.goto (-45), 3) := by decide +kernel
theorem dX4_advise_112 : decode cX4_advise 112 = .ok (.iinc 6 1, 3) := by decide +kernel
theorem dX4_advise_115 : decode cX4_advise 115 = .ok (.goto (-61), 3) := by decide +kernel
theorem dX4_advise_118 : decode cX4_advise 118 = .ok (.iload 4, 2) := by decide +kernel
theorem dX4_advise_120 : decode cX4_advise 120 = .ok (.ireturn, 1) := by decide +kernel
theorem dX4_mean_0 : decode cX4_mean 0 = .ok (.aload_n 0, 1) := by decide +kernel
theorem dX4_mean_1 : decode cX4_mean 1 = .ok (.getfield 10, 3) := by decide +kernel
theorem dX4_mean_4 : decode cX4_mean 4 = .ok (.getfield 167, 3) := by decide +kernel
theorem dX4_mean_7 : decode cX4_mean 7 = .ok (.ifCond .ne 5, 3) := by decide +kernel
theorem dX4_mean_10 : decode cX4_mean 10 = .ok (.dconst 0, 1) := by decide +kernel
theorem dX4_mean_11 : decode cX4_mean 11 = .ok (.dreturn, 1) := by decide +kernel
theorem dX4_mean_12 : decode cX4_mean 12 = .ok (.aload_n 0, 1) := by decide +kernel
theorem dX4_mean_13 : decode cX4_mean 13 = .ok (.getfield 10, 3) := by decide +kernel
theorem dX4_mean_16 : decode cX4_mean 16 = .ok (.invokevirtual 170, 3) := by decide +kernel
theorem dX4_mean_19 : decode cX4_mean 19 = .ok (.i2d, 1) := by decide +kernel
theorem dX4_mean_20 : decode cX4_mean 20 = .ok (.aload_n 0, 1) := by decide +kernel
theorem dX4_mean_21 : decode cX4_mean 21 = .ok (.getfield 10, 3) := by decide +kernel
theorem dX4_mean_24 : decode cX4_mean 24 = .ok (.getfield 167, 3) := by decide +kernel
theorem dX4_mean_27 : decode cX4_mean 27 = .ok (.i2d, 1) := by decide +kernel
theorem dX4_mean_28 : decode cX4_mean 28 = .ok (.ddiv, 1) := by decide +kernel
theorem dX4_mean_29 : decode cX4_mean 29 = .ok (.dreturn, 1) := by decide +kernel
theorem dX4_digest_0 : decode cX4_digest 0 = .ok (.ldc2_w 173, 3) := by decide +kernel
theorem dX4_digest_3 : decode cX4_digest 3 = .ok (.lstore_n 1, 1) := by decide +kernel
theorem dX4_digest_4 : decode cX4_digest 4 = .ok (.iconst 0, 1) := by decide +kernel
theorem dX4_digest_5 : decode cX4_digest 5 = .ok (.istore_n 3, 1) := by decide +kernel
theorem dX4_digest_6 : decode cX4_digest 6 = .ok (.iload_n 3, 1) := by decide +kernel
theorem dX4_digest_7 : decode cX4_digest 7 = .ok (.bipush 9, 2) := by decide +kernel
theorem dX4_digest_9 : decode cX4_digest 9 = .ok (.if_icmp .ge 25, 3) := by decide +kernel
theorem dX4_digest_12 : decode cX4_digest 12 = .ok (.lload_n 1, 1) := by decide +kernel
theorem dX4_digest_13 : decode cX4_digest 13 = .ok (.ldc2_w 175, 3) := by decide +kernel
theorem dX4_digest_16 : decode cX4_digest 16 = .ok (.lmul, 1) := by decide +kernel
theorem dX4_digest_17 : decode cX4_digest 17 = .ok (.aload_n 0, 1) := by decide +kernel
theorem dX4_digest_18 : decode cX4_digest 18 = .ok (.getfield 10, 3) := by decide +kernel
theorem dX4_digest_21 : decode cX4_digest 21 = .ok (.iload_n 3, 1) := by decide +kernel
theorem dX4_digest_22 : decode cX4_digest 22 = .ok (.invokevirtual 147, 3) := by decide +kernel
theorem dX4_digest_25 : decode cX4_digest 25 = .ok (.i2l, 1) := by decide +kernel
theorem dX4_digest_26 : decode cX4_digest 26 = .ok (.ladd, 1) := by decide +kernel
theorem dX4_digest_27 : decode cX4_digest 27 = .ok (.lstore_n 1, 1) := by decide +kernel
theorem dX4_digest_28 : decode cX4_digest 28 = .ok (.iinc 3 1, 3) := by decide +kernel
theorem dX4_digest_31 : decode cX4_digest 31 = .ok (.goto (-25), 3) := by decide +kernel
theorem dX4_digest_34 : decode cX4_digest 34 = .ok (.iconst 0, 1) := by decide +kernel
theorem dX4_digest_35 : decode cX4_digest 35 = .ok (.istore_n 3, 1) := by decide +kernel
theorem dX4_digest_36 : decode cX4_digest 36 = .ok (.iload_n 3, 1) := by decide +kernel
theorem dX4_digest_37 : decode cX4_digest 37 = .ok (.aload_n 0, 1) := by decide +kernel
theorem dX4_digest_38 : decode cX4_digest 38 = .ok (.getfield 10, 3) := by decide +kernel
theorem dX4_digest_41 : decode cX4_digest 41 = .ok (.getfield 26, 3) := by decide +kernel
theorem dX4_digest_44 : decode cX4_digest 44 = .ok (.if_icmp .ge 60, 3) := by decide +kernel
theorem dX4_digest_47 : decode cX4_digest 47 = .ok (.iconst 0, 1) := by decide +kernel
theorem dX4_digest_48 : decode cX4_digest 48 = .ok (.istore 4, 2) := by decide +kernel
theorem dX4_digest_50 : decode cX4_digest 50 = .ok (.iload 4, 2) := by decide +kernel
theorem dX4_digest_52 : decode cX4_digest 52 = .ok (.bipush 7, 2) := by decide +kernel
theorem dX4_digest_54 : decode cX4_digest 54 = .ok (.if_icmp .ge 27, 3) := by decide +kernel
theorem dX4_digest_57 : decode cX4_digest 57 = .ok (.lload_n 1, 1) := by decide +kernel
theorem dX4_digest_58 : decode cX4_digest 58 = .ok (.ldc2_w 175, 3) := by decide +kernel
theorem dX4_digest_61 : decode cX4_digest 61 = .ok (.lmul, 1) := by decide +kernel
theorem dX4_digest_62 : decode cX4_digest 62 = .ok (.aload_n 0, 1) := by decide +kernel
theorem dX4_digest_63 : decode cX4_digest 63 = .ok (.getfield 10, 3) := by decide +kernel
theorem dX4_digest_66 : decode cX4_digest 66 = .ok (.iload_n 3, 1) := by decide +kernel
theorem dX4_digest_67 : decode cX4_digest 67 = .ok (.iload 4, 2) := by decide +kernel
theorem dX4_digest_69 : decode cX4_digest 69 = .ok (.invokevirtual 128, 3) := by decide +kernel
theorem dX4_digest_72 : decode cX4_digest 72 = .ok (.i2l, 1) := by decide +kernel
theorem dX4_digest_73 : decode cX4_digest 73 = .ok (.ladd, 1) := by decide +kernel
theorem dX4_digest_74 : decode cX4_digest 74 = .ok (.lstore_n 1, 1) := by decide +kernel
theorem dX4_digest_75 : decode cX4_digest 75 = .ok (.iinc 4 1, 3) := by decide +kernel
theorem dX4_digest_78 : decode cX4_digest 78 = .ok (.goto (-28), 3) := by decide +kernel
theorem dX4_digest_81 : decode cX4_digest 81 = .ok (.aload_n 0, 1) := by decide +kernel
theorem dX4_digest_82 : decode cX4_digest 82 = .ok (.getfield 10, 3) := by decide +kernel
theorem dX4_digest_85 : decode cX4_digest 85 = .ok (.getfield 50, 3) := by decide +kernel
theorem dX4_digest_88 : decode cX4_digest 88 = .ok (.iload_n 3, 1) := by decide +kernel
theorem dX4_digest_89 : decode cX4_digest 89 = .ok (.aaload, 1) := by decide +kernel
theorem dX4_digest_90 : decode cX4_digest 90 = .ok (.getfield 54, 3) := by decide +kernel
theorem dX4_digest_93 : decode cX4_digest 93 = .ok (.lload_n 1, 1) := by decide +kernel
theorem dX4_digest_94 : decode cX4_digest 94 = .ok (.invokevirtual 177, 3) := by decide +kernel
theorem dX4_digest_97 : decode cX4_digest 97 = .ok (.lstore_n 1, 1) := by decide +kernel
theorem dX4_digest_98 : decode cX4_digest 98 = .ok (.iinc 3 1, 3) := by decide +kernel
theorem dX4_digest_101 : decode cX4_digest 101 = .ok (.goto (-65), 3) := by decide +kernel
theorem dX4_digest_104 : decode cX4_digest 104 = .ok (.iconst 0, 1) := by decide +kernel
theorem dX4_digest_105 : decode cX4_digest 105 = .ok (.istore_n 3, 1) := by decide +kernel
theorem dX4_digest_106 : decode cX4_digest 106 = .ok (.iload_n 3, 1) := by decide +kernel
theorem dX4_digest_107 : decode cX4_digest 107 = .ok (.aload_n 0, 1) := by decide +kernel
theorem dX4_digest_108 : decode cX4_digest 108 = .ok (.getfield 10, 3) := by decide +kernel
theorem dX4_digest_111 : decode cX4_digest 111 = .ok (.getfield 85, 3) := by decide +kernel
theorem dX4_digest_114 : decode cX4_digest 114 = .ok (.if_icmp .ge 43, 3) := by decide +kernel
theorem dX4_digest_117 : decode cX4_digest 117 = .ok (.iconst 0, 1) := by decide +kernel
theorem dX4_digest_118 : decode cX4_digest 118 = .ok (.istore 4, 2) := by decide +kernel
theorem dX4_digest_120 : decode cX4_digest 120 = .ok (.iload 4, 2) := by decide +kernel
theorem dX4_digest_122 : decode cX4_digest 122 = .ok (.bipush 7, 2) := by decide +kernel
theorem dX4_digest_124 : decode cX4_digest 124 = .ok (.if_icmp .ge 27, 3) := by decide +kernel
theorem dX4_digest_127 : decode cX4_digest 127 = .ok (.lload_n 1, 1) := by decide +kernel
theorem dX4_digest_128 : decode cX4_digest 128 = .ok (.ldc2_w 175, 3) := by decide +kernel
theorem dX4_digest_131 : decode cX4_digest 131 = .ok (.lmul, 1) := by decide +kernel
theorem dX4_digest_132 : decode cX4_digest 132 = .ok (.aload_n 0, 1) := by decide +kernel
theorem dX4_digest_133 : decode cX4_digest 133 = .ok (.getfield 10, 3) := by decide +kernel
theorem dX4_digest_136 : decode cX4_digest 136 = .ok (.iload_n 3, 1) := by decide +kernel
theorem dX4_digest_137 : decode cX4_digest 137 = .ok (.iload 4, 2) := by decide +kernel
theorem dX4_digest_139 : decode cX4_digest 139 = .ok (.invokevirtual 124, 3) := by decide +kernel
theorem dX4_digest_142 : decode cX4_digest 142 = .ok (.i2l, 1) := by decide +kernel
theorem dX4_digest_143 : decode cX4_digest 143 = .ok (.ladd, 1) := by decide +kernel
theorem dX4_digest_144 : decode cX4_digest 144 = .ok (.lstore_n 1, 1) := by decide +kernel
theorem dX4_digest_145 : decode cX4_digest 145 = .ok (.iinc 4 1, 3) := by decide +kernel
theorem dX4_digest_148 : decode cX4_digest 148 = .ok (.goto (-28), 3) := by decide +kernel
theorem dX4_digest_151 : decode cX4_digest 151 = .ok (.iinc 3 1, 3) := by decide +kernel
theorem dX4_digest_154 : decode cX4_digest 154 = .ok (.goto (-48), 3) := by decide +kernel
theorem dX4_digest_157 : decode cX4_digest 157 = .ok (.lload_n 1, 1) := by decide +kernel
theorem dX4_digest_158 : decode cX4_digest 158 = .ok (.lreturn, 1) := by decide +kernel
theorem dX4_fallenWith_0 : decode cX4_fallenWith 0 = .ok (.aload_n 0, 1) := by decide +kernel
theorem dX4_fallenWith_1 : decode cX4_fallenWith 1 = .ok (.getfield 16, 3) := by decide +kernel
theorem dX4_fallenWith_4 : decode cX4_fallenWith 4 = .ok (.aload_n 0, 1) := by decide +kernel
theorem dX4_fallenWith_5 : decode cX4_fallenWith 5 = .ok (.getfield 10, 3) := by decide +kernel
theorem dX4_fallenWith_8 : decode cX4_fallenWith 8 = .ok (.invokevirtual 150, 3) := by decide +kernel
theorem dX4_fallenWith_11 : decode cX4_fallenWith 11 = .ok (.aload_n 0, 1) := by decide +kernel
theorem dX4_fallenWith_12 : decode cX4_fallenWith 12 = .ok (.getfield 16, 3) := by decide +kernel
theorem dX4_fallenWith_15 : decode cX4_fallenWith 15 = .ok (.getfield 50, 3) := by decide +kernel
theorem dX4_fallenWith_18 : decode cX4_fallenWith 18 = .ok (.iload_n 1, 1) := by decide +kernel
theorem dX4_fallenWith_19 : decode cX4_fallenWith 19 = .ok (.aaload, 1) := by decide +kernel
theorem dX4_fallenWith_20 : decode cX4_fallenWith 20 = .ok (.getfield 54, 3) := by decide +kernel
theorem dX4_fallenWith_23 : decode cX4_fallenWith 23 = .ok (.getfield 80, 3) := by decide +kernel
theorem dX4_fallenWith_26 : decode cX4_fallenWith 26 = .ok (.iload_n 2, 1) := by decide +kernel
theorem dX4_fallenWith_27 : decode cX4_fallenWith 27 = .ok (.iload_n 3, 1) := by decide +kernel
theorem dX4_fallenWith_28 : decode cX4_fallenWith 28 = .ok (.iastore, 1) := by decide +kernel
theorem dX4_fallenWith_29 : decode cX4_fallenWith 29 = .ok (.aload_n 0, 1) := by decide +kernel
theorem dX4_fallenWith_30 : decode cX4_fallenWith 30 = .ok (.getfield 16, 3) := by decide +kernel
theorem dX4_fallenWith_33 : decode cX4_fallenWith 33 = .ok (.iload 4, 2) := by decide +kernel
theorem dX4_fallenWith_35 : decode cX4_fallenWith 35 = .ok (.invokevirtual 144, 3) := by decide +kernel
theorem dX4_fallenWith_38 : decode cX4_fallenWith 38 = .ok (.ireturn, 1) := by decide +kernel
theorem dX4_testJuggler_0 : decode cX4_testJuggler 0 = .ok (.aload_n 0, 1) := by decide +kernel
theorem dX4_testJuggler_1 : decode cX4_testJuggler 1 = .ok (.getfield 10, 3) := by decide +kernel
theorem dX4_testJuggler_4 : decode cX4_testJuggler 4 = .ok (.iload_n 1, 1) := by decide +kernel
theorem dX4_testJuggler_5 : decode cX4_testJuggler 5 = .ok (.invokevirtual 181, 3) := by decide +kernel
theorem dX4_testJuggler_8 : decode cX4_testJuggler 8 = .ok (.ifCond .ne 13, 3) := by decide +kernel
theorem dX4_testJuggler_11 : decode cX4_testJuggler 11 = .ok (.new 96, 3) := by decide +kernel
theorem dX4_testJuggler_14 : decode cX4_testJuggler 14 = .ok (.dup, 1) := by decide +kernel
theorem dX4_testJuggler_15 : decode cX4_testJuggler 15 = .ok (.ldc 185, 2) := by decide +kernel
theorem dX4_testJuggler_17 : decode cX4_testJuggler 17 = .ok (.invokespecial 100, 3) := by decide +kernel
theorem dX4_testJuggler_20 : decode cX4_testJuggler 20 = .ok (.athrow, 1) := by decide +kernel
theorem dX4_testJuggler_21 : decode cX4_testJuggler 21 = .ok (.return_, 1) := by decide +kernel
theorem dX4_testPlace_0 : decode cX4_testPlace 0 = .ok (.aload_n 0, 1) := by decide +kernel
theorem dX4_testPlace_1 : decode cX4_testPlace 1 = .ok (.iload_n 1, 1) := by decide +kernel
theorem dX4_testPlace_2 : decode cX4_testPlace 2 = .ok (.invokevirtual 39, 3) := by decide +kernel
theorem dX4_testPlace_5 : decode cX4_testPlace 5 = .ok (.iload_n 2, 1) := by decide +kernel
theorem dX4_testPlace_6 : decode cX4_testPlace 6 = .ok (.ifCond .lt 22, 3) := by decide +kernel
theorem dX4_testPlace_9 : decode cX4_testPlace 9 = .ok (.iload_n 2, 1) := by decide +kernel
theorem dX4_testPlace_10 : decode cX4_testPlace 10 = .ok (.aload_n 0, 1) := by decide +kernel
theorem dX4_testPlace_11 : decode cX4_testPlace 11 = .ok (.getfield 10, 3) := by decide +kernel
theorem dX4_testPlace_14 : decode cX4_testPlace 14 = .ok (.getfield 50, 3) := by decide +kernel
theorem dX4_testPlace_17 : decode cX4_testPlace 17 = .ok (.iload_n 1, 1) := by decide +kernel
theorem dX4_testPlace_18 : decode cX4_testPlace 18 = .ok (.aaload, 1) := by decide +kernel
theorem dX4_testPlace_19 : decode cX4_testPlace 19 = .ok (.getfield 54, 3) := by decide +kernel
theorem dX4_testPlace_22 : decode cX4_testPlace 22 = .ok (.getfield 60, 3) := by decide +kernel
theorem dX4_testPlace_25 : decode cX4_testPlace 25 = .ok (.if_icmp .lt 13, 3) := by decide +kernel
theorem dX4_testPlace_28 : decode cX4_testPlace 28 = .ok (.new 96, 3) := by decide +kernel
theorem dX4_testPlace_31 : decode cX4_testPlace 31 = .ok (.dup, 1) := by decide +kernel
theorem dX4_testPlace_32 : decode cX4_testPlace 32 = .ok (.ldc 187, 2) := by decide +kernel
theorem dX4_testPlace_34 : decode cX4_testPlace 34 = .ok (.invokespecial 100, 3) := by decide +kernel
theorem dX4_testPlace_37 : decode cX4_testPlace 37 = .ok (.athrow, 1) := by decide +kernel
theorem dX4_testPlace_38 : decode cX4_testPlace 38 = .ok (.return_, 1) := by decide +kernel
theorem dX4_testThing_0 : decode cX4_testThing 0 = .ok (.aload_n 0, 1) := by decide +kernel
theorem dX4_testThing_1 : decode cX4_testThing 1 = .ok (.getfield 10, 3) := by decide +kernel
theorem dX4_testThing_4 : decode cX4_testThing 4 = .ok (.iload_n 1, 1) := by decide +kernel
theorem dX4_testThing_5 : decode cX4_testThing 5 = .ok (.invokevirtual 189, 3) := by decide +kernel
theorem dX4_testThing_8 : decode cX4_testThing 8 = .ok (.ifCond .ne 13, 3) := by decide +kernel
theorem dX4_testThing_11 : decode cX4_testThing 11 = .ok (.new 96, 3) := by decide +kernel
theorem dX4_testThing_14 : decode cX4_testThing 14 = .ok (.dup, 1) := by decide +kernel
theorem dX4_testThing_15 : decode cX4_testThing 15 = .ok (.ldc 192, 2) := by decide +kernel
theorem dX4_testThing_17 : decode cX4_testThing 17 = .ok (.invokespecial 100, 3) := by decide +kernel
theorem dX4_testThing_20 : decode cX4_testThing 20 = .ok (.athrow, 1) := by decide +kernel
theorem dX4_testThing_21 : decode cX4_testThing 21 = .ok (.return_, 1) := by decide +kernel
theorem dX4_testWhat_0 : decode cX4_testWhat 0 = .ok (.iload_n 0, 1) := by decide +kernel
theorem dX4_testWhat_1 : decode cX4_testWhat 1 = .ok (.ifCond .lt 8, 3) := by decide +kernel
theorem dX4_testWhat_4 : decode cX4_testWhat 4 = .ok (.iload_n 0, 1) := by decide +kernel
theorem dX4_testWhat_5 : decode cX4_testWhat 5 = .ok (.iload_n 1, 1) := by decide +kernel
theorem dX4_testWhat_6 : decode cX4_testWhat 6 = .ok (.if_icmp .lt 13, 3) := by decide +kernel
theorem dX4_testWhat_9 : decode cX4_testWhat 9 = .ok (.new 96, 3) := by decide +kernel
theorem dX4_testWhat_12 : decode cX4_testWhat 12 = .ok (.dup, 1) := by decide +kernel
theorem dX4_testWhat_13 : decode cX4_testWhat 13 = .ok (.ldc 194, 2) := by decide +kernel
theorem dX4_testWhat_15 : decode cX4_testWhat 15 = .ok (.invokespecial 100, 3) := by decide +kernel
theorem dX4_testWhat_18 : decode cX4_testWhat 18 = .ok (.athrow, 1) := by decide +kernel
theorem dX4_testWhat_19 : decode cX4_testWhat 19 = .ok (.return_, 1) := by decide +kernel
theorem dX4_testBeats_0 : decode cX4_testBeats 0 = .ok (.iload_n 0, 1) := by decide +kernel
theorem dX4_testBeats_1 : decode cX4_testBeats 1 = .ok (.iconst 1, 1) := by decide +kernel
theorem dX4_testBeats_2 : decode cX4_testBeats 2 = .ok (.if_icmp .lt 8, 3) := by decide +kernel
theorem dX4_testBeats_5 : decode cX4_testBeats 5 = .ok (.iload_n 0, 1) := by decide +kernel
theorem dX4_testBeats_6 : decode cX4_testBeats 6 = .ok (.iload_n 1, 1) := by decide +kernel
theorem dX4_testBeats_7 : decode cX4_testBeats 7 = .ok (.if_icmp .le 13, 3) := by decide +kernel
theorem dX4_testBeats_10 : decode cX4_testBeats 10 = .ok (.new 19, 3) := by decide +kernel
theorem dX4_testBeats_13 : decode cX4_testBeats 13 = .ok (.dup, 1) := by decide +kernel
theorem dX4_testBeats_14 : decode cX4_testBeats 14 = .ok (.ldc 196, 2) := by decide +kernel
theorem dX4_testBeats_16 : decode cX4_testBeats 16 = .ok (.invokespecial 23, 3) := by decide +kernel
theorem dX4_testBeats_19 : decode cX4_testBeats 19 = .ok (.athrow, 1) := by decide +kernel
theorem dX4_testBeats_20 : decode cX4_testBeats 20 = .ok (.return_, 1) := by decide +kernel
theorem dX4_powerOfTen_0 : decode cX4_powerOfTen 0 = .ok (.iconst 1, 1) := by decide +kernel
theorem dX4_powerOfTen_1 : decode cX4_powerOfTen 1 = .ok (.istore_n 1, 1) := by decide +kernel
theorem dX4_powerOfTen_2 : decode cX4_powerOfTen 2 = .ok (.iconst 0, 1) := by decide +kernel
theorem dX4_powerOfTen_3 : decode cX4_powerOfTen 3 = .ok (.istore_n 2, 1) := by decide +kernel
theorem dX4_powerOfTen_4 : decode cX4_powerOfTen 4 = .ok (.iload_n 2, 1) := by decide +kernel
theorem dX4_powerOfTen_5 : decode cX4_powerOfTen 5 = .ok (.iload_n 0, 1) := by decide +kernel
theorem dX4_powerOfTen_6 : decode cX4_powerOfTen 6 = .ok (.if_icmp .ge 14, 3) := by decide +kernel
theorem dX4_powerOfTen_9 : decode cX4_powerOfTen 9 = .ok (.iload_n 1, 1) := by decide +kernel
theorem dX4_powerOfTen_10 : decode cX4_powerOfTen 10 = .ok (.bipush 10, 2) := by decide +kernel
theorem dX4_powerOfTen_12 : decode cX4_powerOfTen 12 = .ok (.imul, 1) := by decide +kernel
theorem dX4_powerOfTen_13 : decode cX4_powerOfTen 13 = .ok (.istore_n 1, 1) := by decide +kernel
theorem dX4_powerOfTen_14 : decode cX4_powerOfTen 14 = .ok (.iinc 2 1, 3) := by decide +kernel
theorem dX4_powerOfTen_17 : decode cX4_powerOfTen 17 = .ok (.goto (-13), 3) := by decide +kernel
theorem dX4_powerOfTen_20 : decode cX4_powerOfTen 20 = .ok (.iload_n 1, 1) := by decide +kernel
theorem dX4_powerOfTen_21 : decode cX4_powerOfTen 21 = .ok (.ireturn, 1) := by decide +kernel
