theorem dX5_init_0 : decode cX5_init 0 = .ok (.aload_n 0, 1) := by decide +kernel
theorem dX5_init_1 : decode cX5_init 1 = .ok (.aload_n 1, 1) := by decide +kernel
theorem dX5_init_2 : decode cX5_init 2 = .ok (.putfield 3, 3) := by decide +kernel
theorem dX5_init_5 : decode cX5_init 5 = .ok (.aload_n 0, 1) := by decide +kernel
theorem dX5_init_6 : decode cX5_init 6 = .ok (.invokespecial 9, 3) := by decide +kernel
theorem dX5_init_9 : decode cX5_init 9 = .ok (.aload_n 0, 1) := by decide +kernel
theorem dX5_init_10 : decode cX5_init 10 = .ok (.iconst 4, 1) := by decide +kernel
theorem dX5_init_11 : decode cX5_init 11 = .ok (.newarray .int, 2) := by decide +kernel
theorem dX5_init_13 : decode cX5_init 13 = .ok (.putfield 15, 3) := by decide +kernel
theorem dX5_init_16 : decode cX5_init 16 = .ok (.aload_n 0, 1) := by decide +kernel
theorem dX5_init_17 : decode cX5_init 17 = .ok (.iconst 4, 1) := by decide +kernel
theorem dX5_init_18 : decode cX5_init 18 = .ok (.newarray .int, 2) := by decide +kernel
theorem dX5_init_20 : decode cX5_init 20 = .ok (.putfield 19, 3) := by decide +kernel
theorem dX5_init_23 : decode cX5_init 23 = .ok (.aload_n 0, 1) := by decide +kernel
theorem dX5_init_24 : decode cX5_init 24 = .ok (.bipush 8, 2) := by decide +kernel
theorem dX5_init_26 : decode cX5_init 26 = .ok (.newarray .int, 2) := by decide +kernel
theorem dX5_init_28 : decode cX5_init 28 = .ok (.putfield 22, 3) := by decide +kernel
theorem dX5_init_31 : decode cX5_init 31 = .ok (.aload_n 0, 1) := by decide +kernel
theorem dX5_init_32 : decode cX5_init 32 = .ok (.bipush 12, 2) := by decide +kernel
theorem dX5_init_34 : decode cX5_init 34 = .ok (.newarray .int, 2) := by decide +kernel
theorem dX5_init_36 : decode cX5_init 36 = .ok (.putfield 25, 3) := by decide +kernel
theorem dX5_init_39 : decode cX5_init 39 = .ok (.aload_n 0, 1) := by decide +kernel
theorem dX5_init_40 : decode cX5_init 40 = .ok (.bipush 12, 2) := by decide +kernel
theorem dX5_init_42 : decode cX5_init 42 = .ok (.newarray .int, 2) := by decide +kernel
theorem dX5_init_44 : decode cX5_init 44 = .ok (.putfield 28, 3) := by decide +kernel
theorem dX5_init_47 : decode cX5_init 47 = .ok (.aload_n 0, 1) := by decide +kernel
theorem dX5_init_48 : decode cX5_init 48 = .ok (.bipush 12, 2) := by decide +kernel
theorem dX5_init_50 : decode cX5_init 50 = .ok (.newarray .int, 2) := by decide +kernel
theorem dX5_init_52 : decode cX5_init 52 = .ok (.putfield 31, 3) := by decide +kernel
theorem dX5_init_55 : decode cX5_init 55 = .ok (.aload_n 0, 1) := by decide +kernel
theorem dX5_init_56 : decode cX5_init 56 = .ok (.bipush 12, 2) := by decide +kernel
theorem dX5_init_58 : decode cX5_init 58 = .ok (.newarray .int, 2) := by decide +kernel
theorem dX5_init_60 : decode cX5_init 60 = .ok (.putfield 34, 3) := by decide +kernel
theorem dX5_init_63 : decode cX5_init 63 = .ok (.aload_n 0, 1) := by decide +kernel
theorem dX5_init_64 : decode cX5_init 64 = .ok (.bipush 12, 2) := by decide +kernel
theorem dX5_init_66 : decode cX5_init 66 = .ok (.newarray .int, 2) := by decide +kernel
theorem dX5_init_68 : decode cX5_init 68 = .ok (.putfield 37, 3) := by decide +kernel
theorem dX5_init_71 : decode cX5_init 71 = .ok (.aload_n 0, 1) := by decide +kernel
theorem dX5_init_72 : decode cX5_init 72 = .ok (.bipush 12, 2) := by decide +kernel
theorem dX5_init_74 : decode cX5_init 74 = .ok (.newarray .int, 2) := by decide +kernel
theorem dX5_init_76 : decode cX5_init 76 = .ok (.putfield 40, 3) := by decide +kernel
theorem dX5_init_79 : decode cX5_init 79 = .ok (.return_, 1) := by decide +kernel
theorem dX5_copy_0 : decode cX5_copy 0 = .ok (.aload_n 1, 1) := by decide +kernel
theorem dX5_copy_1 : decode cX5_copy 1 = .ok (.iconst 0, 1) := by decide +kernel
theorem dX5_copy_2 : decode cX5_copy 2 = .ok (.aload_n 2, 1) := by decide +kernel
theorem dX5_copy_3 : decode cX5_copy 3 = .ok (.iconst 0, 1) := by decide +kernel
theorem dX5_copy_4 : decode cX5_copy 4 = .ok (.aload_n 1, 1) := by decide +kernel
theorem dX5_copy_5 : decode cX5_copy 5 = .ok (.arraylength, 1) := by decide +kernel
theorem dX5_copy_6 : decode cX5_copy 6 = .ok (.invokestatic 43, 3) := by decide +kernel
theorem dX5_copy_9 : decode cX5_copy 9 = .ok (.return_, 1) := by decide +kernel
theorem dX5_become_0 : decode cX5_become 0 = .ok (.aload_n 0, 1) := by decide +kernel
theorem dX5_become_1 : decode cX5_become 1 = .ok (.aload_n 1, 1) := by decide +kernel
theorem dX5_become_2 : decode cX5_become 2 = .ok (.getfield 49, 3) := by decide +kernel
theorem dX5_become_5 : decode cX5_become 5 = .ok (.putfield 49, 3) := by decide +kernel
theorem dX5_become_8 : decode cX5_become 8 = .ok (.aload_n 0, 1) := by decide +kernel
theorem dX5_become_9 : decode cX5_become 9 = .ok (.aload_n 1, 1) := by decide +kernel
theorem dX5_become_10 : decode cX5_become 10 = .ok (.getfield 15, 3) := by decide +kernel
theorem dX5_become_13 : decode cX5_become 13 = .ok (.aload_n 0, 1) := by decide +kernel
theorem dX5_become_14 : decode cX5_become 14 = .ok (.getfield 15, 3) := by decide +kernel
theorem dX5_become_17 : decode cX5_become 17 = .ok (.invokevirtual 53, 3) := by decide +kernel
theorem dX5_become_20 : decode cX5_become 20 = .ok (.aload_n 0, 1) := by decide +kernel
theorem dX5_become_21 : decode cX5_become 21 = .ok (.aload_n 1, 1) := by decide +kernel
theorem dX5_become_22 : decode cX5_become 22 = .ok (.getfield 19, 3) := by decide +kernel
theorem dX5_become_25 : decode cX5_become 25 = .ok (.aload_n 0, 1) := by decide +kernel
theorem dX5_become_26 : decode cX5_become 26 = .ok (.getfield 19, 3) := by decide +kernel
theorem dX5_become_29 : decode cX5_become 29 = .ok (.invokevirtual 53, 3) := by decide +kernel
theorem dX5_become_32 : decode cX5_become 32 = .ok (.aload_n 0, 1) := by decide +kernel
theorem dX5_become_33 : decode cX5_become 33 = .ok (.aload_n 1, 1) := by decide +kernel
theorem dX5_become_34 : decode cX5_become 34 = .ok (.getfield 22, 3) := by decide +kernel
theorem dX5_become_37 : decode cX5_become 37 = .ok (.aload_n 0, 1) := by decide +kernel
theorem dX5_become_38 : decode cX5_become 38 = .ok (.getfield 22, 3) := by decide +kernel
theorem dX5_become_41 : decode cX5_become 41 = .ok (.invokevirtual 53, 3) := by decide +kernel
theorem dX5_become_44 : decode cX5_become 44 = .ok (.aload_n 0, 1) := by decide +kernel
theorem dX5_become_45 : decode cX5_become 45 = .ok (.aload_n 1, 1) := by decide +kernel
theorem dX5_become_46 : decode cX5_become 46 = .ok (.getfield 25, 3) := by decide +kernel
theorem dX5_become_49 : decode cX5_become 49 = .ok (.aload_n 0, 1) := by decide +kernel
theorem dX5_become_50 : decode cX5_become 50 = .ok (.getfield 25, 3) := by decide +kernel
theorem dX5_become_53 : decode cX5_become 53 = .ok (.invokevirtual 53, 3) := by decide +kernel
theorem dX5_become_56 : decode cX5_become 56 = .ok (.aload_n 0, 1) := by decide +kernel
theorem dX5_become_57 : decode cX5_become 57 = .ok (.aload_n 1, 1) := by decide +kernel
theorem dX5_become_58 : decode cX5_become 58 = .ok (.getfield 28, 3) := by decide +kernel
theorem dX5_become_61 : decode cX5_become 61 = .ok (.aload_n 0, 1) := by decide +kernel
theorem dX5_become_62 : decode cX5_become 62 = .ok (.getfield 28, 3) := by decide +kernel
theorem dX5_become_65 : decode cX5_become 65 = .ok (.invokevirtual 53, 3) := by decide +kernel
theorem dX5_become_68 : decode cX5_become 68 = .ok (.aload_n 0, 1) := by decide +kernel
theorem dX5_become_69 : decode cX5_become 69 = .ok (.aload_n 1, 1) := by decide +kernel
theorem dX5_become_70 : decode cX5_become 70 = .ok (.getfield 31, 3) := by decide +kernel
theorem dX5_become_73 : decode cX5_become 73 = .ok (.aload_n 0, 1) := by decide +kernel
theorem dX5_become_74 : decode cX5_become 74 = .ok (.getfield 31, 3) := by decide +kernel
theorem dX5_become_77 : decode cX5_become 77 = .ok (.invokevirtual 53, 3) := by decide +kernel
theorem dX5_become_80 : decode cX5_become 80 = .ok (.aload_n 0, 1) := by decide +kernel
theorem dX5_become_81 : decode cX5_become 81 = .ok (.aload_n 1, 1) := by decide +kernel
theorem dX5_become_82 : decode cX5_become 82 = .ok (.getfield 34, 3) := by decide +kernel
theorem dX5_become_85 : decode cX5_become 85 = .ok (.aload_n 0, 1) := by decide +kernel
theorem dX5_become_86 : decode cX5_become 86 = .ok (.getfield 34, 3) := by decide +kernel
theorem dX5_become_89 : decode cX5_become 89 = .ok (.invokevirtual 53, 3) := by decide +kernel
theorem dX5_become_92 : decode cX5_become 92 = .ok (.aload_n 0, 1) := by decide +kernel
theorem dX5_become_93 : decode cX5_become 93 = .ok (.aload_n 1, 1) := by decide +kernel
theorem dX5_become_94 : decode cX5_become 94 = .ok (.getfield 37, 3) := by decide +kernel
theorem dX5_become_97 : decode cX5_become 97 = .ok (.aload_n 0, 1) := by decide +kernel
theorem dX5_become_98 : decode cX5_become 98 = .ok (.getfield 37, 3) := by decide +kernel
theorem dX5_become_101 : decode cX5_become 101 = .ok (.invokevirtual 53, 3) := by decide +kernel
theorem dX5_become_104 : decode cX5_become 104 = .ok (.aload_n 0, 1) := by decide +kernel
theorem dX5_become_105 : decode cX5_become 105 = .ok (.aload_n 1, 1) := by decide +kernel
theorem dX5_become_106 : decode cX5_become 106 = .ok (.getfield 40, 3) := by decide +kernel
theorem dX5_become_109 : decode cX5_become 109 = .ok (.aload_n 0, 1) := by decide +kernel
theorem dX5_become_110 : decode cX5_become 110 = .ok (.getfield 40, 3) := by decide +kernel
theorem dX5_become_113 : decode cX5_become 113 = .ok (.invokevirtual 53, 3) := by decide +kernel
theorem dX5_become_116 : decode cX5_become 116 = .ok (.return_, 1) := by decide +kernel
theorem dX5_comeDown_0 : decode cX5_comeDown 0 = .ok (.aload_n 0, 1) := by decide +kernel
theorem dX5_comeDown_1 : decode cX5_comeDown 1 = .ok (.getfield 28, 3) := by decide +kernel
theorem dX5_comeDown_4 : decode cX5_comeDown 4 = .ok (.iload_n 1, 1) := by decide +kernel
theorem dX5_comeDown_5 : decode cX5_comeDown 5 = .ok (.iaload, 1) := by decide +kernel
theorem dX5_comeDown_6 : decode cX5_comeDown 6 = .ok (.istore_n 2, 1) := by decide +kernel
theorem dX5_comeDown_7 : decode cX5_comeDown 7 = .ok (.iconst 2, 1) := by decide +kernel
theorem dX5_comeDown_8 : decode cX5_comeDown 8 = .ok (.iload_n 2, 1) := by decide +kernel
theorem dX5_comeDown_9 : decode cX5_comeDown 9 = .ok (.imul, 1) := by decide +kernel
theorem dX5_comeDown_10 : decode cX5_comeDown 10 = .ok (.aload_n 0, 1) := by decide +kernel
theorem dX5_comeDown_11 : decode cX5_comeDown 11 = .ok (.getfield 49, 3) := by decide +kernel
theorem dX5_comeDown_14 : decode cX5_comeDown 14 = .ok (.iconst 2, 1) := by decide +kernel
theorem dX5_comeDown_15 : decode cX5_comeDown 15 = .ok (.irem, 1) := by decide +kernel
theorem dX5_comeDown_16 : decode cX5_comeDown 16 = .ok (.iadd, 1) := by decide +kernel
theorem dX5_comeDown_17 : decode cX5_comeDown 17 = .ok (.istore_n 3, 1) := by decide +kernel
theorem dX5_comeDown_18 : decode cX5_comeDown 18 = .ok (.aload_n 0, 1) := by decide +kernel
theorem dX5_comeDown_19 : decode cX5_comeDown 19 = .ok (.getfield 22, 3) := by decide +kernel
theorem dX5_comeDown_22 : decode cX5_comeDown 22 = .ok (.iload_n 3, 1) := by decide +kernel
theorem dX5_comeDown_23 : decode cX5_comeDown 23 = .ok (.iaload, 1) := by decide +kernel
theorem dX5_comeDown_24 : decode cX5_comeDown 24 = .ok (.ifCond .ne 50, 3) := by decide +kernel
theorem dX5_comeDown_27 : decode cX5_comeDown 27 = .ok (.aload_n 0, 1) := by decide +kernel
theorem dX5_comeDown_28 : decode cX5_comeDown 28 = .ok (.getfield 34, 3) := by decide +kernel
theorem dX5_comeDown_31 : decode cX5_comeDown 31 = .ok (.iload_n 1, 1) := by decide +kernel
theorem dX5_comeDown_32 : decode cX5_comeDown 32 = .ok (.iaload, 1) := by decide +kernel
theorem dX5_comeDown_33 : decode cX5_comeDown 33 = .ok (.aload_n 0, 1) := by decide +kernel
theorem dX5_comeDown_34 : decode cX5_comeDown 34 = .ok (.getfield 3, 3) := by decide +kernel
theorem dX5_comeDown_37 : decode cX5_comeDown 37 = .ok (.getfield 57, 3) := by decide +kernel
theorem dX5_comeDown_40 : decode cX5_comeDown 40 = .ok (.iload_n 2, 1) := by decide +kernel
theorem dX5_comeDown_41 : decode cX5_comeDown 41 = .ok (.iaload, 1) := by decide +kernel
theorem dX5_comeDown_42 : decode cX5_comeDown 42 = .ok (.iconst 2, 1) := by decide +kernel
theorem dX5_comeDown_43 : decode cX5_comeDown 43 = .ok (.iadd, 1) := by decide +kernel
theorem dX5_comeDown_44 : decode cX5_comeDown 44 = .ok (.if_icmp .gt 30, 3) := by decide +kernel
theorem dX5_comeDown_47 : decode cX5_comeDown 47 = .ok (.aload_n 0, 1) := by decide +kernel
theorem dX5_comeDown_48 : decode cX5_comeDown 48 = .ok (.getfield 22, 3) := by decide +kernel
theorem dX5_comeDown_51 : decode cX5_comeDown 51 = .ok (.iload_n 3, 1) := by decide +kernel
theorem dX5_comeDown_52 : decode cX5_comeDown 52 = .ok (.iload_n 1, 1) := by decide +kernel
theorem dX5_comeDown_53 : decode cX5_comeDown 53 = .ok (.iconst 1, 1) := by decide +kernel
theorem dX5_comeDown_54 : decode cX5_comeDown 54 = .ok (.iadd, 1) := by decide +kernel
theorem dX5_comeDown_55 : decode cX5_comeDown 55 = .ok (.iastore, 1) := by decide +kernel
theorem dX5_comeDown_56 : decode cX5_comeDown 56 = .ok (.aload_n 0, 1) := by decide +kernel
theorem dX5_comeDown_57 : decode cX5_comeDown 57 = .ok (.getfield 25, 3) := by decide +kernel
theorem dX5_comeDown_60 : decode cX5_comeDown 60 = .ok (.iload_n 1, 1) := by decide +kernel
theorem dX5_comeDown_61 : decode cX5_comeDown 61 = .ok (.iconst 1, 1) := by decide +kernel
theorem dX5_comeDown_62 : decode cX5_comeDown 62 = .ok (.iastore, 1) := by decide +kernel
theorem dX5_comeDown_63 : decode cX5_comeDown 63 = .ok (.aload_n 0, 1) := by decide +kernel
theorem dX5_comeDown_64 : decode cX5_comeDown 64 = .ok (.getfield 19, 3) := by decide +kernel
theorem dX5_comeDown_67 : decode cX5_comeDown 67 = .ok (.iload_n 2, 1) := by decide +kernel
theorem dX5_comeDown_68 : decode cX5_comeDown 68 = .ok (.dup2, 1) := by decide +kernel
theorem dX5_comeDown_69 : decode cX5_comeDown 69 = .ok (.iaload, 1) := by decide +kernel
theorem dX5_comeDown_70 : decode cX5_comeDown 70 = .ok (.iconst 1, 1) := by decide +kernel
theorem dX5_comeDown_71 : decode cX5_comeDown 71 = .ok (.iadd, 1) := by decide +kernel
theorem dX5_comeDown_72 : decode cX5_comeDown 72 = .ok (.iastore, 1) := by decide +kernel
theorem dX5_comeDown_73 : decode cX5_comeDown 73 = .ok (.return_, 1) := by decide +kernel
theorem dX5_comeDown_74 : decode cX5_comeDown 74 = .ok (.aload_n 0, 1) := by decide +kernel
theorem dX5_comeDown_75 : decode cX5_comeDown 75 = .ok (.getfield 40, 3) := by decide +kernel
theorem dX5_comeDown_78 : decode cX5_comeDown 78 = .ok (.iload_n 1, 1) := by decide +kernel
theorem dX5_comeDown_79 : decode cX5_comeDown 79 = .ok (.dup2, 1) := by decide +kernel
theorem dX5_comeDown_80 : decode cX5_comeDown 80 = .ok (.iaload, 1) := by decide +kernel
theorem dX5_comeDown_81 : decode cX5_comeDown 81 = .ok (.iconst 1, 1) := by decide +kernel
theorem dX5_comeDown_82 : decode cX5_comeDown 82 = .ok (.iadd, 1) := by decide +kernel
theorem dX5_comeDown_83 : decode cX5_comeDown 83 = .ok (.iastore, 1) := by decide +kernel
theorem dX5_comeDown_84 : decode cX5_comeDown 84 = .ok (.aload_n 0, 1) := by decide +kernel
theorem dX5_comeDown_85 : decode cX5_comeDown 85 = .ok (.getfield 25, 3) := by decide +kernel
theorem dX5_comeDown_88 : decode cX5_comeDown 88 = .ok (.iload_n 1, 1) := by decide +kernel
theorem dX5_comeDown_89 : decode cX5_comeDown 89 = .ok (.aload_n 0, 1) := by decide +kernel
theorem dX5_comeDown_90 : decode cX5_comeDown 90 = .ok (.getfield 3, 3) := by decide +kernel
theorem dX5_comeDown_93 : decode cX5_comeDown 93 = .ok (.getfield 60, 3) := by decide +kernel
theorem dX5_comeDown_96 : decode cX5_comeDown 96 = .ok (.iload_n 1, 1) := by decide +kernel
theorem dX5_comeDown_97 : decode cX5_comeDown 97 = .ok (.iaload, 1) := by decide +kernel
theorem dX5_comeDown_98 : decode cX5_comeDown 98 = .ok (.iconst 2, 1) := by decide +kernel
theorem dX5_comeDown_99 : decode cX5_comeDown 99 = .ok (.if_icmp .ne 7, 3) := by decide +kernel
theorem dX5_comeDown_102 : decode cX5_comeDown 102 = .ok (.iconst 3, 1) := by decide +kernel
theorem dX5_comeDown_103 : decode cX5_comeDown 103 = .ok (.goto 4, 3) := by decide +kernel
theorem dX5_comeDown_106 : decode cX5_comeDown 106 = .ok (.iconst 0, 1) := by decide +kernel
theorem dX5_comeDown_107 : decode cX5_comeDown 107 = .ok (.iastore, 1) := by decide +kernel
theorem dX5_comeDown_108 : decode cX5_comeDown 108 = .ok (.aload_n 0, 1) := by decide +kernel
theorem dX5_comeDown_109 : decode cX5_comeDown 109 = .ok (.getfield 3, 3) := by decide +kernel
theorem dX5_comeDown_112 : decode cX5_comeDown 112 = .ok (.getfield 60, 3) := by decide +kernel
theorem dX5_comeDown_115 : decode cX5_comeDown 115 = .ok (.iload_n 1, 1) := by decide +kernel
theorem dX5_comeDown_116 : decode cX5_comeDown 116 = .ok (.iaload, 1) := by decide +kernel
theorem dX5_comeDown_117 : decode cX5_comeDown 117 = .ok (.iconst 1, 1) := by decide +kernel
theorem dX5_comeDown_118 : decode cX5_comeDown 118 = .ok (.if_icmp .ne 13, 3) := by decide +kernel
theorem dX5_comeDown_121 : decode cX5_comeDown 121 = .ok (.aload_n 0, 1) := by decide +kernel
theorem dX5_comeDown_122 : decode cX5_comeDown 122 = .ok (.getfield 15, 3) := by decide +kernel
theorem dX5_comeDown_125 : decode cX5_comeDown 125 = .ok (.iload_n 2, 1) := by decide +kernel
theorem dX5_comeDown_126 : decode cX5_comeDown 126 = .ok (.dup2, 1) := by decide +kernel
theorem dX5_comeDown_127 : decode cX5_comeDown 127 = .ok (.iaload, 1) := by decide +kernel
theorem dX5_comeDown_128 : decode cX5_comeDown 128 = .ok (.iconst 1, 1) := by decide +kernel
theorem dX5_comeDown_129 : decode cX5_comeDown 129 = .ok (.iadd, 1) := by decide +kernel
theorem dX5_comeDown_130 : decode cX5_comeDown 130 = .ok (.iastore, 1) := by decide +kernel
theorem dX5_comeDown_131 : decode cX5_comeDown 131 = .ok (.return_, 1) := by decide +kernel
theorem dX5_throwFrom_0 : decode cX5_throwFrom 0 = .ok (.iconst 2, 1) := by decide +kernel
theorem dX5_throwFrom_1 : decode cX5_throwFrom 1 = .ok (.iload_n 1, 1) := by decide +kernel
theorem dX5_throwFrom_2 : decode cX5_throwFrom 2 = .ok (.imul, 1) := by decide +kernel
theorem dX5_throwFrom_3 : decode cX5_throwFrom 3 = .ok (.aload_n 0, 1) := by decide +kernel
theorem dX5_throwFrom_4 : decode cX5_throwFrom 4 = .ok (.getfield 49, 3) := by decide +kernel
theorem dX5_throwFrom_7 : decode cX5_throwFrom 7 = .ok (.iconst 2, 1) := by decide +kernel
theorem dX5_throwFrom_8 : decode cX5_throwFrom 8 = .ok (.irem, 1) := by decide +kernel
theorem dX5_throwFrom_9 : decode cX5_throwFrom 9 = .ok (.iadd, 1) := by decide +kernel
theorem dX5_throwFrom_10 : decode cX5_throwFrom 10 = .ok (.istore_n 2, 1) := by decide +kernel
theorem dX5_throwFrom_11 : decode cX5_throwFrom 11 = .ok (.bipush 8, 2) := by decide +kernel
theorem dX5_throwFrom_13 : decode cX5_throwFrom 13 = .ok (.iload_n 1, 1) := by decide +kernel
theorem dX5_throwFrom_14 : decode cX5_throwFrom 14 = .ok (.imul, 1) := by decide +kernel
theorem dX5_throwFrom_15 : decode cX5_throwFrom 15 = .ok (.aload_n 0, 1) := by decide +kernel
theorem dX5_throwFrom_16 : decode cX5_throwFrom 16 = .ok (.getfield 49, 3) := by decide +kernel
theorem dX5_throwFrom_19 : decode cX5_throwFrom 19 = .ok (.aload_n 0, 1) := by decide +kernel
theorem dX5_throwFrom_20 : decode cX5_throwFrom 20 = .ok (.getfield 3, 3) := by decide +kernel
theorem dX5_throwFrom_23 : decode cX5_throwFrom 23 = .ok (.getfield 63, 3) := by decide +kernel
theorem dX5_throwFrom_26 : decode cX5_throwFrom 26 = .ok (.iload_n 1, 1) := by decide +kernel
theorem dX5_throwFrom_27 : decode cX5_throwFrom 27 = .ok (.iaload, 1) := by decide +kernel
theorem dX5_throwFrom_28 : decode cX5_throwFrom 28 = .ok (.irem, 1) := by decide +kernel
theorem dX5_throwFrom_29 : decode cX5_throwFrom 29 = .ok (.iadd, 1) := by decide +kernel
theorem dX5_throwFrom_30 : decode cX5_throwFrom 30 = .ok (.istore_n 3, 1) := by decide +kernel
theorem dX5_throwFrom_31 : decode cX5_throwFrom 31 = .ok (.aload_n 0, 1) := by decide +kernel
theorem dX5_throwFrom_32 : decode cX5_throwFrom 32 = .ok (.getfield 22, 3) := by decide +kernel
theorem dX5_throwFrom_35 : decode cX5_throwFrom 35 = .ok (.iload_n 2, 1) := by decide +kernel
theorem dX5_throwFrom_36 : decode cX5_throwFrom 36 = .ok (.iaload, 1) := by decide +kernel
theorem dX5_throwFrom_37 : decode cX5_throwFrom 37 = .ok (.ifCond .eq 15, 3) := by decide +kernel
theorem dX5_throwFrom_40 : decode cX5_throwFrom 40 = .ok (.aload_n 0, 1) := by decide +kernel
theorem dX5_throwFrom_41 : decode cX5_throwFrom 41 = .ok (.getfield 3, 3) := by decide +kernel
theorem dX5_throwFrom_44 : decode cX5_throwFrom 44 = .ok (.getfield 66, 3) := by decide +kernel
theorem dX5_throwFrom_47 : decode cX5_throwFrom 47 = .ok (.iload_n 3, 1) := by decide +kernel
theorem dX5_throwFrom_48 : decode cX5_throwFrom 48 = .ok (.iaload, 1) := by decide +kernel
theorem dX5_throwFrom_49 : decode cX5_throwFrom 49 = .ok (.ifCond .ne 4, 3) := by decide +kernel
theorem dX5_throwFrom_52 : decode cX5_throwFrom 52 = .ok (.return_, 1) := by decide +kernel
theorem dX5_throwFrom_53 : decode cX5_throwFrom 53 = .ok (.aload_n 0, 1) := by decide +kernel
theorem dX5_throwFrom_54 : decode cX5_throwFrom 54 = .ok (.getfield 22, 3) := by decide +kernel
theorem dX5_throwFrom_57 : decode cX5_throwFrom 57 = .ok (.iload_n 2, 1) := by decide +kernel
theorem dX5_throwFrom_58 : decode cX5_throwFrom 58 = .ok (.iaload, 1) := by decide +kernel
theorem dX5_throwFrom_59 : decode cX5_throwFrom 59 = .ok (.iconst 1, 1) := by decide +kernel
theorem dX5_throwFrom_60 : decode cX5_throwFrom 60 = .ok (.isub, 1) := by decide +kernel
theorem dX5_throwFrom_61 : decode cX5_throwFrom 61 = .ok (.istore 4, 2) := by decide +kernel
theorem dX5_throwFrom_63 : decode cX5_throwFrom 63 = .ok (.aload_n 0, 1) := by decide +kernel
theorem dX5_throwFrom_64 : decode cX5_throwFrom 64 = .ok (.getfield 22, 3) := by decide +kernel
theorem dX5_throwFrom_67 : decode cX5_throwFrom 67 = .ok (.iload_n 2, 1) := by decide +kernel
theorem dX5_throwFrom_68 : decode cX5_throwFrom 68 = .ok (.iconst 0, 1) := by decide +kernel
theorem dX5_throwFrom_69 : decode cX5_throwFrom 69 = .ok (.iastore, 1) := by decide +kernel
theorem dX5_throwFrom_70 : decode cX5_throwFrom 70 = .ok (.aload_n 0, 1) := by decide +kernel
theorem dX5_throwFrom_71 : decode cX5_throwFrom 71 = .ok (.getfield 25, 3) := by decide +kernel
theorem dX5_throwFrom_74 : decode cX5_throwFrom 74 = .ok (.iload 4, 2) := by decide +kernel
theorem dX5_throwFrom_76 : decode cX5_throwFrom 76 = .ok (.iconst 2, 1) := by decide +kernel
theorem dX5_throwFrom_77 : decode cX5_throwFrom 77 = .ok (.iastore, 1) := by decide +kernel
theorem dX5_throwFrom_78 : decode cX5_throwFrom 78 = .ok (.aload_n 0, 1) := by decide +kernel
theorem dX5_throwFrom_79 : decode cX5_throwFrom 79 = .ok (.getfield 28, 3) := by decide +kernel
theorem dX5_throwFrom_82 : decode cX5_throwFrom 82 = .ok (.iload 4, 2) := by decide +kernel
theorem dX5_throwFrom_84 : decode cX5_throwFrom 84 = .ok (.aload_n 0, 1) := by decide +kernel
theorem dX5_throwFrom_85 : decode cX5_throwFrom 85 = .ok (.getfield 3, 3) := by decide +kernel
theorem dX5_throwFrom_88 : decode cX5_throwFrom 88 = .ok (.getfield 69, 3) := by decide +kernel
theorem dX5_throwFrom_91 : decode cX5_throwFrom 91 = .ok (.iload_n 3, 1) := by decide +kernel
theorem dX5_throwFrom_92 : decode cX5_throwFrom 92 = .ok (.iaload, 1) := by decide +kernel
theorem dX5_throwFrom_93 : decode cX5_throwFrom 93 = .ok (.iastore, 1) := by decide +kernel
theorem dX5_throwFrom_94 : decode cX5_throwFrom 94 = .ok (.aload_n 0, 1) := by decide +kernel
theorem dX5_throwFrom_95 : decode cX5_throwFrom 95 = .ok (.getfield 34, 3) := by decide +kernel
theorem dX5_throwFrom_98 : decode cX5_throwFrom 98 = .ok (.iload 4, 2) := by decide +kernel
theorem dX5_throwFrom_100 : decode cX5_throwFrom 100 = .ok (.aload_n 0, 1) := by decide +kernel
theorem dX5_throwFrom_101 : decode cX5_throwFrom 101 = .ok (.getfield 3, 3) := by decide +kernel
theorem dX5_throwFrom_104 : decode cX5_throwFrom 104 = .ok (.getfield 66, 3) := by decide +kernel
theorem dX5_throwFrom_107 : decode cX5_throwFrom 107 = .ok (.iload_n 3, 1) := by decide +kernel
theorem dX5_throwFrom_108 : decode cX5_throwFrom 108 = .ok (.iaload, 1) := by decide +kernel
theorem dX5_throwFrom_109 : decode cX5_throwFrom 109 = .ok (.iastore, 1) := by decide +kernel
theorem dX5_throwFrom_110 : decode cX5_throwFrom 110 = .ok (.aload_n 0, 1) := by decide +kernel
theorem dX5_throwFrom_111 : decode cX5_throwFrom 111 = .ok (.getfield 31, 3) := by decide +kernel
theorem dX5_throwFrom_114 : decode cX5_throwFrom 114 = .ok (.iload 4, 2) := by decide +kernel
theorem dX5_throwFrom_116 : decode cX5_throwFrom 116 = .ok (.aload_n 0, 1) := by decide +kernel
theorem dX5_throwFrom_117 : decode cX5_throwFrom 117 = .ok (.getfield 49, 3) := by decide +kernel
theorem dX5_throwFrom_120 : decode cX5_throwFrom 120 = .ok (.aload_n 0, 1) := by decide +kernel
theorem dX5_throwFrom_121 : decode cX5_throwFrom 121 = .ok (.getfield 3, 3) := by decide +kernel
theorem dX5_throwFrom_124 : decode cX5_throwFrom 124 = .ok (.getfield 60, 3) := by decide +kernel
theorem dX5_throwFrom_127 : decode cX5_throwFrom 127 = .ok (.iload 4, 2) := by decide +kernel
theorem dX5_throwFrom_129 : decode cX5_throwFrom 129 = .ok (.iaload, 1) := by decide +kernel
theorem dX5_throwFrom_130 : decode cX5_throwFrom 130 = .ok (.aload_n 0, 1) := by decide +kernel
theorem dX5_throwFrom_131 : decode cX5_throwFrom 131 = .ok (.getfield 3, 3) := by decide +kernel
theorem dX5_throwFrom_134 : decode cX5_throwFrom 134 = .ok (.getfield 66, 3) := by decide +kernel
theorem dX5_throwFrom_137 : decode cX5_throwFrom 137 = .ok (.iload_n 3, 1) := by decide +kernel
theorem dX5_throwFrom_138 : decode cX5_throwFrom 138 = .ok (.iaload, 1) := by decide +kernel
theorem dX5_throwFrom_139 : decode cX5_throwFrom 139 = .ok (.invokestatic 72, 3) := by decide +kernel
theorem dX5_throwFrom_142 : decode cX5_throwFrom 142 = .ok (.iadd, 1) := by decide +kernel
theorem dX5_throwFrom_143 : decode cX5_throwFrom 143 = .ok (.iastore, 1) := by decide +kernel
theorem dX5_throwFrom_144 : decode cX5_throwFrom 144 = .ok (.aload_n 0, 1) := by decide +kernel
theorem dX5_throwFrom_145 : decode cX5_throwFrom 145 = .ok (.getfield 37, 3) := by decide +kernel
theorem dX5_throwFrom_148 : decode cX5_throwFrom 148 = .ok (.iload 4, 2) := by decide +kernel
theorem dX5_throwFrom_150 : decode cX5_throwFrom 150 = .ok (.dup2, 1) := by decide +kernel
theorem dX5_throwFrom_151 : decode cX5_throwFrom 151 = .ok (.iaload, 1) := by decide +kernel
theorem dX5_throwFrom_152 : decode cX5_throwFrom 152 = .ok (.iconst 1, 1) := by decide +kernel
theorem dX5_throwFrom_153 : decode cX5_throwFrom 153 = .ok (.iadd, 1) := by decide +kernel
theorem dX5_throwFrom_154 : decode cX5_throwFrom 154 = .ok (.iastore, 1) := by decide +kernel
theorem dX5_throwFrom_155 : decode cX5_throwFrom 155 = .ok (.return_, 1) := by decide +kernel
theorem dX5_go_0 : decode cX5_go 0 = .ok (.iconst 0, 1) := by decide +kernel
theorem dX5_go_1 : decode cX5_go 1 = .ok (.istore_n 1, 1) := by decide +kernel
theorem dX5_go_2 : decode cX5_go 2 = .ok (.iload_n 1, 1) := by decide +kernel
theorem dX5_go_3 : decode cX5_go 3 = .ok (.aload_n 0, 1) := by decide +kernel
theorem dX5_go_4 : decode cX5_go 4 = .ok (.getfield 3, 3) := by decide +kernel
theorem dX5_go_7 : decode cX5_go 7 = .ok (.getfield 76, 3) := by decide +kernel
theorem dX5_go_10 : decode cX5_go 10 = .ok (.if_icmp .ge 37, 3) := by decide +kernel
theorem dX5_go_13 : decode cX5_go 13 = .ok (.aload_n 0, 1) := by decide +kernel
theorem dX5_go_14 : decode cX5_go 14 = .ok (.getfield 25, 3) := by decide +kernel
theorem dX5_go_17 : decode cX5_go 17 = .ok (.iload_n 1, 1) := by decide +kernel
theorem dX5_go_18 : decode cX5_go 18 = .ok (.iaload, 1) := by decide +kernel
theorem dX5_go_19 : decode cX5_go 19 = .ok (.iconst 2, 1) := by decide +kernel
theorem dX5_go_20 : decode cX5_go 20 = .ok (.if_icmp .ne 21, 3) := by decide +kernel
theorem dX5_go_23 : decode cX5_go 23 = .ok (.aload_n 0, 1) := by decide +kernel
theorem dX5_go_24 : decode cX5_go 24 = .ok (.getfield 31, 3) := by decide +kernel
theorem dX5_go_27 : decode cX5_go 27 = .ok (.iload_n 1, 1) := by decide +kernel
theorem dX5_go_28 : decode cX5_go 28 = .ok (.iaload, 1) := by decide +kernel
theorem dX5_go_29 : decode cX5_go 29 = .ok (.aload_n 0, 1) := by decide +kernel
theorem dX5_go_30 : decode cX5_go 30 = .ok (.getfield 49, 3) := by decide +kernel
theorem dX5_go_33 : decode cX5_go 33 = .ok (.if_icmp .ne 8, 3) := by decide +kernel
theorem dX5_go_36 : decode cX5_go 36 = .ok (.aload_n 0, 1) := by decide +kernel
theorem dX5_go_37 : decode cX5_go 37 = .ok (.iload_n 1, 1) := by decide +kernel
theorem dX5_go_38 : decode cX5_go 38 = .ok (.invokevirtual 79, 3) := by decide +kernel
theorem dX5_go_41 : decode cX5_go 41 = .ok (.iinc 1 1, 3) := by decide +kernel
theorem dX5_go_44 : decode cX5_go 44 = .ok (.goto (-42), 3) := by decide +kernel
theorem dX5_go_47 : decode cX5_go 47 = .ok (.iconst 0, 1) := by decide +kernel
theorem dX5_go_48 : decode cX5_go 48 = .ok (.istore_n 1, 1) := by decide +kernel
theorem dX5_go_49 : decode cX5_go 49 = .ok (.iload_n 1, 1) := by decide +kernel
theorem dX5_go_50 : decode cX5_go 50 = .ok (.aload_n 0, 1) := by decide +kernel
theorem dX5_go_51 : decode cX5_go 51 = .ok (.getfield 3, 3) := by decide +kernel
theorem dX5_go_54 : decode cX5_go 54 = .ok (.getfield 83, 3) := by decide +kernel
theorem dX5_go_57 : decode cX5_go 57 = .ok (.if_icmp .ge 14, 3) := by decide +kernel
theorem dX5_go_60 : decode cX5_go 60 = .ok (.aload_n 0, 1) := by decide +kernel
theorem dX5_go_61 : decode cX5_go 61 = .ok (.iload_n 1, 1) := by decide +kernel
theorem dX5_go_62 : decode cX5_go 62 = .ok (.invokevirtual 86, 3) := by decide +kernel
theorem dX5_go_65 : decode cX5_go 65 = .ok (.iinc 1 1, 3) := by decide +kernel
theorem dX5_go_68 : decode cX5_go 68 = .ok (.goto (-19), 3) := by decide +kernel
theorem dX5_go_71 : decode cX5_go 71 = .ok (.aload_n 0, 1) := by decide +kernel
theorem dX5_go_72 : decode cX5_go 72 = .ok (.dup, 1) := by decide +kernel
theorem dX5_go_73 : decode cX5_go 73 = .ok (.getfield 49, 3) := by decide +kernel
theorem dX5_go_76 : decode cX5_go 76 = .ok (.iconst 1, 1) := by decide +kernel
theorem dX5_go_77 : decode cX5_go 77 = .ok (.iadd, 1) := by decide +kernel
theorem dX5_go_78 : decode cX5_go 78 = .ok (.putfield 49, 3) := by decide +kernel
theorem dX5_go_81 : decode cX5_go 81 = .ok (.return_, 1) := by decide +kernel
theorem dX5_are_0 : decode cX5_are 0 = .ok (.iconst 0, 1) := by decide +kernel
theorem dX5_are_1 : decode cX5_are 1 = .ok (.istore_n 2, 1) := by decide +kernel
theorem dX5_are_2 : decode cX5_are 2 = .ok (.iconst 0, 1) := by decide +kernel
theorem dX5_are_3 : decode cX5_are 3 = .ok (.istore_n 3, 1) := by decide +kernel
theorem dX5_are_4 : decode cX5_are 4 = .ok (.iload_n 3, 1) := by decide +kernel
theorem dX5_are_5 : decode cX5_are 5 = .ok (.aload_n 0, 1) := by decide +kernel
theorem dX5_are_6 : decode cX5_are 6 = .ok (.getfield 3, 3) := by decide +kernel
theorem dX5_are_9 : decode cX5_are 9 = .ok (.getfield 76, 3) := by decide +kernel
theorem dX5_are_12 : decode cX5_are 12 = .ok (.if_icmp .ge 27, 3) := by decide +kernel
theorem dX5_are_15 : decode cX5_are 15 = .ok (.iload_n 2, 1) := by decide +kernel
theorem dX5_are_16 : decode cX5_are 16 = .ok (.aload_n 0, 1) := by decide +kernel
theorem dX5_are_17 : decode cX5_are 17 = .ok (.getfield 25, 3) := by decide +kernel
theorem dX5_are_20 : decode cX5_are 20 = .ok (.iload_n 3, 1) := by decide +kernel
theorem dX5_are_21 : decode cX5_are 21 = .ok (.iaload, 1) := by decide +kernel
theorem dX5_are_22 : decode cX5_are 22 = .ok (.iload_n 1, 1) := by decide +kernel
theorem dX5_are_23 : decode cX5_are 23 = .ok (.if_icmp .ne 7, 3) := by decide +kernel
theorem dX5_are_26 : decode cX5_are 26 = .ok (.iconst 1, 1) := by decide +kernel
theorem dX5_are_27 : decode cX5_are 27 = .ok (.goto 4, 3) := by decide +kernel
theorem dX5_are_30 : decode cX5_are 30 = .ok (.iconst 0, 1) := by decide +kernel
theorem dX5_are_31 : decode cX5_are 31 = .ok (.iadd, 1) := by decide +kernel
theorem dX5_are_32 : decode cX5_are 32 = .ok (.istore_n 2, 1) := by decide +kernel
theorem dX5_are_33 : decode cX5_are 33 = .ok (.iinc 3 1, 3) := by decide +kernel
theorem dX5_are_36 : decode cX5_are 36 = .ok (.goto (-32), 3) := by decide +kernel
theorem dX5_are_39 : decode cX5_are 39 = .ok (.iload_n 2, 1) := by decide +kernel
theorem dX5_are_40 : decode cX5_are 40 = .ok (.ireturn, 1) := by decide +kernel
theorem dX5_sum_0 : decode cX5_sum 0 = .ok (.iconst 0, 1) := by decide +kernel
theorem dX5_sum_1 : decode cX5_sum 1 = .ok (.istore_n 2, 1) := by decide +kernel
theorem dX5_sum_2 : decode cX5_sum 2 = .ok (.aload_n 1, 1) := by decide +kernel
theorem dX5_sum_3 : decode cX5_sum 3 = .ok (.astore_n 3, 1) := by decide +kernel
theorem dX5_sum_4 : decode cX5_sum 4 = .ok (.aload_n 3, 1) := by decide +kernel
theorem dX5_sum_5 : decode cX5_sum 5 = .ok (.arraylength, 1) := by decide +kernel
theorem dX5_sum_6 : decode cX5_sum 6 = .ok (.istore 4, 2) := by decide +kernel
theorem dX5_sum_8 : decode cX5_sum 8 = .ok (.iconst 0, 1) := by decide +kernel
theorem dX5_sum_9 : decode cX5_sum 9 = .ok (.istore 5, 2) := by decide +kernel
theorem dX5_sum_11 : decode cX5_sum 11 = .ok (.iload 5, 2) := by decide +kernel
theorem dX5_sum_13 : decode cX5_sum 13 = .ok (.iload 4, 2) := by decide +kernel
theorem dX5_sum_15 : decode cX5_sum 15 = .ok (.if_icmp .ge 20, 3) := by decide +kernel
theorem dX5_sum_18 : decode cX5_sum 18 = .ok (.aload_n 3, 1) := by decide +kernel
theorem dX5_sum_19 : decode cX5_sum 19 = .ok (.iload 5, 2) := by decide +kernel
theorem dX5_sum_21 : decode cX5_sum 21 = .ok (.iaload, 1) := by decide +kernel
theorem dX5_sum_22 : decode cX5_sum 22 = .ok (.istore 6, 2) := by decide +kernel
theorem dX5_sum_24 : decode cX5_sum 24 = .ok (.iload_n 2, 1) := by decide +kernel
theorem dX5_sum_25 : decode cX5_sum 25 = .ok (.iload 6, 2) := by decide +kernel
theorem dX5_sum_27 : decode cX5_sum 27 = .ok (.iadd, 1) := by decide +kernel
theorem dX5_sum_28 : decode cX5_sum 28 = .ok (.istore_n 2, 1) := by decide +kernel
theorem dX5_sum_29 : decode cX5_sum 29 = .ok (.iinc 5 1, 3) := by decide +kernel
theorem dX5_sum_32 : decode cX5_sum 32 = .ok (.goto (-21), 3) := by decide +kernel
theorem dX5_sum_35 : decode cX5_sum 35 = .ok (.iload_n 2, 1) := by decide +kernel
theorem dX5_sum_36 : decode cX5_sum 36 = .ok (.ireturn, 1) := by decide +kernel
theorem dX5_handOf_0 : decode cX5_handOf 0 = .ok (.iconst 0, 1) := by decide +kernel
theorem dX5_handOf_1 : decode cX5_handOf 1 = .ok (.istore_n 2, 1) := by decide +kernel
theorem dX5_handOf_2 : decode cX5_handOf 2 = .ok (.iload_n 2, 1) := by decide +kernel
theorem dX5_handOf_3 : decode cX5_handOf 3 = .ok (.aload_n 0, 1) := by decide +kernel
theorem dX5_handOf_4 : decode cX5_handOf 4 = .ok (.getfield 22, 3) := by decide +kernel
theorem dX5_handOf_7 : decode cX5_handOf 7 = .ok (.arraylength, 1) := by decide +kernel
theorem dX5_handOf_8 : decode cX5_handOf 8 = .ok (.if_icmp .ge 23, 3) := by decide +kernel
theorem dX5_handOf_11 : decode cX5_handOf 11 = .ok (.aload_n 0, 1) := by decide +kernel
theorem dX5_handOf_12 : decode cX5_handOf 12 = .ok (.getfield 22, 3) := by decide +kernel
theorem dX5_handOf_15 : decode cX5_handOf 15 = .ok (.iload_n 2, 1) := by decide +kernel
theorem dX5_handOf_16 : decode cX5_handOf 16 = .ok (.iaload, 1) := by decide +kernel
theorem dX5_handOf_17 : decode cX5_handOf 17 = .ok (.iload_n 1, 1) := by decide +kernel
theorem dX5_handOf_18 : decode cX5_handOf 18 = .ok (.iconst 1, 1) := by decide +kernel
theorem dX5_handOf_19 : decode cX5_handOf 19 = .ok (.iadd, 1) := by decide +kernel
theorem dX5_handOf_20 : decode cX5_handOf 20 = .ok (.if_icmp .ne 5, 3) := by decide +kernel
theorem dX5_handOf_23 : decode cX5_handOf 23 = .ok (.iload_n 2, 1) := by decide +kernel
theorem dX5_handOf_24 : decode cX5_handOf 24 = .ok (.ireturn, 1) := by decide +kernel
theorem dX5_handOf_25 : decode cX5_handOf 25 = .ok (.iinc 2 1, 3) := by decide +kernel
theorem dX5_handOf_28 : decode cX5_handOf 28 = .ok (.goto (-26), 3) := by decide +kernel
theorem dX5_handOf_31 : decode cX5_handOf 31 = .ok (.iconst (-1), 1) := by decide +kernel
theorem dX5_handOf_32 : decode cX5_handOf 32 = .ok (.ireturn, 1) := by decide +kernel
