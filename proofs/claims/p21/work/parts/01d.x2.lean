theorem dX2_init_0 : decode cX2_init 0 = .ok (.aload_n 0, 1) := by decide +kernel
theorem dX2_init_1 : decode cX2_init 1 = .ok (.invokespecial 3, 3) := by decide +kernel
theorem dX2_init_4 : decode cX2_init 4 = .ok (.aload_n 0, 1) := by decide +kernel
theorem dX2_init_5 : decode cX2_init 5 = .ok (.iconst 4, 1) := by decide +kernel
theorem dX2_init_6 : decode cX2_init 6 = .ok (.anewarray 9, 3) := by decide +kernel
theorem dX2_init_9 : decode cX2_init 9 = .ok (.putfield 11, 3) := by decide +kernel
theorem dX2_init_12 : decode cX2_init 12 = .ok (.iconst 0, 1) := by decide +kernel
theorem dX2_init_13 : decode cX2_init 13 = .ok (.istore_n 1, 1) := by decide +kernel
theorem dX2_init_14 : decode cX2_init 14 = .ok (.iload_n 1, 1) := by decide +kernel
theorem dX2_init_15 : decode cX2_init 15 = .ok (.iconst 4, 1) := by decide +kernel
theorem dX2_init_16 : decode cX2_init 16 = .ok (.if_icmp .ge 22, 3) := by decide +kernel
theorem dX2_init_19 : decode cX2_init 19 = .ok (.aload_n 0, 1) := by decide +kernel
theorem dX2_init_20 : decode cX2_init 20 = .ok (.getfield 11, 3) := by decide +kernel
theorem dX2_init_23 : decode cX2_init 23 = .ok (.iload_n 1, 1) := by decide +kernel
theorem dX2_init_24 : decode cX2_init 24 = .ok (.new 9, 3) := by decide +kernel
theorem dX2_init_27 : decode cX2_init 27 = .ok (.dup, 1) := by decide +kernel
theorem dX2_init_28 : decode cX2_init 28 = .ok (.invokespecial 17, 3) := by decide +kernel
theorem dX2_init_31 : decode cX2_init 31 = .ok (.aastore, 1) := by decide +kernel
theorem dX2_init_32 : decode cX2_init 32 = .ok (.iinc 1 1, 3) := by decide +kernel
theorem dX2_init_35 : decode cX2_init 35 = .ok (.goto (-21), 3) := by decide +kernel
theorem dX2_init_38 : decode cX2_init 38 = .ok (.aload_n 0, 1) := by decide +kernel
theorem dX2_init_39 : decode cX2_init 39 = .ok (.bipush 12, 2) := by decide +kernel
theorem dX2_init_41 : decode cX2_init 41 = .ok (.anewarray 18, 3) := by decide +kernel
theorem dX2_init_44 : decode cX2_init 44 = .ok (.putfield 20, 3) := by decide +kernel
theorem dX2_init_47 : decode cX2_init 47 = .ok (.iconst 0, 1) := by decide +kernel
theorem dX2_init_48 : decode cX2_init 48 = .ok (.istore_n 1, 1) := by decide +kernel
theorem dX2_init_49 : decode cX2_init 49 = .ok (.iload_n 1, 1) := by decide +kernel
theorem dX2_init_50 : decode cX2_init 50 = .ok (.bipush 12, 2) := by decide +kernel
theorem dX2_init_52 : decode cX2_init 52 = .ok (.if_icmp .ge 22, 3) := by decide +kernel
theorem dX2_init_55 : decode cX2_init 55 = .ok (.aload_n 0, 1) := by decide +kernel
theorem dX2_init_56 : decode cX2_init 56 = .ok (.getfield 20, 3) := by decide +kernel
theorem dX2_init_59 : decode cX2_init 59 = .ok (.iload_n 1, 1) := by decide +kernel
theorem dX2_init_60 : decode cX2_init 60 = .ok (.new 18, 3) := by decide +kernel
theorem dX2_init_63 : decode cX2_init 63 = .ok (.dup, 1) := by decide +kernel
theorem dX2_init_64 : decode cX2_init 64 = .ok (.invokespecial 24, 3) := by decide +kernel
theorem dX2_init_67 : decode cX2_init 67 = .ok (.aastore, 1) := by decide +kernel
theorem dX2_init_68 : decode cX2_init 68 = .ok (.iinc 1 1, 3) := by decide +kernel
theorem dX2_init_71 : decode cX2_init 71 = .ok (.goto (-22), 3) := by decide +kernel
theorem dX2_init_74 : decode cX2_init 74 = .ok (.return_, 1) := by decide +kernel
theorem dX2_copyFrom_0 : decode cX2_copyFrom 0 = .ok (.aload_n 0, 1) := by decide +kernel
theorem dX2_copyFrom_1 : decode cX2_copyFrom 1 = .ok (.aload_n 1, 1) := by decide +kernel
theorem dX2_copyFrom_2 : decode cX2_copyFrom 2 = .ok (.getfield 25, 3) := by decide +kernel
theorem dX2_copyFrom_5 : decode cX2_copyFrom 5 = .ok (.putfield 25, 3) := by decide +kernel
theorem dX2_copyFrom_8 : decode cX2_copyFrom 8 = .ok (.aload_n 0, 1) := by decide +kernel
theorem dX2_copyFrom_9 : decode cX2_copyFrom 9 = .ok (.aload_n 1, 1) := by decide +kernel
theorem dX2_copyFrom_10 : decode cX2_copyFrom 10 = .ok (.getfield 29, 3) := by decide +kernel
theorem dX2_copyFrom_13 : decode cX2_copyFrom 13 = .ok (.putfield 29, 3) := by decide +kernel
theorem dX2_copyFrom_16 : decode cX2_copyFrom 16 = .ok (.aload_n 0, 1) := by decide +kernel
theorem dX2_copyFrom_17 : decode cX2_copyFrom 17 = .ok (.aload_n 1, 1) := by decide +kernel
theorem dX2_copyFrom_18 : decode cX2_copyFrom 18 = .ok (.getfield 32, 3) := by decide +kernel
theorem dX2_copyFrom_21 : decode cX2_copyFrom 21 = .ok (.putfield 32, 3) := by decide +kernel
theorem dX2_copyFrom_24 : decode cX2_copyFrom 24 = .ok (.iconst 0, 1) := by decide +kernel
theorem dX2_copyFrom_25 : decode cX2_copyFrom 25 = .ok (.istore_n 2, 1) := by decide +kernel
theorem dX2_copyFrom_26 : decode cX2_copyFrom 26 = .ok (.iload_n 2, 1) := by decide +kernel
theorem dX2_copyFrom_27 : decode cX2_copyFrom 27 = .ok (.aload_n 0, 1) := by decide +kernel
theorem dX2_copyFrom_28 : decode cX2_copyFrom 28 = .ok (.getfield 25, 3) := by decide +kernel
theorem dX2_copyFrom_31 : decode cX2_copyFrom 31 = .ok (.if_icmp .ge 24, 3) := by decide +kernel
theorem dX2_copyFrom_34 : decode cX2_copyFrom 34 = .ok (.aload_n 0, 1) := by decide +kernel
theorem dX2_copyFrom_35 : decode cX2_copyFrom 35 = .ok (.getfield 11, 3) := by decide +kernel
theorem dX2_copyFrom_38 : decode cX2_copyFrom 38 = .ok (.iload_n 2, 1) := by decide +kernel
theorem dX2_copyFrom_39 : decode cX2_copyFrom 39 = .ok (.aaload, 1) := by decide +kernel
theorem dX2_copyFrom_40 : decode cX2_copyFrom 40 = .ok (.aload_n 1, 1) := by decide +kernel
theorem dX2_copyFrom_41 : decode cX2_copyFrom 41 = .ok (.getfield 11, 3) := by decide +kernel
theorem dX2_copyFrom_44 : decode cX2_copyFrom 44 = .ok (.iload_n 2, 1) := by decide +kernel
theorem dX2_copyFrom_45 : decode cX2_copyFrom 45 = .ok (.aaload, 1) := by decide +kernel
theorem dX2_copyFrom_46 : decode cX2_copyFrom 46 = .ok (.invokevirtual 35, 3) := by decide +kernel
theorem dX2_copyFrom_49 : decode cX2_copyFrom 49 = .ok (.iinc 2 1, 3) := by decide +kernel
theorem dX2_copyFrom_52 : decode cX2_copyFrom 52 = .ok (.goto (-26), 3) := by decide +kernel
theorem dX2_copyFrom_55 : decode cX2_copyFrom 55 = .ok (.iconst 0, 1) := by decide +kernel
theorem dX2_copyFrom_56 : decode cX2_copyFrom 56 = .ok (.istore_n 2, 1) := by decide +kernel
theorem dX2_copyFrom_57 : decode cX2_copyFrom 57 = .ok (.iload_n 2, 1) := by decide +kernel
theorem dX2_copyFrom_58 : decode cX2_copyFrom 58 = .ok (.aload_n 0, 1) := by decide +kernel
theorem dX2_copyFrom_59 : decode cX2_copyFrom 59 = .ok (.getfield 29, 3) := by decide +kernel
theorem dX2_copyFrom_62 : decode cX2_copyFrom 62 = .ok (.if_icmp .ge 24, 3) := by decide +kernel
theorem dX2_copyFrom_65 : decode cX2_copyFrom 65 = .ok (.aload_n 0, 1) := by decide +kernel
theorem dX2_copyFrom_66 : decode cX2_copyFrom 66 = .ok (.getfield 20, 3) := by decide +kernel
theorem dX2_copyFrom_69 : decode cX2_copyFrom 69 = .ok (.iload_n 2, 1) := by decide +kernel
theorem dX2_copyFrom_70 : decode cX2_copyFrom 70 = .ok (.aaload, 1) := by decide +kernel
theorem dX2_copyFrom_71 : decode cX2_copyFrom 71 = .ok (.aload_n 1, 1) := by decide +kernel
theorem dX2_copyFrom_72 : decode cX2_copyFrom 72 = .ok (.getfield 20, 3) := by decide +kernel
theorem dX2_copyFrom_75 : decode cX2_copyFrom 75 = .ok (.iload_n 2, 1) := by decide +kernel
theorem dX2_copyFrom_76 : decode cX2_copyFrom 76 = .ok (.aaload, 1) := by decide +kernel
theorem dX2_copyFrom_77 : decode cX2_copyFrom 77 = .ok (.invokevirtual 39, 3) := by decide +kernel
theorem dX2_copyFrom_80 : decode cX2_copyFrom 80 = .ok (.iinc 2 1, 3) := by decide +kernel
theorem dX2_copyFrom_83 : decode cX2_copyFrom 83 = .ok (.goto (-26), 3) := by decide +kernel
theorem dX2_copyFrom_86 : decode cX2_copyFrom 86 = .ok (.return_, 1) := by decide +kernel
theorem dX2_hasJuggler_0 : decode cX2_hasJuggler 0 = .ok (.iload_n 1, 1) := by decide +kernel
theorem dX2_hasJuggler_1 : decode cX2_hasJuggler 1 = .ok (.ifCond .lt 15, 3) := by decide +kernel
theorem dX2_hasJuggler_4 : decode cX2_hasJuggler 4 = .ok (.iload_n 1, 1) := by decide +kernel
theorem dX2_hasJuggler_5 : decode cX2_hasJuggler 5 = .ok (.aload_n 0, 1) := by decide +kernel
theorem dX2_hasJuggler_6 : decode cX2_hasJuggler 6 = .ok (.getfield 25, 3) := by decide +kernel
theorem dX2_hasJuggler_9 : decode cX2_hasJuggler 9 = .ok (.if_icmp .ge 7, 3) := by decide +kernel
theorem dX2_hasJuggler_12 : decode cX2_hasJuggler 12 = .ok (.iconst 1, 1) := by decide +kernel
theorem dX2_hasJuggler_13 : decode cX2_hasJuggler 13 = .ok (.goto 4, 3) := by decide +kernel
theorem dX2_hasJuggler_16 : decode cX2_hasJuggler 16 = .ok (.iconst 0, 1) := by decide +kernel
theorem dX2_hasJuggler_17 : decode cX2_hasJuggler 17 = .ok (.ireturn, 1) := by decide +kernel
theorem dX2_hasThing_0 : decode cX2_hasThing 0 = .ok (.iload_n 1, 1) := by decide +kernel
theorem dX2_hasThing_1 : decode cX2_hasThing 1 = .ok (.ifCond .lt 15, 3) := by decide +kernel
theorem dX2_hasThing_4 : decode cX2_hasThing 4 = .ok (.iload_n 1, 1) := by decide +kernel
theorem dX2_hasThing_5 : decode cX2_hasThing 5 = .ok (.aload_n 0, 1) := by decide +kernel
theorem dX2_hasThing_6 : decode cX2_hasThing 6 = .ok (.getfield 29, 3) := by decide +kernel
theorem dX2_hasThing_9 : decode cX2_hasThing 9 = .ok (.if_icmp .ge 7, 3) := by decide +kernel
theorem dX2_hasThing_12 : decode cX2_hasThing 12 = .ok (.iconst 1, 1) := by decide +kernel
theorem dX2_hasThing_13 : decode cX2_hasThing 13 = .ok (.goto 4, 3) := by decide +kernel
theorem dX2_hasThing_16 : decode cX2_hasThing 16 = .ok (.iconst 0, 1) := by decide +kernel
theorem dX2_hasThing_17 : decode cX2_hasThing 17 = .ok (.ireturn, 1) := by decide +kernel
theorem dX2_addJuggler_0 : decode cX2_addJuggler 0 = .ok (.aload_n 0, 1) := by decide +kernel
theorem dX2_addJuggler_1 : decode cX2_addJuggler 1 = .ok (.getfield 25, 3) := by decide +kernel
theorem dX2_addJuggler_4 : decode cX2_addJuggler 4 = .ok (.istore_n 2, 1) := by decide +kernel
theorem dX2_addJuggler_5 : decode cX2_addJuggler 5 = .ok (.aload_n 0, 1) := by decide +kernel
theorem dX2_addJuggler_6 : decode cX2_addJuggler 6 = .ok (.getfield 11, 3) := by decide +kernel
theorem dX2_addJuggler_9 : decode cX2_addJuggler 9 = .ok (.iload_n 2, 1) := by decide +kernel
theorem dX2_addJuggler_10 : decode cX2_addJuggler 10 = .ok (.aaload, 1) := by decide +kernel
theorem dX2_addJuggler_11 : decode cX2_addJuggler 11 = .ok (.iload_n 1, 1) := by decide +kernel
theorem dX2_addJuggler_12 : decode cX2_addJuggler 12 = .ok (.putfield 42, 3) := by decide +kernel
theorem dX2_addJuggler_15 : decode cX2_addJuggler 15 = .ok (.aload_n 0, 1) := by decide +kernel
theorem dX2_addJuggler_16 : decode cX2_addJuggler 16 = .ok (.getfield 11, 3) := by decide +kernel
theorem dX2_addJuggler_19 : decode cX2_addJuggler 19 = .ok (.iload_n 2, 1) := by decide +kernel
theorem dX2_addJuggler_20 : decode cX2_addJuggler 20 = .ok (.aaload, 1) := by decide +kernel
theorem dX2_addJuggler_21 : decode cX2_addJuggler 21 = .ok (.getfield 45, 3) := by decide +kernel
theorem dX2_addJuggler_24 : decode cX2_addJuggler 24 = .ok (.iload_n 2, 1) := by decide +kernel
theorem dX2_addJuggler_25 : decode cX2_addJuggler 25 = .ok (.iconst 1, 1) := by decide +kernel
theorem dX2_addJuggler_26 : decode cX2_addJuggler 26 = .ok (.iconst 0, 1) := by decide +kernel
theorem dX2_addJuggler_27 : decode cX2_addJuggler 27 = .ok (.invokevirtual 49, 3) := by decide +kernel
theorem dX2_addJuggler_30 : decode cX2_addJuggler 30 = .ok (.aload_n 0, 1) := by decide +kernel
theorem dX2_addJuggler_31 : decode cX2_addJuggler 31 = .ok (.dup, 1) := by decide +kernel
theorem dX2_addJuggler_32 : decode cX2_addJuggler 32 = .ok (.getfield 25, 3) := by decide +kernel
theorem dX2_addJuggler_35 : decode cX2_addJuggler 35 = .ok (.iconst 1, 1) := by decide +kernel
theorem dX2_addJuggler_36 : decode cX2_addJuggler 36 = .ok (.iadd, 1) := by decide +kernel
theorem dX2_addJuggler_37 : decode cX2_addJuggler 37 = .ok (.putfield 25, 3) := by decide +kernel
theorem dX2_addJuggler_40 : decode cX2_addJuggler 40 = .ok (.iload_n 2, 1) := by decide +kernel
theorem dX2_addJuggler_41 : decode cX2_addJuggler 41 = .ok (.ireturn, 1) := by decide +kernel
theorem dX2_addThing_0 : decode cX2_addThing 0 = .ok (.aload_n 0, 1) := by decide +kernel
theorem dX2_addThing_1 : decode cX2_addThing 1 = .ok (.getfield 29, 3) := by decide +kernel
theorem dX2_addThing_4 : decode cX2_addThing 4 = .ok (.istore_n 2, 1) := by decide +kernel
theorem dX2_addThing_5 : decode cX2_addThing 5 = .ok (.aload_n 0, 1) := by decide +kernel
theorem dX2_addThing_6 : decode cX2_addThing 6 = .ok (.getfield 20, 3) := by decide +kernel
theorem dX2_addThing_9 : decode cX2_addThing 9 = .ok (.iload_n 2, 1) := by decide +kernel
theorem dX2_addThing_10 : decode cX2_addThing 10 = .ok (.aaload, 1) := by decide +kernel
theorem dX2_addThing_11 : decode cX2_addThing 11 = .ok (.iload_n 1, 1) := by decide +kernel
theorem dX2_addThing_12 : decode cX2_addThing 12 = .ok (.putfield 55, 3) := by decide +kernel
theorem dX2_addThing_15 : decode cX2_addThing 15 = .ok (.aload_n 0, 1) := by decide +kernel
theorem dX2_addThing_16 : decode cX2_addThing 16 = .ok (.dup, 1) := by decide +kernel
theorem dX2_addThing_17 : decode cX2_addThing 17 = .ok (.getfield 29, 3) := by decide +kernel
theorem dX2_addThing_20 : decode cX2_addThing 20 = .ok (.iconst 1, 1) := by decide +kernel
theorem dX2_addThing_21 : decode cX2_addThing 21 = .ok (.iadd, 1) := by decide +kernel
theorem dX2_addThing_22 : decode cX2_addThing 22 = .ok (.putfield 29, 3) := by decide +kernel
theorem dX2_addThing_25 : decode cX2_addThing 25 = .ok (.iload_n 2, 1) := by decide +kernel
theorem dX2_addThing_26 : decode cX2_addThing 26 = .ok (.ireturn, 1) := by decide +kernel
theorem dX2_putIntoHand_0 : decode cX2_putIntoHand 0 = .ok (.aload_n 0, 1) := by decide +kernel
theorem dX2_putIntoHand_1 : decode cX2_putIntoHand 1 = .ok (.getfield 11, 3) := by decide +kernel
theorem dX2_putIntoHand_4 : decode cX2_putIntoHand 4 = .ok (.iload_n 2, 1) := by decide +kernel
theorem dX2_putIntoHand_5 : decode cX2_putIntoHand 5 = .ok (.aaload, 1) := by decide +kernel
theorem dX2_putIntoHand_6 : decode cX2_putIntoHand 6 = .ok (.getfield 58, 3) := by decide +kernel
theorem dX2_putIntoHand_9 : decode cX2_putIntoHand 9 = .ok (.iload_n 3, 1) := by decide +kernel
theorem dX2_putIntoHand_10 : decode cX2_putIntoHand 10 = .ok (.iload_n 1, 1) := by decide +kernel
theorem dX2_putIntoHand_11 : decode cX2_putIntoHand 11 = .ok (.iastore, 1) := by decide +kernel
theorem dX2_putIntoHand_12 : decode cX2_putIntoHand 12 = .ok (.aload_n 0, 1) := by decide +kernel
theorem dX2_putIntoHand_13 : decode cX2_putIntoHand 13 = .ok (.getfield 20, 3) := by decide +kernel
theorem dX2_putIntoHand_16 : decode cX2_putIntoHand 16 = .ok (.iload_n 1, 1) := by decide +kernel
theorem dX2_putIntoHand_17 : decode cX2_putIntoHand 17 = .ok (.aaload, 1) := by decide +kernel
theorem dX2_putIntoHand_18 : decode cX2_putIntoHand 18 = .ok (.astore 4, 2) := by decide +kernel
theorem dX2_putIntoHand_20 : decode cX2_putIntoHand 20 = .ok (.aload 4, 2) := by decide +kernel
theorem dX2_putIntoHand_22 : decode cX2_putIntoHand 22 = .ok (.iconst 1, 1) := by decide +kernel
theorem dX2_putIntoHand_23 : decode cX2_putIntoHand 23 = .ok (.putfield 62, 3) := by decide +kernel
theorem dX2_putIntoHand_26 : decode cX2_putIntoHand 26 = .ok (.aload 4, 2) := by decide +kernel
theorem dX2_putIntoHand_28 : decode cX2_putIntoHand 28 = .ok (.iload_n 2, 1) := by decide +kernel
theorem dX2_putIntoHand_29 : decode cX2_putIntoHand 29 = .ok (.putfield 65, 3) := by decide +kernel
theorem dX2_putIntoHand_32 : decode cX2_putIntoHand 32 = .ok (.aload 4, 2) := by decide +kernel
theorem dX2_putIntoHand_34 : decode cX2_putIntoHand 34 = .ok (.iload_n 3, 1) := by decide +kernel
theorem dX2_putIntoHand_35 : decode cX2_putIntoHand 35 = .ok (.putfield 68, 3) := by decide +kernel
theorem dX2_putIntoHand_38 : decode cX2_putIntoHand 38 = .ok (.return_, 1) := by decide +kernel
theorem dX2_play_0 : decode cX2_play 0 = .ok (.iconst 0, 1) := by decide +kernel
theorem dX2_play_1 : decode cX2_play 1 = .ok (.istore_n 2, 1) := by decide +kernel
theorem dX2_play_2 : decode cX2_play 2 = .ok (.iconst 0, 1) := by decide +kernel
theorem dX2_play_3 : decode cX2_play 3 = .ok (.istore_n 3, 1) := by decide +kernel
theorem dX2_play_4 : decode cX2_play 4 = .ok (.iload_n 3, 1) := by decide +kernel
theorem dX2_play_5 : decode cX2_play 5 = .ok (.iload_n 1, 1) := by decide +kernel
theorem dX2_play_6 : decode cX2_play 6 = .ok (.if_icmp .ge 16, 3) := by decide +kernel
theorem dX2_play_9 : decode cX2_play 9 = .ok (.iload_n 2, 1) := by decide +kernel
theorem dX2_play_10 : decode cX2_play 10 = .ok (.aload_n 0, 1) := by decide +kernel
theorem dX2_play_11 : decode cX2_play 11 = .ok (.invokevirtual 71, 3) := by decide +kernel
theorem dX2_play_14 : decode cX2_play 14 = .ok (.iadd, 1) := by decide +kernel
theorem dX2_play_15 : decode cX2_play 15 = .ok (.istore_n 2, 1) := by decide +kernel
theorem dX2_play_16 : decode cX2_play 16 = .ok (.iinc 3 1, 3) := by decide +kernel
theorem dX2_play_19 : decode cX2_play 19 = .ok (.goto (-15), 3) := by decide +kernel
theorem dX2_play_22 : decode cX2_play 22 = .ok (.iload_n 2, 1) := by decide +kernel
theorem dX2_play_23 : decode cX2_play 23 = .ok (.ireturn, 1) := by decide +kernel
theorem dX2_playBeat_0 : decode cX2_playBeat 0 = .ok (.aload_n 0, 1) := by decide +kernel
theorem dX2_playBeat_1 : decode cX2_playBeat 1 = .ok (.getfield 32, 3) := by decide +kernel
theorem dX2_playBeat_4 : decode cX2_playBeat 4 = .ok (.iconst 1, 1) := by decide +kernel
theorem dX2_playBeat_5 : decode cX2_playBeat 5 = .ok (.iand, 1) := by decide +kernel
theorem dX2_playBeat_6 : decode cX2_playBeat 6 = .ok (.istore_n 1, 1) := by decide +kernel
theorem dX2_playBeat_7 : decode cX2_playBeat 7 = .ok (.aload_n 0, 1) := by decide +kernel
theorem dX2_playBeat_8 : decode cX2_playBeat 8 = .ok (.iload_n 1, 1) := by decide +kernel
theorem dX2_playBeat_9 : decode cX2_playBeat 9 = .ok (.invokevirtual 75, 3) := by decide +kernel
theorem dX2_playBeat_12 : decode cX2_playBeat 12 = .ok (.istore_n 2, 1) := by decide +kernel
theorem dX2_playBeat_13 : decode cX2_playBeat 13 = .ok (.iconst 0, 1) := by decide +kernel
theorem dX2_playBeat_14 : decode cX2_playBeat 14 = .ok (.istore_n 3, 1) := by decide +kernel
theorem dX2_playBeat_15 : decode cX2_playBeat 15 = .ok (.iload_n 3, 1) := by decide +kernel
theorem dX2_playBeat_16 : decode cX2_playBeat 16 = .ok (.aload_n 0, 1) := by decide +kernel
theorem dX2_playBeat_17 : decode cX2_playBeat 17 = .ok (.getfield 25, 3) := by decide +kernel
theorem dX2_playBeat_20 : decode cX2_playBeat 20 = .ok (.if_icmp .ge 20, 3) := by decide +kernel
theorem dX2_playBeat_23 : decode cX2_playBeat 23 = .ok (.aload_n 0, 1) := by decide +kernel
theorem dX2_playBeat_24 : decode cX2_playBeat 24 = .ok (.aload_n 0, 1) := by decide +kernel
theorem dX2_playBeat_25 : decode cX2_playBeat 25 = .ok (.getfield 11, 3) := by decide +kernel
theorem dX2_playBeat_28 : decode cX2_playBeat 28 = .ok (.iload_n 3, 1) := by decide +kernel
theorem dX2_playBeat_29 : decode cX2_playBeat 29 = .ok (.aaload, 1) := by decide +kernel
theorem dX2_playBeat_30 : decode cX2_playBeat 30 = .ok (.iload_n 1, 1) := by decide +kernel
theorem dX2_playBeat_31 : decode cX2_playBeat 31 = .ok (.invokevirtual 79, 3) := by decide +kernel
theorem dX2_playBeat_34 : decode cX2_playBeat 34 = .ok (.iinc 3 1, 3) := by decide +kernel
theorem dX2_playBeat_37 : decode cX2_playBeat 37 = .ok (.goto (-22), 3) := by decide +kernel
theorem dX2_playBeat_40 : decode cX2_playBeat 40 = .ok (.aload_n 0, 1) := by decide +kernel
theorem dX2_playBeat_41 : decode cX2_playBeat 41 = .ok (.dup, 1) := by decide +kernel
theorem dX2_playBeat_42 : decode cX2_playBeat 42 = .ok (.getfield 32, 3) := by decide +kernel
theorem dX2_playBeat_45 : decode cX2_playBeat 45 = .ok (.iconst 1, 1) := by decide +kernel
theorem dX2_playBeat_46 : decode cX2_playBeat 46 = .ok (.iadd, 1) := by decide +kernel
theorem dX2_playBeat_47 : decode cX2_playBeat 47 = .ok (.putfield 32, 3) := by decide +kernel
theorem dX2_playBeat_50 : decode cX2_playBeat 50 = .ok (.iload_n 2, 1) := by decide +kernel
theorem dX2_playBeat_51 : decode cX2_playBeat 51 = .ok (.ireturn, 1) := by decide +kernel
theorem dX2_comeDown_0 : decode cX2_comeDown 0 = .ok (.iconst 0, 1) := by decide +kernel
theorem dX2_comeDown_1 : decode cX2_comeDown 1 = .ok (.istore_n 2, 1) := by decide +kernel
theorem dX2_comeDown_2 : decode cX2_comeDown 2 = .ok (.iconst 0, 1) := by decide +kernel
theorem dX2_comeDown_3 : decode cX2_comeDown 3 = .ok (.istore_n 3, 1) := by decide +kernel
theorem dX2_comeDown_4 : decode cX2_comeDown 4 = .ok (.iload_n 3, 1) := by decide +kernel
theorem dX2_comeDown_5 : decode cX2_comeDown 5 = .ok (.aload_n 0, 1) := by decide +kernel
theorem dX2_comeDown_6 : decode cX2_comeDown 6 = .ok (.getfield 29, 3) := by decide +kernel
theorem dX2_comeDown_9 : decode cX2_comeDown 9 = .ok (.if_icmp .ge 106, 3) := by decide +kernel
theorem dX2_comeDown_12 : decode cX2_comeDown 12 = .ok (.aload_n 0, 1) := by decide +kernel
theorem dX2_comeDown_13 : decode cX2_comeDown 13 = .ok (.getfield 20, 3) := by decide +kernel
theorem dX2_comeDown_16 : decode cX2_comeDown 16 = .ok (.iload_n 3, 1) := by decide +kernel
theorem dX2_comeDown_17 : decode cX2_comeDown 17 = .ok (.aaload, 1) := by decide +kernel
theorem dX2_comeDown_18 : decode cX2_comeDown 18 = .ok (.astore 4, 2) := by decide +kernel
theorem dX2_comeDown_20 : decode cX2_comeDown 20 = .ok (.aload 4, 2) := by decide +kernel
theorem dX2_comeDown_22 : decode cX2_comeDown 22 = .ok (.getfield 65, 3) := by decide +kernel
theorem dX2_comeDown_25 : decode cX2_comeDown 25 = .ok (.istore 5, 2) := by decide +kernel
theorem dX2_comeDown_27 : decode cX2_comeDown 27 = .ok (.aload 4, 2) := by decide +kernel
theorem dX2_comeDown_29 : decode cX2_comeDown 29 = .ok (.aload_n 0, 1) := by decide +kernel
theorem dX2_comeDown_30 : decode cX2_comeDown 30 = .ok (.getfield 32, 3) := by decide +kernel
theorem dX2_comeDown_33 : decode cX2_comeDown 33 = .ok (.invokevirtual 83, 3) := by decide +kernel
theorem dX2_comeDown_36 : decode cX2_comeDown 36 = .ok (.ifCond .eq 73, 3) := by decide +kernel
theorem dX2_comeDown_39 : decode cX2_comeDown 39 = .ok (.aload_n 0, 1) := by decide +kernel
theorem dX2_comeDown_40 : decode cX2_comeDown 40 = .ok (.iload 5, 2) := by decide +kernel
theorem dX2_comeDown_42 : decode cX2_comeDown 42 = .ok (.invokevirtual 87, 3) := by decide +kernel
theorem dX2_comeDown_45 : decode cX2_comeDown 45 = .ok (.ifCond .eq 64, 3) := by decide +kernel
theorem dX2_comeDown_48 : decode cX2_comeDown 48 = .ok (.aload_n 0, 1) := by decide +kernel
theorem dX2_comeDown_49 : decode cX2_comeDown 49 = .ok (.getfield 11, 3) := by decide +kernel
theorem dX2_comeDown_52 : decode cX2_comeDown 52 = .ok (.iload 5, 2) := by decide +kernel
theorem dX2_comeDown_54 : decode cX2_comeDown 54 = .ok (.aaload, 1) := by decide +kernel
theorem dX2_comeDown_55 : decode cX2_comeDown 55 = .ok (.aload 4, 2) := by decide +kernel
theorem dX2_comeDown_57 : decode cX2_comeDown 57 = .ok (.getfield 90, 3) := by decide +kernel
theorem dX2_comeDown_60 : decode cX2_comeDown 60 = .ok (.iload_n 1, 1) := by decide +kernel
theorem dX2_comeDown_61 : decode cX2_comeDown 61 = .ok (.invokevirtual 93, 3) := by decide +kernel
theorem dX2_comeDown_64 : decode cX2_comeDown 64 = .ok (.ifCond .eq 30, 3) := by decide +kernel
theorem dX2_comeDown_67 : decode cX2_comeDown 67 = .ok (.aload_n 0, 1) := by decide +kernel
theorem dX2_comeDown_68 : decode cX2_comeDown 68 = .ok (.iload_n 3, 1) := by decide +kernel
theorem dX2_comeDown_69 : decode cX2_comeDown 69 = .ok (.iload 5, 2) := by decide +kernel
theorem dX2_comeDown_71 : decode cX2_comeDown 71 = .ok (.iload_n 1, 1) := by decide +kernel
theorem dX2_comeDown_72 : decode cX2_comeDown 72 = .ok (.invokevirtual 97, 3) := by decide +kernel
theorem dX2_comeDown_75 : decode cX2_comeDown 75 = .ok (.aload_n 0, 1) := by decide +kernel
theorem dX2_comeDown_76 : decode cX2_comeDown 76 = .ok (.getfield 11, 3) := by decide +kernel
theorem dX2_comeDown_79 : decode cX2_comeDown 79 = .ok (.iload 5, 2) := by decide +kernel
theorem dX2_comeDown_81 : decode cX2_comeDown 81 = .ok (.aaload, 1) := by decide +kernel
theorem dX2_comeDown_82 : decode cX2_comeDown 82 = .ok (.dup, 1) := by decide +kernel
theorem dX2_comeDown_83 : decode cX2_comeDown 83 = .ok (.getfield 100, 3) := by decide +kernel
theorem dX2_comeDown_86 : decode cX2_comeDown 86 = .ok (.iconst 1, 1) := by decide +kernel
theorem dX2_comeDown_87 : decode cX2_comeDown 87 = .ok (.iadd, 1) := by decide +kernel
theorem dX2_comeDown_88 : decode cX2_comeDown 88 = .ok (.putfield 100, 3) := by decide +kernel
theorem dX2_comeDown_91 : decode cX2_comeDown 91 = .ok (.goto 18, 3) := by decide +kernel
theorem dX2_comeDown_94 : decode cX2_comeDown 94 = .ok (.aload_n 0, 1) := by decide +kernel
theorem dX2_comeDown_95 : decode cX2_comeDown 95 = .ok (.getfield 11, 3) := by decide +kernel
theorem dX2_comeDown_98 : decode cX2_comeDown 98 = .ok (.iload 5, 2) := by decide +kernel
theorem dX2_comeDown_100 : decode cX2_comeDown 100 = .ok (.aaload, 1) := by decide +kernel
theorem dX2_comeDown_101 : decode cX2_comeDown 101 = .ok (.aload 4, 2) := by decide +kernel
theorem dX2_comeDown_103 : decode cX2_comeDown 103 = .ok (.invokevirtual 103, 3) := by decide +kernel
theorem dX2_comeDown_106 : decode cX2_comeDown 106 = .ok (.iinc 2 1, 3) := by decide +kernel
theorem dX2_comeDown_109 : decode cX2_comeDown 109 = .ok (.iinc 3 1, 3) := by decide +kernel
theorem dX2_comeDown_112 : decode cX2_comeDown 112 = .ok (.goto (-108), 3) := by decide +kernel
theorem dX2_comeDown_115 : decode cX2_comeDown 115 = .ok (.iload_n 2, 1) := by decide +kernel
theorem dX2_comeDown_116 : decode cX2_comeDown 116 = .ok (.ireturn, 1) := by decide +kernel
theorem dX2_throwFrom_0 : decode cX2_throwFrom 0 = .ok (.aload_n 1, 1) := by decide +kernel
theorem dX2_throwFrom_1 : decode cX2_throwFrom 1 = .ok (.getfield 58, 3) := by decide +kernel
theorem dX2_throwFrom_4 : decode cX2_throwFrom 4 = .ok (.iload_n 2, 1) := by decide +kernel
theorem dX2_throwFrom_5 : decode cX2_throwFrom 5 = .ok (.iaload, 1) := by decide +kernel
theorem dX2_throwFrom_6 : decode cX2_throwFrom 6 = .ok (.istore_n 3, 1) := by decide +kernel
theorem dX2_throwFrom_7 : decode cX2_throwFrom 7 = .ok (.aload_n 1, 1) := by decide +kernel
theorem dX2_throwFrom_8 : decode cX2_throwFrom 8 = .ok (.getfield 45, 3) := by decide +kernel
theorem dX2_throwFrom_11 : decode cX2_throwFrom 11 = .ok (.aload_n 0, 1) := by decide +kernel
theorem dX2_throwFrom_12 : decode cX2_throwFrom 12 = .ok (.getfield 32, 3) := by decide +kernel
theorem dX2_throwFrom_15 : decode cX2_throwFrom 15 = .ok (.invokevirtual 106, 3) := by decide +kernel
theorem dX2_throwFrom_18 : decode cX2_throwFrom 18 = .ok (.istore 4, 2) := by decide +kernel
theorem dX2_throwFrom_20 : decode cX2_throwFrom 20 = .ok (.aload_n 1, 1) := by decide +kernel
theorem dX2_throwFrom_21 : decode cX2_throwFrom 21 = .ok (.getfield 45, 3) := by decide +kernel
theorem dX2_throwFrom_24 : decode cX2_throwFrom 24 = .ok (.getfield 109, 3) := by decide +kernel
theorem dX2_throwFrom_27 : decode cX2_throwFrom 27 = .ok (.iload 4, 2) := by decide +kernel
theorem dX2_throwFrom_29 : decode cX2_throwFrom 29 = .ok (.iaload, 1) := by decide +kernel
theorem dX2_throwFrom_30 : decode cX2_throwFrom 30 = .ok (.istore 5, 2) := by decide +kernel
theorem dX2_throwFrom_32 : decode cX2_throwFrom 32 = .ok (.aload_n 0, 1) := by decide +kernel
theorem dX2_throwFrom_33 : decode cX2_throwFrom 33 = .ok (.iload_n 3, 1) := by decide +kernel
theorem dX2_throwFrom_34 : decode cX2_throwFrom 34 = .ok (.invokevirtual 112, 3) := by decide +kernel
theorem dX2_throwFrom_37 : decode cX2_throwFrom 37 = .ok (.ifCond .eq 40, 3) := by decide +kernel
theorem dX2_throwFrom_40 : decode cX2_throwFrom 40 = .ok (.iload 5, 2) := by decide +kernel
theorem dX2_throwFrom_42 : decode cX2_throwFrom 42 = .ok (.ifCond .le 35, 3) := by decide +kernel
theorem dX2_throwFrom_45 : decode cX2_throwFrom 45 = .ok (.aload_n 0, 1) := by decide +kernel
theorem dX2_throwFrom_46 : decode cX2_throwFrom 46 = .ok (.getfield 20, 3) := by decide +kernel
theorem dX2_throwFrom_49 : decode cX2_throwFrom 49 = .ok (.iload_n 3, 1) := by decide +kernel
theorem dX2_throwFrom_50 : decode cX2_throwFrom 50 = .ok (.aaload, 1) := by decide +kernel
theorem dX2_throwFrom_51 : decode cX2_throwFrom 51 = .ok (.aload_n 1, 1) := by decide +kernel
theorem dX2_throwFrom_52 : decode cX2_throwFrom 52 = .ok (.getfield 45, 3) := by decide +kernel
theorem dX2_throwFrom_55 : decode cX2_throwFrom 55 = .ok (.getfield 115, 3) := by decide +kernel
theorem dX2_throwFrom_58 : decode cX2_throwFrom 58 = .ok (.iload 4, 2) := by decide +kernel
theorem dX2_throwFrom_60 : decode cX2_throwFrom 60 = .ok (.iaload, 1) := by decide +kernel
theorem dX2_throwFrom_61 : decode cX2_throwFrom 61 = .ok (.iload 5, 2) := by decide +kernel
theorem dX2_throwFrom_63 : decode cX2_throwFrom 63 = .ok (.aload_n 0, 1) := by decide +kernel
theorem dX2_throwFrom_64 : decode cX2_throwFrom 64 = .ok (.getfield 32, 3) := by decide +kernel
theorem dX2_throwFrom_67 : decode cX2_throwFrom 67 = .ok (.invokevirtual 118, 3) := by decide +kernel
theorem dX2_throwFrom_70 : decode cX2_throwFrom 70 = .ok (.aload_n 1, 1) := by decide +kernel
theorem dX2_throwFrom_71 : decode cX2_throwFrom 71 = .ok (.getfield 58, 3) := by decide +kernel
theorem dX2_throwFrom_74 : decode cX2_throwFrom 74 = .ok (.iload_n 2, 1) := by decide +kernel
theorem dX2_throwFrom_75 : decode cX2_throwFrom 75 = .ok (.iconst (-1), 1) := by decide +kernel
theorem dX2_throwFrom_76 : decode cX2_throwFrom 76 = .ok (.iastore, 1) := by decide +kernel
theorem dX2_throwFrom_77 : decode cX2_throwFrom 77 = .ok (.return_, 1) := by decide +kernel
theorem dX2_thingsIn_0 : decode cX2_thingsIn 0 = .ok (.iconst 0, 1) := by decide +kernel
theorem dX2_thingsIn_1 : decode cX2_thingsIn 1 = .ok (.istore_n 2, 1) := by decide +kernel
theorem dX2_thingsIn_2 : decode cX2_thingsIn 2 = .ok (.iconst 0, 1) := by decide +kernel
theorem dX2_thingsIn_3 : decode cX2_thingsIn 3 = .ok (.istore_n 3, 1) := by decide +kernel
theorem dX2_thingsIn_4 : decode cX2_thingsIn 4 = .ok (.iload_n 3, 1) := by decide +kernel
theorem dX2_thingsIn_5 : decode cX2_thingsIn 5 = .ok (.aload_n 0, 1) := by decide +kernel
theorem dX2_thingsIn_6 : decode cX2_thingsIn 6 = .ok (.getfield 29, 3) := by decide +kernel
theorem dX2_thingsIn_9 : decode cX2_thingsIn 9 = .ok (.if_icmp .ge 25, 3) := by decide +kernel
theorem dX2_thingsIn_12 : decode cX2_thingsIn 12 = .ok (.aload_n 0, 1) := by decide +kernel
theorem dX2_thingsIn_13 : decode cX2_thingsIn 13 = .ok (.getfield 20, 3) := by decide +kernel
theorem dX2_thingsIn_16 : decode cX2_thingsIn 16 = .ok (.iload_n 3, 1) := by decide +kernel
theorem dX2_thingsIn_17 : decode cX2_thingsIn 17 = .ok (.aaload, 1) := by decide +kernel
theorem dX2_thingsIn_18 : decode cX2_thingsIn 18 = .ok (.getfield 62, 3) := by decide +kernel
theorem dX2_thingsIn_21 : decode cX2_thingsIn 21 = .ok (.iload_n 1, 1) := by decide +kernel
theorem dX2_thingsIn_22 : decode cX2_thingsIn 22 = .ok (.if_icmp .ne 6, 3) := by decide +kernel
theorem dX2_thingsIn_25 : decode cX2_thingsIn 25 = .ok (.iinc 2 1, 3) := by decide +kernel
theorem dX2_thingsIn_28 : decode cX2_thingsIn 28 = .ok (.iinc 3 1, 3) := by decide +kernel
theorem dX2_thingsIn_31 : decode cX2_thingsIn 31 = .ok (.goto (-27), 3) := by decide +kernel
theorem dX2_thingsIn_34 : decode cX2_thingsIn 34 = .ok (.iload_n 2, 1) := by decide +kernel
theorem dX2_thingsIn_35 : decode cX2_thingsIn 35 = .ok (.ireturn, 1) := by decide +kernel
theorem dX2_thingsFlyingTo_0 : decode cX2_thingsFlyingTo 0 = .ok (.iconst 0, 1) := by decide +kernel
theorem dX2_thingsFlyingTo_1 : decode cX2_thingsFlyingTo 1 = .ok (.istore_n 2, 1) := by decide +kernel
theorem dX2_thingsFlyingTo_2 : decode cX2_thingsFlyingTo 2 = .ok (.iconst 0, 1) := by decide +kernel
theorem dX2_thingsFlyingTo_3 : decode cX2_thingsFlyingTo 3 = .ok (.istore_n 3, 1) := by decide +kernel
theorem dX2_thingsFlyingTo_4 : decode cX2_thingsFlyingTo 4 = .ok (.iload_n 3, 1) := by decide +kernel
theorem dX2_thingsFlyingTo_5 : decode cX2_thingsFlyingTo 5 = .ok (.aload_n 0, 1) := by decide +kernel
theorem dX2_thingsFlyingTo_6 : decode cX2_thingsFlyingTo 6 = .ok (.getfield 29, 3) := by decide +kernel
theorem dX2_thingsFlyingTo_9 : decode cX2_thingsFlyingTo 9 = .ok (.if_icmp .ge 38, 3) := by decide +kernel
theorem dX2_thingsFlyingTo_12 : decode cX2_thingsFlyingTo 12 = .ok (.aload_n 0, 1) := by decide +kernel
theorem dX2_thingsFlyingTo_13 : decode cX2_thingsFlyingTo 13 = .ok (.getfield 20, 3) := by decide +kernel
theorem dX2_thingsFlyingTo_16 : decode cX2_thingsFlyingTo 16 = .ok (.iload_n 3, 1) := by decide +kernel
theorem dX2_thingsFlyingTo_17 : decode cX2_thingsFlyingTo 17 = .ok (.aaload, 1) := by decide +kernel
theorem dX2_thingsFlyingTo_18 : decode cX2_thingsFlyingTo 18 = .ok (.getfield 62, 3) := by decide +kernel
theorem dX2_thingsFlyingTo_21 : decode cX2_thingsFlyingTo 21 = .ok (.iconst 2, 1) := by decide +kernel
theorem dX2_thingsFlyingTo_22 : decode cX2_thingsFlyingTo 22 = .ok (.if_icmp .ne 19, 3) := by decide +kernel
theorem dX2_thingsFlyingTo_25 : decode cX2_thingsFlyingTo 25 = .ok (.aload_n 0, 1) := by decide +kernel
theorem dX2_thingsFlyingTo_26 : decode cX2_thingsFlyingTo 26 = .ok (.getfield 20, 3) := by decide +kernel
theorem dX2_thingsFlyingTo_29 : decode cX2_thingsFlyingTo 29 = .ok (.iload_n 3, 1) := by decide +kernel
theorem dX2_thingsFlyingTo_30 : decode cX2_thingsFlyingTo 30 = .ok (.aaload, 1) := by decide +kernel
theorem dX2_thingsFlyingTo_31 : decode cX2_thingsFlyingTo 31 = .ok (.getfield 65, 3) := by decide +kernel
theorem dX2_thingsFlyingTo_34 : decode cX2_thingsFlyingTo 34 = .ok (.iload_n 1, 1) := by decide +kernel
theorem dX2_thingsFlyingTo_35 : decode cX2_thingsFlyingTo 35 = .ok (.if_icmp .ne 6, 3) := by decide +kernel
theorem dX2_thingsFlyingTo_38 : decode cX2_thingsFlyingTo 38 = .ok (.iinc 2 1, 3) := by decide +kernel
theorem dX2_thingsFlyingTo_41 : decode cX2_thingsFlyingTo 41 = .ok (.iinc 3 1, 3) := by decide +kernel
theorem dX2_thingsFlyingTo_44 : decode cX2_thingsFlyingTo 44 = .ok (.goto (-40), 3) := by decide +kernel
theorem dX2_thingsFlyingTo_47 : decode cX2_thingsFlyingTo 47 = .ok (.iload_n 2, 1) := by decide +kernel
theorem dX2_thingsFlyingTo_48 : decode cX2_thingsFlyingTo 48 = .ok (.ireturn, 1) := by decide +kernel
theorem dX2_allThrown_0 : decode cX2_allThrown 0 = .ok (.iconst 0, 1) := by decide +kernel
theorem dX2_allThrown_1 : decode cX2_allThrown 1 = .ok (.istore_n 1, 1) := by decide +kernel
theorem dX2_allThrown_2 : decode cX2_allThrown 2 = .ok (.iconst 0, 1) := by decide +kernel
theorem dX2_allThrown_3 : decode cX2_allThrown 3 = .ok (.istore_n 2, 1) := by decide +kernel
theorem dX2_allThrown_4 : decode cX2_allThrown 4 = .ok (.iload_n 2, 1) := by decide +kernel
theorem dX2_allThrown_5 : decode cX2_allThrown 5 = .ok (.aload_n 0, 1) := by decide +kernel
theorem dX2_allThrown_6 : decode cX2_allThrown 6 = .ok (.getfield 29, 3) := by decide +kernel
theorem dX2_allThrown_9 : decode cX2_allThrown 9 = .ok (.if_icmp .ge 21, 3) := by decide +kernel
theorem dX2_allThrown_12 : decode cX2_allThrown 12 = .ok (.iload_n 1, 1) := by decide +kernel
theorem dX2_allThrown_13 : decode cX2_allThrown 13 = .ok (.aload_n 0, 1) := by decide +kernel
theorem dX2_allThrown_14 : decode cX2_allThrown 14 = .ok (.getfield 20, 3) := by decide +kernel
theorem dX2_allThrown_17 : decode cX2_allThrown 17 = .ok (.iload_n 2, 1) := by decide +kernel
theorem dX2_allThrown_18 : decode cX2_allThrown 18 = .ok (.aaload, 1) := by decide +kernel
theorem dX2_allThrown_19 : decode cX2_allThrown 19 = .ok (.getfield 121, 3) := by decide +kernel
theorem dX2_allThrown_22 : decode cX2_allThrown 22 = .ok (.iadd, 1) := by decide +kernel
theorem dX2_allThrown_23 : decode cX2_allThrown 23 = .ok (.istore_n 1, 1) := by decide +kernel
theorem dX2_allThrown_24 : decode cX2_allThrown 24 = .ok (.iinc 2 1, 3) := by decide +kernel
theorem dX2_allThrown_27 : decode cX2_allThrown 27 = .ok (.goto (-23), 3) := by decide +kernel
theorem dX2_allThrown_30 : decode cX2_allThrown 30 = .ok (.iload_n 1, 1) := by decide +kernel
theorem dX2_allThrown_31 : decode cX2_allThrown 31 = .ok (.ireturn, 1) := by decide +kernel
theorem dX2_allFell_0 : decode cX2_allFell 0 = .ok (.iconst 0, 1) := by decide +kernel
theorem dX2_allFell_1 : decode cX2_allFell 1 = .ok (.istore_n 1, 1) := by decide +kernel
theorem dX2_allFell_2 : decode cX2_allFell 2 = .ok (.iconst 0, 1) := by decide +kernel
theorem dX2_allFell_3 : decode cX2_allFell 3 = .ok (.istore_n 2, 1) := by decide +kernel
theorem dX2_allFell_4 : decode cX2_allFell 4 = .ok (.iload_n 2, 1) := by decide +kernel
theorem dX2_allFell_5 : decode cX2_allFell 5 = .ok (.aload_n 0, 1) := by decide +kernel
theorem dX2_allFell_6 : decode cX2_allFell 6 = .ok (.getfield 29, 3) := by decide +kernel
theorem dX2_allFell_9 : decode cX2_allFell 9 = .ok (.if_icmp .ge 21, 3) := by decide +kernel
theorem dX2_allFell_12 : decode cX2_allFell 12 = .ok (.iload_n 1, 1) := by decide +kernel
theorem dX2_allFell_13 : decode cX2_allFell 13 = .ok (.aload_n 0, 1) := by decide +kernel
theorem dX2_allFell_14 : decode cX2_allFell 14 = .ok (.getfield 20, 3) := by decide +kernel
theorem dX2_allFell_17 : decode cX2_allFell 17 = .ok (.iload_n 2, 1) := by decide +kernel
theorem dX2_allFell_18 : decode cX2_allFell 18 = .ok (.aaload, 1) := by decide +kernel
theorem dX2_allFell_19 : decode cX2_allFell 19 = .ok (.getfield 124, 3) := by decide +kernel
theorem dX2_allFell_22 : decode cX2_allFell 22 = .ok (.iadd, 1) := by decide +kernel
theorem dX2_allFell_23 : decode cX2_allFell 23 = .ok (.istore_n 1, 1) := by decide +kernel
theorem dX2_allFell_24 : decode cX2_allFell 24 = .ok (.iinc 2 1, 3) := by decide +kernel
theorem dX2_allFell_27 : decode cX2_allFell 27 = .ok (.goto (-23), 3) := by decide +kernel
theorem dX2_allFell_30 : decode cX2_allFell 30 = .ok (.iload_n 1, 1) := by decide +kernel
theorem dX2_allFell_31 : decode cX2_allFell 31 = .ok (.ireturn, 1) := by decide +kernel
theorem dX2_allBruises_0 : decode cX2_allBruises 0 = .ok (.iconst 0, 1) := by decide +kernel
theorem dX2_allBruises_1 : decode cX2_allBruises 1 = .ok (.istore_n 1, 1) := by decide +kernel
theorem dX2_allBruises_2 : decode cX2_allBruises 2 = .ok (.iconst 0, 1) := by decide +kernel
theorem dX2_allBruises_3 : decode cX2_allBruises 3 = .ok (.istore_n 2, 1) := by decide +kernel
theorem dX2_allBruises_4 : decode cX2_allBruises 4 = .ok (.iload_n 2, 1) := by decide +kernel
theorem dX2_allBruises_5 : decode cX2_allBruises 5 = .ok (.aload_n 0, 1) := by decide +kernel
theorem dX2_allBruises_6 : decode cX2_allBruises 6 = .ok (.getfield 25, 3) := by decide +kernel
theorem dX2_allBruises_9 : decode cX2_allBruises 9 = .ok (.if_icmp .ge 21, 3) := by decide +kernel
theorem dX2_allBruises_12 : decode cX2_allBruises 12 = .ok (.iload_n 1, 1) := by decide +kernel
theorem dX2_allBruises_13 : decode cX2_allBruises 13 = .ok (.aload_n 0, 1) := by decide +kernel
theorem dX2_allBruises_14 : decode cX2_allBruises 14 = .ok (.getfield 11, 3) := by decide +kernel
theorem dX2_allBruises_17 : decode cX2_allBruises 17 = .ok (.iload_n 2, 1) := by decide +kernel
theorem dX2_allBruises_18 : decode cX2_allBruises 18 = .ok (.aaload, 1) := by decide +kernel
theorem dX2_allBruises_19 : decode cX2_allBruises 19 = .ok (.getfield 127, 3) := by decide +kernel
theorem dX2_allBruises_22 : decode cX2_allBruises 22 = .ok (.iadd, 1) := by decide +kernel
theorem dX2_allBruises_23 : decode cX2_allBruises 23 = .ok (.istore_n 1, 1) := by decide +kernel
theorem dX2_allBruises_24 : decode cX2_allBruises 24 = .ok (.iinc 2 1, 3) := by decide +kernel
theorem dX2_allBruises_27 : decode cX2_allBruises 27 = .ok (.goto (-23), 3) := by decide +kernel
theorem dX2_allBruises_30 : decode cX2_allBruises 30 = .ok (.iload_n 1, 1) := by decide +kernel
theorem dX2_allBruises_31 : decode cX2_allBruises 31 = .ok (.ireturn, 1) := by decide +kernel
theorem dX2_tellThing_0 : decode cX2_tellThing 0 = .ok (.aload_n 0, 1) := by decide +kernel
theorem dX2_tellThing_1 : decode cX2_tellThing 1 = .ok (.getfield 20, 3) := by decide +kernel
theorem dX2_tellThing_4 : decode cX2_tellThing 4 = .ok (.iload_n 1, 1) := by decide +kernel
theorem dX2_tellThing_5 : decode cX2_tellThing 5 = .ok (.aaload, 1) := by decide +kernel
theorem dX2_tellThing_6 : decode cX2_tellThing 6 = .ok (.astore_n 3, 1) := by decide +kernel
theorem dX2_tellThing_7 : decode cX2_tellThing 7 = .ok (.iload_n 2, 1) := by decide +kernel
theorem dX2_tellThing_8 : decode cX2_tellThing 8 = .ok (.tableswitch 87 0 5 #[40, 45, 50, 55, 60, 82], 40) := by decide +kernel
theorem dX2_tellThing_48 : decode cX2_tellThing 48 = .ok (.aload_n 3, 1) := by decide +kernel
theorem dX2_tellThing_49 : decode cX2_tellThing 49 = .ok (.getfield 55, 3) := by decide +kernel
theorem dX2_tellThing_52 : decode cX2_tellThing 52 = .ok (.ireturn, 1) := by decide +kernel
theorem dX2_tellThing_53 : decode cX2_tellThing 53 = .ok (.aload_n 3, 1) := by decide +kernel
theorem dX2_tellThing_54 : decode cX2_tellThing 54 = .ok (.getfield 62, 3) := by decide +kernel
theorem dX2_tellThing_57 : decode cX2_tellThing 57 = .ok (.ireturn, 1) := by decide +kernel
theorem dX2_tellThing_58 : decode cX2_tellThing 58 = .ok (.aload_n 3, 1) := by decide +kernel
theorem dX2_tellThing_59 : decode cX2_tellThing 59 = .ok (.getfield 65, 3) := by decide +kernel
theorem dX2_tellThing_62 : decode cX2_tellThing 62 = .ok (.ireturn, 1) := by decide +kernel
theorem dX2_tellThing_63 : decode cX2_tellThing 63 = .ok (.aload_n 3, 1) := by decide +kernel
theorem dX2_tellThing_64 : decode cX2_tellThing 64 = .ok (.getfield 68, 3) := by decide +kernel
theorem dX2_tellThing_67 : decode cX2_tellThing 67 = .ok (.ireturn, 1) := by decide +kernel
theorem dX2_tellThing_68 : decode cX2_tellThing 68 = .ok (.aload_n 3, 1) := by decide +kernel
theorem dX2_tellThing_69 : decode cX2_tellThing 69 = .ok (.getfield 62, 3) := by decide +kernel
theorem dX2_tellThing_72 : decode cX2_tellThing 72 = .ok (.iconst 2, 1) := by decide +kernel
theorem dX2_tellThing_73 : decode cX2_tellThing 73 = .ok (.if_icmp .ne 15, 3) := by decide +kernel
theorem dX2_tellThing_76 : decode cX2_tellThing 76 = .ok (.aload_n 3, 1) := by decide +kernel
theorem dX2_tellThing_77 : decode cX2_tellThing 77 = .ok (.getfield 130, 3) := by decide +kernel
theorem dX2_tellThing_80 : decode cX2_tellThing 80 = .ok (.aload_n 0, 1) := by decide +kernel
theorem dX2_tellThing_81 : decode cX2_tellThing 81 = .ok (.getfield 32, 3) := by decide +kernel
theorem dX2_tellThing_84 : decode cX2_tellThing 84 = .ok (.isub, 1) := by decide +kernel
theorem dX2_tellThing_85 : decode cX2_tellThing 85 = .ok (.goto 4, 3) := by decide +kernel
theorem dX2_tellThing_88 : decode cX2_tellThing 88 = .ok (.iconst (-1), 1) := by decide +kernel
theorem dX2_tellThing_89 : decode cX2_tellThing 89 = .ok (.ireturn, 1) := by decide +kernel
theorem dX2_tellThing_90 : decode cX2_tellThing 90 = .ok (.aload_n 3, 1) := by decide +kernel
theorem dX2_tellThing_91 : decode cX2_tellThing 91 = .ok (.getfield 121, 3) := by decide +kernel
theorem dX2_tellThing_94 : decode cX2_tellThing 94 = .ok (.ireturn, 1) := by decide +kernel
theorem dX2_tellThing_95 : decode cX2_tellThing 95 = .ok (.aload_n 3, 1) := by decide +kernel
theorem dX2_tellThing_96 : decode cX2_tellThing 96 = .ok (.getfield 124, 3) := by decide +kernel
theorem dX2_tellThing_99 : decode cX2_tellThing 99 = .ok (.ireturn, 1) := by decide +kernel
theorem dX2_tellJuggler_0 : decode cX2_tellJuggler 0 = .ok (.aload_n 0, 1) := by decide +kernel
theorem dX2_tellJuggler_1 : decode cX2_tellJuggler 1 = .ok (.getfield 11, 3) := by decide +kernel
theorem dX2_tellJuggler_4 : decode cX2_tellJuggler 4 = .ok (.iload_n 1, 1) := by decide +kernel
theorem dX2_tellJuggler_5 : decode cX2_tellJuggler 5 = .ok (.aaload, 1) := by decide +kernel
theorem dX2_tellJuggler_6 : decode cX2_tellJuggler 6 = .ok (.astore_n 3, 1) := by decide +kernel
theorem dX2_tellJuggler_7 : decode cX2_tellJuggler 7 = .ok (.iload_n 2, 1) := by decide +kernel
theorem dX2_tellJuggler_8 : decode cX2_tellJuggler 8 = .ok (.tableswitch 78 0 5 #[40, 45, 50, 57, 64, 72], 40) := by decide +kernel
theorem dX2_tellJuggler_48 : decode cX2_tellJuggler 48 = .ok (.aload_n 3, 1) := by decide +kernel
theorem dX2_tellJuggler_49 : decode cX2_tellJuggler 49 = .ok (.getfield 42, 3) := by decide +kernel
theorem dX2_tellJuggler_52 : decode cX2_tellJuggler 52 = .ok (.ireturn, 1) := by decide +kernel
theorem dX2_tellJuggler_53 : decode cX2_tellJuggler 53 = .ok (.aload_n 3, 1) := by decide +kernel
theorem dX2_tellJuggler_54 : decode cX2_tellJuggler 54 = .ok (.getfield 127, 3) := by decide +kernel
theorem dX2_tellJuggler_57 : decode cX2_tellJuggler 57 = .ok (.ireturn, 1) := by decide +kernel
theorem dX2_tellJuggler_58 : decode cX2_tellJuggler 58 = .ok (.aload_n 3, 1) := by decide +kernel
theorem dX2_tellJuggler_59 : decode cX2_tellJuggler 59 = .ok (.getfield 58, 3) := by decide +kernel
theorem dX2_tellJuggler_62 : decode cX2_tellJuggler 62 = .ok (.iconst 0, 1) := by decide +kernel
theorem dX2_tellJuggler_63 : decode cX2_tellJuggler 63 = .ok (.iaload, 1) := by decide +kernel
theorem dX2_tellJuggler_64 : decode cX2_tellJuggler 64 = .ok (.ireturn, 1) := by decide +kernel
theorem dX2_tellJuggler_65 : decode cX2_tellJuggler 65 = .ok (.aload_n 3, 1) := by decide +kernel
theorem dX2_tellJuggler_66 : decode cX2_tellJuggler 66 = .ok (.getfield 58, 3) := by decide +kernel
theorem dX2_tellJuggler_69 : decode cX2_tellJuggler 69 = .ok (.iconst 1, 1) := by decide +kernel
theorem dX2_tellJuggler_70 : decode cX2_tellJuggler 70 = .ok (.iaload, 1) := by decide +kernel
theorem dX2_tellJuggler_71 : decode cX2_tellJuggler 71 = .ok (.ireturn, 1) := by decide +kernel
theorem dX2_tellJuggler_72 : decode cX2_tellJuggler 72 = .ok (.aload_n 3, 1) := by decide +kernel
theorem dX2_tellJuggler_73 : decode cX2_tellJuggler 73 = .ok (.getfield 45, 3) := by decide +kernel
theorem dX2_tellJuggler_76 : decode cX2_tellJuggler 76 = .ok (.getfield 133, 3) := by decide +kernel
theorem dX2_tellJuggler_79 : decode cX2_tellJuggler 79 = .ok (.ireturn, 1) := by decide +kernel
theorem dX2_tellJuggler_80 : decode cX2_tellJuggler 80 = .ok (.aload_n 0, 1) := by decide +kernel
theorem dX2_tellJuggler_81 : decode cX2_tellJuggler 81 = .ok (.iload_n 1, 1) := by decide +kernel
theorem dX2_tellJuggler_82 : decode cX2_tellJuggler 82 = .ok (.invokevirtual 136, 3) := by decide +kernel
theorem dX2_tellJuggler_85 : decode cX2_tellJuggler 85 = .ok (.ireturn, 1) := by decide +kernel
theorem dX2_tellJuggler_86 : decode cX2_tellJuggler 86 = .ok (.aload_n 3, 1) := by decide +kernel
theorem dX2_tellJuggler_87 : decode cX2_tellJuggler 87 = .ok (.getfield 100, 3) := by decide +kernel
theorem dX2_tellJuggler_90 : decode cX2_tellJuggler 90 = .ok (.ireturn, 1) := by decide +kernel
theorem dX2_tellCount_0 : decode cX2_tellCount 0 = .ok (.iload_n 1, 1) := by decide +kernel
theorem dX2_tellCount_1 : decode cX2_tellCount 1 = .ok (.tableswitch 91 0 7 #[47, 52, 57, 62, 68, 74, 80, 86], 47) := by decide +kernel
theorem dX2_tellCount_48 : decode cX2_tellCount 48 = .ok (.aload_n 0, 1) := by decide +kernel
theorem dX2_tellCount_49 : decode cX2_tellCount 49 = .ok (.getfield 32, 3) := by decide +kernel
theorem dX2_tellCount_52 : decode cX2_tellCount 52 = .ok (.ireturn, 1) := by decide +kernel
theorem dX2_tellCount_53 : decode cX2_tellCount 53 = .ok (.aload_n 0, 1) := by decide +kernel
theorem dX2_tellCount_54 : decode cX2_tellCount 54 = .ok (.getfield 25, 3) := by decide +kernel
theorem dX2_tellCount_57 : decode cX2_tellCount 57 = .ok (.ireturn, 1) := by decide +kernel
theorem dX2_tellCount_58 : decode cX2_tellCount 58 = .ok (.aload_n 0, 1) := by decide +kernel
theorem dX2_tellCount_59 : decode cX2_tellCount 59 = .ok (.getfield 29, 3) := by decide +kernel
theorem dX2_tellCount_62 : decode cX2_tellCount 62 = .ok (.ireturn, 1) := by decide +kernel
theorem dX2_tellCount_63 : decode cX2_tellCount 63 = .ok (.aload_n 0, 1) := by decide +kernel
theorem dX2_tellCount_64 : decode cX2_tellCount 64 = .ok (.iconst 1, 1) := by decide +kernel
theorem dX2_tellCount_65 : decode cX2_tellCount 65 = .ok (.invokevirtual 139, 3) := by decide +kernel
theorem dX2_tellCount_68 : decode cX2_tellCount 68 = .ok (.ireturn, 1) := by decide +kernel
theorem dX2_tellCount_69 : decode cX2_tellCount 69 = .ok (.aload_n 0, 1) := by decide +kernel
theorem dX2_tellCount_70 : decode cX2_tellCount 70 = .ok (.iconst 2, 1) := by decide +kernel
theorem dX2_tellCount_71 : decode cX2_tellCount 71 = .ok (.invokevirtual 139, 3) := by decide +kernel
theorem dX2_tellCount_74 : decode cX2_tellCount 74 = .ok (.ireturn, 1) := by decide +kernel
theorem dX2_tellCount_75 : decode cX2_tellCount 75 = .ok (.aload_n 0, 1) := by decide +kernel
theorem dX2_tellCount_76 : decode cX2_tellCount 76 = .ok (.iconst 0, 1) := by decide +kernel
theorem dX2_tellCount_77 : decode cX2_tellCount 77 = .ok (.invokevirtual 139, 3) := by decide +kernel
theorem dX2_tellCount_80 : decode cX2_tellCount 80 = .ok (.ireturn, 1) := by decide +kernel
theorem dX2_tellCount_81 : decode cX2_tellCount 81 = .ok (.aload_n 0, 1) := by decide +kernel
theorem dX2_tellCount_82 : decode cX2_tellCount 82 = .ok (.iconst 3, 1) := by decide +kernel
theorem dX2_tellCount_83 : decode cX2_tellCount 83 = .ok (.invokevirtual 139, 3) := by decide +kernel
theorem dX2_tellCount_86 : decode cX2_tellCount 86 = .ok (.ireturn, 1) := by decide +kernel
theorem dX2_tellCount_87 : decode cX2_tellCount 87 = .ok (.aload_n 0, 1) := by decide +kernel
theorem dX2_tellCount_88 : decode cX2_tellCount 88 = .ok (.invokevirtual 142, 3) := by decide +kernel
theorem dX2_tellCount_91 : decode cX2_tellCount 91 = .ok (.ireturn, 1) := by decide +kernel
theorem dX2_tellCount_92 : decode cX2_tellCount 92 = .ok (.aload_n 0, 1) := by decide +kernel
theorem dX2_tellCount_93 : decode cX2_tellCount 93 = .ok (.invokevirtual 145, 3) := by decide +kernel
theorem dX2_tellCount_96 : decode cX2_tellCount 96 = .ok (.ireturn, 1) := by decide +kernel
