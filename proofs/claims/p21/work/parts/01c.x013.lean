theorem dX0_init_0 : decode cX0_init 0 = .ok (.aload_n 0, 1) := by decide +kernel
theorem dX0_init_1 : decode cX0_init 1 = .ok (.invokespecial 3, 3) := by decide +kernel
theorem dX0_init_4 : decode cX0_init 4 = .ok (.aload_n 0, 1) := by decide +kernel
theorem dX0_init_5 : decode cX0_init 5 = .ok (.new 9, 3) := by decide +kernel
theorem dX0_init_8 : decode cX0_init 8 = .ok (.dup, 1) := by decide +kernel
theorem dX0_init_9 : decode cX0_init 9 = .ok (.invokespecial 11, 3) := by decide +kernel
theorem dX0_init_12 : decode cX0_init 12 = .ok (.putfield 12, 3) := by decide +kernel
theorem dX0_init_15 : decode cX0_init 15 = .ok (.aload_n 0, 1) := by decide +kernel
theorem dX0_init_16 : decode cX0_init 16 = .ok (.iconst 2, 1) := by decide +kernel
theorem dX0_init_17 : decode cX0_init 17 = .ok (.newarray .int, 2) := by decide +kernel
theorem dX0_init_19 : decode cX0_init 19 = .ok (.dup, 1) := by decide +kernel
theorem dX0_init_20 : decode cX0_init 20 = .ok (.iconst 0, 1) := by decide +kernel
theorem dX0_init_21 : decode cX0_init 21 = .ok (.iconst (-1), 1) := by decide +kernel
theorem dX0_init_22 : decode cX0_init 22 = .ok (.iastore, 1) := by decide +kernel
theorem dX0_init_23 : decode cX0_init 23 = .ok (.dup, 1) := by decide +kernel
theorem dX0_init_24 : decode cX0_init 24 = .ok (.iconst 1, 1) := by decide +kernel
theorem dX0_init_25 : decode cX0_init 25 = .ok (.iconst (-1), 1) := by decide +kernel
theorem dX0_init_26 : decode cX0_init 26 = .ok (.iastore, 1) := by decide +kernel
theorem dX0_init_27 : decode cX0_init 27 = .ok (.putfield 18, 3) := by decide +kernel
theorem dX0_init_30 : decode cX0_init 30 = .ok (.return_, 1) := by decide +kernel
theorem dX0_copyFrom_0 : decode cX0_copyFrom 0 = .ok (.aload_n 0, 1) := by decide +kernel
theorem dX0_copyFrom_1 : decode cX0_copyFrom 1 = .ok (.getfield 12, 3) := by decide +kernel
theorem dX0_copyFrom_4 : decode cX0_copyFrom 4 = .ok (.aload_n 1, 1) := by decide +kernel
theorem dX0_copyFrom_5 : decode cX0_copyFrom 5 = .ok (.getfield 12, 3) := by decide +kernel
theorem dX0_copyFrom_8 : decode cX0_copyFrom 8 = .ok (.invokevirtual 22, 3) := by decide +kernel
theorem dX0_copyFrom_11 : decode cX0_copyFrom 11 = .ok (.iconst 0, 1) := by decide +kernel
theorem dX0_copyFrom_12 : decode cX0_copyFrom 12 = .ok (.istore_n 2, 1) := by decide +kernel
theorem dX0_copyFrom_13 : decode cX0_copyFrom 13 = .ok (.iload_n 2, 1) := by decide +kernel
theorem dX0_copyFrom_14 : decode cX0_copyFrom 14 = .ok (.iconst 2, 1) := by decide +kernel
theorem dX0_copyFrom_15 : decode cX0_copyFrom 15 = .ok (.if_icmp .ge 21, 3) := by decide +kernel
theorem dX0_copyFrom_18 : decode cX0_copyFrom 18 = .ok (.aload_n 0, 1) := by decide +kernel
theorem dX0_copyFrom_19 : decode cX0_copyFrom 19 = .ok (.getfield 18, 3) := by decide +kernel
theorem dX0_copyFrom_22 : decode cX0_copyFrom 22 = .ok (.iload_n 2, 1) := by decide +kernel
theorem dX0_copyFrom_23 : decode cX0_copyFrom 23 = .ok (.aload_n 1, 1) := by decide +kernel
theorem dX0_copyFrom_24 : decode cX0_copyFrom 24 = .ok (.getfield 18, 3) := by decide +kernel
theorem dX0_copyFrom_27 : decode cX0_copyFrom 27 = .ok (.iload_n 2, 1) := by decide +kernel
theorem dX0_copyFrom_28 : decode cX0_copyFrom 28 = .ok (.iaload, 1) := by decide +kernel
theorem dX0_copyFrom_29 : decode cX0_copyFrom 29 = .ok (.iastore, 1) := by decide +kernel
theorem dX0_copyFrom_30 : decode cX0_copyFrom 30 = .ok (.iinc 2 1, 3) := by decide +kernel
theorem dX0_copyFrom_33 : decode cX0_copyFrom 33 = .ok (.goto (-20), 3) := by decide +kernel
theorem dX0_copyFrom_36 : decode cX0_copyFrom 36 = .ok (.aload_n 0, 1) := by decide +kernel
theorem dX0_copyFrom_37 : decode cX0_copyFrom 37 = .ok (.aload_n 1, 1) := by decide +kernel
theorem dX0_copyFrom_38 : decode cX0_copyFrom 38 = .ok (.getfield 26, 3) := by decide +kernel
theorem dX0_copyFrom_41 : decode cX0_copyFrom 41 = .ok (.putfield 26, 3) := by decide +kernel
theorem dX0_copyFrom_44 : decode cX0_copyFrom 44 = .ok (.aload_n 0, 1) := by decide +kernel
theorem dX0_copyFrom_45 : decode cX0_copyFrom 45 = .ok (.aload_n 1, 1) := by decide +kernel
theorem dX0_copyFrom_46 : decode cX0_copyFrom 46 = .ok (.getfield 30, 3) := by decide +kernel
theorem dX0_copyFrom_49 : decode cX0_copyFrom 49 = .ok (.putfield 30, 3) := by decide +kernel
theorem dX0_copyFrom_52 : decode cX0_copyFrom 52 = .ok (.aload_n 0, 1) := by decide +kernel
theorem dX0_copyFrom_53 : decode cX0_copyFrom 53 = .ok (.aload_n 1, 1) := by decide +kernel
theorem dX0_copyFrom_54 : decode cX0_copyFrom 54 = .ok (.getfield 33, 3) := by decide +kernel
theorem dX0_copyFrom_57 : decode cX0_copyFrom 57 = .ok (.putfield 33, 3) := by decide +kernel
theorem dX0_copyFrom_60 : decode cX0_copyFrom 60 = .ok (.return_, 1) := by decide +kernel
theorem dX0_canCatch_0 : decode cX0_canCatch 0 = .ok (.aload_n 0, 1) := by decide +kernel
theorem dX0_canCatch_1 : decode cX0_canCatch 1 = .ok (.getfield 18, 3) := by decide +kernel
theorem dX0_canCatch_4 : decode cX0_canCatch 4 = .ok (.iload_n 2, 1) := by decide +kernel
theorem dX0_canCatch_5 : decode cX0_canCatch 5 = .ok (.iaload, 1) := by decide +kernel
theorem dX0_canCatch_6 : decode cX0_canCatch 6 = .ok (.iconst (-1), 1) := by decide +kernel
theorem dX0_canCatch_7 : decode cX0_canCatch 7 = .ok (.if_icmp .ne 17, 3) := by decide +kernel
theorem dX0_canCatch_10 : decode cX0_canCatch 10 = .ok (.iload_n 1, 1) := by decide +kernel
theorem dX0_canCatch_11 : decode cX0_canCatch 11 = .ok (.aload_n 0, 1) := by decide +kernel
theorem dX0_canCatch_12 : decode cX0_canCatch 12 = .ok (.getfield 26, 3) := by decide +kernel
theorem dX0_canCatch_15 : decode cX0_canCatch 15 = .ok (.iconst 2, 1) := by decide +kernel
theorem dX0_canCatch_16 : decode cX0_canCatch 16 = .ok (.iadd, 1) := by decide +kernel
theorem dX0_canCatch_17 : decode cX0_canCatch 17 = .ok (.if_icmp .gt 7, 3) := by decide +kernel
theorem dX0_canCatch_20 : decode cX0_canCatch 20 = .ok (.iconst 1, 1) := by decide +kernel
theorem dX0_canCatch_21 : decode cX0_canCatch 21 = .ok (.goto 4, 3) := by decide +kernel
theorem dX0_canCatch_24 : decode cX0_canCatch 24 = .ok (.iconst 0, 1) := by decide +kernel
theorem dX0_canCatch_25 : decode cX0_canCatch 25 = .ok (.ireturn, 1) := by decide +kernel
theorem dX0_miss_0 : decode cX0_miss 0 = .ok (.aload_n 1, 1) := by decide +kernel
theorem dX0_miss_1 : decode cX0_miss 1 = .ok (.getfield 36, 3) := by decide +kernel
theorem dX0_miss_4 : decode cX0_miss 4 = .ok (.iconst 1, 1) := by decide +kernel
theorem dX0_miss_5 : decode cX0_miss 5 = .ok (.if_icmp .ne 13, 3) := by decide +kernel
theorem dX0_miss_8 : decode cX0_miss 8 = .ok (.aload_n 0, 1) := by decide +kernel
theorem dX0_miss_9 : decode cX0_miss 9 = .ok (.dup, 1) := by decide +kernel
theorem dX0_miss_10 : decode cX0_miss 10 = .ok (.getfield 30, 3) := by decide +kernel
theorem dX0_miss_13 : decode cX0_miss 13 = .ok (.iconst 1, 1) := by decide +kernel
theorem dX0_miss_14 : decode cX0_miss 14 = .ok (.iadd, 1) := by decide +kernel
theorem dX0_miss_15 : decode cX0_miss 15 = .ok (.putfield 30, 3) := by decide +kernel
theorem dX0_miss_18 : decode cX0_miss 18 = .ok (.aload_n 1, 1) := by decide +kernel
theorem dX0_miss_19 : decode cX0_miss 19 = .ok (.invokevirtual 41, 3) := by decide +kernel
theorem dX0_miss_22 : decode cX0_miss 22 = .ok (.return_, 1) := by decide +kernel
theorem dX0_thingsHeld_0 : decode cX0_thingsHeld 0 = .ok (.iconst 0, 1) := by decide +kernel
theorem dX0_thingsHeld_1 : decode cX0_thingsHeld 1 = .ok (.istore_n 1, 1) := by decide +kernel
theorem dX0_thingsHeld_2 : decode cX0_thingsHeld 2 = .ok (.iconst 0, 1) := by decide +kernel
theorem dX0_thingsHeld_3 : decode cX0_thingsHeld 3 = .ok (.istore_n 2, 1) := by decide +kernel
theorem dX0_thingsHeld_4 : decode cX0_thingsHeld 4 = .ok (.iload_n 2, 1) := by decide +kernel
theorem dX0_thingsHeld_5 : decode cX0_thingsHeld 5 = .ok (.iconst 2, 1) := by decide +kernel
theorem dX0_thingsHeld_6 : decode cX0_thingsHeld 6 = .ok (.if_icmp .ge 22, 3) := by decide +kernel
theorem dX0_thingsHeld_9 : decode cX0_thingsHeld 9 = .ok (.aload_n 0, 1) := by decide +kernel
theorem dX0_thingsHeld_10 : decode cX0_thingsHeld 10 = .ok (.getfield 18, 3) := by decide +kernel
theorem dX0_thingsHeld_13 : decode cX0_thingsHeld 13 = .ok (.iload_n 2, 1) := by decide +kernel
theorem dX0_thingsHeld_14 : decode cX0_thingsHeld 14 = .ok (.iaload, 1) := by decide +kernel
theorem dX0_thingsHeld_15 : decode cX0_thingsHeld 15 = .ok (.iconst (-1), 1) := by decide +kernel
theorem dX0_thingsHeld_16 : decode cX0_thingsHeld 16 = .ok (.if_icmp .eq 6, 3) := by decide +kernel
theorem dX0_thingsHeld_19 : decode cX0_thingsHeld 19 = .ok (.iinc 1 1, 3) := by decide +kernel
theorem dX0_thingsHeld_22 : decode cX0_thingsHeld 22 = .ok (.iinc 2 1, 3) := by decide +kernel
theorem dX0_thingsHeld_25 : decode cX0_thingsHeld 25 = .ok (.goto (-21), 3) := by decide +kernel
theorem dX0_thingsHeld_28 : decode cX0_thingsHeld 28 = .ok (.iload_n 1, 1) := by decide +kernel
theorem dX0_thingsHeld_29 : decode cX0_thingsHeld 29 = .ok (.ireturn, 1) := by decide +kernel
theorem dX1_init_0 : decode cX1_init 0 = .ok (.aload_n 0, 1) := by decide +kernel
theorem dX1_init_1 : decode cX1_init 1 = .ok (.invokespecial 3, 3) := by decide +kernel
theorem dX1_init_4 : decode cX1_init 4 = .ok (.aload_n 0, 1) := by decide +kernel
theorem dX1_init_5 : decode cX1_init 5 = .ok (.bipush 8, 2) := by decide +kernel
theorem dX1_init_7 : decode cX1_init 7 = .ok (.newarray .int, 2) := by decide +kernel
theorem dX1_init_9 : decode cX1_init 9 = .ok (.putfield 9, 3) := by decide +kernel
theorem dX1_init_12 : decode cX1_init 12 = .ok (.aload_n 0, 1) := by decide +kernel
theorem dX1_init_13 : decode cX1_init 13 = .ok (.bipush 8, 2) := by decide +kernel
theorem dX1_init_15 : decode cX1_init 15 = .ok (.newarray .int, 2) := by decide +kernel
theorem dX1_init_17 : decode cX1_init 17 = .ok (.putfield 15, 3) := by decide +kernel
theorem dX1_init_20 : decode cX1_init 20 = .ok (.aload_n 0, 1) := by decide +kernel
theorem dX1_init_21 : decode cX1_init 21 = .ok (.iconst 1, 1) := by decide +kernel
theorem dX1_init_22 : decode cX1_init 22 = .ok (.putfield 18, 3) := by decide +kernel
theorem dX1_init_25 : decode cX1_init 25 = .ok (.return_, 1) := by decide +kernel
theorem dX1_write_0 : decode cX1_write 0 = .ok (.aload_n 0, 1) := by decide +kernel
theorem dX1_write_1 : decode cX1_write 1 = .ok (.iload_n 2, 1) := by decide +kernel
theorem dX1_write_2 : decode cX1_write 2 = .ok (.putfield 18, 3) := by decide +kernel
theorem dX1_write_5 : decode cX1_write 5 = .ok (.iload_n 3, 1) := by decide +kernel
theorem dX1_write_6 : decode cX1_write 6 = .ok (.istore 4, 2) := by decide +kernel
theorem dX1_write_8 : decode cX1_write 8 = .ok (.aload_n 0, 1) := by decide +kernel
theorem dX1_write_9 : decode cX1_write 9 = .ok (.getfield 18, 3) := by decide +kernel
theorem dX1_write_12 : decode cX1_write 12 = .ok (.iconst 1, 1) := by decide +kernel
theorem dX1_write_13 : decode cX1_write 13 = .ok (.isub, 1) := by decide +kernel
theorem dX1_write_14 : decode cX1_write 14 = .ok (.istore 5, 2) := by decide +kernel
theorem dX1_write_16 : decode cX1_write 16 = .ok (.iload 5, 2) := by decide +kernel
theorem dX1_write_18 : decode cX1_write 18 = .ok (.ifCond .lt 36, 3) := by decide +kernel
theorem dX1_write_21 : decode cX1_write 21 = .ok (.aload_n 0, 1) := by decide +kernel
theorem dX1_write_22 : decode cX1_write 22 = .ok (.getfield 9, 3) := by decide +kernel
theorem dX1_write_25 : decode cX1_write 25 = .ok (.iload 5, 2) := by decide +kernel
theorem dX1_write_27 : decode cX1_write 27 = .ok (.iload 4, 2) := by decide +kernel
theorem dX1_write_29 : decode cX1_write 29 = .ok (.bipush 10, 2) := by decide +kernel
theorem dX1_write_31 : decode cX1_write 31 = .ok (.irem, 1) := by decide +kernel
theorem dX1_write_32 : decode cX1_write 32 = .ok (.iastore, 1) := by decide +kernel
theorem dX1_write_33 : decode cX1_write 33 = .ok (.aload_n 0, 1) := by decide +kernel
theorem dX1_write_34 : decode cX1_write 34 = .ok (.getfield 15, 3) := by decide +kernel
theorem dX1_write_37 : decode cX1_write 37 = .ok (.iload 5, 2) := by decide +kernel
theorem dX1_write_39 : decode cX1_write 39 = .ok (.iload_n 1, 1) := by decide +kernel
theorem dX1_write_40 : decode cX1_write 40 = .ok (.iastore, 1) := by decide +kernel
theorem dX1_write_41 : decode cX1_write 41 = .ok (.iload 4, 2) := by decide +kernel
theorem dX1_write_43 : decode cX1_write 43 = .ok (.bipush 10, 2) := by decide +kernel
theorem dX1_write_45 : decode cX1_write 45 = .ok (.idiv, 1) := by decide +kernel
theorem dX1_write_46 : decode cX1_write 46 = .ok (.istore 4, 2) := by decide +kernel
theorem dX1_write_48 : decode cX1_write 48 = .ok (.iinc 5 (-1), 3) := by decide +kernel
theorem dX1_write_51 : decode cX1_write 51 = .ok (.goto (-35), 3) := by decide +kernel
theorem dX1_write_54 : decode cX1_write 54 = .ok (.return_, 1) := by decide +kernel
theorem dX1_copyFrom_0 : decode cX1_copyFrom 0 = .ok (.aload_n 0, 1) := by decide +kernel
theorem dX1_copyFrom_1 : decode cX1_copyFrom 1 = .ok (.aload_n 1, 1) := by decide +kernel
theorem dX1_copyFrom_2 : decode cX1_copyFrom 2 = .ok (.getfield 18, 3) := by decide +kernel
theorem dX1_copyFrom_5 : decode cX1_copyFrom 5 = .ok (.putfield 18, 3) := by decide +kernel
theorem dX1_copyFrom_8 : decode cX1_copyFrom 8 = .ok (.iconst 0, 1) := by decide +kernel
theorem dX1_copyFrom_9 : decode cX1_copyFrom 9 = .ok (.istore_n 2, 1) := by decide +kernel
theorem dX1_copyFrom_10 : decode cX1_copyFrom 10 = .ok (.iload_n 2, 1) := by decide +kernel
theorem dX1_copyFrom_11 : decode cX1_copyFrom 11 = .ok (.aload_n 0, 1) := by decide +kernel
theorem dX1_copyFrom_12 : decode cX1_copyFrom 12 = .ok (.getfield 18, 3) := by decide +kernel
theorem dX1_copyFrom_15 : decode cX1_copyFrom 15 = .ok (.if_icmp .ge 33, 3) := by decide +kernel
theorem dX1_copyFrom_18 : decode cX1_copyFrom 18 = .ok (.aload_n 0, 1) := by decide +kernel
theorem dX1_copyFrom_19 : decode cX1_copyFrom 19 = .ok (.getfield 9, 3) := by decide +kernel
theorem dX1_copyFrom_22 : decode cX1_copyFrom 22 = .ok (.iload_n 2, 1) := by decide +kernel
theorem dX1_copyFrom_23 : decode cX1_copyFrom 23 = .ok (.aload_n 1, 1) := by decide +kernel
theorem dX1_copyFrom_24 : decode cX1_copyFrom 24 = .ok (.getfield 9, 3) := by decide +kernel
theorem dX1_copyFrom_27 : decode cX1_copyFrom 27 = .ok (.iload_n 2, 1) := by decide +kernel
theorem dX1_copyFrom_28 : decode cX1_copyFrom 28 = .ok (.iaload, 1) := by decide +kernel
theorem dX1_copyFrom_29 : decode cX1_copyFrom 29 = .ok (.iastore, 1) := by decide +kernel
theorem dX1_copyFrom_30 : decode cX1_copyFrom 30 = .ok (.aload_n 0, 1) := by decide +kernel
theorem dX1_copyFrom_31 : decode cX1_copyFrom 31 = .ok (.getfield 15, 3) := by decide +kernel
theorem dX1_copyFrom_34 : decode cX1_copyFrom 34 = .ok (.iload_n 2, 1) := by decide +kernel
theorem dX1_copyFrom_35 : decode cX1_copyFrom 35 = .ok (.aload_n 1, 1) := by decide +kernel
theorem dX1_copyFrom_36 : decode cX1_copyFrom 36 = .ok (.getfield 15, 3) := by decide +kernel
theorem dX1_copyFrom_39 : decode cX1_copyFrom 39 = .ok (.iload_n 2, 1) := by decide +kernel
theorem dX1_copyFrom_40 : decode cX1_copyFrom 40 = .ok (.iaload, 1) := by decide +kernel
theorem dX1_copyFrom_41 : decode cX1_copyFrom 41 = .ok (.iastore, 1) := by decide +kernel
theorem dX1_copyFrom_42 : decode cX1_copyFrom 42 = .ok (.iinc 2 1, 3) := by decide +kernel
theorem dX1_copyFrom_45 : decode cX1_copyFrom 45 = .ok (.goto (-35), 3) := by decide +kernel
theorem dX1_copyFrom_48 : decode cX1_copyFrom 48 = .ok (.return_, 1) := by decide +kernel
theorem dX1_placeIn_0 : decode cX1_placeIn 0 = .ok (.iload_n 1, 1) := by decide +kernel
theorem dX1_placeIn_1 : decode cX1_placeIn 1 = .ok (.aload_n 0, 1) := by decide +kernel
theorem dX1_placeIn_2 : decode cX1_placeIn 2 = .ok (.getfield 18, 3) := by decide +kernel
theorem dX1_placeIn_5 : decode cX1_placeIn 5 = .ok (.invokestatic 22, 3) := by decide +kernel
theorem dX1_placeIn_8 : decode cX1_placeIn 8 = .ok (.ireturn, 1) := by decide +kernel
theorem dX1_addTo_0 : decode cX1_addTo 0 = .ok (.lload_n 1, 1) := by decide +kernel
theorem dX1_addTo_1 : decode cX1_addTo 1 = .ok (.lstore_n 3, 1) := by decide +kernel
theorem dX1_addTo_2 : decode cX1_addTo 2 = .ok (.iconst 0, 1) := by decide +kernel
theorem dX1_addTo_3 : decode cX1_addTo 3 = .ok (.istore 5, 2) := by decide +kernel
theorem dX1_addTo_5 : decode cX1_addTo 5 = .ok (.iload 5, 2) := by decide +kernel
theorem dX1_addTo_7 : decode cX1_addTo 7 = .ok (.aload_n 0, 1) := by decide +kernel
theorem dX1_addTo_8 : decode cX1_addTo 8 = .ok (.getfield 18, 3) := by decide +kernel
theorem dX1_addTo_11 : decode cX1_addTo 11 = .ok (.if_icmp .ge 39, 3) := by decide +kernel
theorem dX1_addTo_14 : decode cX1_addTo 14 = .ok (.lload_n 3, 1) := by decide +kernel
theorem dX1_addTo_15 : decode cX1_addTo 15 = .ok (.ldc2_w 32, 3) := by decide +kernel
theorem dX1_addTo_18 : decode cX1_addTo 18 = .ok (.lmul, 1) := by decide +kernel
theorem dX1_addTo_19 : decode cX1_addTo 19 = .ok (.aload_n 0, 1) := by decide +kernel
theorem dX1_addTo_20 : decode cX1_addTo 20 = .ok (.getfield 9, 3) := by decide +kernel
theorem dX1_addTo_23 : decode cX1_addTo 23 = .ok (.iload 5, 2) := by decide +kernel
theorem dX1_addTo_25 : decode cX1_addTo 25 = .ok (.iaload, 1) := by decide +kernel
theorem dX1_addTo_26 : decode cX1_addTo 26 = .ok (.i2l, 1) := by decide +kernel
theorem dX1_addTo_27 : decode cX1_addTo 27 = .ok (.ladd, 1) := by decide +kernel
theorem dX1_addTo_28 : decode cX1_addTo 28 = .ok (.lstore_n 3, 1) := by decide +kernel
theorem dX1_addTo_29 : decode cX1_addTo 29 = .ok (.lload_n 3, 1) := by decide +kernel
theorem dX1_addTo_30 : decode cX1_addTo 30 = .ok (.ldc2_w 32, 3) := by decide +kernel
theorem dX1_addTo_33 : decode cX1_addTo 33 = .ok (.lmul, 1) := by decide +kernel
theorem dX1_addTo_34 : decode cX1_addTo 34 = .ok (.aload_n 0, 1) := by decide +kernel
theorem dX1_addTo_35 : decode cX1_addTo 35 = .ok (.getfield 15, 3) := by decide +kernel
theorem dX1_addTo_38 : decode cX1_addTo 38 = .ok (.iload 5, 2) := by decide +kernel
theorem dX1_addTo_40 : decode cX1_addTo 40 = .ok (.iaload, 1) := by decide +kernel
theorem dX1_addTo_41 : decode cX1_addTo 41 = .ok (.i2l, 1) := by decide +kernel
theorem dX1_addTo_42 : decode cX1_addTo 42 = .ok (.ladd, 1) := by decide +kernel
theorem dX1_addTo_43 : decode cX1_addTo 43 = .ok (.lstore_n 3, 1) := by decide +kernel
theorem dX1_addTo_44 : decode cX1_addTo 44 = .ok (.iinc 5 1, 3) := by decide +kernel
theorem dX1_addTo_47 : decode cX1_addTo 47 = .ok (.goto (-42), 3) := by decide +kernel
theorem dX1_addTo_50 : decode cX1_addTo 50 = .ok (.lload_n 3, 1) := by decide +kernel
theorem dX1_addTo_51 : decode cX1_addTo 51 = .ok (.lreturn, 1) := by decide +kernel
theorem dX3_init_0 : decode cX3_init 0 = .ok (.aload_n 0, 1) := by decide +kernel
theorem dX3_init_1 : decode cX3_init 1 = .ok (.invokespecial 3, 3) := by decide +kernel
theorem dX3_init_4 : decode cX3_init 4 = .ok (.aload_n 0, 1) := by decide +kernel
theorem dX3_init_5 : decode cX3_init 5 = .ok (.iconst 0, 1) := by decide +kernel
theorem dX3_init_6 : decode cX3_init 6 = .ok (.putfield 9, 3) := by decide +kernel
theorem dX3_init_9 : decode cX3_init 9 = .ok (.aload_n 0, 1) := by decide +kernel
theorem dX3_init_10 : decode cX3_init 10 = .ok (.iconst (-1), 1) := by decide +kernel
theorem dX3_init_11 : decode cX3_init 11 = .ok (.putfield 15, 3) := by decide +kernel
theorem dX3_init_14 : decode cX3_init 14 = .ok (.aload_n 0, 1) := by decide +kernel
theorem dX3_init_15 : decode cX3_init 15 = .ok (.iconst (-1), 1) := by decide +kernel
theorem dX3_init_16 : decode cX3_init 16 = .ok (.putfield 18, 3) := by decide +kernel
theorem dX3_init_19 : decode cX3_init 19 = .ok (.return_, 1) := by decide +kernel
theorem dX3_copyFrom_0 : decode cX3_copyFrom 0 = .ok (.aload_n 0, 1) := by decide +kernel
theorem dX3_copyFrom_1 : decode cX3_copyFrom 1 = .ok (.aload_n 1, 1) := by decide +kernel
theorem dX3_copyFrom_2 : decode cX3_copyFrom 2 = .ok (.getfield 21, 3) := by decide +kernel
theorem dX3_copyFrom_5 : decode cX3_copyFrom 5 = .ok (.putfield 21, 3) := by decide +kernel
theorem dX3_copyFrom_8 : decode cX3_copyFrom 8 = .ok (.aload_n 0, 1) := by decide +kernel
theorem dX3_copyFrom_9 : decode cX3_copyFrom 9 = .ok (.aload_n 1, 1) := by decide +kernel
theorem dX3_copyFrom_10 : decode cX3_copyFrom 10 = .ok (.getfield 9, 3) := by decide +kernel
theorem dX3_copyFrom_13 : decode cX3_copyFrom 13 = .ok (.putfield 9, 3) := by decide +kernel
theorem dX3_copyFrom_16 : decode cX3_copyFrom 16 = .ok (.aload_n 0, 1) := by decide +kernel
theorem dX3_copyFrom_17 : decode cX3_copyFrom 17 = .ok (.aload_n 1, 1) := by decide +kernel
theorem dX3_copyFrom_18 : decode cX3_copyFrom 18 = .ok (.getfield 15, 3) := by decide +kernel
theorem dX3_copyFrom_21 : decode cX3_copyFrom 21 = .ok (.putfield 15, 3) := by decide +kernel
theorem dX3_copyFrom_24 : decode cX3_copyFrom 24 = .ok (.aload_n 0, 1) := by decide +kernel
theorem dX3_copyFrom_25 : decode cX3_copyFrom 25 = .ok (.aload_n 1, 1) := by decide +kernel
theorem dX3_copyFrom_26 : decode cX3_copyFrom 26 = .ok (.getfield 18, 3) := by decide +kernel
theorem dX3_copyFrom_29 : decode cX3_copyFrom 29 = .ok (.putfield 18, 3) := by decide +kernel
theorem dX3_copyFrom_32 : decode cX3_copyFrom 32 = .ok (.aload_n 0, 1) := by decide +kernel
theorem dX3_copyFrom_33 : decode cX3_copyFrom 33 = .ok (.aload_n 1, 1) := by decide +kernel
theorem dX3_copyFrom_34 : decode cX3_copyFrom 34 = .ok (.getfield 24, 3) := by decide +kernel
theorem dX3_copyFrom_37 : decode cX3_copyFrom 37 = .ok (.putfield 24, 3) := by decide +kernel
theorem dX3_copyFrom_40 : decode cX3_copyFrom 40 = .ok (.aload_n 0, 1) := by decide +kernel
theorem dX3_copyFrom_41 : decode cX3_copyFrom 41 = .ok (.aload_n 1, 1) := by decide +kernel
theorem dX3_copyFrom_42 : decode cX3_copyFrom 42 = .ok (.getfield 27, 3) := by decide +kernel
theorem dX3_copyFrom_45 : decode cX3_copyFrom 45 = .ok (.putfield 27, 3) := by decide +kernel
theorem dX3_copyFrom_48 : decode cX3_copyFrom 48 = .ok (.aload_n 0, 1) := by decide +kernel
theorem dX3_copyFrom_49 : decode cX3_copyFrom 49 = .ok (.aload_n 1, 1) := by decide +kernel
theorem dX3_copyFrom_50 : decode cX3_copyFrom 50 = .ok (.getfield 30, 3) := by decide +kernel
theorem dX3_copyFrom_53 : decode cX3_copyFrom 53 = .ok (.putfield 30, 3) := by decide +kernel
theorem dX3_copyFrom_56 : decode cX3_copyFrom 56 = .ok (.aload_n 0, 1) := by decide +kernel
theorem dX3_copyFrom_57 : decode cX3_copyFrom 57 = .ok (.aload_n 1, 1) := by decide +kernel
theorem dX3_copyFrom_58 : decode cX3_copyFrom 58 = .ok (.getfield 33, 3) := by decide +kernel
theorem dX3_copyFrom_61 : decode cX3_copyFrom 61 = .ok (.putfield 33, 3) := by decide +kernel
theorem dX3_copyFrom_64 : decode cX3_copyFrom 64 = .ok (.return_, 1) := by decide +kernel
theorem dX3_comesDownIn_0 : decode cX3_comesDownIn 0 = .ok (.aload_n 0, 1) := by decide +kernel
theorem dX3_comesDownIn_1 : decode cX3_comesDownIn 1 = .ok (.getfield 9, 3) := by decide +kernel
theorem dX3_comesDownIn_4 : decode cX3_comesDownIn 4 = .ok (.iconst 2, 1) := by decide +kernel
theorem dX3_comesDownIn_5 : decode cX3_comesDownIn 5 = .ok (.if_icmp .ne 15, 3) := by decide +kernel
theorem dX3_comesDownIn_8 : decode cX3_comesDownIn 8 = .ok (.aload_n 0, 1) := by decide +kernel
theorem dX3_comesDownIn_9 : decode cX3_comesDownIn 9 = .ok (.getfield 24, 3) := by decide +kernel
theorem dX3_comesDownIn_12 : decode cX3_comesDownIn 12 = .ok (.iload_n 1, 1) := by decide +kernel
theorem dX3_comesDownIn_13 : decode cX3_comesDownIn 13 = .ok (.if_icmp .ne 7, 3) := by decide +kernel
theorem dX3_comesDownIn_16 : decode cX3_comesDownIn 16 = .ok (.iconst 1, 1) := by decide +kernel
theorem dX3_comesDownIn_17 : decode cX3_comesDownIn 17 = .ok (.goto 4, 3) := by decide +kernel
theorem dX3_comesDownIn_20 : decode cX3_comesDownIn 20 = .ok (.iconst 0, 1) := by decide +kernel
theorem dX3_comesDownIn_21 : decode cX3_comesDownIn 21 = .ok (.ireturn, 1) := by decide +kernel
theorem dX3_beatsInAir_0 : decode cX3_beatsInAir 0 = .ok (.aload_n 0, 1) := by decide +kernel
theorem dX3_beatsInAir_1 : decode cX3_beatsInAir 1 = .ok (.getfield 21, 3) := by decide +kernel
theorem dX3_beatsInAir_4 : decode cX3_beatsInAir 4 = .ok (.iconst 1, 1) := by decide +kernel
theorem dX3_beatsInAir_5 : decode cX3_beatsInAir 5 = .ok (.if_icmp .ne 12, 3) := by decide +kernel
theorem dX3_beatsInAir_8 : decode cX3_beatsInAir 8 = .ok (.iload_n 1, 1) := by decide +kernel
theorem dX3_beatsInAir_9 : decode cX3_beatsInAir 9 = .ok (.iconst 3, 1) := by decide +kernel
theorem dX3_beatsInAir_10 : decode cX3_beatsInAir 10 = .ok (.if_icmp .lt 7, 3) := by decide +kernel
theorem dX3_beatsInAir_13 : decode cX3_beatsInAir 13 = .ok (.iload_n 1, 1) := by decide +kernel
theorem dX3_beatsInAir_14 : decode cX3_beatsInAir 14 = .ok (.iconst 1, 1) := by decide +kernel
theorem dX3_beatsInAir_15 : decode cX3_beatsInAir 15 = .ok (.isub, 1) := by decide +kernel
theorem dX3_beatsInAir_16 : decode cX3_beatsInAir 16 = .ok (.ireturn, 1) := by decide +kernel
theorem dX3_beatsInAir_17 : decode cX3_beatsInAir 17 = .ok (.aload_n 0, 1) := by decide +kernel
theorem dX3_beatsInAir_18 : decode cX3_beatsInAir 18 = .ok (.getfield 21, 3) := by decide +kernel
theorem dX3_beatsInAir_21 : decode cX3_beatsInAir 21 = .ok (.iconst 2, 1) := by decide +kernel
theorem dX3_beatsInAir_22 : decode cX3_beatsInAir 22 = .ok (.if_icmp .ne 12, 3) := by decide +kernel
theorem dX3_beatsInAir_25 : decode cX3_beatsInAir 25 = .ok (.iload_n 1, 1) := by decide +kernel
theorem dX3_beatsInAir_26 : decode cX3_beatsInAir 26 = .ok (.iconst 5, 1) := by decide +kernel
theorem dX3_beatsInAir_27 : decode cX3_beatsInAir 27 = .ok (.if_icmp .lt 7, 3) := by decide +kernel
theorem dX3_beatsInAir_30 : decode cX3_beatsInAir 30 = .ok (.iload_n 1, 1) := by decide +kernel
theorem dX3_beatsInAir_31 : decode cX3_beatsInAir 31 = .ok (.iconst 1, 1) := by decide +kernel
theorem dX3_beatsInAir_32 : decode cX3_beatsInAir 32 = .ok (.iadd, 1) := by decide +kernel
theorem dX3_beatsInAir_33 : decode cX3_beatsInAir 33 = .ok (.ireturn, 1) := by decide +kernel
theorem dX3_beatsInAir_34 : decode cX3_beatsInAir 34 = .ok (.iload_n 1, 1) := by decide +kernel
theorem dX3_beatsInAir_35 : decode cX3_beatsInAir 35 = .ok (.ireturn, 1) := by decide +kernel
theorem dX3_fly_0 : decode cX3_fly 0 = .ok (.aload_n 0, 1) := by decide +kernel
theorem dX3_fly_1 : decode cX3_fly 1 = .ok (.iconst 2, 1) := by decide +kernel
theorem dX3_fly_2 : decode cX3_fly 2 = .ok (.putfield 9, 3) := by decide +kernel
theorem dX3_fly_5 : decode cX3_fly 5 = .ok (.aload_n 0, 1) := by decide +kernel
theorem dX3_fly_6 : decode cX3_fly 6 = .ok (.iload_n 1, 1) := by decide +kernel
theorem dX3_fly_7 : decode cX3_fly 7 = .ok (.putfield 15, 3) := by decide +kernel
theorem dX3_fly_10 : decode cX3_fly 10 = .ok (.aload_n 0, 1) := by decide +kernel
theorem dX3_fly_11 : decode cX3_fly 11 = .ok (.iconst (-1), 1) := by decide +kernel
theorem dX3_fly_12 : decode cX3_fly 12 = .ok (.putfield 18, 3) := by decide +kernel
theorem dX3_fly_15 : decode cX3_fly 15 = .ok (.aload_n 0, 1) := by decide +kernel
theorem dX3_fly_16 : decode cX3_fly 16 = .ok (.iload_n 2, 1) := by decide +kernel
theorem dX3_fly_17 : decode cX3_fly 17 = .ok (.putfield 27, 3) := by decide +kernel
theorem dX3_fly_20 : decode cX3_fly 20 = .ok (.aload_n 0, 1) := by decide +kernel
theorem dX3_fly_21 : decode cX3_fly 21 = .ok (.iload_n 3, 1) := by decide +kernel
theorem dX3_fly_22 : decode cX3_fly 22 = .ok (.aload_n 0, 1) := by decide +kernel
theorem dX3_fly_23 : decode cX3_fly 23 = .ok (.iload_n 2, 1) := by decide +kernel
theorem dX3_fly_24 : decode cX3_fly 24 = .ok (.invokevirtual 36, 3) := by decide +kernel
theorem dX3_fly_27 : decode cX3_fly 27 = .ok (.iadd, 1) := by decide +kernel
theorem dX3_fly_28 : decode cX3_fly 28 = .ok (.putfield 24, 3) := by decide +kernel
theorem dX3_fly_31 : decode cX3_fly 31 = .ok (.aload_n 0, 1) := by decide +kernel
theorem dX3_fly_32 : decode cX3_fly 32 = .ok (.dup, 1) := by decide +kernel
theorem dX3_fly_33 : decode cX3_fly 33 = .ok (.getfield 30, 3) := by decide +kernel
theorem dX3_fly_36 : decode cX3_fly 36 = .ok (.iconst 1, 1) := by decide +kernel
theorem dX3_fly_37 : decode cX3_fly 37 = .ok (.iadd, 1) := by decide +kernel
theorem dX3_fly_38 : decode cX3_fly 38 = .ok (.putfield 30, 3) := by decide +kernel
theorem dX3_fly_41 : decode cX3_fly 41 = .ok (.return_, 1) := by decide +kernel
theorem dX3_fall_0 : decode cX3_fall 0 = .ok (.aload_n 0, 1) := by decide +kernel
theorem dX3_fall_1 : decode cX3_fall 1 = .ok (.aload_n 0, 1) := by decide +kernel
theorem dX3_fall_2 : decode cX3_fall 2 = .ok (.getfield 21, 3) := by decide +kernel
theorem dX3_fall_5 : decode cX3_fall 5 = .ok (.iconst 2, 1) := by decide +kernel
theorem dX3_fall_6 : decode cX3_fall 6 = .ok (.if_icmp .ne 7, 3) := by decide +kernel
theorem dX3_fall_9 : decode cX3_fall 9 = .ok (.iconst 3, 1) := by decide +kernel
theorem dX3_fall_10 : decode cX3_fall 10 = .ok (.goto 4, 3) := by decide +kernel
theorem dX3_fall_13 : decode cX3_fall 13 = .ok (.iconst 0, 1) := by decide +kernel
theorem dX3_fall_14 : decode cX3_fall 14 = .ok (.putfield 9, 3) := by decide +kernel
theorem dX3_fall_17 : decode cX3_fall 17 = .ok (.aload_n 0, 1) := by decide +kernel
theorem dX3_fall_18 : decode cX3_fall 18 = .ok (.iconst (-1), 1) := by decide +kernel
theorem dX3_fall_19 : decode cX3_fall 19 = .ok (.putfield 15, 3) := by decide +kernel
theorem dX3_fall_22 : decode cX3_fall 22 = .ok (.aload_n 0, 1) := by decide +kernel
theorem dX3_fall_23 : decode cX3_fall 23 = .ok (.dup, 1) := by decide +kernel
theorem dX3_fall_24 : decode cX3_fall 24 = .ok (.getfield 33, 3) := by decide +kernel
theorem dX3_fall_27 : decode cX3_fall 27 = .ok (.iconst 1, 1) := by decide +kernel
theorem dX3_fall_28 : decode cX3_fall 28 = .ok (.iadd, 1) := by decide +kernel
theorem dX3_fall_29 : decode cX3_fall 29 = .ok (.putfield 33, 3) := by decide +kernel
theorem dX3_fall_32 : decode cX3_fall 32 = .ok (.return_, 1) := by decide +kernel
theorem dJ9_floorMod_7cf53_0 : decode cJ9_floorMod_7cf53 0 = .ok (.iload_n 0, 1) := by decide +kernel
theorem dJ9_floorMod_7cf53_1 : decode cJ9_floorMod_7cf53 1 = .ok (.iload_n 1, 1) := by decide +kernel
theorem dJ9_floorMod_7cf53_2 : decode cJ9_floorMod_7cf53 2 = .ok (.irem, 1) := by decide +kernel
theorem dJ9_floorMod_7cf53_3 : decode cJ9_floorMod_7cf53 3 = .ok (.istore_n 2, 1) := by decide +kernel
theorem dJ9_floorMod_7cf53_4 : decode cJ9_floorMod_7cf53 4 = .ok (.iload_n 0, 1) := by decide +kernel
theorem dJ9_floorMod_7cf53_5 : decode cJ9_floorMod_7cf53 5 = .ok (.iload_n 1, 1) := by decide +kernel
theorem dJ9_floorMod_7cf53_6 : decode cJ9_floorMod_7cf53 6 = .ok (.ixor, 1) := by decide +kernel
theorem dJ9_floorMod_7cf53_7 : decode cJ9_floorMod_7cf53 7 = .ok (.ifCond .ge 11, 3) := by decide +kernel
theorem dJ9_floorMod_7cf53_10 : decode cJ9_floorMod_7cf53 10 = .ok (.iload_n 2, 1) := by decide +kernel
theorem dJ9_floorMod_7cf53_11 : decode cJ9_floorMod_7cf53 11 = .ok (.ifCond .eq 7, 3) := by decide +kernel
theorem dJ9_floorMod_7cf53_14 : decode cJ9_floorMod_7cf53 14 = .ok (.iload_n 2, 1) := by decide +kernel
theorem dJ9_floorMod_7cf53_15 : decode cJ9_floorMod_7cf53 15 = .ok (.iload_n 1, 1) := by decide +kernel
theorem dJ9_floorMod_7cf53_16 : decode cJ9_floorMod_7cf53 16 = .ok (.iadd, 1) := by decide +kernel
theorem dJ9_floorMod_7cf53_17 : decode cJ9_floorMod_7cf53 17 = .ok (.ireturn, 1) := by decide +kernel
theorem dJ9_floorMod_7cf53_18 : decode cJ9_floorMod_7cf53 18 = .ok (.iload_n 2, 1) := by decide +kernel
theorem dJ9_floorMod_7cf53_19 : decode cJ9_floorMod_7cf53 19 = .ok (.ireturn, 1) := by decide +kernel
