theorem dL_come_0 : decode cL_come 0 = .ok (.aload_n 2, 1) := by decide +kernel
theorem dL_come_1 : decode cL_come 1 = .ok (.iconst 0, 1) := by decide +kernel
theorem dL_come_2 : decode cL_come 2 = .ok (.aload_n 0, 1) := by decide +kernel
theorem dL_come_3 : decode cL_come 3 = .ok (.iload_n 1, 1) := by decide +kernel
theorem dL_come_4 : decode cL_come 4 = .ok (.invokevirtual 7, 3) := by decide +kernel
theorem dL_come_7 : decode cL_come 7 = .ok (.i2l, 1) := by decide +kernel
theorem dL_come_8 : decode cL_come 8 = .ok (.lastore, 1) := by decide +kernel
theorem dL_come_9 : decode cL_come 9 = .ok (.goto 9, 3) := by decide +kernel
theorem dL_come_12 : decode cL_come 12 = .ok (.astore_n 3, 1) := by decide +kernel
theorem dL_come_13 : decode cL_come 13 = .ok (.iconst 1, 1) := by decide +kernel
theorem dL_come_14 : decode cL_come 14 = .ok (.ireturn, 1) := by decide +kernel
theorem dL_come_15 : decode cL_come 15 = .ok (.astore_n 3, 1) := by decide +kernel
theorem dL_come_16 : decode cL_come 16 = .ok (.iconst 2, 1) := by decide +kernel
theorem dL_come_17 : decode cL_come 17 = .ok (.ireturn, 1) := by decide +kernel
theorem dL_come_18 : decode cL_come 18 = .ok (.iconst 0, 1) := by decide +kernel
theorem dL_come_19 : decode cL_come 19 = .ok (.ireturn, 1) := by decide +kernel
theorem dL_setPattern_0 : decode cL_setPattern 0 = .ok (.aload 4, 2) := by decide +kernel
theorem dL_setPattern_2 : decode cL_setPattern 2 = .ok (.iconst 0, 1) := by decide +kernel
theorem dL_setPattern_3 : decode cL_setPattern 3 = .ok (.aload_n 0, 1) := by decide +kernel
theorem dL_setPattern_4 : decode cL_setPattern 4 = .ok (.iload_n 1, 1) := by decide +kernel
theorem dL_setPattern_5 : decode cL_setPattern 5 = .ok (.iload_n 2, 1) := by decide +kernel
theorem dL_setPattern_6 : decode cL_setPattern 6 = .ok (.iload_n 3, 1) := by decide +kernel
theorem dL_setPattern_7 : decode cL_setPattern 7 = .ok (.invokevirtual 17, 3) := by decide +kernel
theorem dL_setPattern_10 : decode cL_setPattern 10 = .ok (.i2l, 1) := by decide +kernel
theorem dL_setPattern_11 : decode cL_setPattern 11 = .ok (.lastore, 1) := by decide +kernel
theorem dL_setPattern_12 : decode cL_setPattern 12 = .ok (.goto 11, 3) := by decide +kernel
theorem dL_setPattern_15 : decode cL_setPattern 15 = .ok (.astore 5, 2) := by decide +kernel
theorem dL_setPattern_17 : decode cL_setPattern 17 = .ok (.iconst 1, 1) := by decide +kernel
theorem dL_setPattern_18 : decode cL_setPattern 18 = .ok (.ireturn, 1) := by decide +kernel
theorem dL_setPattern_19 : decode cL_setPattern 19 = .ok (.astore 5, 2) := by decide +kernel
theorem dL_setPattern_21 : decode cL_setPattern 21 = .ok (.iconst 2, 1) := by decide +kernel
theorem dL_setPattern_22 : decode cL_setPattern 22 = .ok (.ireturn, 1) := by decide +kernel
theorem dL_setPattern_23 : decode cL_setPattern 23 = .ok (.iconst 0, 1) := by decide +kernel
theorem dL_setPattern_24 : decode cL_setPattern 24 = .ok (.ireturn, 1) := by decide +kernel
theorem dL_pass_0 : decode cL_pass 0 = .ok (.aload 4, 2) := by decide +kernel
theorem dL_pass_2 : decode cL_pass 2 = .ok (.iconst 0, 1) := by decide +kernel
theorem dL_pass_3 : decode cL_pass 3 = .ok (.aload_n 0, 1) := by decide +kernel
theorem dL_pass_4 : decode cL_pass 4 = .ok (.iload_n 1, 1) := by decide +kernel
theorem dL_pass_5 : decode cL_pass 5 = .ok (.iload_n 2, 1) := by decide +kernel
theorem dL_pass_6 : decode cL_pass 6 = .ok (.iload_n 3, 1) := by decide +kernel
theorem dL_pass_7 : decode cL_pass 7 = .ok (.invokevirtual 23, 3) := by decide +kernel
theorem dL_pass_10 : decode cL_pass 10 = .ok (.i2l, 1) := by decide +kernel
theorem dL_pass_11 : decode cL_pass 11 = .ok (.lastore, 1) := by decide +kernel
theorem dL_pass_12 : decode cL_pass 12 = .ok (.goto 7, 3) := by decide +kernel
theorem dL_pass_15 : decode cL_pass 15 = .ok (.astore 5, 2) := by decide +kernel
theorem dL_pass_17 : decode cL_pass 17 = .ok (.iconst 1, 1) := by decide +kernel
theorem dL_pass_18 : decode cL_pass 18 = .ok (.ireturn, 1) := by decide +kernel
theorem dL_pass_19 : decode cL_pass 19 = .ok (.iconst 0, 1) := by decide +kernel
theorem dL_pass_20 : decode cL_pass 20 = .ok (.ireturn, 1) := by decide +kernel
theorem dL_written_0 : decode cL_written 0 = .ok (.aload 4, 2) := by decide +kernel
theorem dL_written_2 : decode cL_written 2 = .ok (.iconst 0, 1) := by decide +kernel
theorem dL_written_3 : decode cL_written 3 = .ok (.aload_n 0, 1) := by decide +kernel
theorem dL_written_4 : decode cL_written 4 = .ok (.iload_n 1, 1) := by decide +kernel
theorem dL_written_5 : decode cL_written 5 = .ok (.iload_n 2, 1) := by decide +kernel
theorem dL_written_6 : decode cL_written 6 = .ok (.iload_n 3, 1) := by decide +kernel
theorem dL_written_7 : decode cL_written 7 = .ok (.invokevirtual 26, 3) := by decide +kernel
theorem dL_written_10 : decode cL_written 10 = .ok (.i2l, 1) := by decide +kernel
theorem dL_written_11 : decode cL_written 11 = .ok (.lastore, 1) := by decide +kernel
theorem dL_written_12 : decode cL_written 12 = .ok (.goto 7, 3) := by decide +kernel
theorem dL_written_15 : decode cL_written 15 = .ok (.astore 5, 2) := by decide +kernel
theorem dL_written_17 : decode cL_written 17 = .ok (.iconst 1, 1) := by decide +kernel
theorem dL_written_18 : decode cL_written 18 = .ok (.ireturn, 1) := by decide +kernel
theorem dL_written_19 : decode cL_written 19 = .ok (.iconst 0, 1) := by decide +kernel
theorem dL_written_20 : decode cL_written 20 = .ok (.ireturn, 1) := by decide +kernel
theorem dL_make_0 : decode cL_make 0 = .ok (.aload_n 2, 1) := by decide +kernel
theorem dL_make_1 : decode cL_make 1 = .ok (.iconst 0, 1) := by decide +kernel
theorem dL_make_2 : decode cL_make 2 = .ok (.aload_n 0, 1) := by decide +kernel
theorem dL_make_3 : decode cL_make 3 = .ok (.iload_n 1, 1) := by decide +kernel
theorem dL_make_4 : decode cL_make 4 = .ok (.invokevirtual 29, 3) := by decide +kernel
theorem dL_make_7 : decode cL_make 7 = .ok (.i2l, 1) := by decide +kernel
theorem dL_make_8 : decode cL_make 8 = .ok (.lastore, 1) := by decide +kernel
theorem dL_make_9 : decode cL_make 9 = .ok (.goto 9, 3) := by decide +kernel
theorem dL_make_12 : decode cL_make 12 = .ok (.astore_n 3, 1) := by decide +kernel
theorem dL_make_13 : decode cL_make 13 = .ok (.iconst 1, 1) := by decide +kernel
theorem dL_make_14 : decode cL_make 14 = .ok (.ireturn, 1) := by decide +kernel
theorem dL_make_15 : decode cL_make 15 = .ok (.astore_n 3, 1) := by decide +kernel
theorem dL_make_16 : decode cL_make 16 = .ok (.iconst 2, 1) := by decide +kernel
theorem dL_make_17 : decode cL_make 17 = .ok (.ireturn, 1) := by decide +kernel
theorem dL_make_18 : decode cL_make 18 = .ok (.iconst 0, 1) := by decide +kernel
theorem dL_make_19 : decode cL_make 19 = .ok (.ireturn, 1) := by decide +kernel
theorem dL_give_0 : decode cL_give 0 = .ok (.aload 4, 2) := by decide +kernel
theorem dL_give_2 : decode cL_give 2 = .ok (.iconst 0, 1) := by decide +kernel
theorem dL_give_3 : decode cL_give 3 = .ok (.aload_n 0, 1) := by decide +kernel
theorem dL_give_4 : decode cL_give 4 = .ok (.iload_n 1, 1) := by decide +kernel
theorem dL_give_5 : decode cL_give 5 = .ok (.iload_n 2, 1) := by decide +kernel
theorem dL_give_6 : decode cL_give 6 = .ok (.iload_n 3, 1) := by decide +kernel
theorem dL_give_7 : decode cL_give 7 = .ok (.invokevirtual 32, 3) := by decide +kernel
theorem dL_give_10 : decode cL_give 10 = .ok (.i2l, 1) := by decide +kernel
theorem dL_give_11 : decode cL_give 11 = .ok (.lastore, 1) := by decide +kernel
theorem dL_give_12 : decode cL_give 12 = .ok (.goto 11, 3) := by decide +kernel
theorem dL_give_15 : decode cL_give 15 = .ok (.astore 5, 2) := by decide +kernel
theorem dL_give_17 : decode cL_give 17 = .ok (.iconst 1, 1) := by decide +kernel
theorem dL_give_18 : decode cL_give 18 = .ok (.ireturn, 1) := by decide +kernel
theorem dL_give_19 : decode cL_give 19 = .ok (.astore 5, 2) := by decide +kernel
theorem dL_give_21 : decode cL_give 21 = .ok (.iconst 2, 1) := by decide +kernel
theorem dL_give_22 : decode cL_give 22 = .ok (.ireturn, 1) := by decide +kernel
theorem dL_give_23 : decode cL_give 23 = .ok (.iconst 0, 1) := by decide +kernel
theorem dL_give_24 : decode cL_give 24 = .ok (.ireturn, 1) := by decide +kernel
theorem dL_thing_0 : decode cL_thing 0 = .ok (.aload_n 3, 1) := by decide +kernel
theorem dL_thing_1 : decode cL_thing 1 = .ok (.iconst 0, 1) := by decide +kernel
theorem dL_thing_2 : decode cL_thing 2 = .ok (.aload_n 0, 1) := by decide +kernel
theorem dL_thing_3 : decode cL_thing 3 = .ok (.iload_n 1, 1) := by decide +kernel
theorem dL_thing_4 : decode cL_thing 4 = .ok (.iload_n 2, 1) := by decide +kernel
theorem dL_thing_5 : decode cL_thing 5 = .ok (.invokevirtual 35, 3) := by decide +kernel
theorem dL_thing_8 : decode cL_thing 8 = .ok (.i2l, 1) := by decide +kernel
theorem dL_thing_9 : decode cL_thing 9 = .ok (.lastore, 1) := by decide +kernel
theorem dL_thing_10 : decode cL_thing 10 = .ok (.goto 7, 3) := by decide +kernel
theorem dL_thing_13 : decode cL_thing 13 = .ok (.astore 4, 2) := by decide +kernel
theorem dL_thing_15 : decode cL_thing 15 = .ok (.iconst 1, 1) := by decide +kernel
theorem dL_thing_16 : decode cL_thing 16 = .ok (.ireturn, 1) := by decide +kernel
theorem dL_thing_17 : decode cL_thing 17 = .ok (.iconst 0, 1) := by decide +kernel
theorem dL_thing_18 : decode cL_thing 18 = .ok (.ireturn, 1) := by decide +kernel
theorem dL_juggler_0 : decode cL_juggler 0 = .ok (.aload_n 3, 1) := by decide +kernel
theorem dL_juggler_1 : decode cL_juggler 1 = .ok (.iconst 0, 1) := by decide +kernel
theorem dL_juggler_2 : decode cL_juggler 2 = .ok (.aload_n 0, 1) := by decide +kernel
theorem dL_juggler_3 : decode cL_juggler 3 = .ok (.iload_n 1, 1) := by decide +kernel
theorem dL_juggler_4 : decode cL_juggler 4 = .ok (.iload_n 2, 1) := by decide +kernel
theorem dL_juggler_5 : decode cL_juggler 5 = .ok (.invokevirtual 39, 3) := by decide +kernel
theorem dL_juggler_8 : decode cL_juggler 8 = .ok (.i2l, 1) := by decide +kernel
theorem dL_juggler_9 : decode cL_juggler 9 = .ok (.lastore, 1) := by decide +kernel
theorem dL_juggler_10 : decode cL_juggler 10 = .ok (.goto 7, 3) := by decide +kernel
theorem dL_juggler_13 : decode cL_juggler 13 = .ok (.astore 4, 2) := by decide +kernel
theorem dL_juggler_15 : decode cL_juggler 15 = .ok (.iconst 1, 1) := by decide +kernel
theorem dL_juggler_16 : decode cL_juggler 16 = .ok (.ireturn, 1) := by decide +kernel
theorem dL_juggler_17 : decode cL_juggler 17 = .ok (.iconst 0, 1) := by decide +kernel
theorem dL_juggler_18 : decode cL_juggler 18 = .ok (.ireturn, 1) := by decide +kernel
theorem dL_lasts_0 : decode cL_lasts 0 = .ok (.aload_n 2, 1) := by decide +kernel
theorem dL_lasts_1 : decode cL_lasts 1 = .ok (.iconst 0, 1) := by decide +kernel
theorem dL_lasts_2 : decode cL_lasts 2 = .ok (.aload_n 0, 1) := by decide +kernel
theorem dL_lasts_3 : decode cL_lasts 3 = .ok (.iload_n 1, 1) := by decide +kernel
theorem dL_lasts_4 : decode cL_lasts 4 = .ok (.invokevirtual 42, 3) := by decide +kernel
theorem dL_lasts_7 : decode cL_lasts 7 = .ok (.ifCond .eq 7, 3) := by decide +kernel
theorem dL_lasts_10 : decode cL_lasts 10 = .ok (.lconst 1, 1) := by decide +kernel
theorem dL_lasts_11 : decode cL_lasts 11 = .ok (.goto 4, 3) := by decide +kernel
theorem dL_lasts_14 : decode cL_lasts 14 = .ok (.lconst 0, 1) := by decide +kernel
theorem dL_lasts_15 : decode cL_lasts 15 = .ok (.lastore, 1) := by decide +kernel
theorem dL_lasts_16 : decode cL_lasts 16 = .ok (.goto 6, 3) := by decide +kernel
theorem dL_lasts_19 : decode cL_lasts 19 = .ok (.astore_n 3, 1) := by decide +kernel
theorem dL_lasts_20 : decode cL_lasts 20 = .ok (.iconst 1, 1) := by decide +kernel
theorem dL_lasts_21 : decode cL_lasts 21 = .ok (.ireturn, 1) := by decide +kernel
theorem dL_lasts_22 : decode cL_lasts 22 = .ok (.iconst 0, 1) := by decide +kernel
theorem dL_lasts_23 : decode cL_lasts 23 = .ok (.ireturn, 1) := by decide +kernel
theorem dL_asks_0 : decode cL_asks 0 = .ok (.aload_n 2, 1) := by decide +kernel
theorem dL_asks_1 : decode cL_asks 1 = .ok (.iconst 0, 1) := by decide +kernel
theorem dL_asks_2 : decode cL_asks 2 = .ok (.aload_n 0, 1) := by decide +kernel
theorem dL_asks_3 : decode cL_asks 3 = .ok (.iload_n 1, 1) := by decide +kernel
theorem dL_asks_4 : decode cL_asks 4 = .ok (.invokevirtual 46, 3) := by decide +kernel
theorem dL_asks_7 : decode cL_asks 7 = .ok (.i2l, 1) := by decide +kernel
theorem dL_asks_8 : decode cL_asks 8 = .ok (.lastore, 1) := by decide +kernel
theorem dL_asks_9 : decode cL_asks 9 = .ok (.goto 6, 3) := by decide +kernel
theorem dL_asks_12 : decode cL_asks 12 = .ok (.astore_n 3, 1) := by decide +kernel
theorem dL_asks_13 : decode cL_asks 13 = .ok (.iconst 1, 1) := by decide +kernel
theorem dL_asks_14 : decode cL_asks 14 = .ok (.ireturn, 1) := by decide +kernel
theorem dL_asks_15 : decode cL_asks 15 = .ok (.iconst 0, 1) := by decide +kernel
theorem dL_asks_16 : decode cL_asks 16 = .ok (.ireturn, 1) := by decide +kernel
theorem dL_shortest_0 : decode cL_shortest 0 = .ok (.aload_n 2, 1) := by decide +kernel
theorem dL_shortest_1 : decode cL_shortest 1 = .ok (.iconst 0, 1) := by decide +kernel
theorem dL_shortest_2 : decode cL_shortest 2 = .ok (.aload_n 0, 1) := by decide +kernel
theorem dL_shortest_3 : decode cL_shortest 3 = .ok (.iload_n 1, 1) := by decide +kernel
theorem dL_shortest_4 : decode cL_shortest 4 = .ok (.invokevirtual 49, 3) := by decide +kernel
theorem dL_shortest_7 : decode cL_shortest 7 = .ok (.i2l, 1) := by decide +kernel
theorem dL_shortest_8 : decode cL_shortest 8 = .ok (.lastore, 1) := by decide +kernel
theorem dL_shortest_9 : decode cL_shortest 9 = .ok (.goto 6, 3) := by decide +kernel
theorem dL_shortest_12 : decode cL_shortest 12 = .ok (.astore_n 3, 1) := by decide +kernel
theorem dL_shortest_13 : decode cL_shortest 13 = .ok (.iconst 1, 1) := by decide +kernel
theorem dL_shortest_14 : decode cL_shortest 14 = .ok (.ireturn, 1) := by decide +kernel
theorem dL_shortest_15 : decode cL_shortest 15 = .ok (.iconst 0, 1) := by decide +kernel
theorem dL_shortest_16 : decode cL_shortest 16 = .ok (.ireturn, 1) := by decide +kernel
theorem dL_go_0 : decode cL_go 0 = .ok (.aload_n 2, 1) := by decide +kernel
theorem dL_go_1 : decode cL_go 1 = .ok (.iconst 0, 1) := by decide +kernel
theorem dL_go_2 : decode cL_go 2 = .ok (.aload_n 0, 1) := by decide +kernel
theorem dL_go_3 : decode cL_go 3 = .ok (.iload_n 1, 1) := by decide +kernel
theorem dL_go_4 : decode cL_go 4 = .ok (.invokevirtual 52, 3) := by decide +kernel
theorem dL_go_7 : decode cL_go 7 = .ok (.i2l, 1) := by decide +kernel
theorem dL_go_8 : decode cL_go 8 = .ok (.lastore, 1) := by decide +kernel
theorem dL_go_9 : decode cL_go 9 = .ok (.goto 6, 3) := by decide +kernel
theorem dL_go_12 : decode cL_go 12 = .ok (.astore_n 3, 1) := by decide +kernel
theorem dL_go_13 : decode cL_go 13 = .ok (.iconst 1, 1) := by decide +kernel
theorem dL_go_14 : decode cL_go 14 = .ok (.ireturn, 1) := by decide +kernel
theorem dL_go_15 : decode cL_go 15 = .ok (.iconst 0, 1) := by decide +kernel
theorem dL_go_16 : decode cL_go 16 = .ok (.ireturn, 1) := by decide +kernel
theorem dL_count_0 : decode cL_count 0 = .ok (.aload_n 2, 1) := by decide +kernel
theorem dL_count_1 : decode cL_count 1 = .ok (.iconst 0, 1) := by decide +kernel
theorem dL_count_2 : decode cL_count 2 = .ok (.aload_n 0, 1) := by decide +kernel
theorem dL_count_3 : decode cL_count 3 = .ok (.iload_n 1, 1) := by decide +kernel
theorem dL_count_4 : decode cL_count 4 = .ok (.invokevirtual 55, 3) := by decide +kernel
theorem dL_count_7 : decode cL_count 7 = .ok (.i2l, 1) := by decide +kernel
theorem dL_count_8 : decode cL_count 8 = .ok (.lastore, 1) := by decide +kernel
theorem dL_count_9 : decode cL_count 9 = .ok (.goto 6, 3) := by decide +kernel
theorem dL_count_12 : decode cL_count 12 = .ok (.astore_n 3, 1) := by decide +kernel
theorem dL_count_13 : decode cL_count 13 = .ok (.iconst 1, 1) := by decide +kernel
theorem dL_count_14 : decode cL_count 14 = .ok (.ireturn, 1) := by decide +kernel
theorem dL_count_15 : decode cL_count 15 = .ok (.iconst 0, 1) := by decide +kernel
theorem dL_count_16 : decode cL_count 16 = .ok (.ireturn, 1) := by decide +kernel
theorem dL_foresee_0 : decode cL_foresee 0 = .ok (.aload_n 3, 1) := by decide +kernel
theorem dL_foresee_1 : decode cL_foresee 1 = .ok (.iconst 0, 1) := by decide +kernel
theorem dL_foresee_2 : decode cL_foresee 2 = .ok (.aload_n 0, 1) := by decide +kernel
theorem dL_foresee_3 : decode cL_foresee 3 = .ok (.iload_n 1, 1) := by decide +kernel
theorem dL_foresee_4 : decode cL_foresee 4 = .ok (.iload_n 2, 1) := by decide +kernel
theorem dL_foresee_5 : decode cL_foresee 5 = .ok (.invokevirtual 58, 3) := by decide +kernel
theorem dL_foresee_8 : decode cL_foresee 8 = .ok (.i2l, 1) := by decide +kernel
theorem dL_foresee_9 : decode cL_foresee 9 = .ok (.lastore, 1) := by decide +kernel
theorem dL_foresee_10 : decode cL_foresee 10 = .ok (.goto 11, 3) := by decide +kernel
theorem dL_foresee_13 : decode cL_foresee 13 = .ok (.astore 4, 2) := by decide +kernel
theorem dL_foresee_15 : decode cL_foresee 15 = .ok (.iconst 1, 1) := by decide +kernel
theorem dL_foresee_16 : decode cL_foresee 16 = .ok (.ireturn, 1) := by decide +kernel
theorem dL_foresee_17 : decode cL_foresee 17 = .ok (.astore 4, 2) := by decide +kernel
theorem dL_foresee_19 : decode cL_foresee 19 = .ok (.iconst 2, 1) := by decide +kernel
theorem dL_foresee_20 : decode cL_foresee 20 = .ok (.ireturn, 1) := by decide +kernel
theorem dL_foresee_21 : decode cL_foresee 21 = .ok (.iconst 0, 1) := by decide +kernel
theorem dL_foresee_22 : decode cL_foresee 22 = .ok (.ireturn, 1) := by decide +kernel
theorem dL_advise_0 : decode cL_advise 0 = .ok (.aload_n 3, 1) := by decide +kernel
theorem dL_advise_1 : decode cL_advise 1 = .ok (.iconst 0, 1) := by decide +kernel
theorem dL_advise_2 : decode cL_advise 2 = .ok (.aload_n 0, 1) := by decide +kernel
theorem dL_advise_3 : decode cL_advise 3 = .ok (.iload_n 1, 1) := by decide +kernel
theorem dL_advise_4 : decode cL_advise 4 = .ok (.iload_n 2, 1) := by decide +kernel
theorem dL_advise_5 : decode cL_advise 5 = .ok (.invokevirtual 61, 3) := by decide +kernel
theorem dL_advise_8 : decode cL_advise 8 = .ok (.i2l, 1) := by decide +kernel
theorem dL_advise_9 : decode cL_advise 9 = .ok (.lastore, 1) := by decide +kernel
theorem dL_advise_10 : decode cL_advise 10 = .ok (.goto 11, 3) := by decide +kernel
theorem dL_advise_13 : decode cL_advise 13 = .ok (.astore 4, 2) := by decide +kernel
theorem dL_advise_15 : decode cL_advise 15 = .ok (.iconst 1, 1) := by decide +kernel
theorem dL_advise_16 : decode cL_advise 16 = .ok (.ireturn, 1) := by decide +kernel
theorem dL_advise_17 : decode cL_advise 17 = .ok (.astore 4, 2) := by decide +kernel
theorem dL_advise_19 : decode cL_advise 19 = .ok (.iconst 2, 1) := by decide +kernel
theorem dL_advise_20 : decode cL_advise 20 = .ok (.ireturn, 1) := by decide +kernel
theorem dL_advise_21 : decode cL_advise 21 = .ok (.iconst 0, 1) := by decide +kernel
theorem dL_advise_22 : decode cL_advise 22 = .ok (.ireturn, 1) := by decide +kernel
