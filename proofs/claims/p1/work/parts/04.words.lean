theorem dX3_cells_0 : decode cX3_cells 0 = .ok (.aload_n 0, 1) := by decide +kernel
theorem dX3_cells_1 : decode cX3_cells 1 = .ok (.getfield 46, 3) := by decide +kernel
theorem dX3_cells_4 : decode cX3_cells 4 = .ok (.aload_n 0, 1) := by decide +kernel
theorem dX3_cells_5 : decode cX3_cells 5 = .ok (.getfield 49, 3) := by decide +kernel
theorem dX3_cells_8 : decode cX3_cells 8 = .ok (.imul, 1) := by decide +kernel
theorem dX3_cells_9 : decode cX3_cells 9 = .ok (.ireturn, 1) := by decide +kernel
theorem dX3_hasCell_0 : decode cX3_hasCell 0 = .ok (.iload_n 1, 1) := by decide +kernel
theorem dX3_hasCell_1 : decode cX3_hasCell 1 = .ok (.ifCond .lt 15, 3) := by decide +kernel
theorem dX3_hasCell_4 : decode cX3_hasCell 4 = .ok (.iload_n 1, 1) := by decide +kernel
theorem dX3_hasCell_5 : decode cX3_hasCell 5 = .ok (.aload_n 0, 1) := by decide +kernel
theorem dX3_hasCell_6 : decode cX3_hasCell 6 = .ok (.invokevirtual 79, 3) := by decide +kernel
theorem dX3_hasCell_9 : decode cX3_hasCell 9 = .ok (.if_icmp .ge 7, 3) := by decide +kernel
theorem dX3_hasCell_16 : decode cX3_hasCell 16 = .ok (.iconst 0, 1) := by decide +kernel
theorem dX3_hasCell_17 : decode cX3_hasCell 17 = .ok (.ireturn, 1) := by decide +kernel
theorem dX3_hasFlight_0 : decode cX3_hasFlight 0 = .ok (.iload_n 1, 1) := by decide +kernel
theorem dX3_hasFlight_1 : decode cX3_hasFlight 1 = .ok (.ifCond .lt 15, 3) := by decide +kernel
theorem dX3_hasFlight_4 : decode cX3_hasFlight 4 = .ok (.iload_n 1, 1) := by decide +kernel
theorem dX3_hasFlight_5 : decode cX3_hasFlight 5 = .ok (.aload_n 0, 1) := by decide +kernel
theorem dX3_hasFlight_6 : decode cX3_hasFlight 6 = .ok (.getfield 61, 3) := by decide +kernel
theorem dX3_hasFlight_9 : decode cX3_hasFlight 9 = .ok (.if_icmp .ge 7, 3) := by decide +kernel
theorem dX3_hasFlight_16 : decode cX3_hasFlight 16 = .ok (.iconst 0, 1) := by decide +kernel
theorem dX3_hasFlight_17 : decode cX3_hasFlight 17 = .ok (.ireturn, 1) := by decide +kernel
theorem dX3_hasMember_0 : decode cX3_hasMember 0 = .ok (.iload_n 1, 1) := by decide +kernel
theorem dX3_hasMember_1 : decode cX3_hasMember 1 = .ok (.ifCond .lt 15, 3) := by decide +kernel
theorem dX3_hasMember_4 : decode cX3_hasMember 4 = .ok (.iload_n 1, 1) := by decide +kernel
theorem dX3_hasMember_5 : decode cX3_hasMember 5 = .ok (.aload_n 0, 1) := by decide +kernel
theorem dX3_hasMember_6 : decode cX3_hasMember 6 = .ok (.getfield 64, 3) := by decide +kernel
theorem dX3_hasMember_9 : decode cX3_hasMember 9 = .ok (.if_icmp .ge 7, 3) := by decide +kernel
theorem dX3_hasMember_16 : decode cX3_hasMember 16 = .ok (.iconst 0, 1) := by decide +kernel
theorem dX3_hasMember_17 : decode cX3_hasMember 17 = .ok (.ireturn, 1) := by decide +kernel
theorem dX3_hasSet_0 : decode cX3_hasSet 0 = .ok (.aload_n 0, 1) := by decide +kernel
theorem dX3_hasSet_1 : decode cX3_hasSet 1 = .ok (.invokevirtual 99, 3) := by decide +kernel
theorem dX3_hasSet_4 : decode cX3_hasSet 4 = .ok (.ifCond .ne 19, 3) := by decide +kernel
theorem dX3_hasSet_23 : decode cX3_hasSet 23 = .ok (.iconst 0, 1) := by decide +kernel
theorem dX3_hasSet_24 : decode cX3_hasSet 24 = .ok (.ireturn, 1) := by decide +kernel
theorem dX3_isNone_0 : decode cX3_isNone 0 = .ok (.aload_n 0, 1) := by decide +kernel
theorem dX3_isNone_1 : decode cX3_isNone 1 = .ok (.getfield 42, 3) := by decide +kernel
theorem dX3_isNone_4 : decode cX3_isNone 4 = .ok (.ifCond .ne 7, 3) := by decide +kernel
theorem dX3_isNone_7 : decode cX3_isNone 7 = .ok (.iconst 1, 1) := by decide +kernel
theorem dX3_isNone_8 : decode cX3_isNone 8 = .ok (.goto 4, 3) := by decide +kernel
theorem dX3_isNone_12 : decode cX3_isNone 12 = .ok (.ireturn, 1) := by decide +kernel
theorem dX9_anew_0 : decode cX9_anew 0 = .ok (.aload_n 0, 1) := by decide +kernel
theorem dX9_anew_1 : decode cX9_anew 1 = .ok (.getfield 19, 3) := by decide +kernel
theorem dX9_anew_4 : decode cX9_anew 4 = .ok (.invokevirtual 141, 3) := by decide +kernel
theorem dX9_anew_7 : decode cX9_anew 7 = .ok (.ifCond .eq 6, 3) := by decide +kernel
theorem dX9_anew_10 : decode cX9_anew 10 = .ok (.bipush (-2), 2) := by decide +kernel
theorem dX9_anew_12 : decode cX9_anew 12 = .ok (.ireturn, 1) := by decide +kernel
theorem dX9_areTwo_0 : decode cX9_areTwo 0 = .ok (.aload_n 0, 1) := by decide +kernel
theorem dX9_areTwo_1 : decode cX9_areTwo 1 = .ok (.getfield 19, 3) := by decide +kernel
theorem dX9_areTwo_4 : decode cX9_areTwo 4 = .ok (.iload_n 1, 1) := by decide +kernel
theorem dX9_areTwo_5 : decode cX9_areTwo 5 = .ok (.invokevirtual 130, 3) := by decide +kernel
theorem dX9_areTwo_8 : decode cX9_areTwo 8 = .ok (.ifCond .eq 23, 3) := by decide +kernel
theorem dX9_areTwo_31 : decode cX9_areTwo 31 = .ok (.iconst 0, 1) := by decide +kernel
theorem dX9_areTwo_32 : decode cX9_areTwo 32 = .ok (.ireturn, 1) := by decide +kernel
theorem dX9_ask_0 : decode cX9_ask 0 = .ok (.aload_n 0, 1) := by decide +kernel
theorem dX9_ask_1 : decode cX9_ask 1 = .ok (.iload_n 1, 1) := by decide +kernel
theorem dX9_ask_2 : decode cX9_ask 2 = .ok (.invokevirtual 268, 3) := by decide +kernel
theorem dX9_ask_5 : decode cX9_ask 5 = .ok (.istore_n 2, 1) := by decide +kernel
theorem dX9_ask_6 : decode cX9_ask 6 = .ok (.iload_n 2, 1) := by decide +kernel
theorem dX9_ask_7 : decode cX9_ask 7 = .ok (.ifCond .eq 7, 3) := by decide +kernel
theorem dX9_ask_10 : decode cX9_ask 10 = .ok (.iload_n 2, 1) := by decide +kernel
theorem dX9_ask_11 : decode cX9_ask 11 = .ok (.goto 23, 3) := by decide +kernel
theorem dX9_ask_34 : decode cX9_ask 34 = .ok (.ireturn, 1) := by decide +kernel
theorem dX9_at_0 : decode cX9_at 0 = .ok (.aload_n 0, 1) := by decide +kernel
theorem dX9_at_1 : decode cX9_at 1 = .ok (.getfield 19, 3) := by decide +kernel
theorem dX9_at_4 : decode cX9_at 4 = .ok (.iload_n 1, 1) := by decide +kernel
theorem dX9_at_5 : decode cX9_at 5 = .ok (.invokevirtual 116, 3) := by decide +kernel
theorem dX9_at_8 : decode cX9_at 8 = .ok (.ifCond .eq 10, 3) := by decide +kernel
theorem dX9_at_18 : decode cX9_at 18 = .ok (.bipush (-2), 2) := by decide +kernel
theorem dX9_at_20 : decode cX9_at 20 = .ok (.ireturn, 1) := by decide +kernel
theorem dX9_began_0 : decode cX9_began 0 = .ok (.aload_n 0, 1) := by decide +kernel
theorem dX9_began_1 : decode cX9_began 1 = .ok (.iload_n 1, 1) := by decide +kernel
theorem dX9_began_2 : decode cX9_began 2 = .ok (.invokevirtual 278, 3) := by decide +kernel
theorem dX9_began_5 : decode cX9_began 5 = .ok (.istore_n 2, 1) := by decide +kernel
theorem dX9_began_6 : decode cX9_began 6 = .ok (.iload_n 2, 1) := by decide +kernel
theorem dX9_began_7 : decode cX9_began 7 = .ok (.ifCond .eq 7, 3) := by decide +kernel
theorem dX9_began_10 : decode cX9_began 10 = .ok (.iload_n 2, 1) := by decide +kernel
theorem dX9_began_11 : decode cX9_began 11 = .ok (.goto 16, 3) := by decide +kernel
theorem dX9_began_27 : decode cX9_began 27 = .ok (.ireturn, 1) := by decide +kernel
theorem dX9_bends_0 : decode cX9_bends 0 = .ok (.aload_n 0, 1) := by decide +kernel
theorem dX9_bends_1 : decode cX9_bends 1 = .ok (.getfield 19, 3) := by decide +kernel
theorem dX9_bends_4 : decode cX9_bends 4 = .ok (.iload_n 1, 1) := by decide +kernel
theorem dX9_bends_5 : decode cX9_bends 5 = .ok (.invokevirtual 116, 3) := by decide +kernel
theorem dX9_bends_8 : decode cX9_bends 8 = .ok (.ifCond .ne 6, 3) := by decide +kernel
theorem dX9_bends_11 : decode cX9_bends 11 = .ok (.bipush (-2), 2) := by decide +kernel
theorem dX9_bends_13 : decode cX9_bends 13 = .ok (.ireturn, 1) := by decide +kernel
theorem dX9_best_0 : decode cX9_best 0 = .ok (.aload_n 0, 1) := by decide +kernel
theorem dX9_best_1 : decode cX9_best 1 = .ok (.getfield 19, 3) := by decide +kernel
theorem dX9_best_4 : decode cX9_best 4 = .ok (.invokevirtual 141, 3) := by decide +kernel
theorem dX9_best_7 : decode cX9_best 7 = .ok (.ifCond .ne 10, 3) := by decide +kernel
theorem dX9_best_17 : decode cX9_best 17 = .ok (.bipush (-2), 2) := by decide +kernel
theorem dX9_best_19 : decode cX9_best 19 = .ok (.ireturn, 1) := by decide +kernel
theorem dX9_bests_0 : decode cX9_bests 0 = .ok (.aload_n 0, 1) := by decide +kernel
theorem dX9_bests_1 : decode cX9_bests 1 = .ok (.getfield 19, 3) := by decide +kernel
theorem dX9_bests_4 : decode cX9_bests 4 = .ok (.invokevirtual 141, 3) := by decide +kernel
theorem dX9_bests_7 : decode cX9_bests 7 = .ok (.ifCond .ne 10, 3) := by decide +kernel
theorem dX9_bests_17 : decode cX9_bests 17 = .ok (.bipush (-2), 2) := by decide +kernel
theorem dX9_bests_19 : decode cX9_bests 19 = .ok (.ireturn, 1) := by decide +kernel
theorem dX9_by_0 : decode cX9_by 0 = .ok (.aload_n 0, 1) := by decide +kernel
theorem dX9_by_1 : decode cX9_by 1 = .ok (.getfield 19, 3) := by decide +kernel
theorem dX9_by_4 : decode cX9_by 4 = .ok (.invokevirtual 141, 3) := by decide +kernel
theorem dX9_by_7 : decode cX9_by 7 = .ok (.ifCond .ne 12, 3) := by decide +kernel
theorem dX9_by_19 : decode cX9_by 19 = .ok (.bipush (-2), 2) := by decide +kernel
theorem dX9_by_21 : decode cX9_by 21 = .ok (.ireturn, 1) := by decide +kernel
theorem dX9_calls_0 : decode cX9_calls 0 = .ok (.aload_n 0, 1) := by decide +kernel
theorem dX9_calls_1 : decode cX9_calls 1 = .ok (.getfield 19, 3) := by decide +kernel
theorem dX9_calls_4 : decode cX9_calls 4 = .ok (.invokevirtual 141, 3) := by decide +kernel
theorem dX9_calls_7 : decode cX9_calls 7 = .ok (.ifCond .ne 10, 3) := by decide +kernel
theorem dX9_calls_17 : decode cX9_calls 17 = .ok (.bipush (-2), 2) := by decide +kernel
theorem dX9_calls_19 : decode cX9_calls 19 = .ok (.ireturn, 1) := by decide +kernel
theorem dX9_chance_0 : decode cX9_chance 0 = .ok (.aload_n 0, 1) := by decide +kernel
theorem dX9_chance_1 : decode cX9_chance 1 = .ok (.getfield 19, 3) := by decide +kernel
theorem dX9_chance_4 : decode cX9_chance 4 = .ok (.iload_n 1, 1) := by decide +kernel
theorem dX9_chance_5 : decode cX9_chance 5 = .ok (.invokevirtual 130, 3) := by decide +kernel
theorem dX9_chance_8 : decode cX9_chance 8 = .ok (.ifCond .eq 10, 3) := by decide +kernel
theorem dX9_chance_18 : decode cX9_chance 18 = .ok (.bipush (-2), 2) := by decide +kernel
theorem dX9_chance_20 : decode cX9_chance 20 = .ok (.ireturn, 1) := by decide +kernel
theorem dX9_cut_0 : decode cX9_cut 0 = .ok (.aload_n 0, 1) := by decide +kernel
theorem dX9_cut_1 : decode cX9_cut 1 = .ok (.getfield 19, 3) := by decide +kernel
theorem dX9_cut_4 : decode cX9_cut 4 = .ok (.iload_n 1, 1) := by decide +kernel
theorem dX9_cut_5 : decode cX9_cut 5 = .ok (.invokevirtual 130, 3) := by decide +kernel
theorem dX9_cut_8 : decode cX9_cut 8 = .ok (.ifCond .eq 10, 3) := by decide +kernel
theorem dX9_cut_18 : decode cX9_cut 18 = .ok (.bipush (-2), 2) := by decide +kernel
theorem dX9_cut_20 : decode cX9_cut 20 = .ok (.ireturn, 1) := by decide +kernel
theorem dX9_drawn_0 : decode cX9_drawn 0 = .ok (.aload_n 0, 1) := by decide +kernel
theorem dX9_drawn_1 : decode cX9_drawn 1 = .ok (.getfield 19, 3) := by decide +kernel
theorem dX9_drawn_4 : decode cX9_drawn 4 = .ok (.invokevirtual 141, 3) := by decide +kernel
theorem dX9_drawn_7 : decode cX9_drawn 7 = .ok (.ifCond .ne 19, 3) := by decide +kernel
theorem dX9_drawn_26 : decode cX9_drawn 26 = .ok (.bipush (-2), 2) := by decide +kernel
theorem dX9_drawn_28 : decode cX9_drawn 28 = .ok (.ireturn, 1) := by decide +kernel
theorem dX9_ears_0 : decode cX9_ears 0 = .ok (.aload_n 0, 1) := by decide +kernel
theorem dX9_ears_1 : decode cX9_ears 1 = .ok (.getfield 19, 3) := by decide +kernel
theorem dX9_ears_4 : decode cX9_ears 4 = .ok (.iload_n 1, 1) := by decide +kernel
theorem dX9_ears_5 : decode cX9_ears 5 = .ok (.invokevirtual 170, 3) := by decide +kernel
theorem dX9_ears_8 : decode cX9_ears 8 = .ok (.ifCond .ne 6, 3) := by decide +kernel
theorem dX9_ears_11 : decode cX9_ears 11 = .ok (.bipush (-2), 2) := by decide +kernel
theorem dX9_ears_13 : decode cX9_ears 13 = .ok (.ireturn, 1) := by decide +kernel
theorem dX9_farthest_0 : decode cX9_farthest 0 = .ok (.aload_n 0, 1) := by decide +kernel
theorem dX9_farthest_1 : decode cX9_farthest 1 = .ok (.getfield 19, 3) := by decide +kernel
theorem dX9_farthest_4 : decode cX9_farthest 4 = .ok (.iload_n 1, 1) := by decide +kernel
theorem dX9_farthest_5 : decode cX9_farthest 5 = .ok (.invokevirtual 116, 3) := by decide +kernel
theorem dX9_farthest_8 : decode cX9_farthest 8 = .ok (.ifCond .ne 6, 3) := by decide +kernel
theorem dX9_farthest_11 : decode cX9_farthest 11 = .ok (.bipush (-2), 2) := by decide +kernel
theorem dX9_farthest_13 : decode cX9_farthest 13 = .ok (.ireturn, 1) := by decide +kernel
theorem dX9_fewest_0 : decode cX9_fewest 0 = .ok (.aload_n 0, 1) := by decide +kernel
theorem dX9_fewest_1 : decode cX9_fewest 1 = .ok (.getfield 19, 3) := by decide +kernel
theorem dX9_fewest_4 : decode cX9_fewest 4 = .ok (.iload_n 1, 1) := by decide +kernel
theorem dX9_fewest_5 : decode cX9_fewest 5 = .ok (.invokevirtual 238, 3) := by decide +kernel
theorem dX9_fewest_8 : decode cX9_fewest 8 = .ok (.ifCond .ne 6, 3) := by decide +kernel
theorem dX9_fewest_11 : decode cX9_fewest 11 = .ok (.bipush (-2), 2) := by decide +kernel
theorem dX9_fewest_13 : decode cX9_fewest 13 = .ok (.ireturn, 1) := by decide +kernel
theorem dX9_first_0 : decode cX9_first 0 = .ok (.aload_n 0, 1) := by decide +kernel
theorem dX9_first_1 : decode cX9_first 1 = .ok (.getfield 19, 3) := by decide +kernel
theorem dX9_first_4 : decode cX9_first 4 = .ok (.invokevirtual 141, 3) := by decide +kernel
theorem dX9_first_7 : decode cX9_first 7 = .ok (.ifCond .eq 6, 3) := by decide +kernel
theorem dX9_first_10 : decode cX9_first 10 = .ok (.bipush (-2), 2) := by decide +kernel
theorem dX9_first_12 : decode cX9_first 12 = .ok (.ireturn, 1) := by decide +kernel
theorem dX9_flight_0 : decode cX9_flight 0 = .ok (.aload_n 0, 1) := by decide +kernel
theorem dX9_flight_1 : decode cX9_flight 1 = .ok (.getfield 19, 3) := by decide +kernel
theorem dX9_flight_4 : decode cX9_flight 4 = .ok (.iload_n 1, 1) := by decide +kernel
theorem dX9_flight_5 : decode cX9_flight 5 = .ok (.invokevirtual 116, 3) := by decide +kernel
theorem dX9_flight_8 : decode cX9_flight 8 = .ok (.ifCond .ne 6, 3) := by decide +kernel
theorem dX9_flight_11 : decode cX9_flight 11 = .ok (.bipush (-2), 2) := by decide +kernel
theorem dX9_flight_13 : decode cX9_flight 13 = .ok (.ireturn, 1) := by decide +kernel
theorem dX9_flown_0 : decode cX9_flown 0 = .ok (.aload_n 0, 1) := by decide +kernel
theorem dX9_flown_1 : decode cX9_flown 1 = .ok (.getfield 19, 3) := by decide +kernel
theorem dX9_flown_4 : decode cX9_flown 4 = .ok (.invokevirtual 141, 3) := by decide +kernel
theorem dX9_flown_7 : decode cX9_flown 7 = .ok (.ifCond .ne 19, 3) := by decide +kernel
theorem dX9_flown_26 : decode cX9_flown 26 = .ok (.bipush (-2), 2) := by decide +kernel
theorem dX9_flown_28 : decode cX9_flown 28 = .ok (.ireturn, 1) := by decide +kernel
theorem dX9_geese_0 : decode cX9_geese 0 = .ok (.aload_n 0, 1) := by decide +kernel
theorem dX9_geese_1 : decode cX9_geese 1 = .ok (.getfield 19, 3) := by decide +kernel
theorem dX9_geese_4 : decode cX9_geese 4 = .ok (.iload_n 1, 1) := by decide +kernel
theorem dX9_geese_5 : decode cX9_geese 5 = .ok (.invokevirtual 170, 3) := by decide +kernel
theorem dX9_geese_8 : decode cX9_geese 8 = .ok (.ifCond .eq 10, 3) := by decide +kernel
theorem dX9_geese_18 : decode cX9_geese 18 = .ok (.bipush (-2), 2) := by decide +kernel
theorem dX9_geese_20 : decode cX9_geese 20 = .ok (.ireturn, 1) := by decide +kernel
theorem dX9_has_0 : decode cX9_has 0 = .ok (.aload_n 0, 1) := by decide +kernel
theorem dX9_has_1 : decode cX9_has 1 = .ok (.iload_n 1, 1) := by decide +kernel
theorem dX9_has_2 : decode cX9_has 2 = .ok (.iload_n 2, 1) := by decide +kernel
theorem dX9_has_3 : decode cX9_has 3 = .ok (.invokevirtual 333, 3) := by decide +kernel
theorem dX9_has_6 : decode cX9_has 6 = .ok (.ifCond .eq 18, 3) := by decide +kernel
theorem dX9_has_24 : decode cX9_has 24 = .ok (.sipush (-1000), 3) := by decide +kernel
theorem dX9_has_27 : decode cX9_has 27 = .ok (.ireturn, 1) := by decide +kernel
theorem dX9_heads_0 : decode cX9_heads 0 = .ok (.aload_n 0, 1) := by decide +kernel
theorem dX9_heads_1 : decode cX9_heads 1 = .ok (.getfield 19, 3) := by decide +kernel
theorem dX9_heads_4 : decode cX9_heads 4 = .ok (.iload_n 1, 1) := by decide +kernel
theorem dX9_heads_5 : decode cX9_heads 5 = .ok (.invokevirtual 116, 3) := by decide +kernel
theorem dX9_heads_8 : decode cX9_heads 8 = .ok (.ifCond .eq 10, 3) := by decide +kernel
theorem dX9_heads_18 : decode cX9_heads 18 = .ok (.bipush (-2), 2) := by decide +kernel
theorem dX9_heads_20 : decode cX9_heads 20 = .ok (.ireturn, 1) := by decide +kernel
theorem dX9_heard_0 : decode cX9_heard 0 = .ok (.aload_n 0, 1) := by decide +kernel
theorem dX9_heard_1 : decode cX9_heard 1 = .ok (.getfield 19, 3) := by decide +kernel
theorem dX9_heard_4 : decode cX9_heard 4 = .ok (.iload_n 1, 1) := by decide +kernel
theorem dX9_heard_5 : decode cX9_heard 5 = .ok (.invokevirtual 130, 3) := by decide +kernel
theorem dX9_heard_8 : decode cX9_heard 8 = .ok (.ifCond .ne 6, 3) := by decide +kernel
theorem dX9_heard_11 : decode cX9_heard 11 = .ok (.bipush (-2), 2) := by decide +kernel
theorem dX9_heard_13 : decode cX9_heard 13 = .ok (.ireturn, 1) := by decide +kernel
theorem dX9_hears_0 : decode cX9_hears 0 = .ok (.aload_n 0, 1) := by decide +kernel
theorem dX9_hears_1 : decode cX9_hears 1 = .ok (.getfield 19, 3) := by decide +kernel
theorem dX9_hears_4 : decode cX9_hears 4 = .ok (.iload_n 1, 1) := by decide +kernel
theorem dX9_hears_5 : decode cX9_hears 5 = .ok (.invokevirtual 130, 3) := by decide +kernel
theorem dX9_hears_8 : decode cX9_hears 8 = .ok (.ifCond .eq 14, 3) := by decide +kernel
theorem dX9_hears_22 : decode cX9_hears 22 = .ok (.bipush (-2), 2) := by decide +kernel
theorem dX9_hears_24 : decode cX9_hears 24 = .ok (.ireturn, 1) := by decide +kernel
theorem dX9_home_0 : decode cX9_home 0 = .ok (.aload_n 0, 1) := by decide +kernel
theorem dX9_home_1 : decode cX9_home 1 = .ok (.getfield 19, 3) := by decide +kernel
theorem dX9_home_4 : decode cX9_home 4 = .ok (.iload_n 1, 1) := by decide +kernel
theorem dX9_home_5 : decode cX9_home 5 = .ok (.invokevirtual 130, 3) := by decide +kernel
theorem dX9_home_8 : decode cX9_home 8 = .ok (.ifCond .ne 6, 3) := by decide +kernel
theorem dX9_home_11 : decode cX9_home 11 = .ok (.bipush (-2), 2) := by decide +kernel
theorem dX9_home_13 : decode cX9_home 13 = .ok (.ireturn, 1) := by decide +kernel
theorem dX9_homes_0 : decode cX9_homes 0 = .ok (.aload_n 0, 1) := by decide +kernel
theorem dX9_homes_1 : decode cX9_homes 1 = .ok (.getfield 19, 3) := by decide +kernel
theorem dX9_homes_4 : decode cX9_homes 4 = .ok (.invokevirtual 141, 3) := by decide +kernel
theorem dX9_homes_7 : decode cX9_homes 7 = .ok (.ifCond .eq 6, 3) := by decide +kernel
theorem dX9_homes_10 : decode cX9_homes 10 = .ok (.bipush (-2), 2) := by decide +kernel
theorem dX9_homes_12 : decode cX9_homes 12 = .ok (.ireturn, 1) := by decide +kernel
theorem dX9_income_0 : decode cX9_income 0 = .ok (.aload_n 0, 1) := by decide +kernel
theorem dX9_income_1 : decode cX9_income 1 = .ok (.getfield 19, 3) := by decide +kernel
theorem dX9_income_4 : decode cX9_income 4 = .ok (.invokevirtual 141, 3) := by decide +kernel
theorem dX9_income_7 : decode cX9_income 7 = .ok (.ifCond .eq 8, 3) := by decide +kernel
theorem dX9_income_10 : decode cX9_income 10 = .ok (.bipush (-2), 2) := by decide +kernel
theorem dX9_income_12 : decode cX9_income 12 = .ok (.goto 21, 3) := by decide +kernel
theorem dX9_income_33 : decode cX9_income 33 = .ok (.ireturn, 1) := by decide +kernel
theorem dX9_isSlot_0 : decode cX9_isSlot 0 = .ok (.iload_n 0, 1) := by decide +kernel
theorem dX9_isSlot_1 : decode cX9_isSlot 1 = .ok (.ifCond .lt 12, 3) := by decide +kernel
theorem dX9_isSlot_4 : decode cX9_isSlot 4 = .ok (.iload_n 0, 1) := by decide +kernel
theorem dX9_isSlot_5 : decode cX9_isSlot 5 = .ok (.iconst 4, 1) := by decide +kernel
theorem dX9_isSlot_6 : decode cX9_isSlot 6 = .ok (.if_icmp .ge 7, 3) := by decide +kernel
theorem dX9_isSlot_9 : decode cX9_isSlot 9 = .ok (.iconst 1, 1) := by decide +kernel
theorem dX9_isSlot_10 : decode cX9_isSlot 10 = .ok (.goto 4, 3) := by decide +kernel
theorem dX9_isSlot_13 : decode cX9_isSlot 13 = .ok (.iconst 0, 1) := by decide +kernel
theorem dX9_isSlot_14 : decode cX9_isSlot 14 = .ok (.ireturn, 1) := by decide +kernel
theorem dX9_lacks_0 : decode cX9_lacks 0 = .ok (.aload_n 0, 1) := by decide +kernel
theorem dX9_lacks_1 : decode cX9_lacks 1 = .ok (.getfield 19, 3) := by decide +kernel
theorem dX9_lacks_4 : decode cX9_lacks 4 = .ok (.invokevirtual 141, 3) := by decide +kernel
theorem dX9_lacks_7 : decode cX9_lacks 7 = .ok (.ifCond .eq 6, 3) := by decide +kernel
theorem dX9_lacks_10 : decode cX9_lacks 10 = .ok (.bipush (-2), 2) := by decide +kernel
theorem dX9_lacks_12 : decode cX9_lacks 12 = .ok (.ireturn, 1) := by decide +kernel
theorem dX9_lamps_0 : decode cX9_lamps 0 = .ok (.aload_n 0, 1) := by decide +kernel
theorem dX9_lamps_1 : decode cX9_lamps 1 = .ok (.getfield 19, 3) := by decide +kernel
theorem dX9_lamps_4 : decode cX9_lamps 4 = .ok (.invokevirtual 141, 3) := by decide +kernel
theorem dX9_lamps_7 : decode cX9_lamps 7 = .ok (.ifCond .eq 8, 3) := by decide +kernel
theorem dX9_lamps_10 : decode cX9_lamps 10 = .ok (.bipush (-2), 2) := by decide +kernel
theorem dX9_lamps_12 : decode cX9_lamps 12 = .ok (.goto 10, 3) := by decide +kernel
theorem dX9_lamps_22 : decode cX9_lamps 22 = .ok (.ireturn, 1) := by decide +kernel
theorem dX9_law_0 : decode cX9_law 0 = .ok (.aload_n 0, 1) := by decide +kernel
theorem dX9_law_1 : decode cX9_law 1 = .ok (.getfield 19, 3) := by decide +kernel
theorem dX9_law_4 : decode cX9_law 4 = .ok (.invokevirtual 141, 3) := by decide +kernel
theorem dX9_law_7 : decode cX9_law 7 = .ok (.ifCond .eq 6, 3) := by decide +kernel
theorem dX9_law_10 : decode cX9_law 10 = .ok (.bipush (-2), 2) := by decide +kernel
theorem dX9_law_12 : decode cX9_law 12 = .ok (.ireturn, 1) := by decide +kernel
theorem dX9_laws_0 : decode cX9_laws 0 = .ok (.aload_n 0, 1) := by decide +kernel
theorem dX9_laws_1 : decode cX9_laws 1 = .ok (.iload_n 1, 1) := by decide +kernel
theorem dX9_laws_2 : decode cX9_laws 2 = .ok (.invokevirtual 268, 3) := by decide +kernel
theorem dX9_laws_5 : decode cX9_laws 5 = .ok (.istore_n 2, 1) := by decide +kernel
theorem dX9_laws_6 : decode cX9_laws 6 = .ok (.iload_n 2, 1) := by decide +kernel
theorem dX9_laws_7 : decode cX9_laws 7 = .ok (.ifCond .eq 7, 3) := by decide +kernel
theorem dX9_laws_10 : decode cX9_laws 10 = .ok (.iload_n 2, 1) := by decide +kernel
theorem dX9_laws_11 : decode cX9_laws 11 = .ok (.goto 16, 3) := by decide +kernel
theorem dX9_laws_27 : decode cX9_laws 27 = .ok (.ireturn, 1) := by decide +kernel
theorem dX9_leaves_0 : decode cX9_leaves 0 = .ok (.aload_n 0, 1) := by decide +kernel
theorem dX9_leaves_1 : decode cX9_leaves 1 = .ok (.iload_n 1, 1) := by decide +kernel
theorem dX9_leaves_2 : decode cX9_leaves 2 = .ok (.invokevirtual 278, 3) := by decide +kernel
theorem dX9_leaves_5 : decode cX9_leaves 5 = .ok (.istore_n 2, 1) := by decide +kernel
theorem dX9_leaves_6 : decode cX9_leaves 6 = .ok (.iload_n 2, 1) := by decide +kernel
theorem dX9_leaves_7 : decode cX9_leaves 7 = .ok (.ifCond .eq 5, 3) := by decide +kernel
theorem dX9_leaves_10 : decode cX9_leaves 10 = .ok (.iload_n 2, 1) := by decide +kernel
theorem dX9_leaves_11 : decode cX9_leaves 11 = .ok (.ireturn, 1) := by decide +kernel
theorem dX9_less_0 : decode cX9_less 0 = .ok (.aload_n 0, 1) := by decide +kernel
theorem dX9_less_1 : decode cX9_less 1 = .ok (.getfield 19, 3) := by decide +kernel
theorem dX9_less_4 : decode cX9_less 4 = .ok (.invokevirtual 141, 3) := by decide +kernel
theorem dX9_less_7 : decode cX9_less 7 = .ok (.ifCond .eq 8, 3) := by decide +kernel
theorem dX9_less_10 : decode cX9_less 10 = .ok (.bipush (-2), 2) := by decide +kernel
theorem dX9_less_12 : decode cX9_less 12 = .ok (.goto 14, 3) := by decide +kernel
theorem dX9_less_26 : decode cX9_less 26 = .ok (.ireturn, 1) := by decide +kernel
theorem dX9_light_0 : decode cX9_light 0 = .ok (.aload_n 0, 1) := by decide +kernel
theorem dX9_light_1 : decode cX9_light 1 = .ok (.getfield 19, 3) := by decide +kernel
theorem dX9_light_4 : decode cX9_light 4 = .ok (.iload_n 1, 1) := by decide +kernel
theorem dX9_light_5 : decode cX9_light 5 = .ok (.invokevirtual 170, 3) := by decide +kernel
theorem dX9_light_8 : decode cX9_light 8 = .ok (.ifCond .eq 10, 3) := by decide +kernel
theorem dX9_light_18 : decode cX9_light 18 = .ok (.bipush (-2), 2) := by decide +kernel
theorem dX9_light_20 : decode cX9_light 20 = .ok (.ireturn, 1) := by decide +kernel
theorem dX9_lights_0 : decode cX9_lights 0 = .ok (.aload_n 0, 1) := by decide +kernel
theorem dX9_lights_1 : decode cX9_lights 1 = .ok (.getfield 19, 3) := by decide +kernel
theorem dX9_lights_4 : decode cX9_lights 4 = .ok (.iload_n 1, 1) := by decide +kernel
theorem dX9_lights_5 : decode cX9_lights 5 = .ok (.invokevirtual 238, 3) := by decide +kernel
theorem dX9_lights_8 : decode cX9_lights 8 = .ok (.ifCond .ne 6, 3) := by decide +kernel
theorem dX9_lights_11 : decode cX9_lights 11 = .ok (.bipush (-2), 2) := by decide +kernel
theorem dX9_lights_13 : decode cX9_lights 13 = .ok (.ireturn, 1) := by decide +kernel
theorem dX9_lone_0 : decode cX9_lone 0 = .ok (.aload_n 0, 1) := by decide +kernel
theorem dX9_lone_1 : decode cX9_lone 1 = .ok (.getfield 19, 3) := by decide +kernel
theorem dX9_lone_4 : decode cX9_lone 4 = .ok (.invokevirtual 141, 3) := by decide +kernel
theorem dX9_lone_7 : decode cX9_lone 7 = .ok (.ifCond .eq 6, 3) := by decide +kernel
theorem dX9_lone_10 : decode cX9_lone 10 = .ok (.bipush (-2), 2) := by decide +kernel
theorem dX9_lone_12 : decode cX9_lone 12 = .ok (.ireturn, 1) := by decide +kernel
theorem dX9_loud_0 : decode cX9_loud 0 = .ok (.aload_n 0, 1) := by decide +kernel
theorem dX9_loud_1 : decode cX9_loud 1 = .ok (.getfield 19, 3) := by decide +kernel
theorem dX9_loud_4 : decode cX9_loud 4 = .ok (.invokevirtual 141, 3) := by decide +kernel
theorem dX9_loud_7 : decode cX9_loud 7 = .ok (.ifCond .eq 6, 3) := by decide +kernel
theorem dX9_loud_10 : decode cX9_loud 10 = .ok (.bipush (-2), 2) := by decide +kernel
theorem dX9_loud_12 : decode cX9_loud 12 = .ok (.ireturn, 1) := by decide +kernel
theorem dX9_luck_0 : decode cX9_luck 0 = .ok (.aload_n 0, 1) := by decide +kernel
theorem dX9_luck_1 : decode cX9_luck 1 = .ok (.getfield 19, 3) := by decide +kernel
theorem dX9_luck_4 : decode cX9_luck 4 = .ok (.iload_n 3, 1) := by decide +kernel
theorem dX9_luck_5 : decode cX9_luck 5 = .ok (.invokevirtual 130, 3) := by decide +kernel
theorem dX9_luck_8 : decode cX9_luck 8 = .ok (.ifCond .eq 21, 3) := by decide +kernel
theorem dX9_luck_29 : decode cX9_luck 29 = .ok (.bipush (-2), 2) := by decide +kernel
theorem dX9_luck_31 : decode cX9_luck 31 = .ok (.ireturn, 1) := by decide +kernel
theorem dX9_mean_0 : decode cX9_mean 0 = .ok (.aload_n 0, 1) := by decide +kernel
theorem dX9_mean_1 : decode cX9_mean 1 = .ok (.getfield 19, 3) := by decide +kernel
theorem dX9_mean_4 : decode cX9_mean 4 = .ok (.invokevirtual 141, 3) := by decide +kernel
theorem dX9_mean_7 : decode cX9_mean 7 = .ok (.ifCond .ne 10, 3) := by decide +kernel
theorem dX9_mean_17 : decode cX9_mean 17 = .ok (.bipush (-2), 2) := by decide +kernel
theorem dX9_mean_19 : decode cX9_mean 19 = .ok (.ireturn, 1) := by decide +kernel
theorem dX9_meets_0 : decode cX9_meets 0 = .ok (.aload_n 0, 1) := by decide +kernel
theorem dX9_meets_1 : decode cX9_meets 1 = .ok (.getfield 19, 3) := by decide +kernel
theorem dX9_meets_4 : decode cX9_meets 4 = .ok (.iload_n 1, 1) := by decide +kernel
theorem dX9_meets_5 : decode cX9_meets 5 = .ok (.invokevirtual 116, 3) := by decide +kernel
theorem dX9_meets_8 : decode cX9_meets 8 = .ok (.ifCond .eq 14, 3) := by decide +kernel
theorem dX9_meets_22 : decode cX9_meets 22 = .ok (.bipush (-2), 2) := by decide +kernel
theorem dX9_meets_24 : decode cX9_meets 24 = .ok (.ireturn, 1) := by decide +kernel
theorem dX9_member_0 : decode cX9_member 0 = .ok (.aload_n 0, 1) := by decide +kernel
theorem dX9_member_1 : decode cX9_member 1 = .ok (.getfield 19, 3) := by decide +kernel
theorem dX9_member_4 : decode cX9_member 4 = .ok (.iload_n 1, 1) := by decide +kernel
theorem dX9_member_5 : decode cX9_member 5 = .ok (.invokevirtual 130, 3) := by decide +kernel
theorem dX9_member_8 : decode cX9_member 8 = .ok (.ifCond .ne 6, 3) := by decide +kernel
theorem dX9_member_11 : decode cX9_member 11 = .ok (.bipush (-2), 2) := by decide +kernel
theorem dX9_member_13 : decode cX9_member 13 = .ok (.ireturn, 1) := by decide +kernel
theorem dX9_more_0 : decode cX9_more 0 = .ok (.aload_n 0, 1) := by decide +kernel
theorem dX9_more_1 : decode cX9_more 1 = .ok (.getfield 19, 3) := by decide +kernel
theorem dX9_more_4 : decode cX9_more 4 = .ok (.invokevirtual 141, 3) := by decide +kernel
theorem dX9_more_7 : decode cX9_more 7 = .ok (.ifCond .eq 8, 3) := by decide +kernel
theorem dX9_more_10 : decode cX9_more 10 = .ok (.bipush (-2), 2) := by decide +kernel
theorem dX9_more_12 : decode cX9_more 12 = .ok (.goto 24, 3) := by decide +kernel
theorem dX9_more_36 : decode cX9_more 36 = .ok (.ireturn, 1) := by decide +kernel
theorem dX9_most_0 : decode cX9_most 0 = .ok (.aload_n 0, 1) := by decide +kernel
theorem dX9_most_1 : decode cX9_most 1 = .ok (.getfield 19, 3) := by decide +kernel
theorem dX9_most_4 : decode cX9_most 4 = .ok (.invokevirtual 141, 3) := by decide +kernel
theorem dX9_most_7 : decode cX9_most 7 = .ok (.ifCond .ne 10, 3) := by decide +kernel
theorem dX9_most_17 : decode cX9_most 17 = .ok (.bipush (-2), 2) := by decide +kernel
theorem dX9_most_19 : decode cX9_most 19 = .ok (.ireturn, 1) := by decide +kernel
theorem dX9_near_0 : decode cX9_near 0 = .ok (.aload_n 0, 1) := by decide +kernel
theorem dX9_near_1 : decode cX9_near 1 = .ok (.getfield 19, 3) := by decide +kernel
theorem dX9_near_4 : decode cX9_near 4 = .ok (.iload_n 1, 1) := by decide +kernel
theorem dX9_near_5 : decode cX9_near 5 = .ok (.invokevirtual 130, 3) := by decide +kernel
theorem dX9_near_8 : decode cX9_near 8 = .ok (.ifCond .ne 6, 3) := by decide +kernel
theorem dX9_near_11 : decode cX9_near 11 = .ok (.bipush (-2), 2) := by decide +kernel
theorem dX9_near_13 : decode cX9_near 13 = .ok (.ireturn, 1) := by decide +kernel
theorem dX9_odds_0 : decode cX9_odds 0 = .ok (.aload_n 0, 1) := by decide +kernel
theorem dX9_odds_1 : decode cX9_odds 1 = .ok (.getfield 19, 3) := by decide +kernel
theorem dX9_odds_4 : decode cX9_odds 4 = .ok (.iload_n 2, 1) := by decide +kernel
theorem dX9_odds_5 : decode cX9_odds 5 = .ok (.invokevirtual 130, 3) := by decide +kernel
theorem dX9_odds_8 : decode cX9_odds 8 = .ok (.ifCond .eq 10, 3) := by decide +kernel
theorem dX9_odds_18 : decode cX9_odds 18 = .ok (.bipush (-2), 2) := by decide +kernel
theorem dX9_odds_20 : decode cX9_odds 20 = .ok (.ireturn, 1) := by decide +kernel
theorem dX9_out_0 : decode cX9_out 0 = .ok (.aload_n 0, 1) := by decide +kernel
theorem dX9_out_1 : decode cX9_out 1 = .ok (.getfield 19, 3) := by decide +kernel
theorem dX9_out_4 : decode cX9_out 4 = .ok (.iload_n 1, 1) := by decide +kernel
theorem dX9_out_5 : decode cX9_out 5 = .ok (.invokevirtual 116, 3) := by decide +kernel
theorem dX9_out_8 : decode cX9_out 8 = .ok (.ifCond .ne 6, 3) := by decide +kernel
theorem dX9_out_11 : decode cX9_out 11 = .ok (.bipush (-2), 2) := by decide +kernel
theorem dX9_out_13 : decode cX9_out 13 = .ok (.ireturn, 1) := by decide +kernel
theorem dX9_over_0 : decode cX9_over 0 = .ok (.aload_n 0, 1) := by decide +kernel
theorem dX9_over_1 : decode cX9_over 1 = .ok (.getfield 19, 3) := by decide +kernel
theorem dX9_over_4 : decode cX9_over 4 = .ok (.iload_n 1, 1) := by decide +kernel
theorem dX9_over_5 : decode cX9_over 5 = .ok (.invokevirtual 170, 3) := by decide +kernel
theorem dX9_over_8 : decode cX9_over 8 = .ok (.ifCond .ne 6, 3) := by decide +kernel
theorem dX9_over_11 : decode cX9_over 11 = .ok (.bipush (-2), 2) := by decide +kernel
theorem dX9_over_13 : decode cX9_over 13 = .ok (.ireturn, 1) := by decide +kernel
theorem dX9_price_0 : decode cX9_price 0 = .ok (.aload_n 0, 1) := by decide +kernel
theorem dX9_price_1 : decode cX9_price 1 = .ok (.getfield 19, 3) := by decide +kernel
theorem dX9_price_4 : decode cX9_price 4 = .ok (.invokevirtual 141, 3) := by decide +kernel
theorem dX9_price_7 : decode cX9_price 7 = .ok (.ifCond .ne 14, 3) := by decide +kernel
theorem dX9_price_21 : decode cX9_price 21 = .ok (.bipush (-2), 2) := by decide +kernel
theorem dX9_price_23 : decode cX9_price 23 = .ok (.ireturn, 1) := by decide +kernel
theorem dX9_quiet_0 : decode cX9_quiet 0 = .ok (.aload_n 0, 1) := by decide +kernel
theorem dX9_quiet_1 : decode cX9_quiet 1 = .ok (.getfield 19, 3) := by decide +kernel
theorem dX9_quiet_4 : decode cX9_quiet 4 = .ok (.invokevirtual 141, 3) := by decide +kernel
theorem dX9_quiet_7 : decode cX9_quiet 7 = .ok (.ifCond .eq 6, 3) := by decide +kernel
theorem dX9_quiet_10 : decode cX9_quiet 10 = .ok (.bipush (-2), 2) := by decide +kernel
theorem dX9_quiet_12 : decode cX9_quiet 12 = .ok (.ireturn, 1) := by decide +kernel
theorem dX9_rate_0 : decode cX9_rate 0 = .ok (.aload_n 0, 1) := by decide +kernel
theorem dX9_rate_1 : decode cX9_rate 1 = .ok (.getfield 19, 3) := by decide +kernel
theorem dX9_rate_4 : decode cX9_rate 4 = .ok (.iload_n 1, 1) := by decide +kernel
theorem dX9_rate_5 : decode cX9_rate 5 = .ok (.invokevirtual 130, 3) := by decide +kernel
theorem dX9_rate_8 : decode cX9_rate 8 = .ok (.ifCond .eq 13, 3) := by decide +kernel
theorem dX9_rate_21 : decode cX9_rate 21 = .ok (.bipush (-2), 2) := by decide +kernel
theorem dX9_rate_23 : decode cX9_rate 23 = .ok (.ireturn, 1) := by decide +kernel
theorem dX9_reportRefusal_0 : decode cX9_reportRefusal 0 = .ok (.aload_n 0, 1) := by decide +kernel
theorem dX9_reportRefusal_1 : decode cX9_reportRefusal 1 = .ok (.iload_n 1, 1) := by decide +kernel
theorem dX9_reportRefusal_2 : decode cX9_reportRefusal 2 = .ok (.invokevirtual 445, 3) := by decide +kernel
theorem dX9_reportRefusal_5 : decode cX9_reportRefusal 5 = .ok (.istore_n 2, 1) := by decide +kernel
theorem dX9_reportRefusal_6 : decode cX9_reportRefusal 6 = .ok (.iload_n 2, 1) := by decide +kernel
theorem dX9_reportRefusal_7 : decode cX9_reportRefusal 7 = .ok (.ifCond .eq 5, 3) := by decide +kernel
theorem dX9_reportRefusal_10 : decode cX9_reportRefusal 10 = .ok (.iload_n 2, 1) := by decide +kernel
theorem dX9_reportRefusal_11 : decode cX9_reportRefusal 11 = .ok (.ireturn, 1) := by decide +kernel
theorem dX9_rests_0 : decode cX9_rests 0 = .ok (.aload_n 0, 1) := by decide +kernel
theorem dX9_rests_1 : decode cX9_rests 1 = .ok (.iload_n 1, 1) := by decide +kernel
theorem dX9_rests_2 : decode cX9_rests 2 = .ok (.iload_n 2, 1) := by decide +kernel
theorem dX9_rests_3 : decode cX9_rests 3 = .ok (.invokevirtual 333, 3) := by decide +kernel
theorem dX9_rests_6 : decode cX9_rests 6 = .ok (.ifCond .ne 6, 3) := by decide +kernel
theorem dX9_rests_9 : decode cX9_rests 9 = .ok (.bipush (-2), 2) := by decide +kernel
theorem dX9_rests_11 : decode cX9_rests 11 = .ok (.ireturn, 1) := by decide +kernel
theorem dX9_rowRefusal_0 : decode cX9_rowRefusal 0 = .ok (.iload_n 1, 1) := by decide +kernel
theorem dX9_rowRefusal_1 : decode cX9_rowRefusal 1 = .ok (.invokestatic 395, 3) := by decide +kernel
theorem dX9_rowRefusal_4 : decode cX9_rowRefusal 4 = .ok (.ifCond .eq 13, 3) := by decide +kernel
theorem dX9_rowRefusal_7 : decode cX9_rowRefusal 7 = .ok (.aload_n 0, 1) := by decide +kernel
theorem dX9_rowRefusal_8 : decode cX9_rowRefusal 8 = .ok (.getfield 19, 3) := by decide +kernel
theorem dX9_rowRefusal_11 : decode cX9_rowRefusal 11 = .ok (.invokevirtual 141, 3) := by decide +kernel
theorem dX9_rowRefusal_14 : decode cX9_rowRefusal 14 = .ok (.ifCond .eq 6, 3) := by decide +kernel
theorem dX9_rowRefusal_17 : decode cX9_rowRefusal 17 = .ok (.bipush (-2), 2) := by decide +kernel
theorem dX9_rowRefusal_19 : decode cX9_rowRefusal 19 = .ok (.ireturn, 1) := by decide +kernel
theorem dX9_served_0 : decode cX9_served 0 = .ok (.aload_n 0, 1) := by decide +kernel
theorem dX9_served_1 : decode cX9_served 1 = .ok (.getfield 19, 3) := by decide +kernel
theorem dX9_served_4 : decode cX9_served 4 = .ok (.invokevirtual 141, 3) := by decide +kernel
theorem dX9_served_7 : decode cX9_served 7 = .ok (.ifCond .eq 8, 3) := by decide +kernel
theorem dX9_served_10 : decode cX9_served 10 = .ok (.bipush (-2), 2) := by decide +kernel
theorem dX9_served_12 : decode cX9_served 12 = .ok (.goto 21, 3) := by decide +kernel
theorem dX9_served_33 : decode cX9_served 33 = .ok (.ireturn, 1) := by decide +kernel
theorem dX9_sightRefusal_0 : decode cX9_sightRefusal 0 = .ok (.aload_n 0, 1) := by decide +kernel
theorem dX9_sightRefusal_1 : decode cX9_sightRefusal 1 = .ok (.iload_n 1, 1) := by decide +kernel
theorem dX9_sightRefusal_2 : decode cX9_sightRefusal 2 = .ok (.invokevirtual 445, 3) := by decide +kernel
theorem dX9_sightRefusal_5 : decode cX9_sightRefusal 5 = .ok (.istore_n 2, 1) := by decide +kernel
theorem dX9_sightRefusal_6 : decode cX9_sightRefusal 6 = .ok (.iload_n 2, 1) := by decide +kernel
theorem dX9_sightRefusal_7 : decode cX9_sightRefusal 7 = .ok (.ifCond .eq 5, 3) := by decide +kernel
theorem dX9_sightRefusal_10 : decode cX9_sightRefusal 10 = .ok (.iload_n 2, 1) := by decide +kernel
theorem dX9_sightRefusal_11 : decode cX9_sightRefusal 11 = .ok (.ireturn, 1) := by decide +kernel
theorem dX9_spare_0 : decode cX9_spare 0 = .ok (.aload_n 0, 1) := by decide +kernel
theorem dX9_spare_1 : decode cX9_spare 1 = .ok (.getfield 19, 3) := by decide +kernel
theorem dX9_spare_4 : decode cX9_spare 4 = .ok (.invokevirtual 141, 3) := by decide +kernel
theorem dX9_spare_7 : decode cX9_spare 7 = .ok (.ifCond .eq 6, 3) := by decide +kernel
theorem dX9_spare_10 : decode cX9_spare 10 = .ok (.bipush (-2), 2) := by decide +kernel
theorem dX9_spare_12 : decode cX9_spare 12 = .ok (.ireturn, 1) := by decide +kernel
theorem dX9_spots_0 : decode cX9_spots 0 = .ok (.aload_n 0, 1) := by decide +kernel
theorem dX9_spots_1 : decode cX9_spots 1 = .ok (.iload_n 1, 1) := by decide +kernel
theorem dX9_spots_2 : decode cX9_spots 2 = .ok (.invokevirtual 278, 3) := by decide +kernel
theorem dX9_spots_5 : decode cX9_spots 5 = .ok (.istore_n 2, 1) := by decide +kernel
theorem dX9_spots_6 : decode cX9_spots 6 = .ok (.iload_n 2, 1) := by decide +kernel
theorem dX9_spots_7 : decode cX9_spots 7 = .ok (.ifCond .eq 5, 3) := by decide +kernel
theorem dX9_spots_10 : decode cX9_spots 10 = .ok (.iload_n 2, 1) := by decide +kernel
theorem dX9_spots_11 : decode cX9_spots 11 = .ok (.ireturn, 1) := by decide +kernel
theorem dX9_swap_0 : decode cX9_swap 0 = .ok (.aload_n 0, 1) := by decide +kernel
theorem dX9_swap_1 : decode cX9_swap 1 = .ok (.getfield 19, 3) := by decide +kernel
theorem dX9_swap_4 : decode cX9_swap 4 = .ok (.invokevirtual 141, 3) := by decide +kernel
theorem dX9_swap_7 : decode cX9_swap 7 = .ok (.ifCond .eq 8, 3) := by decide +kernel
theorem dX9_swap_10 : decode cX9_swap 10 = .ok (.bipush (-2), 2) := by decide +kernel
theorem dX9_swap_12 : decode cX9_swap 12 = .ok (.goto 10, 3) := by decide +kernel
theorem dX9_swap_22 : decode cX9_swap 22 = .ok (.ireturn, 1) := by decide +kernel
theorem dX9_swaps_0 : decode cX9_swaps 0 = .ok (.aload_n 0, 1) := by decide +kernel
theorem dX9_swaps_1 : decode cX9_swaps 1 = .ok (.getfield 19, 3) := by decide +kernel
theorem dX9_swaps_4 : decode cX9_swaps 4 = .ok (.invokevirtual 141, 3) := by decide +kernel
theorem dX9_swaps_7 : decode cX9_swaps 7 = .ok (.ifCond .eq 8, 3) := by decide +kernel
theorem dX9_swaps_10 : decode cX9_swaps 10 = .ok (.bipush (-2), 2) := by decide +kernel
theorem dX9_swaps_12 : decode cX9_swaps 12 = .ok (.goto 10, 3) := by decide +kernel
theorem dX9_swaps_22 : decode cX9_swaps 22 = .ok (.ireturn, 1) := by decide +kernel
theorem dX9_turn_0 : decode cX9_turn 0 = .ok (.aload_n 0, 1) := by decide +kernel
theorem dX9_turn_1 : decode cX9_turn 1 = .ok (.getfield 19, 3) := by decide +kernel
theorem dX9_turn_4 : decode cX9_turn 4 = .ok (.iload_n 1, 1) := by decide +kernel
theorem dX9_turn_5 : decode cX9_turn 5 = .ok (.invokevirtual 116, 3) := by decide +kernel
theorem dX9_turn_8 : decode cX9_turn 8 = .ok (.ifCond .eq 12, 3) := by decide +kernel
theorem dX9_turn_20 : decode cX9_turn 20 = .ok (.bipush (-2), 2) := by decide +kernel
theorem dX9_turn_22 : decode cX9_turn 22 = .ok (.ireturn, 1) := by decide +kernel
theorem dX9_undo_0 : decode cX9_undo 0 = .ok (.aload_n 0, 1) := by decide +kernel
theorem dX9_undo_1 : decode cX9_undo 1 = .ok (.getfield 19, 3) := by decide +kernel
theorem dX9_undo_4 : decode cX9_undo 4 = .ok (.invokevirtual 141, 3) := by decide +kernel
theorem dX9_undo_7 : decode cX9_undo 7 = .ok (.ifCond .eq 6, 3) := by decide +kernel
theorem dX9_undo_10 : decode cX9_undo 10 = .ok (.bipush (-2), 2) := by decide +kernel
theorem dX9_undo_12 : decode cX9_undo 12 = .ok (.ireturn, 1) := by decide +kernel
theorem dX9_unpaid_0 : decode cX9_unpaid 0 = .ok (.aload_n 0, 1) := by decide +kernel
theorem dX9_unpaid_1 : decode cX9_unpaid 1 = .ok (.getfield 19, 3) := by decide +kernel
theorem dX9_unpaid_4 : decode cX9_unpaid 4 = .ok (.invokevirtual 141, 3) := by decide +kernel
theorem dX9_unpaid_7 : decode cX9_unpaid 7 = .ok (.ifCond .eq 8, 3) := by decide +kernel
theorem dX9_unpaid_10 : decode cX9_unpaid 10 = .ok (.bipush (-2), 2) := by decide +kernel
theorem dX9_unpaid_12 : decode cX9_unpaid 12 = .ok (.goto 7, 3) := by decide +kernel
theorem dX9_unpaid_19 : decode cX9_unpaid 19 = .ok (.ireturn, 1) := by decide +kernel
theorem dX9_way_0 : decode cX9_way 0 = .ok (.aload_n 0, 1) := by decide +kernel
theorem dX9_way_1 : decode cX9_way 1 = .ok (.getfield 19, 3) := by decide +kernel
theorem dX9_way_4 : decode cX9_way 4 = .ok (.iload_n 1, 1) := by decide +kernel
theorem dX9_way_5 : decode cX9_way 5 = .ok (.invokevirtual 116, 3) := by decide +kernel
theorem dX9_way_8 : decode cX9_way 8 = .ok (.ifCond .ne 6, 3) := by decide +kernel
theorem dX9_way_11 : decode cX9_way 11 = .ok (.bipush (-2), 2) := by decide +kernel
theorem dX9_way_13 : decode cX9_way 13 = .ok (.ireturn, 1) := by decide +kernel
theorem dX9_who_0 : decode cX9_who 0 = .ok (.aload_n 0, 1) := by decide +kernel
theorem dX9_who_1 : decode cX9_who 1 = .ok (.iload_n 1, 1) := by decide +kernel
theorem dX9_who_2 : decode cX9_who 2 = .ok (.invokevirtual 278, 3) := by decide +kernel
theorem dX9_who_5 : decode cX9_who 5 = .ok (.istore_n 2, 1) := by decide +kernel
theorem dX9_who_6 : decode cX9_who 6 = .ok (.iload_n 2, 1) := by decide +kernel
theorem dX9_who_7 : decode cX9_who 7 = .ok (.ifCond .eq 7, 3) := by decide +kernel
theorem dX9_who_10 : decode cX9_who 10 = .ok (.iload_n 2, 1) := by decide +kernel
theorem dX9_who_11 : decode cX9_who 11 = .ok (.goto 23, 3) := by decide +kernel
theorem dX9_who_34 : decode cX9_who 34 = .ok (.ireturn, 1) := by decide +kernel
theorem wd0 : Cond.fieldLink RX3 42 "GooseShares$Land" "lines" "I" ∈ gW := gm (tm_1 51 (by decide +kernel)) rfl
theorem wd1 : Cond.fieldLink RX3 46 "GooseShares$Land" "wide" "I" ∈ gW := gm (tm_1 54 (by decide +kernel)) rfl
theorem wd2 : Cond.fieldLink RX3 49 "GooseShares$Land" "high" "I" ∈ gW := gm (tm_1 57 (by decide +kernel)) rfl
theorem wd3 : Cond.fieldLink RX3 61 "GooseShares$Land" "flights" "I" ∈ gW := gm (tm_1 75 (by decide +kernel)) rfl
theorem wd4 : Cond.fieldLink RX3 64 "GooseShares$Land" "members" "I" ∈ gW := gm (tm_1 80 (by decide +kernel)) rfl
theorem wd5 : Cond.instanceMethod yX3_cells ∈ gW := gm (tm_3 11 (by decide +kernel)) rfl
theorem wd6 : Cond.selects RX3 yX3_cells yX3_cells ∈ gW := gm (tm_3 12 (by decide +kernel)) rfl
theorem wd7 : Cond.initialized RX3 ∈ gW := gm (tm_1 3 (by decide +kernel)) rfl
theorem wd8 : Cond.code yX3_cells cX3_cells 1 (some .int) ∈ gW := gm (tm_3 13 (by decide +kernel)) rfl
theorem wd9 : Cond.methodLink RX3 79 yX3_cells ∈ gW := gm (tm_3 28 (by decide +kernel)) rfl
theorem wd10 : Cond.instanceMethod yX3_isNone ∈ gW := gm (tm_3 80 (by decide +kernel)) rfl
theorem wd11 : Cond.selects RX3 yX3_isNone yX3_isNone ∈ gW := gm (tm_3 81 (by decide +kernel)) rfl
theorem wd12 : Cond.code yX3_isNone cX3_isNone 1 (some .boolean) ∈ gW := gm (tm_3 82 (by decide +kernel)) rfl
theorem wd13 : Cond.methodLink RX3 99 yX3_isNone ∈ gW := gm (tm_4 83 (by decide +kernel)) rfl
theorem wd14 : Cond.static yX9_isSlot ∈ gW := gm (tm_4 180 (by decide +kernel)) rfl
theorem wd15 : Cond.initialized RX9 ∈ gW := gm (tm_1 1 (by decide +kernel)) rfl
theorem wd16 : Cond.code yX9_isSlot cX9_isSlot 1 (some .boolean) ∈ gW := gm (tm_4 181 (by decide +kernel)) rfl
theorem wd17 : Cond.methodLink RX9 395 yX9_isSlot ∈ gW := gm (tm_4 179 (by decide +kernel)) rfl
theorem wd18 : Cond.fieldLink RX9 19 "GooseShares" "now" "LGooseShares$Land;" ∈ gW := gm (tm_2 99 (by decide +kernel)) rfl
theorem wd19 : Cond.methodLink RX9 141 yX3_isNone ∈ gW := gm (tm_3 79 (by decide +kernel)) rfl
theorem wd20 : Cond.instanceMethod yX9_rowRefusal ∈ gW := gm (tm_4 177 (by decide +kernel)) rfl
theorem wd21 : Cond.selects RX9 yX9_rowRefusal yX9_rowRefusal ∈ gW := gm (gmP 10 (by decide +kernel)) rfl
theorem wd22 : Cond.code yX9_rowRefusal cX9_rowRefusal 2 (some .int) ∈ gW := gm (tm_4 178 (by decide +kernel)) rfl
theorem wd23 : Cond.methodLink RX9 445 yX9_rowRefusal ∈ gW := gm (tm_4 175 (by decide +kernel)) rfl
theorem wd24 : Cond.instanceMethod yX3_hasMember ∈ gW := gm (tm_3 72 (by decide +kernel)) rfl
theorem wd25 : Cond.selects RX3 yX3_hasMember yX3_hasMember ∈ gW := gm (tm_3 73 (by decide +kernel)) rfl
theorem wd26 : Cond.code yX3_hasMember cX3_hasMember 2 (some .boolean) ∈ gW := gm (tm_3 74 (by decide +kernel)) rfl
theorem wd27 : Cond.methodLink RX9 130 yX3_hasMember ∈ gW := gm (tm_3 71 (by decide +kernel)) rfl
theorem wd28 : Cond.instanceMethod yX3_hasFlight ∈ gW := gm (tm_3 64 (by decide +kernel)) rfl
theorem wd29 : Cond.selects RX3 yX3_hasFlight yX3_hasFlight ∈ gW := gm (tm_3 65 (by decide +kernel)) rfl
theorem wd30 : Cond.code yX3_hasFlight cX3_hasFlight 2 (some .boolean) ∈ gW := gm (tm_3 66 (by decide +kernel)) rfl
theorem wd31 : Cond.methodLink RX9 116 yX3_hasFlight ∈ gW := gm (tm_3 63 (by decide +kernel)) rfl
theorem wd32 : Cond.instanceMethod yX3_hasCell ∈ gW := gm (tm_3 150 (by decide +kernel)) rfl
theorem wd33 : Cond.selects RX3 yX3_hasCell yX3_hasCell ∈ gW := gm (tm_3 151 (by decide +kernel)) rfl
theorem wd34 : Cond.code yX3_hasCell cX3_hasCell 2 (some .boolean) ∈ gW := gm (tm_3 152 (by decide +kernel)) rfl
theorem wd35 : Cond.methodLink RX9 170 yX3_hasCell ∈ gW := gm (tm_3 149 (by decide +kernel)) rfl
theorem wd36 : Cond.instanceMethod yX3_hasSet ∈ gW := gm (tm_4 80 (by decide +kernel)) rfl
theorem wd37 : Cond.selects RX3 yX3_hasSet yX3_hasSet ∈ gW := gm (tm_4 81 (by decide +kernel)) rfl
theorem wd38 : Cond.code yX3_hasSet cX3_hasSet 2 (some .boolean) ∈ gW := gm (tm_4 82 (by decide +kernel)) rfl
theorem wd39 : Cond.methodLink RX9 238 yX3_hasSet ∈ gW := gm (tm_4 79 (by decide +kernel)) rfl
theorem wd40 : Cond.instanceMethod yX9_sightRefusal ∈ gW := gm (tm_4 173 (by decide +kernel)) rfl
theorem wd41 : Cond.selects RX9 yX9_sightRefusal yX9_sightRefusal ∈ gW := gm (gmP 9 (by decide +kernel)) rfl
theorem wd42 : Cond.code yX9_sightRefusal cX9_sightRefusal 3 (some .int) ∈ gW := gm (tm_4 174 (by decide +kernel)) rfl
theorem wd43 : Cond.methodLink RX9 268 yX9_sightRefusal ∈ gW := gm (tm_4 171 (by decide +kernel)) rfl
theorem wd44 : Cond.instanceMethod yX9_reportRefusal ∈ gW := gm (tm_4 227 (by decide +kernel)) rfl
theorem wd45 : Cond.selects RX9 yX9_reportRefusal yX9_reportRefusal ∈ gW := gm (gmP 11 (by decide +kernel)) rfl
theorem wd46 : Cond.code yX9_reportRefusal cX9_reportRefusal 3 (some .int) ∈ gW := gm (tm_4 228 (by decide +kernel)) rfl
theorem wd47 : Cond.methodLink RX9 278 yX9_reportRefusal ∈ gW := gm (tm_4 225 (by decide +kernel)) rfl
theorem wd48 : Cond.instanceMethod yX9_areTwo ∈ gW := gm (tm_5 152 (by decide +kernel)) rfl
theorem wd49 : Cond.selects RX9 yX9_areTwo yX9_areTwo ∈ gW := gm (gmP 12 (by decide +kernel)) rfl
theorem wd50 : Cond.code yX9_areTwo cX9_areTwo 3 (some .boolean) ∈ gW := gm (tm_5 153 (by decide +kernel)) rfl
theorem wd51 : Cond.methodLink RX9 333 yX9_areTwo ∈ gW := gm (tm_5 150 (by decide +kernel)) rfl
theorem my_X3_cells : gWV RX3 yX3_cells cX3_cells 1 (some .int) 0 := ⟨⟨wd5, wd6, wd7, wd8⟩, ⟨rfl, by decide +kernel, by decide +kernel, by decide +kernel⟩⟩
theorem my_X3_isNone : gWV RX3 yX3_isNone cX3_isNone 1 (some .boolean) 0 := ⟨⟨wd10, wd11, wd7, wd12⟩, ⟨rfl, by decide +kernel, by decide +kernel, by decide +kernel⟩⟩
theorem my_X9_isSlot : gWS RX9 yX9_isSlot cX9_isSlot 1 (some .boolean) 1 := ⟨⟨wd14, wd15, wd16⟩, ⟨rfl, by decide +kernel, by decide +kernel, by decide +kernel⟩⟩
theorem my_X9_rowRefusal : gWV RX9 yX9_rowRefusal cX9_rowRefusal 2 (some .int) 1 := ⟨⟨wd20, wd21, wd15, wd22⟩, ⟨rfl, by decide +kernel, by decide +kernel, by decide +kernel⟩⟩
theorem my_X3_hasMember : gWV RX3 yX3_hasMember cX3_hasMember 2 (some .boolean) 1 := ⟨⟨wd24, wd25, wd7, wd26⟩, ⟨rfl, by decide +kernel, by decide +kernel, by decide +kernel⟩⟩
theorem my_X3_hasFlight : gWV RX3 yX3_hasFlight cX3_hasFlight 2 (some .boolean) 1 := ⟨⟨wd28, wd29, wd7, wd30⟩, ⟨rfl, by decide +kernel, by decide +kernel, by decide +kernel⟩⟩
theorem my_X3_hasCell : gWV RX3 yX3_hasCell cX3_hasCell 2 (some .boolean) 1 := ⟨⟨wd32, wd33, wd7, wd34⟩, ⟨rfl, by decide +kernel, by decide +kernel, by decide +kernel⟩⟩
theorem my_X3_hasSet : gWV RX3 yX3_hasSet cX3_hasSet 2 (some .boolean) 1 := ⟨⟨wd36, wd37, wd7, wd38⟩, ⟨rfl, by decide +kernel, by decide +kernel, by decide +kernel⟩⟩
theorem my_X9_sightRefusal : gWV RX9 yX9_sightRefusal cX9_sightRefusal 3 (some .int) 1 := ⟨⟨wd40, wd41, wd15, wd42⟩, ⟨rfl, by decide +kernel, by decide +kernel, by decide +kernel⟩⟩
theorem my_X9_reportRefusal : gWV RX9 yX9_reportRefusal cX9_reportRefusal 3 (some .int) 1 := ⟨⟨wd44, wd45, wd15, wd46⟩, ⟨rfl, by decide +kernel, by decide +kernel, by decide +kernel⟩⟩
theorem my_X9_areTwo : gWV RX9 yX9_areTwo cX9_areTwo 3 (some .boolean) 2 := ⟨⟨wd48, wd49, wd15, wd50⟩, ⟨rfl, by decide +kernel, by decide +kernel, by decide +kernel⟩⟩
theorem ti_0 : (0 : Int32).toInt = 0 := by decide
