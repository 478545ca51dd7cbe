theorem dX10_anew_0 : decode cX10_anew 0 = .ok (.aload_n 0, 1) := by decide +kernel
theorem dX10_anew_1 : decode cX10_anew 1 = .ok (.iconst 0, 1) := by decide +kernel
theorem dX10_anew_2 : decode cX10_anew 2 = .ok (.putfield 92, 3) := by decide +kernel
theorem dX10_anew_5 : decode cX10_anew 5 = .ok (.aload_n 0, 1) := by decide +kernel
theorem dX10_anew_6 : decode cX10_anew 6 = .ok (.invokevirtual 270, 3) := by decide +kernel
theorem dX10_anew_9 : decode cX10_anew 9 = .ok (.ifCond .ne 6, 3) := by decide +kernel
theorem dX10_anew_12 : decode cX10_anew 12 = .ok (.bipush (-2), 2) := by decide +kernel
theorem dX10_anew_14 : decode cX10_anew 14 = .ok (.ireturn, 1) := by decide +kernel
theorem dX10_areTwo_0 : decode cX10_areTwo 0 = .ok (.aload_n 0, 1) := by decide +kernel
theorem dX10_areTwo_1 : decode cX10_areTwo 1 = .ok (.iload_n 1, 1) := by decide +kernel
theorem dX10_areTwo_2 : decode cX10_areTwo 2 = .ok (.i2l, 1) := by decide +kernel
theorem dX10_areTwo_3 : decode cX10_areTwo 3 = .ok (.invokevirtual 265, 3) := by decide +kernel
theorem dX10_areTwo_6 : decode cX10_areTwo 6 = .ok (.ifCond .eq 21, 3) := by decide +kernel
theorem dX10_areTwo_27 : decode cX10_areTwo 27 = .ok (.iconst 0, 1) := by decide +kernel
theorem dX10_areTwo_28 : decode cX10_areTwo 28 = .ok (.ireturn, 1) := by decide +kernel
theorem dX10_ask_0 : decode cX10_ask 0 = .ok (.aload_n 0, 1) := by decide +kernel
theorem dX10_ask_1 : decode cX10_ask 1 = .ok (.iconst 0, 1) := by decide +kernel
theorem dX10_ask_2 : decode cX10_ask 2 = .ok (.putfield 92, 3) := by decide +kernel
theorem dX10_ask_5 : decode cX10_ask 5 = .ok (.aload_n 0, 1) := by decide +kernel
theorem dX10_ask_6 : decode cX10_ask 6 = .ok (.iload_n 1, 1) := by decide +kernel
theorem dX10_ask_7 : decode cX10_ask 7 = .ok (.invokevirtual 386, 3) := by decide +kernel
theorem dX10_ask_10 : decode cX10_ask 10 = .ok (.istore_n 2, 1) := by decide +kernel
theorem dX10_ask_11 : decode cX10_ask 11 = .ok (.iload_n 2, 1) := by decide +kernel
theorem dX10_ask_12 : decode cX10_ask 12 = .ok (.ifCond .eq 5, 3) := by decide +kernel
theorem dX10_ask_15 : decode cX10_ask 15 = .ok (.iload_n 2, 1) := by decide +kernel
theorem dX10_ask_16 : decode cX10_ask 16 = .ok (.ireturn, 1) := by decide +kernel
theorem dX10_at_0 : decode cX10_at 0 = .ok (.aload_n 0, 1) := by decide +kernel
theorem dX10_at_1 : decode cX10_at 1 = .ok (.iconst 0, 1) := by decide +kernel
theorem dX10_at_2 : decode cX10_at 2 = .ok (.putfield 92, 3) := by decide +kernel
theorem dX10_at_5 : decode cX10_at 5 = .ok (.aload_n 0, 1) := by decide +kernel
theorem dX10_at_6 : decode cX10_at 6 = .ok (.iload_n 1, 1) := by decide +kernel
theorem dX10_at_7 : decode cX10_at 7 = .ok (.i2l, 1) := by decide +kernel
theorem dX10_at_8 : decode cX10_at 8 = .ok (.invokevirtual 323, 3) := by decide +kernel
theorem dX10_at_11 : decode cX10_at 11 = .ok (.ifCond .eq 10, 3) := by decide +kernel
theorem dX10_at_21 : decode cX10_at 21 = .ok (.bipush (-2), 2) := by decide +kernel
theorem dX10_at_23 : decode cX10_at 23 = .ok (.ireturn, 1) := by decide +kernel
theorem dX10_began_0 : decode cX10_began 0 = .ok (.aload_n 0, 1) := by decide +kernel
theorem dX10_began_1 : decode cX10_began 1 = .ok (.iconst 0, 1) := by decide +kernel
theorem dX10_began_2 : decode cX10_began 2 = .ok (.putfield 92, 3) := by decide +kernel
theorem dX10_began_5 : decode cX10_began 5 = .ok (.aload_n 0, 1) := by decide +kernel
theorem dX10_began_6 : decode cX10_began 6 = .ok (.iload_n 1, 1) := by decide +kernel
theorem dX10_began_7 : decode cX10_began 7 = .ok (.invokevirtual 401, 3) := by decide +kernel
theorem dX10_began_10 : decode cX10_began 10 = .ok (.istore_n 2, 1) := by decide +kernel
theorem dX10_began_11 : decode cX10_began 11 = .ok (.iload_n 2, 1) := by decide +kernel
theorem dX10_began_12 : decode cX10_began 12 = .ok (.ifCond .eq 5, 3) := by decide +kernel
theorem dX10_began_15 : decode cX10_began 15 = .ok (.iload_n 2, 1) := by decide +kernel
theorem dX10_began_16 : decode cX10_began 16 = .ok (.ireturn, 1) := by decide +kernel
theorem dX10_bends_0 : decode cX10_bends 0 = .ok (.aload_n 0, 1) := by decide +kernel
theorem dX10_bends_1 : decode cX10_bends 1 = .ok (.iconst 0, 1) := by decide +kernel
theorem dX10_bends_2 : decode cX10_bends 2 = .ok (.putfield 92, 3) := by decide +kernel
theorem dX10_bends_5 : decode cX10_bends 5 = .ok (.aload_n 0, 1) := by decide +kernel
theorem dX10_bends_6 : decode cX10_bends 6 = .ok (.iload_n 1, 1) := by decide +kernel
theorem dX10_bends_7 : decode cX10_bends 7 = .ok (.i2l, 1) := by decide +kernel
theorem dX10_bends_8 : decode cX10_bends 8 = .ok (.invokevirtual 323, 3) := by decide +kernel
theorem dX10_bends_11 : decode cX10_bends 11 = .ok (.ifCond .ne 6, 3) := by decide +kernel
theorem dX10_bends_14 : decode cX10_bends 14 = .ok (.bipush (-2), 2) := by decide +kernel
theorem dX10_bends_16 : decode cX10_bends 16 = .ok (.ireturn, 1) := by decide +kernel
theorem dX10_best_0 : decode cX10_best 0 = .ok (.aload_n 0, 1) := by decide +kernel
theorem dX10_best_1 : decode cX10_best 1 = .ok (.iconst 0, 1) := by decide +kernel
theorem dX10_best_2 : decode cX10_best 2 = .ok (.putfield 92, 3) := by decide +kernel
theorem dX10_best_5 : decode cX10_best 5 = .ok (.aload_n 0, 1) := by decide +kernel
theorem dX10_best_6 : decode cX10_best 6 = .ok (.iload_n 1, 1) := by decide +kernel
theorem dX10_best_7 : decode cX10_best 7 = .ok (.invokevirtual 370, 3) := by decide +kernel
theorem dX10_best_10 : decode cX10_best 10 = .ok (.ifCond .ne 6, 3) := by decide +kernel
theorem dX10_best_13 : decode cX10_best 13 = .ok (.bipush (-2), 2) := by decide +kernel
theorem dX10_best_15 : decode cX10_best 15 = .ok (.ireturn, 1) := by decide +kernel
theorem dX10_bests_0 : decode cX10_bests 0 = .ok (.aload_n 0, 1) := by decide +kernel
theorem dX10_bests_1 : decode cX10_bests 1 = .ok (.iconst 0, 1) := by decide +kernel
theorem dX10_bests_2 : decode cX10_bests 2 = .ok (.putfield 92, 3) := by decide +kernel
theorem dX10_bests_5 : decode cX10_bests 5 = .ok (.aload_n 0, 1) := by decide +kernel
theorem dX10_bests_6 : decode cX10_bests 6 = .ok (.iload_n 1, 1) := by decide +kernel
theorem dX10_bests_7 : decode cX10_bests 7 = .ok (.invokevirtual 370, 3) := by decide +kernel
theorem dX10_bests_10 : decode cX10_bests 10 = .ok (.ifCond .ne 6, 3) := by decide +kernel
theorem dX10_bests_13 : decode cX10_bests 13 = .ok (.bipush (-2), 2) := by decide +kernel
theorem dX10_bests_15 : decode cX10_bests 15 = .ok (.ireturn, 1) := by decide +kernel
theorem dX10_by_0 : decode cX10_by 0 = .ok (.aload_n 0, 1) := by decide +kernel
theorem dX10_by_1 : decode cX10_by 1 = .ok (.iconst 0, 1) := by decide +kernel
theorem dX10_by_2 : decode cX10_by 2 = .ok (.putfield 92, 3) := by decide +kernel
theorem dX10_by_5 : decode cX10_by 5 = .ok (.aload_n 0, 1) := by decide +kernel
theorem dX10_by_6 : decode cX10_by 6 = .ok (.iload_n 1, 1) := by decide +kernel
theorem dX10_by_7 : decode cX10_by 7 = .ok (.invokevirtual 377, 3) := by decide +kernel
theorem dX10_by_10 : decode cX10_by 10 = .ok (.ifCond .eq 11, 3) := by decide +kernel
theorem dX10_by_21 : decode cX10_by 21 = .ok (.bipush (-2), 2) := by decide +kernel
theorem dX10_by_23 : decode cX10_by 23 = .ok (.ireturn, 1) := by decide +kernel
theorem dX10_calls_0 : decode cX10_calls 0 = .ok (.aload_n 0, 1) := by decide +kernel
theorem dX10_calls_1 : decode cX10_calls 1 = .ok (.iconst 0, 1) := by decide +kernel
theorem dX10_calls_2 : decode cX10_calls 2 = .ok (.putfield 92, 3) := by decide +kernel
theorem dX10_calls_5 : decode cX10_calls 5 = .ok (.aload_n 0, 1) := by decide +kernel
theorem dX10_calls_6 : decode cX10_calls 6 = .ok (.invokevirtual 270, 3) := by decide +kernel
theorem dX10_calls_9 : decode cX10_calls 9 = .ok (.ifCond .eq 10, 3) := by decide +kernel
theorem dX10_calls_19 : decode cX10_calls 19 = .ok (.bipush (-2), 2) := by decide +kernel
theorem dX10_calls_21 : decode cX10_calls 21 = .ok (.ireturn, 1) := by decide +kernel
theorem dX10_cellsAll_0 : decode cX10_cellsAll 0 = .ok (.aload_n 0, 1) := by decide +kernel
theorem dX10_cellsAll_1 : decode cX10_cellsAll 1 = .ok (.getfield 34, 3) := by decide +kernel
theorem dX10_cellsAll_4 : decode cX10_cellsAll 4 = .ok (.iconst 0, 1) := by decide +kernel
theorem dX10_cellsAll_5 : decode cX10_cellsAll 5 = .ok (.iaload, 1) := by decide +kernel
theorem dX10_cellsAll_6 : decode cX10_cellsAll 6 = .ok (.aload_n 0, 1) := by decide +kernel
theorem dX10_cellsAll_7 : decode cX10_cellsAll 7 = .ok (.getfield 34, 3) := by decide +kernel
theorem dX10_cellsAll_10 : decode cX10_cellsAll 10 = .ok (.iconst 1, 1) := by decide +kernel
theorem dX10_cellsAll_11 : decode cX10_cellsAll 11 = .ok (.iaload, 1) := by decide +kernel
theorem dX10_cellsAll_12 : decode cX10_cellsAll 12 = .ok (.imul, 1) := by decide +kernel
theorem dX10_cellsAll_13 : decode cX10_cellsAll 13 = .ok (.ireturn, 1) := by decide +kernel
theorem dX10_chance_0 : decode cX10_chance 0 = .ok (.aload_n 0, 1) := by decide +kernel
theorem dX10_chance_1 : decode cX10_chance 1 = .ok (.iconst 0, 1) := by decide +kernel
theorem dX10_chance_2 : decode cX10_chance 2 = .ok (.putfield 92, 3) := by decide +kernel
theorem dX10_chance_5 : decode cX10_chance 5 = .ok (.aload_n 0, 1) := by decide +kernel
theorem dX10_chance_6 : decode cX10_chance 6 = .ok (.iload_n 1, 1) := by decide +kernel
theorem dX10_chance_7 : decode cX10_chance 7 = .ok (.i2l, 1) := by decide +kernel
theorem dX10_chance_8 : decode cX10_chance 8 = .ok (.invokevirtual 265, 3) := by decide +kernel
theorem dX10_chance_11 : decode cX10_chance 11 = .ok (.ifCond .eq 26, 3) := by decide +kernel
theorem dX10_chance_37 : decode cX10_chance 37 = .ok (.bipush (-2), 2) := by decide +kernel
theorem dX10_chance_39 : decode cX10_chance 39 = .ok (.ireturn, 1) := by decide +kernel
theorem dX10_cut__0 : decode cX10_cut_ 0 = .ok (.aload_n 0, 1) := by decide +kernel
theorem dX10_cut__1 : decode cX10_cut_ 1 = .ok (.iconst 0, 1) := by decide +kernel
theorem dX10_cut__2 : decode cX10_cut_ 2 = .ok (.putfield 92, 3) := by decide +kernel
theorem dX10_cut__5 : decode cX10_cut_ 5 = .ok (.aload_n 0, 1) := by decide +kernel
theorem dX10_cut__6 : decode cX10_cut_ 6 = .ok (.iload_n 1, 1) := by decide +kernel
theorem dX10_cut__7 : decode cX10_cut_ 7 = .ok (.i2l, 1) := by decide +kernel
theorem dX10_cut__8 : decode cX10_cut_ 8 = .ok (.invokevirtual 265, 3) := by decide +kernel
theorem dX10_cut__11 : decode cX10_cut_ 11 = .ok (.ifCond .eq 10, 3) := by decide +kernel
theorem dX10_cut__21 : decode cX10_cut_ 21 = .ok (.bipush (-2), 2) := by decide +kernel
theorem dX10_cut__23 : decode cX10_cut_ 23 = .ok (.ireturn, 1) := by decide +kernel
theorem dX10_drawn_0 : decode cX10_drawn 0 = .ok (.aload_n 0, 1) := by decide +kernel
theorem dX10_drawn_1 : decode cX10_drawn 1 = .ok (.iconst 0, 1) := by decide +kernel
theorem dX10_drawn_2 : decode cX10_drawn 2 = .ok (.putfield 92, 3) := by decide +kernel
theorem dX10_drawn_5 : decode cX10_drawn 5 = .ok (.aload_n 0, 1) := by decide +kernel
theorem dX10_drawn_6 : decode cX10_drawn 6 = .ok (.invokevirtual 270, 3) := by decide +kernel
theorem dX10_drawn_9 : decode cX10_drawn 9 = .ok (.ifCond .eq 17, 3) := by decide +kernel
theorem dX10_drawn_26 : decode cX10_drawn 26 = .ok (.bipush (-2), 2) := by decide +kernel
theorem dX10_drawn_28 : decode cX10_drawn 28 = .ok (.ireturn, 1) := by decide +kernel
theorem dX10_ears_0 : decode cX10_ears 0 = .ok (.aload_n 0, 1) := by decide +kernel
theorem dX10_ears_1 : decode cX10_ears 1 = .ok (.iconst 0, 1) := by decide +kernel
theorem dX10_ears_2 : decode cX10_ears 2 = .ok (.putfield 92, 3) := by decide +kernel
theorem dX10_ears_5 : decode cX10_ears 5 = .ok (.aload_n 0, 1) := by decide +kernel
theorem dX10_ears_6 : decode cX10_ears 6 = .ok (.iload_n 1, 1) := by decide +kernel
theorem dX10_ears_7 : decode cX10_ears 7 = .ok (.i2l, 1) := by decide +kernel
theorem dX10_ears_8 : decode cX10_ears 8 = .ok (.invokevirtual 340, 3) := by decide +kernel
theorem dX10_ears_11 : decode cX10_ears 11 = .ok (.ifCond .ne 6, 3) := by decide +kernel
theorem dX10_ears_14 : decode cX10_ears 14 = .ok (.bipush (-2), 2) := by decide +kernel
theorem dX10_ears_16 : decode cX10_ears 16 = .ok (.ireturn, 1) := by decide +kernel
theorem dX10_farthest_0 : decode cX10_farthest 0 = .ok (.aload_n 0, 1) := by decide +kernel
theorem dX10_farthest_1 : decode cX10_farthest 1 = .ok (.iconst 0, 1) := by decide +kernel
theorem dX10_farthest_2 : decode cX10_farthest 2 = .ok (.putfield 92, 3) := by decide +kernel
theorem dX10_farthest_5 : decode cX10_farthest 5 = .ok (.aload_n 0, 1) := by decide +kernel
theorem dX10_farthest_6 : decode cX10_farthest 6 = .ok (.iload_n 1, 1) := by decide +kernel
theorem dX10_farthest_7 : decode cX10_farthest 7 = .ok (.i2l, 1) := by decide +kernel
theorem dX10_farthest_8 : decode cX10_farthest 8 = .ok (.invokevirtual 323, 3) := by decide +kernel
theorem dX10_farthest_11 : decode cX10_farthest 11 = .ok (.ifCond .ne 6, 3) := by decide +kernel
theorem dX10_farthest_14 : decode cX10_farthest 14 = .ok (.bipush (-2), 2) := by decide +kernel
theorem dX10_farthest_16 : decode cX10_farthest 16 = .ok (.ireturn, 1) := by decide +kernel
theorem dX10_fewest_0 : decode cX10_fewest 0 = .ok (.aload_n 0, 1) := by decide +kernel
theorem dX10_fewest_1 : decode cX10_fewest 1 = .ok (.iconst 0, 1) := by decide +kernel
theorem dX10_fewest_2 : decode cX10_fewest 2 = .ok (.putfield 92, 3) := by decide +kernel
theorem dX10_fewest_5 : decode cX10_fewest 5 = .ok (.aload_n 0, 1) := by decide +kernel
theorem dX10_fewest_6 : decode cX10_fewest 6 = .ok (.iload_n 1, 1) := by decide +kernel
theorem dX10_fewest_7 : decode cX10_fewest 7 = .ok (.invokevirtual 364, 3) := by decide +kernel
theorem dX10_fewest_10 : decode cX10_fewest 10 = .ok (.ifCond .ne 6, 3) := by decide +kernel
theorem dX10_fewest_13 : decode cX10_fewest 13 = .ok (.bipush (-2), 2) := by decide +kernel
theorem dX10_fewest_15 : decode cX10_fewest 15 = .ok (.ireturn, 1) := by decide +kernel
theorem dX10_first_0 : decode cX10_first 0 = .ok (.aload_n 0, 1) := by decide +kernel
theorem dX10_first_1 : decode cX10_first 1 = .ok (.iconst 0, 1) := by decide +kernel
theorem dX10_first_2 : decode cX10_first 2 = .ok (.putfield 92, 3) := by decide +kernel
theorem dX10_first_5 : decode cX10_first 5 = .ok (.aload_n 0, 1) := by decide +kernel
theorem dX10_first_6 : decode cX10_first 6 = .ok (.invokevirtual 270, 3) := by decide +kernel
theorem dX10_first_9 : decode cX10_first 9 = .ok (.ifCond .ne 6, 3) := by decide +kernel
theorem dX10_first_12 : decode cX10_first 12 = .ok (.bipush (-2), 2) := by decide +kernel
theorem dX10_first_14 : decode cX10_first 14 = .ok (.ireturn, 1) := by decide +kernel
theorem dX10_flight_0 : decode cX10_flight 0 = .ok (.aload_n 0, 1) := by decide +kernel
theorem dX10_flight_1 : decode cX10_flight 1 = .ok (.iconst 0, 1) := by decide +kernel
theorem dX10_flight_2 : decode cX10_flight 2 = .ok (.putfield 92, 3) := by decide +kernel
theorem dX10_flight_5 : decode cX10_flight 5 = .ok (.aload_n 0, 1) := by decide +kernel
theorem dX10_flight_6 : decode cX10_flight 6 = .ok (.iload_n 1, 1) := by decide +kernel
theorem dX10_flight_7 : decode cX10_flight 7 = .ok (.i2l, 1) := by decide +kernel
theorem dX10_flight_8 : decode cX10_flight 8 = .ok (.invokevirtual 323, 3) := by decide +kernel
theorem dX10_flight_11 : decode cX10_flight 11 = .ok (.ifCond .eq 15, 3) := by decide +kernel
theorem dX10_flight_26 : decode cX10_flight 26 = .ok (.bipush (-2), 2) := by decide +kernel
theorem dX10_flight_28 : decode cX10_flight 28 = .ok (.ireturn, 1) := by decide +kernel
theorem dX10_flights_0 : decode cX10_flights 0 = .ok (.aload_n 0, 1) := by decide +kernel
theorem dX10_flights_1 : decode cX10_flights 1 = .ok (.getfield 34, 3) := by decide +kernel
theorem dX10_flights_4 : decode cX10_flights 4 = .ok (.iconst 5, 1) := by decide +kernel
theorem dX10_flights_5 : decode cX10_flights 5 = .ok (.iaload, 1) := by decide +kernel
theorem dX10_flights_6 : decode cX10_flights 6 = .ok (.ireturn, 1) := by decide +kernel
theorem dX10_flown_0 : decode cX10_flown 0 = .ok (.aload_n 0, 1) := by decide +kernel
theorem dX10_flown_1 : decode cX10_flown 1 = .ok (.iconst 0, 1) := by decide +kernel
theorem dX10_flown_2 : decode cX10_flown 2 = .ok (.putfield 92, 3) := by decide +kernel
theorem dX10_flown_5 : decode cX10_flown 5 = .ok (.aload_n 0, 1) := by decide +kernel
theorem dX10_flown_6 : decode cX10_flown 6 = .ok (.invokevirtual 270, 3) := by decide +kernel
theorem dX10_flown_9 : decode cX10_flown 9 = .ok (.ifCond .eq 22, 3) := by decide +kernel
theorem dX10_flown_31 : decode cX10_flown 31 = .ok (.bipush (-2), 2) := by decide +kernel
theorem dX10_flown_33 : decode cX10_flown 33 = .ok (.ireturn, 1) := by decide +kernel
theorem dX10_geese_0 : decode cX10_geese 0 = .ok (.aload_n 0, 1) := by decide +kernel
theorem dX10_geese_1 : decode cX10_geese 1 = .ok (.iconst 0, 1) := by decide +kernel
theorem dX10_geese_2 : decode cX10_geese 2 = .ok (.putfield 92, 3) := by decide +kernel
theorem dX10_geese_5 : decode cX10_geese 5 = .ok (.aload_n 0, 1) := by decide +kernel
theorem dX10_geese_6 : decode cX10_geese 6 = .ok (.iload_n 1, 1) := by decide +kernel
theorem dX10_geese_7 : decode cX10_geese 7 = .ok (.i2l, 1) := by decide +kernel
theorem dX10_geese_8 : decode cX10_geese 8 = .ok (.invokevirtual 340, 3) := by decide +kernel
theorem dX10_geese_11 : decode cX10_geese 11 = .ok (.ifCond .eq 10, 3) := by decide +kernel
theorem dX10_geese_21 : decode cX10_geese 21 = .ok (.bipush (-2), 2) := by decide +kernel
theorem dX10_geese_23 : decode cX10_geese 23 = .ok (.ireturn, 1) := by decide +kernel
theorem dX10_has_0 : decode cX10_has 0 = .ok (.aload_n 0, 1) := by decide +kernel
theorem dX10_has_1 : decode cX10_has 1 = .ok (.iconst 0, 1) := by decide +kernel
theorem dX10_has_2 : decode cX10_has 2 = .ok (.putfield 92, 3) := by decide +kernel
theorem dX10_has_5 : decode cX10_has 5 = .ok (.aload_n 0, 1) := by decide +kernel
theorem dX10_has_6 : decode cX10_has 6 = .ok (.iload_n 1, 1) := by decide +kernel
theorem dX10_has_7 : decode cX10_has 7 = .ok (.iload_n 2, 1) := by decide +kernel
theorem dX10_has_8 : decode cX10_has 8 = .ok (.invokevirtual 464, 3) := by decide +kernel
theorem dX10_has_11 : decode cX10_has 11 = .ok (.ifCond .eq 31, 3) := by decide +kernel
theorem dX10_has_42 : decode cX10_has 42 = .ok (.sipush (-1000), 3) := by decide +kernel
theorem dX10_has_45 : decode cX10_has 45 = .ok (.ireturn, 1) := by decide +kernel
theorem dX10_heads_0 : decode cX10_heads 0 = .ok (.aload_n 0, 1) := by decide +kernel
theorem dX10_heads_1 : decode cX10_heads 1 = .ok (.iconst 0, 1) := by decide +kernel
theorem dX10_heads_2 : decode cX10_heads 2 = .ok (.putfield 92, 3) := by decide +kernel
theorem dX10_heads_5 : decode cX10_heads 5 = .ok (.aload_n 0, 1) := by decide +kernel
theorem dX10_heads_6 : decode cX10_heads 6 = .ok (.iload_n 1, 1) := by decide +kernel
theorem dX10_heads_7 : decode cX10_heads 7 = .ok (.i2l, 1) := by decide +kernel
theorem dX10_heads_8 : decode cX10_heads 8 = .ok (.invokevirtual 323, 3) := by decide +kernel
theorem dX10_heads_11 : decode cX10_heads 11 = .ok (.ifCond .eq 10, 3) := by decide +kernel
theorem dX10_heads_21 : decode cX10_heads 21 = .ok (.bipush (-2), 2) := by decide +kernel
theorem dX10_heads_23 : decode cX10_heads 23 = .ok (.ireturn, 1) := by decide +kernel
theorem dX10_heard_0 : decode cX10_heard 0 = .ok (.aload_n 0, 1) := by decide +kernel
theorem dX10_heard_1 : decode cX10_heard 1 = .ok (.iconst 0, 1) := by decide +kernel
theorem dX10_heard_2 : decode cX10_heard 2 = .ok (.putfield 92, 3) := by decide +kernel
theorem dX10_heard_5 : decode cX10_heard 5 = .ok (.aload_n 0, 1) := by decide +kernel
theorem dX10_heard_6 : decode cX10_heard 6 = .ok (.iload_n 1, 1) := by decide +kernel
theorem dX10_heard_7 : decode cX10_heard 7 = .ok (.i2l, 1) := by decide +kernel
theorem dX10_heard_8 : decode cX10_heard 8 = .ok (.invokevirtual 265, 3) := by decide +kernel
theorem dX10_heard_11 : decode cX10_heard 11 = .ok (.ifCond .ne 6, 3) := by decide +kernel
theorem dX10_heard_14 : decode cX10_heard 14 = .ok (.bipush (-2), 2) := by decide +kernel
theorem dX10_heard_16 : decode cX10_heard 16 = .ok (.ireturn, 1) := by decide +kernel
theorem dX10_hears_0 : decode cX10_hears 0 = .ok (.aload_n 0, 1) := by decide +kernel
theorem dX10_hears_1 : decode cX10_hears 1 = .ok (.iconst 0, 1) := by decide +kernel
theorem dX10_hears_2 : decode cX10_hears 2 = .ok (.putfield 92, 3) := by decide +kernel
theorem dX10_hears_5 : decode cX10_hears 5 = .ok (.aload_n 0, 1) := by decide +kernel
theorem dX10_hears_6 : decode cX10_hears 6 = .ok (.iload_n 1, 1) := by decide +kernel
theorem dX10_hears_7 : decode cX10_hears 7 = .ok (.i2l, 1) := by decide +kernel
theorem dX10_hears_8 : decode cX10_hears 8 = .ok (.invokevirtual 265, 3) := by decide +kernel
theorem dX10_hears_11 : decode cX10_hears 11 = .ok (.ifCond .eq 12, 3) := by decide +kernel
theorem dX10_hears_23 : decode cX10_hears 23 = .ok (.bipush (-2), 2) := by decide +kernel
theorem dX10_hears_25 : decode cX10_hears 25 = .ok (.ireturn, 1) := by decide +kernel
theorem dX10_home_0 : decode cX10_home 0 = .ok (.aload_n 0, 1) := by decide +kernel
theorem dX10_home_1 : decode cX10_home 1 = .ok (.iconst 0, 1) := by decide +kernel
theorem dX10_home_2 : decode cX10_home 2 = .ok (.putfield 92, 3) := by decide +kernel
theorem dX10_home_5 : decode cX10_home 5 = .ok (.aload_n 0, 1) := by decide +kernel
theorem dX10_home_6 : decode cX10_home 6 = .ok (.iload_n 1, 1) := by decide +kernel
theorem dX10_home_7 : decode cX10_home 7 = .ok (.i2l, 1) := by decide +kernel
theorem dX10_home_8 : decode cX10_home 8 = .ok (.invokevirtual 265, 3) := by decide +kernel
theorem dX10_home_11 : decode cX10_home 11 = .ok (.ifCond .ne 6, 3) := by decide +kernel
theorem dX10_home_14 : decode cX10_home 14 = .ok (.bipush (-2), 2) := by decide +kernel
theorem dX10_home_16 : decode cX10_home 16 = .ok (.ireturn, 1) := by decide +kernel
theorem dX10_homes_0 : decode cX10_homes 0 = .ok (.aload_n 0, 1) := by decide +kernel
theorem dX10_homes_1 : decode cX10_homes 1 = .ok (.iconst 0, 1) := by decide +kernel
theorem dX10_homes_2 : decode cX10_homes 2 = .ok (.putfield 92, 3) := by decide +kernel
theorem dX10_homes_5 : decode cX10_homes 5 = .ok (.aload_n 0, 1) := by decide +kernel
theorem dX10_homes_6 : decode cX10_homes 6 = .ok (.invokevirtual 270, 3) := by decide +kernel
theorem dX10_homes_9 : decode cX10_homes 9 = .ok (.ifCond .ne 6, 3) := by decide +kernel
theorem dX10_homes_12 : decode cX10_homes 12 = .ok (.bipush (-2), 2) := by decide +kernel
theorem dX10_homes_14 : decode cX10_homes 14 = .ok (.ireturn, 1) := by decide +kernel
theorem dX10_in_0 : decode cX10_in 0 = .ok (.lload_n 0, 1) := by decide +kernel
theorem dX10_in_1 : decode cX10_in 1 = .ok (.lload_n 2, 1) := by decide +kernel
theorem dX10_in_2 : decode cX10_in 2 = .ok (.lcmp, 1) := by decide +kernel
theorem dX10_in_3 : decode cX10_in 3 = .ok (.ifCond .lt 14, 3) := by decide +kernel
theorem dX10_in_6 : decode cX10_in 6 = .ok (.lload_n 0, 1) := by decide +kernel
theorem dX10_in_7 : decode cX10_in 7 = .ok (.lload 4, 2) := by decide +kernel
theorem dX10_in_9 : decode cX10_in 9 = .ok (.lcmp, 1) := by decide +kernel
theorem dX10_in_10 : decode cX10_in 10 = .ok (.ifCond .gt 7, 3) := by decide +kernel
theorem dX10_in_13 : decode cX10_in 13 = .ok (.iconst 1, 1) := by decide +kernel
theorem dX10_in_14 : decode cX10_in 14 = .ok (.goto 4, 3) := by decide +kernel
theorem dX10_in_17 : decode cX10_in 17 = .ok (.iconst 0, 1) := by decide +kernel
theorem dX10_in_18 : decode cX10_in 18 = .ok (.ireturn, 1) := by decide +kernel
theorem dX10_income_0 : decode cX10_income 0 = .ok (.aload_n 0, 1) := by decide +kernel
theorem dX10_income_1 : decode cX10_income 1 = .ok (.iconst 0, 1) := by decide +kernel
theorem dX10_income_2 : decode cX10_income 2 = .ok (.putfield 92, 3) := by decide +kernel
theorem dX10_income_5 : decode cX10_income 5 = .ok (.aload_n 0, 1) := by decide +kernel
theorem dX10_income_6 : decode cX10_income 6 = .ok (.invokevirtual 270, 3) := by decide +kernel
theorem dX10_income_9 : decode cX10_income 9 = .ok (.ifCond .ne 6, 3) := by decide +kernel
theorem dX10_income_12 : decode cX10_income 12 = .ok (.bipush (-2), 2) := by decide +kernel
theorem dX10_income_14 : decode cX10_income 14 = .ok (.ireturn, 1) := by decide +kernel
theorem dX10_isCell_0 : decode cX10_isCell 0 = .ok (.lload_n 1, 1) := by decide +kernel
theorem dX10_isCell_1 : decode cX10_isCell 1 = .ok (.lconst 0, 1) := by decide +kernel
theorem dX10_isCell_2 : decode cX10_isCell 2 = .ok (.aload_n 0, 1) := by decide +kernel
theorem dX10_isCell_3 : decode cX10_isCell 3 = .ok (.invokevirtual 256, 3) := by decide +kernel
theorem dX10_isCell_6 : decode cX10_isCell 6 = .ok (.i2l, 1) := by decide +kernel
theorem dX10_isCell_7 : decode cX10_isCell 7 = .ok (.lconst 1, 1) := by decide +kernel
theorem dX10_isCell_8 : decode cX10_isCell 8 = .ok (.lsub, 1) := by decide +kernel
theorem dX10_isCell_9 : decode cX10_isCell 9 = .ok (.invokestatic 97, 3) := by decide +kernel
theorem dX10_isCell_12 : decode cX10_isCell 12 = .ok (.ireturn, 1) := by decide +kernel
theorem dX10_isFlight_0 : decode cX10_isFlight 0 = .ok (.lload_n 1, 1) := by decide +kernel
theorem dX10_isFlight_1 : decode cX10_isFlight 1 = .ok (.lconst 0, 1) := by decide +kernel
theorem dX10_isFlight_2 : decode cX10_isFlight 2 = .ok (.aload_n 0, 1) := by decide +kernel
theorem dX10_isFlight_3 : decode cX10_isFlight 3 = .ok (.invokevirtual 259, 3) := by decide +kernel
theorem dX10_isFlight_6 : decode cX10_isFlight 6 = .ok (.i2l, 1) := by decide +kernel
theorem dX10_isFlight_7 : decode cX10_isFlight 7 = .ok (.lconst 1, 1) := by decide +kernel
theorem dX10_isFlight_8 : decode cX10_isFlight 8 = .ok (.lsub, 1) := by decide +kernel
theorem dX10_isFlight_9 : decode cX10_isFlight 9 = .ok (.invokestatic 97, 3) := by decide +kernel
theorem dX10_isFlight_12 : decode cX10_isFlight 12 = .ok (.ireturn, 1) := by decide +kernel
theorem dX10_isHalf_0 : decode cX10_isHalf 0 = .ok (.iload_n 0, 1) := by decide +kernel
theorem dX10_isHalf_1 : decode cX10_isHalf 1 = .ok (.i2l, 1) := by decide +kernel
theorem dX10_isHalf_2 : decode cX10_isHalf 2 = .ok (.lconst 0, 1) := by decide +kernel
theorem dX10_isHalf_3 : decode cX10_isHalf 3 = .ok (.lconst 1, 1) := by decide +kernel
theorem dX10_isHalf_4 : decode cX10_isHalf 4 = .ok (.invokestatic 97, 3) := by decide +kernel
theorem dX10_isHalf_7 : decode cX10_isHalf 7 = .ok (.ireturn, 1) := by decide +kernel
theorem dX10_isLand_0 : decode cX10_isLand 0 = .ok (.aload_n 0, 1) := by decide +kernel
theorem dX10_isLand_1 : decode cX10_isLand 1 = .ok (.getfield 31, 3) := by decide +kernel
theorem dX10_isLand_4 : decode cX10_isLand 4 = .ok (.iconst 0, 1) := by decide +kernel
theorem dX10_isLand_5 : decode cX10_isLand 5 = .ok (.iaload, 1) := by decide +kernel
theorem dX10_isLand_6 : decode cX10_isLand 6 = .ok (.ifCond .le 7, 3) := by decide +kernel
theorem dX10_isLand_13 : decode cX10_isLand 13 = .ok (.iconst 0, 1) := by decide +kernel
theorem dX10_isLand_14 : decode cX10_isLand 14 = .ok (.ireturn, 1) := by decide +kernel
theorem dX10_isLaw_0 : decode cX10_isLaw 0 = .ok (.aload_n 0, 1) := by decide +kernel
theorem dX10_isLaw_1 : decode cX10_isLaw 1 = .ok (.invokevirtual 270, 3) := by decide +kernel
theorem dX10_isLaw_4 : decode cX10_isLaw 4 = .ok (.ifCond .eq 19, 3) := by decide +kernel
theorem dX10_isLaw_23 : decode cX10_isLaw 23 = .ok (.iconst 0, 1) := by decide +kernel
theorem dX10_isLaw_24 : decode cX10_isLaw 24 = .ok (.ireturn, 1) := by decide +kernel
theorem dX10_isMany_0 : decode cX10_isMany 0 = .ok (.aload_n 0, 1) := by decide +kernel
theorem dX10_isMany_1 : decode cX10_isMany 1 = .ok (.invokevirtual 270, 3) := by decide +kernel
theorem dX10_isMany_4 : decode cX10_isMany 4 = .ok (.ifCond .eq 19, 3) := by decide +kernel
theorem dX10_isMany_23 : decode cX10_isMany 23 = .ok (.iconst 0, 1) := by decide +kernel
theorem dX10_isMany_24 : decode cX10_isMany 24 = .ok (.ireturn, 1) := by decide +kernel
theorem dX10_isMember_0 : decode cX10_isMember 0 = .ok (.lload_n 1, 1) := by decide +kernel
theorem dX10_isMember_1 : decode cX10_isMember 1 = .ok (.lconst 0, 1) := by decide +kernel
theorem dX10_isMember_2 : decode cX10_isMember 2 = .ok (.aload_n 0, 1) := by decide +kernel
theorem dX10_isMember_3 : decode cX10_isMember 3 = .ok (.invokevirtual 262, 3) := by decide +kernel
theorem dX10_isMember_6 : decode cX10_isMember 6 = .ok (.i2l, 1) := by decide +kernel
theorem dX10_isMember_7 : decode cX10_isMember 7 = .ok (.lconst 1, 1) := by decide +kernel
theorem dX10_isMember_8 : decode cX10_isMember 8 = .ok (.lsub, 1) := by decide +kernel
theorem dX10_isMember_9 : decode cX10_isMember 9 = .ok (.invokestatic 97, 3) := by decide +kernel
theorem dX10_isMember_12 : decode cX10_isMember 12 = .ok (.ireturn, 1) := by decide +kernel
theorem dX10_isSeed_0 : decode cX10_isSeed 0 = .ok (.iload_n 0, 1) := by decide +kernel
theorem dX10_isSeed_1 : decode cX10_isSeed 1 = .ok (.i2l, 1) := by decide +kernel
theorem dX10_isSeed_2 : decode cX10_isSeed 2 = .ok (.lconst 0, 1) := by decide +kernel
theorem dX10_isSeed_3 : decode cX10_isSeed 3 = .ok (.ldc2_w 496, 3) := by decide +kernel
theorem dX10_isSeed_6 : decode cX10_isSeed 6 = .ok (.invokestatic 97, 3) := by decide +kernel
theorem dX10_isSeed_9 : decode cX10_isSeed 9 = .ok (.ireturn, 1) := by decide +kernel
theorem dX10_isSet_0 : decode cX10_isSet 0 = .ok (.aload_n 0, 1) := by decide +kernel
theorem dX10_isSet_1 : decode cX10_isSet 1 = .ok (.invokevirtual 270, 3) := by decide +kernel
theorem dX10_isSet_4 : decode cX10_isSet 4 = .ok (.ifCond .eq 25, 3) := by decide +kernel
theorem dX10_isSet_29 : decode cX10_isSet 29 = .ok (.iconst 0, 1) := by decide +kernel
theorem dX10_isSet_30 : decode cX10_isSet 30 = .ok (.ireturn, 1) := by decide +kernel
theorem dX10_isSlot_0 : decode cX10_isSlot 0 = .ok (.iload_n 0, 1) := by decide +kernel
theorem dX10_isSlot_1 : decode cX10_isSlot 1 = .ok (.i2l, 1) := by decide +kernel
theorem dX10_isSlot_2 : decode cX10_isSlot 2 = .ok (.lconst 0, 1) := by decide +kernel
theorem dX10_isSlot_3 : decode cX10_isSlot 3 = .ok (.ldc2_w 95, 3) := by decide +kernel
theorem dX10_isSlot_6 : decode cX10_isSlot 6 = .ok (.invokestatic 97, 3) := by decide +kernel
theorem dX10_isSlot_9 : decode cX10_isSlot 9 = .ok (.ireturn, 1) := by decide +kernel
theorem dX10_isStep_0 : decode cX10_isStep 0 = .ok (.iload_n 0, 1) := by decide +kernel
theorem dX10_isStep_1 : decode cX10_isStep 1 = .ok (.i2l, 1) := by decide +kernel
theorem dX10_isStep_2 : decode cX10_isStep 2 = .ok (.lconst 0, 1) := by decide +kernel
theorem dX10_isStep_3 : decode cX10_isStep 3 = .ok (.ldc2_w 268, 3) := by decide +kernel
theorem dX10_isStep_6 : decode cX10_isStep 6 = .ok (.invokestatic 97, 3) := by decide +kernel
theorem dX10_isStep_9 : decode cX10_isStep 9 = .ok (.ireturn, 1) := by decide +kernel
theorem dX10_lacks_0 : decode cX10_lacks 0 = .ok (.aload_n 0, 1) := by decide +kernel
theorem dX10_lacks_1 : decode cX10_lacks 1 = .ok (.iconst 0, 1) := by decide +kernel
theorem dX10_lacks_2 : decode cX10_lacks 2 = .ok (.putfield 92, 3) := by decide +kernel
theorem dX10_lacks_5 : decode cX10_lacks 5 = .ok (.aload_n 0, 1) := by decide +kernel
theorem dX10_lacks_6 : decode cX10_lacks 6 = .ok (.invokevirtual 270, 3) := by decide +kernel
theorem dX10_lacks_9 : decode cX10_lacks 9 = .ok (.ifCond .ne 6, 3) := by decide +kernel
theorem dX10_lacks_12 : decode cX10_lacks 12 = .ok (.bipush (-2), 2) := by decide +kernel
theorem dX10_lacks_14 : decode cX10_lacks 14 = .ok (.ireturn, 1) := by decide +kernel
theorem dX10_lamps_0 : decode cX10_lamps 0 = .ok (.aload_n 0, 1) := by decide +kernel
theorem dX10_lamps_1 : decode cX10_lamps 1 = .ok (.iconst 0, 1) := by decide +kernel
theorem dX10_lamps_2 : decode cX10_lamps 2 = .ok (.putfield 92, 3) := by decide +kernel
theorem dX10_lamps_5 : decode cX10_lamps 5 = .ok (.aload_n 0, 1) := by decide +kernel
theorem dX10_lamps_6 : decode cX10_lamps 6 = .ok (.invokevirtual 270, 3) := by decide +kernel
theorem dX10_lamps_9 : decode cX10_lamps 9 = .ok (.ifCond .ne 6, 3) := by decide +kernel
theorem dX10_lamps_12 : decode cX10_lamps 12 = .ok (.bipush (-2), 2) := by decide +kernel
theorem dX10_lamps_14 : decode cX10_lamps 14 = .ok (.ireturn, 1) := by decide +kernel
theorem dX10_law_0 : decode cX10_law 0 = .ok (.aload_n 0, 1) := by decide +kernel
theorem dX10_law_1 : decode cX10_law 1 = .ok (.iconst 0, 1) := by decide +kernel
theorem dX10_law_2 : decode cX10_law 2 = .ok (.putfield 92, 3) := by decide +kernel
theorem dX10_law_5 : decode cX10_law 5 = .ok (.aload_n 0, 1) := by decide +kernel
theorem dX10_law_6 : decode cX10_law 6 = .ok (.invokevirtual 270, 3) := by decide +kernel
theorem dX10_law_9 : decode cX10_law 9 = .ok (.ifCond .ne 6, 3) := by decide +kernel
theorem dX10_law_12 : decode cX10_law 12 = .ok (.bipush (-2), 2) := by decide +kernel
theorem dX10_law_14 : decode cX10_law 14 = .ok (.ireturn, 1) := by decide +kernel
theorem dX10_laws_0 : decode cX10_laws 0 = .ok (.aload_n 0, 1) := by decide +kernel
theorem dX10_laws_1 : decode cX10_laws 1 = .ok (.iconst 0, 1) := by decide +kernel
theorem dX10_laws_2 : decode cX10_laws 2 = .ok (.putfield 92, 3) := by decide +kernel
theorem dX10_laws_5 : decode cX10_laws 5 = .ok (.aload_n 0, 1) := by decide +kernel
theorem dX10_laws_6 : decode cX10_laws 6 = .ok (.iload_n 1, 1) := by decide +kernel
theorem dX10_laws_7 : decode cX10_laws 7 = .ok (.invokevirtual 386, 3) := by decide +kernel
theorem dX10_laws_10 : decode cX10_laws 10 = .ok (.istore_n 2, 1) := by decide +kernel
theorem dX10_laws_11 : decode cX10_laws 11 = .ok (.iload_n 2, 1) := by decide +kernel
theorem dX10_laws_12 : decode cX10_laws 12 = .ok (.ifCond .eq 7, 3) := by decide +kernel
theorem dX10_laws_15 : decode cX10_laws 15 = .ok (.iload_n 2, 1) := by decide +kernel
theorem dX10_laws_16 : decode cX10_laws 16 = .ok (.goto 8, 3) := by decide +kernel
theorem dX10_laws_24 : decode cX10_laws 24 = .ok (.ireturn, 1) := by decide +kernel
theorem dX10_leaves_0 : decode cX10_leaves 0 = .ok (.aload_n 0, 1) := by decide +kernel
theorem dX10_leaves_1 : decode cX10_leaves 1 = .ok (.iconst 0, 1) := by decide +kernel
theorem dX10_leaves_2 : decode cX10_leaves 2 = .ok (.putfield 92, 3) := by decide +kernel
theorem dX10_leaves_5 : decode cX10_leaves 5 = .ok (.aload_n 0, 1) := by decide +kernel
theorem dX10_leaves_6 : decode cX10_leaves 6 = .ok (.iload_n 1, 1) := by decide +kernel
theorem dX10_leaves_7 : decode cX10_leaves 7 = .ok (.invokevirtual 401, 3) := by decide +kernel
theorem dX10_leaves_10 : decode cX10_leaves 10 = .ok (.istore_n 2, 1) := by decide +kernel
theorem dX10_leaves_11 : decode cX10_leaves 11 = .ok (.iload_n 2, 1) := by decide +kernel
theorem dX10_leaves_12 : decode cX10_leaves 12 = .ok (.ifCond .eq 5, 3) := by decide +kernel
theorem dX10_leaves_15 : decode cX10_leaves 15 = .ok (.iload_n 2, 1) := by decide +kernel
theorem dX10_leaves_16 : decode cX10_leaves 16 = .ok (.ireturn, 1) := by decide +kernel
theorem dX10_less_0 : decode cX10_less 0 = .ok (.aload_n 0, 1) := by decide +kernel
theorem dX10_less_1 : decode cX10_less 1 = .ok (.iconst 0, 1) := by decide +kernel
theorem dX10_less_2 : decode cX10_less 2 = .ok (.putfield 92, 3) := by decide +kernel
theorem dX10_less_5 : decode cX10_less 5 = .ok (.aload_n 0, 1) := by decide +kernel
theorem dX10_less_6 : decode cX10_less 6 = .ok (.invokevirtual 270, 3) := by decide +kernel
theorem dX10_less_9 : decode cX10_less 9 = .ok (.ifCond .eq 11, 3) := by decide +kernel
theorem dX10_less_20 : decode cX10_less 20 = .ok (.bipush (-2), 2) := by decide +kernel
theorem dX10_less_22 : decode cX10_less 22 = .ok (.ireturn, 1) := by decide +kernel
theorem dX10_light_0 : decode cX10_light 0 = .ok (.aload_n 0, 1) := by decide +kernel
theorem dX10_light_1 : decode cX10_light 1 = .ok (.iconst 0, 1) := by decide +kernel
theorem dX10_light_2 : decode cX10_light 2 = .ok (.putfield 92, 3) := by decide +kernel
theorem dX10_light_5 : decode cX10_light 5 = .ok (.aload_n 0, 1) := by decide +kernel
theorem dX10_light_6 : decode cX10_light 6 = .ok (.iload_n 1, 1) := by decide +kernel
theorem dX10_light_7 : decode cX10_light 7 = .ok (.i2l, 1) := by decide +kernel
theorem dX10_light_8 : decode cX10_light 8 = .ok (.invokevirtual 340, 3) := by decide +kernel
theorem dX10_light_11 : decode cX10_light 11 = .ok (.ifCond .eq 10, 3) := by decide +kernel
theorem dX10_light_21 : decode cX10_light 21 = .ok (.bipush (-2), 2) := by decide +kernel
theorem dX10_light_23 : decode cX10_light 23 = .ok (.ireturn, 1) := by decide +kernel
theorem dX10_lights_0 : decode cX10_lights 0 = .ok (.aload_n 0, 1) := by decide +kernel
theorem dX10_lights_1 : decode cX10_lights 1 = .ok (.iconst 0, 1) := by decide +kernel
theorem dX10_lights_2 : decode cX10_lights 2 = .ok (.putfield 92, 3) := by decide +kernel
theorem dX10_lights_5 : decode cX10_lights 5 = .ok (.aload_n 0, 1) := by decide +kernel
theorem dX10_lights_6 : decode cX10_lights 6 = .ok (.iload_n 1, 1) := by decide +kernel
theorem dX10_lights_7 : decode cX10_lights 7 = .ok (.invokevirtual 364, 3) := by decide +kernel
theorem dX10_lights_10 : decode cX10_lights 10 = .ok (.ifCond .ne 6, 3) := by decide +kernel
theorem dX10_lights_13 : decode cX10_lights 13 = .ok (.bipush (-2), 2) := by decide +kernel
theorem dX10_lights_15 : decode cX10_lights 15 = .ok (.ireturn, 1) := by decide +kernel
theorem dX10_lone_0 : decode cX10_lone 0 = .ok (.aload_n 0, 1) := by decide +kernel
theorem dX10_lone_1 : decode cX10_lone 1 = .ok (.iconst 0, 1) := by decide +kernel
theorem dX10_lone_2 : decode cX10_lone 2 = .ok (.putfield 92, 3) := by decide +kernel
theorem dX10_lone_5 : decode cX10_lone 5 = .ok (.aload_n 0, 1) := by decide +kernel
theorem dX10_lone_6 : decode cX10_lone 6 = .ok (.invokevirtual 270, 3) := by decide +kernel
theorem dX10_lone_9 : decode cX10_lone 9 = .ok (.ifCond .ne 6, 3) := by decide +kernel
theorem dX10_lone_12 : decode cX10_lone 12 = .ok (.bipush (-2), 2) := by decide +kernel
theorem dX10_lone_14 : decode cX10_lone 14 = .ok (.ireturn, 1) := by decide +kernel
theorem dX10_loud_0 : decode cX10_loud 0 = .ok (.aload_n 0, 1) := by decide +kernel
theorem dX10_loud_1 : decode cX10_loud 1 = .ok (.iconst 0, 1) := by decide +kernel
theorem dX10_loud_2 : decode cX10_loud 2 = .ok (.putfield 92, 3) := by decide +kernel
theorem dX10_loud_5 : decode cX10_loud 5 = .ok (.aload_n 0, 1) := by decide +kernel
theorem dX10_loud_6 : decode cX10_loud 6 = .ok (.invokevirtual 270, 3) := by decide +kernel
theorem dX10_loud_9 : decode cX10_loud 9 = .ok (.ifCond .ne 6, 3) := by decide +kernel
theorem dX10_loud_12 : decode cX10_loud 12 = .ok (.bipush (-2), 2) := by decide +kernel
theorem dX10_loud_14 : decode cX10_loud 14 = .ok (.ireturn, 1) := by decide +kernel
theorem dX10_luck_0 : decode cX10_luck 0 = .ok (.aload_n 0, 1) := by decide +kernel
theorem dX10_luck_1 : decode cX10_luck 1 = .ok (.iconst 0, 1) := by decide +kernel
theorem dX10_luck_2 : decode cX10_luck 2 = .ok (.putfield 92, 3) := by decide +kernel
theorem dX10_luck_5 : decode cX10_luck 5 = .ok (.iload_n 1, 1) := by decide +kernel
theorem dX10_luck_6 : decode cX10_luck 6 = .ok (.invokestatic 498, 3) := by decide +kernel
theorem dX10_luck_9 : decode cX10_luck 9 = .ok (.ifCond .eq 24, 3) := by decide +kernel
theorem dX10_luck_12 : decode cX10_luck 12 = .ok (.iload_n 2, 1) := by decide +kernel
theorem dX10_luck_13 : decode cX10_luck 13 = .ok (.i2l, 1) := by decide +kernel
theorem dX10_luck_14 : decode cX10_luck 14 = .ok (.lconst 1, 1) := by decide +kernel
theorem dX10_luck_15 : decode cX10_luck 15 = .ok (.ldc2_w 504, 3) := by decide +kernel
theorem dX10_luck_18 : decode cX10_luck 18 = .ok (.invokestatic 97, 3) := by decide +kernel
theorem dX10_luck_21 : decode cX10_luck 21 = .ok (.ifCond .eq 12, 3) := by decide +kernel
theorem dX10_luck_24 : decode cX10_luck 24 = .ok (.aload_n 0, 1) := by decide +kernel
theorem dX10_luck_25 : decode cX10_luck 25 = .ok (.iload_n 3, 1) := by decide +kernel
theorem dX10_luck_26 : decode cX10_luck 26 = .ok (.i2l, 1) := by decide +kernel
theorem dX10_luck_27 : decode cX10_luck 27 = .ok (.invokevirtual 265, 3) := by decide +kernel
theorem dX10_luck_30 : decode cX10_luck 30 = .ok (.ifCond .ne 6, 3) := by decide +kernel
theorem dX10_luck_33 : decode cX10_luck 33 = .ok (.bipush (-2), 2) := by decide +kernel
theorem dX10_luck_35 : decode cX10_luck 35 = .ok (.ireturn, 1) := by decide +kernel
theorem dX10_mean_0 : decode cX10_mean 0 = .ok (.aload_n 0, 1) := by decide +kernel
theorem dX10_mean_1 : decode cX10_mean 1 = .ok (.iconst 0, 1) := by decide +kernel
theorem dX10_mean_2 : decode cX10_mean 2 = .ok (.putfield 92, 3) := by decide +kernel
theorem dX10_mean_5 : decode cX10_mean 5 = .ok (.aload_n 0, 1) := by decide +kernel
theorem dX10_mean_6 : decode cX10_mean 6 = .ok (.invokevirtual 270, 3) := by decide +kernel
theorem dX10_mean_9 : decode cX10_mean 9 = .ok (.ifCond .eq 26, 3) := by decide +kernel
theorem dX10_mean_35 : decode cX10_mean 35 = .ok (.bipush (-2), 2) := by decide +kernel
theorem dX10_mean_37 : decode cX10_mean 37 = .ok (.ireturn, 1) := by decide +kernel
theorem dX10_meets_0 : decode cX10_meets 0 = .ok (.aload_n 0, 1) := by decide +kernel
theorem dX10_meets_1 : decode cX10_meets 1 = .ok (.iconst 0, 1) := by decide +kernel
theorem dX10_meets_2 : decode cX10_meets 2 = .ok (.putfield 92, 3) := by decide +kernel
theorem dX10_meets_5 : decode cX10_meets 5 = .ok (.aload_n 0, 1) := by decide +kernel
theorem dX10_meets_6 : decode cX10_meets 6 = .ok (.iload_n 1, 1) := by decide +kernel
theorem dX10_meets_7 : decode cX10_meets 7 = .ok (.i2l, 1) := by decide +kernel
theorem dX10_meets_8 : decode cX10_meets 8 = .ok (.invokevirtual 323, 3) := by decide +kernel
theorem dX10_meets_11 : decode cX10_meets 11 = .ok (.ifCond .eq 12, 3) := by decide +kernel
theorem dX10_meets_23 : decode cX10_meets 23 = .ok (.bipush (-2), 2) := by decide +kernel
theorem dX10_meets_25 : decode cX10_meets 25 = .ok (.ireturn, 1) := by decide +kernel
theorem dX10_member_0 : decode cX10_member 0 = .ok (.aload_n 0, 1) := by decide +kernel
theorem dX10_member_1 : decode cX10_member 1 = .ok (.iconst 0, 1) := by decide +kernel
theorem dX10_member_2 : decode cX10_member 2 = .ok (.putfield 92, 3) := by decide +kernel
theorem dX10_member_5 : decode cX10_member 5 = .ok (.aload_n 0, 1) := by decide +kernel
theorem dX10_member_6 : decode cX10_member 6 = .ok (.iload_n 1, 1) := by decide +kernel
theorem dX10_member_7 : decode cX10_member 7 = .ok (.i2l, 1) := by decide +kernel
theorem dX10_member_8 : decode cX10_member 8 = .ok (.invokevirtual 265, 3) := by decide +kernel
theorem dX10_member_11 : decode cX10_member 11 = .ok (.ifCond .eq 28, 3) := by decide +kernel
theorem dX10_member_39 : decode cX10_member 39 = .ok (.bipush (-2), 2) := by decide +kernel
theorem dX10_member_41 : decode cX10_member 41 = .ok (.ireturn, 1) := by decide +kernel
theorem dX10_members_0 : decode cX10_members 0 = .ok (.aload_n 0, 1) := by decide +kernel
theorem dX10_members_1 : decode cX10_members 1 = .ok (.getfield 34, 3) := by decide +kernel
theorem dX10_members_4 : decode cX10_members 4 = .ok (.bipush 6, 2) := by decide +kernel
theorem dX10_members_6 : decode cX10_members 6 = .ok (.iaload, 1) := by decide +kernel
theorem dX10_members_7 : decode cX10_members 7 = .ok (.ireturn, 1) := by decide +kernel
theorem dX10_more_0 : decode cX10_more 0 = .ok (.aload_n 0, 1) := by decide +kernel
theorem dX10_more_1 : decode cX10_more 1 = .ok (.iconst 0, 1) := by decide +kernel
theorem dX10_more_2 : decode cX10_more 2 = .ok (.putfield 92, 3) := by decide +kernel
theorem dX10_more_5 : decode cX10_more 5 = .ok (.aload_n 0, 1) := by decide +kernel
theorem dX10_more_6 : decode cX10_more 6 = .ok (.invokevirtual 270, 3) := by decide +kernel
theorem dX10_more_9 : decode cX10_more 9 = .ok (.ifCond .eq 11, 3) := by decide +kernel
theorem dX10_more_20 : decode cX10_more 20 = .ok (.bipush (-2), 2) := by decide +kernel
theorem dX10_more_22 : decode cX10_more 22 = .ok (.ireturn, 1) := by decide +kernel
theorem dX10_most_0 : decode cX10_most 0 = .ok (.aload_n 0, 1) := by decide +kernel
theorem dX10_most_1 : decode cX10_most 1 = .ok (.iconst 0, 1) := by decide +kernel
theorem dX10_most_2 : decode cX10_most 2 = .ok (.putfield 92, 3) := by decide +kernel
theorem dX10_most_5 : decode cX10_most 5 = .ok (.aload_n 0, 1) := by decide +kernel
theorem dX10_most_6 : decode cX10_most 6 = .ok (.iload_n 1, 1) := by decide +kernel
theorem dX10_most_7 : decode cX10_most 7 = .ok (.invokevirtual 370, 3) := by decide +kernel
theorem dX10_most_10 : decode cX10_most 10 = .ok (.ifCond .ne 6, 3) := by decide +kernel
theorem dX10_most_13 : decode cX10_most 13 = .ok (.bipush (-2), 2) := by decide +kernel
theorem dX10_most_15 : decode cX10_most 15 = .ok (.ireturn, 1) := by decide +kernel
theorem dX10_near_0 : decode cX10_near 0 = .ok (.aload_n 0, 1) := by decide +kernel
theorem dX10_near_1 : decode cX10_near 1 = .ok (.iconst 0, 1) := by decide +kernel
theorem dX10_near_2 : decode cX10_near 2 = .ok (.putfield 92, 3) := by decide +kernel
theorem dX10_near_5 : decode cX10_near 5 = .ok (.aload_n 0, 1) := by decide +kernel
theorem dX10_near_6 : decode cX10_near 6 = .ok (.iload_n 1, 1) := by decide +kernel
theorem dX10_near_7 : decode cX10_near 7 = .ok (.i2l, 1) := by decide +kernel
theorem dX10_near_8 : decode cX10_near 8 = .ok (.invokevirtual 265, 3) := by decide +kernel
theorem dX10_near_11 : decode cX10_near 11 = .ok (.ifCond .ne 6, 3) := by decide +kernel
theorem dX10_near_14 : decode cX10_near 14 = .ok (.bipush (-2), 2) := by decide +kernel
theorem dX10_near_16 : decode cX10_near 16 = .ok (.ireturn, 1) := by decide +kernel
theorem dX10_odds_0 : decode cX10_odds 0 = .ok (.aload_n 0, 1) := by decide +kernel
theorem dX10_odds_1 : decode cX10_odds 1 = .ok (.iconst 0, 1) := by decide +kernel
theorem dX10_odds_2 : decode cX10_odds 2 = .ok (.putfield 92, 3) := by decide +kernel
theorem dX10_odds_5 : decode cX10_odds 5 = .ok (.aload_n 0, 1) := by decide +kernel
theorem dX10_odds_6 : decode cX10_odds 6 = .ok (.iload_n 2, 1) := by decide +kernel
theorem dX10_odds_7 : decode cX10_odds 7 = .ok (.i2l, 1) := by decide +kernel
theorem dX10_odds_8 : decode cX10_odds 8 = .ok (.invokevirtual 265, 3) := by decide +kernel
theorem dX10_odds_11 : decode cX10_odds 11 = .ok (.ifCond .eq 18, 3) := by decide +kernel
theorem dX10_odds_29 : decode cX10_odds 29 = .ok (.bipush (-2), 2) := by decide +kernel
theorem dX10_odds_31 : decode cX10_odds 31 = .ok (.istore 4, 2) := by decide +kernel
theorem dX10_odds_33 : decode cX10_odds 33 = .ok (.iload 4, 2) := by decide +kernel
theorem dX10_odds_35 : decode cX10_odds 35 = .ok (.ifCond .eq 6, 3) := by decide +kernel
theorem dX10_odds_38 : decode cX10_odds 38 = .ok (.iload 4, 2) := by decide +kernel
theorem dX10_odds_40 : decode cX10_odds 40 = .ok (.ireturn, 1) := by decide +kernel
theorem dX10_out_0 : decode cX10_out 0 = .ok (.aload_n 0, 1) := by decide +kernel
theorem dX10_out_1 : decode cX10_out 1 = .ok (.iconst 0, 1) := by decide +kernel
theorem dX10_out_2 : decode cX10_out 2 = .ok (.putfield 92, 3) := by decide +kernel
theorem dX10_out_5 : decode cX10_out 5 = .ok (.aload_n 0, 1) := by decide +kernel
theorem dX10_out_6 : decode cX10_out 6 = .ok (.iload_n 1, 1) := by decide +kernel
theorem dX10_out_7 : decode cX10_out 7 = .ok (.i2l, 1) := by decide +kernel
theorem dX10_out_8 : decode cX10_out 8 = .ok (.invokevirtual 323, 3) := by decide +kernel
theorem dX10_out_11 : decode cX10_out 11 = .ok (.ifCond .ne 6, 3) := by decide +kernel
theorem dX10_out_14 : decode cX10_out 14 = .ok (.bipush (-2), 2) := by decide +kernel
theorem dX10_out_16 : decode cX10_out 16 = .ok (.ireturn, 1) := by decide +kernel
theorem dX10_over_0 : decode cX10_over 0 = .ok (.aload_n 0, 1) := by decide +kernel
theorem dX10_over_1 : decode cX10_over 1 = .ok (.iconst 0, 1) := by decide +kernel
theorem dX10_over_2 : decode cX10_over 2 = .ok (.putfield 92, 3) := by decide +kernel
theorem dX10_over_5 : decode cX10_over 5 = .ok (.aload_n 0, 1) := by decide +kernel
theorem dX10_over_6 : decode cX10_over 6 = .ok (.iload_n 1, 1) := by decide +kernel
theorem dX10_over_7 : decode cX10_over 7 = .ok (.i2l, 1) := by decide +kernel
theorem dX10_over_8 : decode cX10_over 8 = .ok (.invokevirtual 340, 3) := by decide +kernel
theorem dX10_over_11 : decode cX10_over 11 = .ok (.ifCond .ne 6, 3) := by decide +kernel
theorem dX10_over_14 : decode cX10_over 14 = .ok (.bipush (-2), 2) := by decide +kernel
theorem dX10_over_16 : decode cX10_over 16 = .ok (.ireturn, 1) := by decide +kernel
theorem dX10_price_0 : decode cX10_price 0 = .ok (.aload_n 0, 1) := by decide +kernel
theorem dX10_price_1 : decode cX10_price 1 = .ok (.iconst 0, 1) := by decide +kernel
theorem dX10_price_2 : decode cX10_price 2 = .ok (.putfield 92, 3) := by decide +kernel
theorem dX10_price_5 : decode cX10_price 5 = .ok (.aload_n 0, 1) := by decide +kernel
theorem dX10_price_6 : decode cX10_price 6 = .ok (.invokevirtual 270, 3) := by decide +kernel
theorem dX10_price_9 : decode cX10_price 9 = .ok (.ifCond .eq 15, 3) := by decide +kernel
theorem dX10_price_24 : decode cX10_price 24 = .ok (.bipush (-2), 2) := by decide +kernel
theorem dX10_price_26 : decode cX10_price 26 = .ok (.ireturn, 1) := by decide +kernel
theorem dX10_quiet_0 : decode cX10_quiet 0 = .ok (.aload_n 0, 1) := by decide +kernel
theorem dX10_quiet_1 : decode cX10_quiet 1 = .ok (.iconst 0, 1) := by decide +kernel
theorem dX10_quiet_2 : decode cX10_quiet 2 = .ok (.putfield 92, 3) := by decide +kernel
theorem dX10_quiet_5 : decode cX10_quiet 5 = .ok (.aload_n 0, 1) := by decide +kernel
theorem dX10_quiet_6 : decode cX10_quiet 6 = .ok (.invokevirtual 270, 3) := by decide +kernel
theorem dX10_quiet_9 : decode cX10_quiet 9 = .ok (.ifCond .ne 6, 3) := by decide +kernel
theorem dX10_quiet_12 : decode cX10_quiet 12 = .ok (.bipush (-2), 2) := by decide +kernel
theorem dX10_quiet_14 : decode cX10_quiet 14 = .ok (.ireturn, 1) := by decide +kernel
theorem dX10_rate_0 : decode cX10_rate 0 = .ok (.aload_n 0, 1) := by decide +kernel
theorem dX10_rate_1 : decode cX10_rate 1 = .ok (.iconst 0, 1) := by decide +kernel
theorem dX10_rate_2 : decode cX10_rate 2 = .ok (.putfield 92, 3) := by decide +kernel
theorem dX10_rate_5 : decode cX10_rate 5 = .ok (.aload_n 0, 1) := by decide +kernel
theorem dX10_rate_6 : decode cX10_rate 6 = .ok (.iload_n 1, 1) := by decide +kernel
theorem dX10_rate_7 : decode cX10_rate 7 = .ok (.i2l, 1) := by decide +kernel
theorem dX10_rate_8 : decode cX10_rate 8 = .ok (.invokevirtual 265, 3) := by decide +kernel
theorem dX10_rate_11 : decode cX10_rate 11 = .ok (.ifCond .eq 15, 3) := by decide +kernel
theorem dX10_rate_26 : decode cX10_rate 26 = .ok (.bipush (-2), 2) := by decide +kernel
theorem dX10_rate_28 : decode cX10_rate 28 = .ok (.ireturn, 1) := by decide +kernel
theorem dX10_rests_0 : decode cX10_rests 0 = .ok (.aload_n 0, 1) := by decide +kernel
theorem dX10_rests_1 : decode cX10_rests 1 = .ok (.iconst 0, 1) := by decide +kernel
theorem dX10_rests_2 : decode cX10_rests 2 = .ok (.putfield 92, 3) := by decide +kernel
theorem dX10_rests_5 : decode cX10_rests 5 = .ok (.aload_n 0, 1) := by decide +kernel
theorem dX10_rests_6 : decode cX10_rests 6 = .ok (.iload_n 1, 1) := by decide +kernel
theorem dX10_rests_7 : decode cX10_rests 7 = .ok (.iload_n 2, 1) := by decide +kernel
theorem dX10_rests_8 : decode cX10_rests 8 = .ok (.invokevirtual 464, 3) := by decide +kernel
theorem dX10_rests_11 : decode cX10_rests 11 = .ok (.ifCond .ne 6, 3) := by decide +kernel
theorem dX10_rests_14 : decode cX10_rests 14 = .ok (.bipush (-2), 2) := by decide +kernel
theorem dX10_rests_16 : decode cX10_rests 16 = .ok (.ireturn, 1) := by decide +kernel
theorem dX10_served_0 : decode cX10_served 0 = .ok (.aload_n 0, 1) := by decide +kernel
theorem dX10_served_1 : decode cX10_served 1 = .ok (.iconst 0, 1) := by decide +kernel
theorem dX10_served_2 : decode cX10_served 2 = .ok (.putfield 92, 3) := by decide +kernel
theorem dX10_served_5 : decode cX10_served 5 = .ok (.aload_n 0, 1) := by decide +kernel
theorem dX10_served_6 : decode cX10_served 6 = .ok (.invokevirtual 270, 3) := by decide +kernel
theorem dX10_served_9 : decode cX10_served 9 = .ok (.ifCond .ne 6, 3) := by decide +kernel
theorem dX10_served_12 : decode cX10_served 12 = .ok (.bipush (-2), 2) := by decide +kernel
theorem dX10_served_14 : decode cX10_served 14 = .ok (.ireturn, 1) := by decide +kernel
theorem dX10_spare_0 : decode cX10_spare 0 = .ok (.aload_n 0, 1) := by decide +kernel
theorem dX10_spare_1 : decode cX10_spare 1 = .ok (.iconst 0, 1) := by decide +kernel
theorem dX10_spare_2 : decode cX10_spare 2 = .ok (.putfield 92, 3) := by decide +kernel
theorem dX10_spare_5 : decode cX10_spare 5 = .ok (.aload_n 0, 1) := by decide +kernel
theorem dX10_spare_6 : decode cX10_spare 6 = .ok (.invokevirtual 270, 3) := by decide +kernel
theorem dX10_spare_9 : decode cX10_spare 9 = .ok (.ifCond .ne 6, 3) := by decide +kernel
theorem dX10_spare_12 : decode cX10_spare 12 = .ok (.bipush (-2), 2) := by decide +kernel
theorem dX10_spare_14 : decode cX10_spare 14 = .ok (.ireturn, 1) := by decide +kernel
theorem dX10_spots_0 : decode cX10_spots 0 = .ok (.aload_n 0, 1) := by decide +kernel
theorem dX10_spots_1 : decode cX10_spots 1 = .ok (.iconst 0, 1) := by decide +kernel
theorem dX10_spots_2 : decode cX10_spots 2 = .ok (.putfield 92, 3) := by decide +kernel
theorem dX10_spots_5 : decode cX10_spots 5 = .ok (.aload_n 0, 1) := by decide +kernel
theorem dX10_spots_6 : decode cX10_spots 6 = .ok (.iload_n 1, 1) := by decide +kernel
theorem dX10_spots_7 : decode cX10_spots 7 = .ok (.invokevirtual 401, 3) := by decide +kernel
theorem dX10_spots_10 : decode cX10_spots 10 = .ok (.istore_n 2, 1) := by decide +kernel
theorem dX10_spots_11 : decode cX10_spots 11 = .ok (.iload_n 2, 1) := by decide +kernel
theorem dX10_spots_12 : decode cX10_spots 12 = .ok (.ifCond .eq 5, 3) := by decide +kernel
theorem dX10_spots_15 : decode cX10_spots 15 = .ok (.iload_n 2, 1) := by decide +kernel
theorem dX10_spots_16 : decode cX10_spots 16 = .ok (.ireturn, 1) := by decide +kernel
theorem dX10_swap_0 : decode cX10_swap 0 = .ok (.aload_n 0, 1) := by decide +kernel
theorem dX10_swap_1 : decode cX10_swap 1 = .ok (.iconst 0, 1) := by decide +kernel
theorem dX10_swap_2 : decode cX10_swap 2 = .ok (.putfield 92, 3) := by decide +kernel
theorem dX10_swap_5 : decode cX10_swap 5 = .ok (.aload_n 0, 1) := by decide +kernel
theorem dX10_swap_6 : decode cX10_swap 6 = .ok (.invokevirtual 270, 3) := by decide +kernel
theorem dX10_swap_9 : decode cX10_swap 9 = .ok (.ifCond .ne 6, 3) := by decide +kernel
theorem dX10_swap_12 : decode cX10_swap 12 = .ok (.bipush (-2), 2) := by decide +kernel
theorem dX10_swap_14 : decode cX10_swap 14 = .ok (.ireturn, 1) := by decide +kernel
theorem dX10_swaps_0 : decode cX10_swaps 0 = .ok (.aload_n 0, 1) := by decide +kernel
theorem dX10_swaps_1 : decode cX10_swaps 1 = .ok (.iconst 0, 1) := by decide +kernel
theorem dX10_swaps_2 : decode cX10_swaps 2 = .ok (.putfield 92, 3) := by decide +kernel
theorem dX10_swaps_5 : decode cX10_swaps 5 = .ok (.aload_n 0, 1) := by decide +kernel
theorem dX10_swaps_6 : decode cX10_swaps 6 = .ok (.invokevirtual 270, 3) := by decide +kernel
theorem dX10_swaps_9 : decode cX10_swaps 9 = .ok (.ifCond .eq 10, 3) := by decide +kernel
theorem dX10_swaps_19 : decode cX10_swaps 19 = .ok (.bipush (-2), 2) := by decide +kernel
theorem dX10_swaps_21 : decode cX10_swaps 21 = .ok (.ireturn, 1) := by decide +kernel
theorem dX10_turn_0 : decode cX10_turn 0 = .ok (.aload_n 0, 1) := by decide +kernel
theorem dX10_turn_1 : decode cX10_turn 1 = .ok (.iconst 0, 1) := by decide +kernel
theorem dX10_turn_2 : decode cX10_turn 2 = .ok (.putfield 92, 3) := by decide +kernel
theorem dX10_turn_5 : decode cX10_turn 5 = .ok (.aload_n 0, 1) := by decide +kernel
theorem dX10_turn_6 : decode cX10_turn 6 = .ok (.iload_n 1, 1) := by decide +kernel
theorem dX10_turn_7 : decode cX10_turn 7 = .ok (.i2l, 1) := by decide +kernel
theorem dX10_turn_8 : decode cX10_turn 8 = .ok (.invokevirtual 323, 3) := by decide +kernel
theorem dX10_turn_11 : decode cX10_turn 11 = .ok (.ifCond .eq 15, 3) := by decide +kernel
theorem dX10_turn_26 : decode cX10_turn 26 = .ok (.bipush (-2), 2) := by decide +kernel
theorem dX10_turn_28 : decode cX10_turn 28 = .ok (.ireturn, 1) := by decide +kernel
theorem dX10_undo_0 : decode cX10_undo 0 = .ok (.aload_n 0, 1) := by decide +kernel
theorem dX10_undo_1 : decode cX10_undo 1 = .ok (.iconst 0, 1) := by decide +kernel
theorem dX10_undo_2 : decode cX10_undo 2 = .ok (.putfield 92, 3) := by decide +kernel
theorem dX10_undo_5 : decode cX10_undo 5 = .ok (.aload_n 0, 1) := by decide +kernel
theorem dX10_undo_6 : decode cX10_undo 6 = .ok (.invokevirtual 270, 3) := by decide +kernel
theorem dX10_undo_9 : decode cX10_undo 9 = .ok (.ifCond .ne 6, 3) := by decide +kernel
theorem dX10_undo_12 : decode cX10_undo 12 = .ok (.bipush (-2), 2) := by decide +kernel
theorem dX10_undo_14 : decode cX10_undo 14 = .ok (.ireturn, 1) := by decide +kernel
theorem dX10_unpaid_0 : decode cX10_unpaid 0 = .ok (.aload_n 0, 1) := by decide +kernel
theorem dX10_unpaid_1 : decode cX10_unpaid 1 = .ok (.iconst 0, 1) := by decide +kernel
theorem dX10_unpaid_2 : decode cX10_unpaid 2 = .ok (.putfield 92, 3) := by decide +kernel
theorem dX10_unpaid_5 : decode cX10_unpaid 5 = .ok (.aload_n 0, 1) := by decide +kernel
theorem dX10_unpaid_6 : decode cX10_unpaid 6 = .ok (.invokevirtual 270, 3) := by decide +kernel
theorem dX10_unpaid_9 : decode cX10_unpaid 9 = .ok (.ifCond .ne 6, 3) := by decide +kernel
theorem dX10_unpaid_12 : decode cX10_unpaid 12 = .ok (.bipush (-2), 2) := by decide +kernel
theorem dX10_unpaid_14 : decode cX10_unpaid 14 = .ok (.ireturn, 1) := by decide +kernel
theorem dX10_way_0 : decode cX10_way 0 = .ok (.aload_n 0, 1) := by decide +kernel
theorem dX10_way_1 : decode cX10_way 1 = .ok (.iconst 0, 1) := by decide +kernel
theorem dX10_way_2 : decode cX10_way 2 = .ok (.putfield 92, 3) := by decide +kernel
theorem dX10_way_5 : decode cX10_way 5 = .ok (.aload_n 0, 1) := by decide +kernel
theorem dX10_way_6 : decode cX10_way 6 = .ok (.iload_n 1, 1) := by decide +kernel
theorem dX10_way_7 : decode cX10_way 7 = .ok (.i2l, 1) := by decide +kernel
theorem dX10_way_8 : decode cX10_way 8 = .ok (.invokevirtual 323, 3) := by decide +kernel
theorem dX10_way_11 : decode cX10_way 11 = .ok (.ifCond .ne 6, 3) := by decide +kernel
theorem dX10_way_14 : decode cX10_way 14 = .ok (.bipush (-2), 2) := by decide +kernel
theorem dX10_way_16 : decode cX10_way 16 = .ok (.ireturn, 1) := by decide +kernel
theorem dX10_who_0 : decode cX10_who 0 = .ok (.aload_n 0, 1) := by decide +kernel
theorem dX10_who_1 : decode cX10_who 1 = .ok (.iconst 0, 1) := by decide +kernel
theorem dX10_who_2 : decode cX10_who 2 = .ok (.putfield 92, 3) := by decide +kernel
theorem dX10_who_5 : decode cX10_who 5 = .ok (.aload_n 0, 1) := by decide +kernel
theorem dX10_who_6 : decode cX10_who 6 = .ok (.iload_n 1, 1) := by decide +kernel
theorem dX10_who_7 : decode cX10_who 7 = .ok (.invokevirtual 401, 3) := by decide +kernel
theorem dX10_who_10 : decode cX10_who 10 = .ok (.istore_n 2, 1) := by decide +kernel
theorem dX10_who_11 : decode cX10_who 11 = .ok (.iload_n 2, 1) := by decide +kernel
theorem dX10_who_12 : decode cX10_who 12 = .ok (.ifCond .eq 5, 3) := by decide +kernel
theorem dX10_who_15 : decode cX10_who 15 = .ok (.iload_n 2, 1) := by decide +kernel
theorem dX10_who_16 : decode cX10_who 16 = .ok (.ireturn, 1) := by decide +kernel
theorem dX10_whyNotBegan_0 : decode cX10_whyNotBegan 0 = .ok (.iload_n 1, 1) := by decide +kernel
theorem dX10_whyNotBegan_1 : decode cX10_whyNotBegan 1 = .ok (.invokestatic 101, 3) := by decide +kernel
theorem dX10_whyNotBegan_4 : decode cX10_whyNotBegan 4 = .ok (.ifCond .eq 10, 3) := by decide +kernel
theorem dX10_whyNotBegan_7 : decode cX10_whyNotBegan 7 = .ok (.aload_n 0, 1) := by decide +kernel
theorem dX10_whyNotBegan_8 : decode cX10_whyNotBegan 8 = .ok (.invokevirtual 270, 3) := by decide +kernel
theorem dX10_whyNotBegan_11 : decode cX10_whyNotBegan 11 = .ok (.ifCond .ne 6, 3) := by decide +kernel
theorem dX10_whyNotBegan_14 : decode cX10_whyNotBegan 14 = .ok (.bipush (-2), 2) := by decide +kernel
theorem dX10_whyNotBegan_16 : decode cX10_whyNotBegan 16 = .ok (.ireturn, 1) := by decide +kernel
theorem dX10_whyNotLaws_0 : decode cX10_whyNotLaws 0 = .ok (.iload_n 1, 1) := by decide +kernel
theorem dX10_whyNotLaws_1 : decode cX10_whyNotLaws 1 = .ok (.invokestatic 101, 3) := by decide +kernel
theorem dX10_whyNotLaws_4 : decode cX10_whyNotLaws 4 = .ok (.ifCond .eq 10, 3) := by decide +kernel
theorem dX10_whyNotLaws_7 : decode cX10_whyNotLaws 7 = .ok (.aload_n 0, 1) := by decide +kernel
theorem dX10_whyNotLaws_8 : decode cX10_whyNotLaws 8 = .ok (.invokevirtual 270, 3) := by decide +kernel
theorem dX10_whyNotLaws_11 : decode cX10_whyNotLaws 11 = .ok (.ifCond .ne 6, 3) := by decide +kernel
theorem dX10_whyNotLaws_14 : decode cX10_whyNotLaws 14 = .ok (.bipush (-2), 2) := by decide +kernel
theorem dX10_whyNotLaws_16 : decode cX10_whyNotLaws 16 = .ok (.ireturn, 1) := by decide +kernel
theorem wd238 : Cond.constantLong RX10 95 (3 : Int64) ∈ gW := gm (tm_6 235 (by decide +kernel)) rfl
theorem wd239 : Cond.static yX10_in ∈ gW := gm (tm_6 237 (by decide +kernel)) rfl
theorem wd240 : Cond.initialized RX10 ∈ gW := gm (tm_1 11 (by decide +kernel)) rfl
theorem wd241 : Cond.code yX10_in cX10_in 6 (some .boolean) ∈ gW := gm (tm_6 238 (by decide +kernel)) rfl
theorem wd242 : Cond.methodLink RX10 97 yX10_in ∈ gW := gm (tm_6 236 (by decide +kernel)) rfl
theorem wd243 : Cond.constantLong RX10 496 (2000000000 : Int64) ∈ gW := gm (tm_9 112 (by decide +kernel)) rfl
theorem wd244 : Cond.constantLong RX10 268 (40 : Int64) ∈ gW := gm (tm_7 184 (by decide +kernel)) rfl
theorem wd245 : Cond.fieldLink RX10 31 "GooseSharesModel" "lines" "[I" ∈ gW := gm (tm_6 99 (by decide +kernel)) rfl
theorem wd246 : Cond.fieldLink RX10 34 "GooseSharesModel" "has" "[I" ∈ gW := gm (tm_6 100 (by decide +kernel)) rfl
theorem wd247 : Cond.instanceMethod yX10_cellsAll ∈ gW := gm (tm_7 214 (by decide +kernel)) rfl
theorem wd248 : Cond.selects RX10 yX10_cellsAll yX10_cellsAll ∈ gW := gm (gmP 51 (by decide +kernel)) rfl
theorem wd249 : Cond.code yX10_cellsAll cX10_cellsAll 1 (some .int) ∈ gW := gm (tm_7 215 (by decide +kernel)) rfl
theorem wd250 : Cond.methodLink RX10 256 yX10_cellsAll ∈ gW := gm (tm_7 212 (by decide +kernel)) rfl
theorem wd251 : Cond.instanceMethod yX10_flights ∈ gW := gm (tm_7 150 (by decide +kernel)) rfl
theorem wd252 : Cond.selects RX10 yX10_flights yX10_flights ∈ gW := gm (gmP 40 (by decide +kernel)) rfl
theorem wd253 : Cond.code yX10_flights cX10_flights 1 (some .int) ∈ gW := gm (tm_7 151 (by decide +kernel)) rfl
theorem wd254 : Cond.methodLink RX10 259 yX10_flights ∈ gW := gm (tm_7 148 (by decide +kernel)) rfl
theorem wd255 : Cond.instanceMethod yX10_members ∈ gW := gm (tm_7 167 (by decide +kernel)) rfl
theorem wd256 : Cond.selects RX10 yX10_members yX10_members ∈ gW := gm (gmP 43 (by decide +kernel)) rfl
theorem wd257 : Cond.code yX10_members cX10_members 1 (some .int) ∈ gW := gm (tm_7 168 (by decide +kernel)) rfl
theorem wd258 : Cond.methodLink RX10 262 yX10_members ∈ gW := gm (tm_7 165 (by decide +kernel)) rfl
theorem wd259 : Cond.instanceMethod yX10_isMember ∈ gW := gm (tm_7 163 (by decide +kernel)) rfl
theorem wd260 : Cond.selects RX10 yX10_isMember yX10_isMember ∈ gW := gm (gmP 42 (by decide +kernel)) rfl
theorem wd261 : Cond.code yX10_isMember cX10_isMember 3 (some .boolean) ∈ gW := gm (tm_7 164 (by decide +kernel)) rfl
theorem wd262 : Cond.methodLink RX10 265 yX10_isMember ∈ gW := gm (tm_7 161 (by decide +kernel)) rfl
theorem wd263 : Cond.instanceMethod yX10_isLand ∈ gW := gm (tm_7 175 (by decide +kernel)) rfl
theorem wd264 : Cond.selects RX10 yX10_isLand yX10_isLand ∈ gW := gm (gmP 44 (by decide +kernel)) rfl
theorem wd265 : Cond.code yX10_isLand cX10_isLand 1 (some .boolean) ∈ gW := gm (tm_7 176 (by decide +kernel)) rfl
theorem wd266 : Cond.methodLink RX10 270 yX10_isLand ∈ gW := gm (tm_7 173 (by decide +kernel)) rfl
theorem wd267 : Cond.static yX10_isSlot ∈ gW := gm (tm_6 233 (by decide +kernel)) rfl
theorem wd268 : Cond.code yX10_isSlot cX10_isSlot 1 (some .boolean) ∈ gW := gm (tm_6 234 (by decide +kernel)) rfl
theorem wd269 : Cond.methodLink RX10 101 yX10_isSlot ∈ gW := gm (tm_6 232 (by decide +kernel)) rfl
theorem wd270 : Cond.fieldLink RX10 92 "GooseSharesModel" "thrown" "I" ∈ gW := gm (tm_6 83 (by decide +kernel)) rfl
theorem wd271 : Cond.instanceMethod yX10_isFlight ∈ gW := gm (tm_7 146 (by decide +kernel)) rfl
theorem wd272 : Cond.selects RX10 yX10_isFlight yX10_isFlight ∈ gW := gm (gmP 39 (by decide +kernel)) rfl
theorem wd273 : Cond.code yX10_isFlight cX10_isFlight 3 (some .boolean) ∈ gW := gm (tm_7 147 (by decide +kernel)) rfl
theorem wd274 : Cond.methodLink RX10 323 yX10_isFlight ∈ gW := gm (tm_7 144 (by decide +kernel)) rfl
theorem wd275 : Cond.instanceMethod yX10_isCell ∈ gW := gm (tm_8 18 (by decide +kernel)) rfl
theorem wd276 : Cond.selects RX10 yX10_isCell yX10_isCell ∈ gW := gm (gmP 57 (by decide +kernel)) rfl
theorem wd277 : Cond.code yX10_isCell cX10_isCell 3 (some .boolean) ∈ gW := gm (tm_8 19 (by decide +kernel)) rfl
theorem wd278 : Cond.methodLink RX10 340 yX10_isCell ∈ gW := gm (tm_8 16 (by decide +kernel)) rfl
theorem wd279 : Cond.instanceMethod yX10_isSet ∈ gW := gm (tm_8 122 (by decide +kernel)) rfl
theorem wd280 : Cond.selects RX10 yX10_isSet yX10_isSet ∈ gW := gm (gmP 65 (by decide +kernel)) rfl
theorem wd281 : Cond.code yX10_isSet cX10_isSet 2 (some .boolean) ∈ gW := gm (tm_8 123 (by decide +kernel)) rfl
theorem wd282 : Cond.methodLink RX10 364 yX10_isSet ∈ gW := gm (tm_8 120 (by decide +kernel)) rfl
theorem wd283 : Cond.instanceMethod yX10_isMany ∈ gW := gm (tm_8 149 (by decide +kernel)) rfl
theorem wd284 : Cond.selects RX10 yX10_isMany yX10_isMany ∈ gW := gm (gmP 69 (by decide +kernel)) rfl
theorem wd285 : Cond.code yX10_isMany cX10_isMany 2 (some .boolean) ∈ gW := gm (tm_8 150 (by decide +kernel)) rfl
theorem wd286 : Cond.methodLink RX10 370 yX10_isMany ∈ gW := gm (tm_8 147 (by decide +kernel)) rfl
theorem wd287 : Cond.instanceMethod yX10_isLaw ∈ gW := gm (tm_8 177 (by decide +kernel)) rfl
theorem wd288 : Cond.selects RX10 yX10_isLaw yX10_isLaw ∈ gW := gm (gmP 71 (by decide +kernel)) rfl
theorem wd289 : Cond.code yX10_isLaw cX10_isLaw 2 (some .boolean) ∈ gW := gm (tm_8 178 (by decide +kernel)) rfl
theorem wd290 : Cond.methodLink RX10 377 yX10_isLaw ∈ gW := gm (tm_8 175 (by decide +kernel)) rfl
theorem wd291 : Cond.instanceMethod yX10_whyNotLaws ∈ gW := gm (tm_8 193 (by decide +kernel)) rfl
theorem wd292 : Cond.selects RX10 yX10_whyNotLaws yX10_whyNotLaws ∈ gW := gm (gmP 73 (by decide +kernel)) rfl
theorem wd293 : Cond.code yX10_whyNotLaws cX10_whyNotLaws 4 (some .int) ∈ gW := gm (tm_8 194 (by decide +kernel)) rfl
theorem wd294 : Cond.methodLink RX10 386 yX10_whyNotLaws ∈ gW := gm (tm_8 191 (by decide +kernel)) rfl
theorem wd295 : Cond.instanceMethod yX10_whyNotBegan ∈ gW := gm (tm_8 213 (by decide +kernel)) rfl
theorem wd296 : Cond.selects RX10 yX10_whyNotBegan yX10_whyNotBegan ∈ gW := gm (gmP 76 (by decide +kernel)) rfl
theorem wd297 : Cond.code yX10_whyNotBegan cX10_whyNotBegan 3 (some .int) ∈ gW := gm (tm_8 214 (by decide +kernel)) rfl
theorem wd298 : Cond.methodLink RX10 401 yX10_whyNotBegan ∈ gW := gm (tm_8 211 (by decide +kernel)) rfl
theorem wd299 : Cond.instanceMethod yX10_areTwo ∈ gW := gm (tm_9 70 (by decide +kernel)) rfl
theorem wd300 : Cond.selects RX10 yX10_areTwo yX10_areTwo ∈ gW := gm (gmP 86 (by decide +kernel)) rfl
theorem wd301 : Cond.code yX10_areTwo cX10_areTwo 3 (some .boolean) ∈ gW := gm (tm_9 71 (by decide +kernel)) rfl
theorem wd302 : Cond.methodLink RX10 464 yX10_areTwo ∈ gW := gm (tm_9 68 (by decide +kernel)) rfl
theorem wd303 : Cond.static yX10_isSeed ∈ gW := gm (tm_9 110 (by decide +kernel)) rfl
theorem wd304 : Cond.code yX10_isSeed cX10_isSeed 1 (some .boolean) ∈ gW := gm (tm_9 111 (by decide +kernel)) rfl
theorem wd305 : Cond.methodLink RX10 498 yX10_isSeed ∈ gW := gm (tm_9 109 (by decide +kernel)) rfl
theorem wd306 : Cond.constantLong RX10 504 (20 : Int64) ∈ gW := gm (tm_9 130 (by decide +kernel)) rfl
theorem my_X10_in : gWS RX10 yX10_in cX10_in 6 (some .boolean) 3 := ⟨⟨wd239, wd240, wd241⟩, ⟨rfl, by decide +kernel, by decide +kernel, by decide +kernel⟩⟩
theorem my_X10_cellsAll : gWV RX10 yX10_cellsAll cX10_cellsAll 1 (some .int) 0 := ⟨⟨wd247, wd248, wd240, wd249⟩, ⟨rfl, by decide +kernel, by decide +kernel, by decide +kernel⟩⟩
theorem my_X10_flights : gWV RX10 yX10_flights cX10_flights 1 (some .int) 0 := ⟨⟨wd251, wd252, wd240, wd253⟩, ⟨rfl, by decide +kernel, by decide +kernel, by decide +kernel⟩⟩
theorem my_X10_members : gWV RX10 yX10_members cX10_members 1 (some .int) 0 := ⟨⟨wd255, wd256, wd240, wd257⟩, ⟨rfl, by decide +kernel, by decide +kernel, by decide +kernel⟩⟩
theorem my_X10_isMember : gWV RX10 yX10_isMember cX10_isMember 3 (some .boolean) 1 := ⟨⟨wd259, wd260, wd240, wd261⟩, ⟨rfl, by decide +kernel, by decide +kernel, by decide +kernel⟩⟩
theorem my_X10_isLand : gWV RX10 yX10_isLand cX10_isLand 1 (some .boolean) 0 := ⟨⟨wd263, wd264, wd240, wd265⟩, ⟨rfl, by decide +kernel, by decide +kernel, by decide +kernel⟩⟩
theorem my_X10_isSlot : gWS RX10 yX10_isSlot cX10_isSlot 1 (some .boolean) 1 := ⟨⟨wd267, wd240, wd268⟩, ⟨rfl, by decide +kernel, by decide +kernel, by decide +kernel⟩⟩
theorem my_X10_isFlight : gWV RX10 yX10_isFlight cX10_isFlight 3 (some .boolean) 1 := ⟨⟨wd271, wd272, wd240, wd273⟩, ⟨rfl, by decide +kernel, by decide +kernel, by decide +kernel⟩⟩
theorem my_X10_isCell : gWV RX10 yX10_isCell cX10_isCell 3 (some .boolean) 1 := ⟨⟨wd275, wd276, wd240, wd277⟩, ⟨rfl, by decide +kernel, by decide +kernel, by decide +kernel⟩⟩
theorem my_X10_isSet : gWV RX10 yX10_isSet cX10_isSet 2 (some .boolean) 1 := ⟨⟨wd279, wd280, wd240, wd281⟩, ⟨rfl, by decide +kernel, by decide +kernel, by decide +kernel⟩⟩
theorem my_X10_isMany : gWV RX10 yX10_isMany cX10_isMany 2 (some .boolean) 1 := ⟨⟨wd283, wd284, wd240, wd285⟩, ⟨rfl, by decide +kernel, by decide +kernel, by decide +kernel⟩⟩
theorem my_X10_isLaw : gWV RX10 yX10_isLaw cX10_isLaw 2 (some .boolean) 1 := ⟨⟨wd287, wd288, wd240, wd289⟩, ⟨rfl, by decide +kernel, by decide +kernel, by decide +kernel⟩⟩
theorem my_X10_whyNotLaws : gWV RX10 yX10_whyNotLaws cX10_whyNotLaws 4 (some .int) 1 := ⟨⟨wd291, wd292, wd240, wd293⟩, ⟨rfl, by decide +kernel, by decide +kernel, by decide +kernel⟩⟩
theorem my_X10_whyNotBegan : gWV RX10 yX10_whyNotBegan cX10_whyNotBegan 3 (some .int) 1 := ⟨⟨wd295, wd296, wd240, wd297⟩, ⟨rfl, by decide +kernel, by decide +kernel, by decide +kernel⟩⟩
theorem my_X10_areTwo : gWV RX10 yX10_areTwo cX10_areTwo 3 (some .boolean) 2 := ⟨⟨wd299, wd300, wd240, wd301⟩, ⟨rfl, by decide +kernel, by decide +kernel, by decide +kernel⟩⟩
theorem my_X10_isSeed : gWS RX10 yX10_isSeed cX10_isSeed 1 (some .boolean) 1 := ⟨⟨wd303, wd240, wd304⟩, ⟨rfl, by decide +kernel, by decide +kernel, by decide +kernel⟩⟩
