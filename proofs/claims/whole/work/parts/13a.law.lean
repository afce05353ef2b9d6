set_option maxRecDepth 20000 in
theorem ggL_bar_X10_bar : GoodIn wsL_bar wsX10_bar := goodIn_ca (goodIn_ca (goodIn_ca (goodIn_r _ [7, 8, 9, 10, 11, 12, 6, 13, 14, 15, 16, 17, 18, 19, 20, 21, 22, 23, 24, 25, 26, 27, 28, 29, 30, 31, 32, 33, 34, 35] (by decide +kernel) (by decide +kernel)) (goodIn_sub (fun _ h => List.mem_cons_of_mem _ (List.mem_append_left _ (List.mem_append_right _ h))) (by decide +kernel))) (goodIn_sub (fun _ h => List.mem_cons_of_mem _ (List.mem_append_right _ h)) (by decide +kernel))) (goodIn_sub (fun _ h => List.mem_cons_of_mem _ (List.mem_append_left _ (List.mem_append_left _ (List.mem_append_right _ h)))) (by decide +kernel))
set_option maxRecDepth 20000 in
theorem gL_bar_X10_bar : GoodIn wsL_bar (wsV RL 7 RX10 yX10_bar wsX10_bar) := goodIn_app (goodIn_of _ (by decide +kernel)) ggL_bar_X10_bar
theorem dL_bar_0 : decode cL_bar 0 = .ok (.aload 4, 2) := by decide +kernel
theorem dL_bar_2 : decode cL_bar 2 = .ok (.iconst 0, 1) := by decide +kernel
theorem dL_bar_3 : decode cL_bar 3 = .ok (.aload_n 0, 1) := by decide +kernel
theorem dL_bar_4 : decode cL_bar 4 = .ok (.iload_n 1, 1) := by decide +kernel
theorem dL_bar_5 : decode cL_bar 5 = .ok (.iload_n 2, 1) := by decide +kernel
theorem dL_bar_6 : decode cL_bar 6 = .ok (.iload_n 3, 1) := by decide +kernel
theorem dL_bar_7 : decode cL_bar 7 = .ok (.invokevirtual 7, 3) := by decide +kernel
theorem dL_bar_10 : decode cL_bar 10 = .ok (.ifCond .eq 7, 3) := by decide +kernel
theorem dL_bar_13 : decode cL_bar 13 = .ok (.lconst 1, 1) := by decide +kernel
theorem dL_bar_14 : decode cL_bar 14 = .ok (.goto 4, 3) := by decide +kernel
theorem dL_bar_17 : decode cL_bar 17 = .ok (.lconst 0, 1) := by decide +kernel
theorem dL_bar_18 : decode cL_bar 18 = .ok (.lastore, 1) := by decide +kernel
theorem dL_bar_19 : decode cL_bar 19 = .ok (.goto 11, 3) := by decide +kernel
theorem dL_bar_22 : decode cL_bar 22 = .ok (.astore 5, 2) := by decide +kernel
theorem dL_bar_24 : decode cL_bar 24 = .ok (.iconst 1, 1) := by decide +kernel
theorem dL_bar_25 : decode cL_bar 25 = .ok (.ireturn, 1) := by decide +kernel
theorem dL_bar_26 : decode cL_bar 26 = .ok (.astore 5, 2) := by decide +kernel
theorem dL_bar_28 : decode cL_bar 28 = .ok (.iconst 2, 1) := by decide +kernel
theorem dL_bar_29 : decode cL_bar 29 = .ok (.ireturn, 1) := by decide +kernel
theorem dL_bar_30 : decode cL_bar 30 = .ok (.iconst 0, 1) := by decide +kernel
theorem dL_bar_31 : decode cL_bar 31 = .ok (.ireturn, 1) := by decide +kernel
set_option maxRecDepth 20000 in
theorem ggL_way_X10_way : GoodIn wsL_way wsX10_way := goodIn_ca (goodIn_ca (goodIn_r _ [6, 7, 8, 9, 5, 10, 11, 12, 13, 14, 15, 16, 17, 18, 19, 20, 21, 22, 23, 24, 25, 26, 27, 28, 29, 30, 31, 32, 33, 34, 35, 36, 37, 38, 39, 40, 41, 42, 43, 44, 45, 46] (by decide +kernel) (by decide +kernel)) (goodIn_sub (fun _ h => List.mem_cons_of_mem _ (List.mem_append_right _ h)) (by decide +kernel))) (goodIn_sub (fun _ h => List.mem_cons_of_mem _ (List.mem_append_left _ (List.mem_append_right _ h))) (by decide +kernel))
set_option maxRecDepth 20000 in
theorem gL_way_X10_way : GoodIn wsL_way (wsV RL 17 RX10 yX10_way wsX10_way) := goodIn_app (goodIn_of _ (by decide +kernel)) ggL_way_X10_way
theorem dL_way_0 : decode cL_way 0 = .ok (.aload_n 3, 1) := by decide +kernel
theorem dL_way_1 : decode cL_way 1 = .ok (.iconst 0, 1) := by decide +kernel
theorem dL_way_2 : decode cL_way 2 = .ok (.aload_n 0, 1) := by decide +kernel
theorem dL_way_3 : decode cL_way 3 = .ok (.iload_n 1, 1) := by decide +kernel
theorem dL_way_4 : decode cL_way 4 = .ok (.iload_n 2, 1) := by decide +kernel
theorem dL_way_5 : decode cL_way 5 = .ok (.invokevirtual 17, 3) := by decide +kernel
theorem dL_way_8 : decode cL_way 8 = .ok (.i2l, 1) := by decide +kernel
theorem dL_way_9 : decode cL_way 9 = .ok (.lastore, 1) := by decide +kernel
theorem dL_way_10 : decode cL_way 10 = .ok (.goto 7, 3) := by decide +kernel
theorem dL_way_13 : decode cL_way 13 = .ok (.astore 4, 2) := by decide +kernel
theorem dL_way_15 : decode cL_way 15 = .ok (.iconst 1, 1) := by decide +kernel
theorem dL_way_16 : decode cL_way 16 = .ok (.ireturn, 1) := by decide +kernel
theorem dL_way_17 : decode cL_way 17 = .ok (.iconst 0, 1) := by decide +kernel
theorem dL_way_18 : decode cL_way 18 = .ok (.ireturn, 1) := by decide +kernel
set_option maxRecDepth 20000 in
theorem ggL_station_X10_station : GoodIn wsL_station wsX10_station := goodIn_ca (goodIn_ca (goodIn_ca (goodIn_ca (goodIn_r _ [8, 9, 10, 11, 12, 13, 7, 14, 15, 16, 17, 18, 19, 20, 21, 22, 23, 24, 25, 26, 27, 28, 29, 30, 31, 32, 33, 34, 35, 36, 37, 38, 39, 40] (by decide +kernel) (by decide +kernel)) (goodIn_sub (fun _ h => List.mem_cons_of_mem _ (List.mem_append_left _ (List.mem_append_left _ (List.mem_append_right _ h)))) (by decide +kernel))) (goodIn_sub (fun _ h => List.mem_cons_of_mem _ (List.mem_append_left _ (List.mem_append_right _ h))) (by decide +kernel))) (goodIn_sub (fun _ h => List.mem_cons_of_mem _ (List.mem_append_right _ h)) (by decide +kernel))) (goodIn_sub (fun _ h => List.mem_cons_of_mem _ (List.mem_append_left _ (List.mem_append_left _ (List.mem_append_left _ (List.mem_append_right _ h))))) (by decide +kernel))
set_option maxRecDepth 20000 in
theorem gL_station_X10_station : GoodIn wsL_station (wsV RL 21 RX10 yX10_station wsX10_station) := goodIn_app (goodIn_of _ (by decide +kernel)) ggL_station_X10_station
theorem dL_station_0 : decode cL_station 0 = .ok (.aload_n 3, 1) := by decide +kernel
theorem dL_station_1 : decode cL_station 1 = .ok (.iconst 0, 1) := by decide +kernel
theorem dL_station_2 : decode cL_station 2 = .ok (.aload_n 0, 1) := by decide +kernel
theorem dL_station_3 : decode cL_station 3 = .ok (.iload_n 1, 1) := by decide +kernel
theorem dL_station_4 : decode cL_station 4 = .ok (.iload_n 2, 1) := by decide +kernel
theorem dL_station_5 : decode cL_station 5 = .ok (.invokevirtual 21, 3) := by decide +kernel
theorem dL_station_8 : decode cL_station 8 = .ok (.i2l, 1) := by decide +kernel
theorem dL_station_9 : decode cL_station 9 = .ok (.lastore, 1) := by decide +kernel
theorem dL_station_10 : decode cL_station 10 = .ok (.goto 15, 3) := by decide +kernel
theorem dL_station_13 : decode cL_station 13 = .ok (.astore 4, 2) := by decide +kernel
theorem dL_station_15 : decode cL_station 15 = .ok (.iconst 1, 1) := by decide +kernel
theorem dL_station_16 : decode cL_station 16 = .ok (.ireturn, 1) := by decide +kernel
theorem dL_station_17 : decode cL_station 17 = .ok (.astore 4, 2) := by decide +kernel
theorem dL_station_19 : decode cL_station 19 = .ok (.iconst 2, 1) := by decide +kernel
theorem dL_station_20 : decode cL_station 20 = .ok (.ireturn, 1) := by decide +kernel
theorem dL_station_21 : decode cL_station 21 = .ok (.astore 4, 2) := by decide +kernel
theorem dL_station_23 : decode cL_station 23 = .ok (.iconst 3, 1) := by decide +kernel
theorem dL_station_24 : decode cL_station 24 = .ok (.ireturn, 1) := by decide +kernel
theorem dL_station_25 : decode cL_station 25 = .ok (.iconst 0, 1) := by decide +kernel
theorem dL_station_26 : decode cL_station 26 = .ok (.ireturn, 1) := by decide +kernel
set_option maxRecDepth 20000 in
theorem ggL_setSeats_X10_setSeats : GoodIn wsL_setSeats wsX10_setSeats := goodIn_ca (goodIn_ca (goodIn_ca (goodIn_r _ [7, 8, 9, 10, 11, 6, 12, 13, 14, 15, 16, 17, 18, 19, 20, 21, 22, 23, 24, 25, 26, 27, 28, 29, 30] (by decide +kernel) (by decide +kernel)) (goodIn_sub (fun _ h => List.mem_cons_of_mem _ (List.mem_append_left _ (List.mem_append_left _ (List.mem_append_right _ h)))) (by decide +kernel))) (goodIn_sub (fun _ h => List.mem_cons_of_mem _ (List.mem_append_left _ (List.mem_append_right _ h))) (by decide +kernel))) (goodIn_sub (fun _ h => List.mem_cons_of_mem _ (List.mem_append_right _ h)) (by decide +kernel))
set_option maxRecDepth 20000 in
theorem gL_setSeats_X10_setSeats : GoodIn wsL_setSeats (wsV RL 26 RX10 yX10_setSeats wsX10_setSeats) := goodIn_app (goodIn_of _ (by decide +kernel)) ggL_setSeats_X10_setSeats
theorem dL_setSeats_0 : decode cL_setSeats 0 = .ok (.aload_n 3, 1) := by decide +kernel
theorem dL_setSeats_1 : decode cL_setSeats 1 = .ok (.iconst 0, 1) := by decide +kernel
theorem dL_setSeats_2 : decode cL_setSeats 2 = .ok (.aload_n 0, 1) := by decide +kernel
theorem dL_setSeats_3 : decode cL_setSeats 3 = .ok (.iload_n 1, 1) := by decide +kernel
theorem dL_setSeats_4 : decode cL_setSeats 4 = .ok (.iload_n 2, 1) := by decide +kernel
theorem dL_setSeats_5 : decode cL_setSeats 5 = .ok (.invokevirtual 26, 3) := by decide +kernel
theorem dL_setSeats_8 : decode cL_setSeats 8 = .ok (.i2l, 1) := by decide +kernel
theorem dL_setSeats_9 : decode cL_setSeats 9 = .ok (.lastore, 1) := by decide +kernel
theorem dL_setSeats_10 : decode cL_setSeats 10 = .ok (.goto 11, 3) := by decide +kernel
theorem dL_setSeats_13 : decode cL_setSeats 13 = .ok (.astore 4, 2) := by decide +kernel
theorem dL_setSeats_15 : decode cL_setSeats 15 = .ok (.iconst 1, 1) := by decide +kernel
theorem dL_setSeats_16 : decode cL_setSeats 16 = .ok (.ireturn, 1) := by decide +kernel
theorem dL_setSeats_17 : decode cL_setSeats 17 = .ok (.astore 4, 2) := by decide +kernel
theorem dL_setSeats_19 : decode cL_setSeats 19 = .ok (.iconst 2, 1) := by decide +kernel
theorem dL_setSeats_20 : decode cL_setSeats 20 = .ok (.ireturn, 1) := by decide +kernel
theorem dL_setSeats_21 : decode cL_setSeats 21 = .ok (.iconst 0, 1) := by decide +kernel
theorem dL_setSeats_22 : decode cL_setSeats 22 = .ok (.ireturn, 1) := by decide +kernel
set_option maxRecDepth 20000 in
theorem ggL_person_X10_person : GoodIn wsL_person wsX10_person := goodIn_ca (goodIn_ca (goodIn_ca (goodIn_r _ [8, 9, 10, 11, 12, 13, 14, 15, 16, 17, 18, 7, 19, 20, 21, 22, 23, 24, 25, 26, 27, 28, 29, 30, 31, 32, 33, 34, 35, 36, 37, 38, 39, 40, 41, 42, 43, 44, 45, 46, 47, 48, 49] (by decide +kernel) (by decide +kernel)) (goodIn_sub (fun _ h => List.mem_cons_of_mem _ (List.mem_append_left _ (List.mem_append_left _ (List.mem_append_right _ h)))) (by decide +kernel))) (goodIn_sub (fun _ h => List.mem_cons_of_mem _ (List.mem_append_left _ (List.mem_append_right _ h))) (by decide +kernel))) (goodIn_sub (fun _ h => List.mem_cons_of_mem _ (List.mem_append_right _ h)) (by decide +kernel))
set_option maxRecDepth 20000 in
theorem gL_person_X10_person : GoodIn wsL_person (wsV RL 29 RX10 yX10_person wsX10_person) := goodIn_app (goodIn_of _ (by decide +kernel)) ggL_person_X10_person
theorem dL_person_0 : decode cL_person 0 = .ok (.aload_n 3, 1) := by decide +kernel
theorem dL_person_1 : decode cL_person 1 = .ok (.iconst 0, 1) := by decide +kernel
theorem dL_person_2 : decode cL_person 2 = .ok (.aload_n 0, 1) := by decide +kernel
theorem dL_person_3 : decode cL_person 3 = .ok (.iload_n 1, 1) := by decide +kernel
theorem dL_person_4 : decode cL_person 4 = .ok (.iload_n 2, 1) := by decide +kernel
theorem dL_person_5 : decode cL_person 5 = .ok (.invokevirtual 29, 3) := by decide +kernel
theorem dL_person_8 : decode cL_person 8 = .ok (.i2l, 1) := by decide +kernel
theorem dL_person_9 : decode cL_person 9 = .ok (.lastore, 1) := by decide +kernel
theorem dL_person_10 : decode cL_person 10 = .ok (.goto 15, 3) := by decide +kernel
theorem dL_person_13 : decode cL_person 13 = .ok (.astore 4, 2) := by decide +kernel
theorem dL_person_15 : decode cL_person 15 = .ok (.iconst 1, 1) := by decide +kernel
theorem dL_person_16 : decode cL_person 16 = .ok (.ireturn, 1) := by decide +kernel
theorem dL_person_17 : decode cL_person 17 = .ok (.astore 4, 2) := by decide +kernel
theorem dL_person_19 : decode cL_person 19 = .ok (.iconst 2, 1) := by decide +kernel
theorem dL_person_20 : decode cL_person 20 = .ok (.ireturn, 1) := by decide +kernel
theorem dL_person_21 : decode cL_person 21 = .ok (.astore 4, 2) := by decide +kernel
theorem dL_person_23 : decode cL_person 23 = .ok (.iconst 3, 1) := by decide +kernel
theorem dL_person_24 : decode cL_person 24 = .ok (.ireturn, 1) := by decide +kernel
theorem dL_person_25 : decode cL_person 25 = .ok (.iconst 0, 1) := by decide +kernel
theorem dL_person_26 : decode cL_person 26 = .ok (.ireturn, 1) := by decide +kernel
set_option maxRecDepth 20000 in
theorem ggL_move_X10_move : GoodIn wsL_move wsX10_move := goodIn_ca (goodIn_ca (goodIn_r _ [7, 8, 9, 10, 11, 12, 13, 14, 6, 15, 16, 17, 18, 19, 20, 21, 22, 23, 24, 25, 26, 27, 28, 29, 30, 31, 32, 33, 34, 35, 36, 37, 38, 39, 40, 41, 42, 43, 44, 45, 46, 47, 48, 49, 50, 51, 52, 53, 54, 55, 56, 57, 58, 59, 60] (by decide +kernel) (by decide +kernel)) (goodIn_sub (fun _ h => List.mem_cons_of_mem _ (List.mem_append_left _ (List.mem_append_right _ h))) (by decide +kernel))) (goodIn_sub (fun _ h => List.mem_cons_of_mem _ (List.mem_append_right _ h)) (by decide +kernel))
set_option maxRecDepth 20000 in
theorem gL_move_X10_move : GoodIn wsL_move (wsV RL 32 RX10 yX10_move wsX10_move) := goodIn_app (goodIn_of _ (by decide +kernel)) ggL_move_X10_move
theorem dL_move_0 : decode cL_move 0 = .ok (.aload_n 3, 1) := by decide +kernel
theorem dL_move_1 : decode cL_move 1 = .ok (.iconst 0, 1) := by decide +kernel
theorem dL_move_2 : decode cL_move 2 = .ok (.aload_n 0, 1) := by decide +kernel
theorem dL_move_3 : decode cL_move 3 = .ok (.iload_n 1, 1) := by decide +kernel
theorem dL_move_4 : decode cL_move 4 = .ok (.iload_n 2, 1) := by decide +kernel
theorem dL_move_5 : decode cL_move 5 = .ok (.invokevirtual 32, 3) := by decide +kernel
theorem dL_move_8 : decode cL_move 8 = .ok (.i2l, 1) := by decide +kernel
theorem dL_move_9 : decode cL_move 9 = .ok (.lastore, 1) := by decide +kernel
theorem dL_move_10 : decode cL_move 10 = .ok (.goto 11, 3) := by decide +kernel
theorem dL_move_13 : decode cL_move 13 = .ok (.astore 4, 2) := by decide +kernel
theorem dL_move_15 : decode cL_move 15 = .ok (.iconst 1, 1) := by decide +kernel
theorem dL_move_16 : decode cL_move 16 = .ok (.ireturn, 1) := by decide +kernel
theorem dL_move_17 : decode cL_move 17 = .ok (.astore 4, 2) := by decide +kernel
theorem dL_move_19 : decode cL_move 19 = .ok (.iconst 2, 1) := by decide +kernel
theorem dL_move_20 : decode cL_move 20 = .ok (.ireturn, 1) := by decide +kernel
theorem dL_move_21 : decode cL_move 21 = .ok (.iconst 0, 1) := by decide +kernel
theorem dL_move_22 : decode cL_move 22 = .ok (.ireturn, 1) := by decide +kernel
set_option maxRecDepth 20000 in
theorem ggL_die_X10_die : GoodIn wsL_die wsX10_die := goodIn_ca (goodIn_ca (goodIn_ca (goodIn_r _ [7, 8, 9, 10, 6, 11, 12, 13, 14, 15, 16, 17, 18, 19, 20, 21, 22, 23, 24, 25, 26, 27, 28, 29, 30, 31, 32, 33, 34, 35, 36, 37, 38, 39, 40, 41, 42, 43, 44, 45, 46, 47, 48, 49, 50, 51, 52, 53, 54, 55, 56, 57, 58, 59, 60, 61, 62, 63, 64, 65, 66, 67, 68, 69, 70, 71, 72, 73, 74, 75, 76, 77] (by decide +kernel) (by decide +kernel)) (goodIn_sub (fun _ h => List.mem_cons_of_mem _ (List.mem_append_left _ (List.mem_append_right _ h))) (by decide +kernel))) (goodIn_sub (fun _ h => List.mem_cons_of_mem _ (List.mem_append_right _ h)) (by decide +kernel))) (goodIn_sub (fun _ h => List.mem_cons_of_mem _ (List.mem_append_left _ (List.mem_append_left _ (List.mem_append_right _ h)))) (by decide +kernel))
set_option maxRecDepth 20000 in
theorem gL_die_X10_die : GoodIn wsL_die (wsV RL 35 RX10 yX10_die wsX10_die) := goodIn_app (goodIn_of _ (by decide +kernel)) ggL_die_X10_die
theorem dL_die_0 : decode cL_die 0 = .ok (.aload_n 2, 1) := by decide +kernel
theorem dL_die_1 : decode cL_die 1 = .ok (.iconst 0, 1) := by decide +kernel
theorem dL_die_2 : decode cL_die 2 = .ok (.aload_n 0, 1) := by decide +kernel
theorem dL_die_3 : decode cL_die 3 = .ok (.iload_n 1, 1) := by decide +kernel
theorem dL_die_4 : decode cL_die 4 = .ok (.invokevirtual 35, 3) := by decide +kernel
theorem dL_die_7 : decode cL_die 7 = .ok (.ifCond .eq 7, 3) := by decide +kernel
theorem dL_die_10 : decode cL_die 10 = .ok (.lconst 1, 1) := by decide +kernel
theorem dL_die_11 : decode cL_die 11 = .ok (.goto 4, 3) := by decide +kernel
theorem dL_die_14 : decode cL_die 14 = .ok (.lconst 0, 1) := by decide +kernel
theorem dL_die_15 : decode cL_die 15 = .ok (.lastore, 1) := by decide +kernel
theorem dL_die_16 : decode cL_die 16 = .ok (.goto 9, 3) := by decide +kernel
theorem dL_die_19 : decode cL_die 19 = .ok (.astore_n 3, 1) := by decide +kernel
theorem dL_die_20 : decode cL_die 20 = .ok (.iconst 1, 1) := by decide +kernel
theorem dL_die_21 : decode cL_die 21 = .ok (.ireturn, 1) := by decide +kernel
theorem dL_die_22 : decode cL_die 22 = .ok (.astore_n 3, 1) := by decide +kernel
theorem dL_die_23 : decode cL_die 23 = .ok (.iconst 2, 1) := by decide +kernel
theorem dL_die_24 : decode cL_die 24 = .ok (.ireturn, 1) := by decide +kernel
theorem dL_die_25 : decode cL_die 25 = .ok (.iconst 0, 1) := by decide +kernel
theorem dL_die_26 : decode cL_die 26 = .ok (.ireturn, 1) := by decide +kernel
set_option maxRecDepth 20000 in
theorem ggL_dwells_X10_dwells : GoodIn wsL_dwells wsX10_dwells := goodIn_ca (goodIn_ca (goodIn_r _ [7, 8, 9, 10, 11, 6, 12, 13, 14, 15, 16, 17, 18, 19, 20, 21, 22, 23, 24, 25, 26, 27, 28, 29, 30, 31, 32, 33, 34, 35, 36, 37, 38, 39, 40, 41, 42, 43, 44, 45] (by decide +kernel) (by decide +kernel)) (goodIn_sub (fun _ h => List.mem_cons_of_mem _ (List.mem_append_left _ (List.mem_append_right _ h))) (by decide +kernel))) (goodIn_sub (fun _ h => List.mem_cons_of_mem _ (List.mem_append_right _ h)) (by decide +kernel))
set_option maxRecDepth 20000 in
theorem gL_dwells_X10_dwells : GoodIn wsL_dwells (wsV RL 39 RX10 yX10_dwells wsX10_dwells) := goodIn_app (goodIn_of _ (by decide +kernel)) ggL_dwells_X10_dwells
theorem dL_dwells_0 : decode cL_dwells 0 = .ok (.aload_n 3, 1) := by decide +kernel
theorem dL_dwells_1 : decode cL_dwells 1 = .ok (.iconst 0, 1) := by decide +kernel
theorem dL_dwells_2 : decode cL_dwells 2 = .ok (.aload_n 0, 1) := by decide +kernel
theorem dL_dwells_3 : decode cL_dwells 3 = .ok (.iload_n 1, 1) := by decide +kernel
theorem dL_dwells_4 : decode cL_dwells 4 = .ok (.iload_n 2, 1) := by decide +kernel
theorem dL_dwells_5 : decode cL_dwells 5 = .ok (.invokevirtual 39, 3) := by decide +kernel
theorem dL_dwells_8 : decode cL_dwells 8 = .ok (.i2l, 1) := by decide +kernel
theorem dL_dwells_9 : decode cL_dwells 9 = .ok (.lastore, 1) := by decide +kernel
theorem dL_dwells_10 : decode cL_dwells 10 = .ok (.goto 11, 3) := by decide +kernel
theorem dL_dwells_13 : decode cL_dwells 13 = .ok (.astore 4, 2) := by decide +kernel
theorem dL_dwells_15 : decode cL_dwells 15 = .ok (.iconst 1, 1) := by decide +kernel
theorem dL_dwells_16 : decode cL_dwells 16 = .ok (.ireturn, 1) := by decide +kernel
theorem dL_dwells_17 : decode cL_dwells 17 = .ok (.astore 4, 2) := by decide +kernel
theorem dL_dwells_19 : decode cL_dwells 19 = .ok (.iconst 2, 1) := by decide +kernel
theorem dL_dwells_20 : decode cL_dwells 20 = .ok (.ireturn, 1) := by decide +kernel
theorem dL_dwells_21 : decode cL_dwells 21 = .ok (.iconst 0, 1) := by decide +kernel
theorem dL_dwells_22 : decode cL_dwells 22 = .ok (.ireturn, 1) := by decide +kernel
set_option maxRecDepth 20000 in
theorem ggL_call_X10_call : GoodIn wsL_call wsX10_call := goodIn_ca (goodIn_ca (goodIn_ca (goodIn_r _ [7, 8, 9, 10, 11, 12, 13, 14, 6, 15, 16, 17, 18, 19, 20, 21, 22, 23, 24, 25, 26, 27, 28, 29, 30, 31, 32, 33, 34, 35, 36, 37, 38, 39, 40, 41, 42, 43, 44, 45, 46, 47, 48, 49, 50, 51, 52, 53, 54, 55, 56, 57, 58, 59, 60, 61, 62, 63, 64, 65, 66, 67, 68, 69, 70, 71, 72, 73, 74, 75, 76, 77, 78, 79, 80, 81, 82, 83, 84, 85, 86, 87, 88, 89, 90, 91, 92] (by decide +kernel) (by decide +kernel)) (goodIn_sub (fun _ h => List.mem_cons_of_mem _ (List.mem_append_left _ (List.mem_append_right _ h))) (by decide +kernel))) (goodIn_sub (fun _ h => List.mem_cons_of_mem _ (List.mem_append_right _ h)) (by decide +kernel))) (goodIn_sub (fun _ h => List.mem_cons_of_mem _ (List.mem_append_left _ (List.mem_append_left _ (List.mem_append_right _ h)))) (by decide +kernel))
set_option maxRecDepth 20000 in
theorem gL_call_X10_call : GoodIn wsL_call (wsV RL 42 RX10 yX10_call wsX10_call) := goodIn_app (goodIn_of _ (by decide +kernel)) ggL_call_X10_call
theorem dL_call_0 : decode cL_call 0 = .ok (.aload 4, 2) := by decide +kernel
theorem dL_call_2 : decode cL_call 2 = .ok (.iconst 0, 1) := by decide +kernel
theorem dL_call_3 : decode cL_call 3 = .ok (.aload_n 0, 1) := by decide +kernel
theorem dL_call_4 : decode cL_call 4 = .ok (.iload_n 1, 1) := by decide +kernel
theorem dL_call_5 : decode cL_call 5 = .ok (.iload_n 2, 1) := by decide +kernel
theorem dL_call_6 : decode cL_call 6 = .ok (.iload_n 3, 1) := by decide +kernel
theorem dL_call_7 : decode cL_call 7 = .ok (.invokevirtual 42, 3) := by decide +kernel
theorem dL_call_10 : decode cL_call 10 = .ok (.i2l, 1) := by decide +kernel
theorem dL_call_11 : decode cL_call 11 = .ok (.lastore, 1) := by decide +kernel
theorem dL_call_12 : decode cL_call 12 = .ok (.goto 11, 3) := by decide +kernel
theorem dL_call_15 : decode cL_call 15 = .ok (.astore 5, 2) := by decide +kernel
theorem dL_call_17 : decode cL_call 17 = .ok (.iconst 1, 1) := by decide +kernel
theorem dL_call_18 : decode cL_call 18 = .ok (.ireturn, 1) := by decide +kernel
theorem dL_call_19 : decode cL_call 19 = .ok (.astore 5, 2) := by decide +kernel
theorem dL_call_21 : decode cL_call 21 = .ok (.iconst 2, 1) := by decide +kernel
theorem dL_call_22 : decode cL_call 22 = .ok (.ireturn, 1) := by decide +kernel
theorem dL_call_23 : decode cL_call 23 = .ok (.iconst 0, 1) := by decide +kernel
theorem dL_call_24 : decode cL_call 24 = .ok (.ireturn, 1) := by decide +kernel
set_option maxRecDepth 20000 in
theorem ggL_seed_X10_seed : GoodIn wsL_seed wsX10_seed := goodIn_ca (goodIn_ca (goodIn_ca (goodIn_ca (goodIn_r _ [8, 9, 10, 11, 12, 13, 7, 14, 15, 16, 17, 18, 19, 20, 21, 22, 23, 24, 25, 26, 27, 28, 29, 30, 31, 32, 33, 34, 35, 36, 37, 38, 39] (by decide +kernel) (by decide +kernel)) (goodIn_sub (fun _ h => List.mem_cons_of_mem _ (List.mem_append_left _ (List.mem_append_left _ (List.mem_append_right _ h)))) (by decide +kernel))) (goodIn_sub (fun _ h => List.mem_cons_of_mem _ (List.mem_append_left _ (List.mem_append_left _ (List.mem_append_left _ (List.mem_append_right _ h))))) (by decide +kernel))) (goodIn_sub (fun _ h => List.mem_cons_of_mem _ (List.mem_append_left _ (List.mem_append_right _ h))) (by decide +kernel))) (goodIn_sub (fun _ h => List.mem_cons_of_mem _ (List.mem_append_right _ h)) (by decide +kernel))
set_option maxRecDepth 20000 in
theorem gL_seed_X10_seed : GoodIn wsL_seed (wsV RL 46 RX10 yX10_seed wsX10_seed) := goodIn_app (goodIn_of _ (by decide +kernel)) ggL_seed_X10_seed
theorem dL_seed_0 : decode cL_seed 0 = .ok (.aload_n 3, 1) := by decide +kernel
theorem dL_seed_1 : decode cL_seed 1 = .ok (.iconst 0, 1) := by decide +kernel
theorem dL_seed_2 : decode cL_seed 2 = .ok (.aload_n 0, 1) := by decide +kernel
theorem dL_seed_3 : decode cL_seed 3 = .ok (.iload_n 1, 1) := by decide +kernel
theorem dL_seed_4 : decode cL_seed 4 = .ok (.iload_n 2, 1) := by decide +kernel
theorem dL_seed_5 : decode cL_seed 5 = .ok (.invokevirtual 46, 3) := by decide +kernel
theorem dL_seed_8 : decode cL_seed 8 = .ok (.i2l, 1) := by decide +kernel
theorem dL_seed_9 : decode cL_seed 9 = .ok (.lastore, 1) := by decide +kernel
theorem dL_seed_10 : decode cL_seed 10 = .ok (.goto 15, 3) := by decide +kernel
theorem dL_seed_13 : decode cL_seed 13 = .ok (.astore 4, 2) := by decide +kernel
theorem dL_seed_15 : decode cL_seed 15 = .ok (.iconst 1, 1) := by decide +kernel
theorem dL_seed_16 : decode cL_seed 16 = .ok (.ireturn, 1) := by decide +kernel
theorem dL_seed_17 : decode cL_seed 17 = .ok (.astore 4, 2) := by decide +kernel
theorem dL_seed_19 : decode cL_seed 19 = .ok (.iconst 2, 1) := by decide +kernel
theorem dL_seed_20 : decode cL_seed 20 = .ok (.ireturn, 1) := by decide +kernel
theorem dL_seed_21 : decode cL_seed 21 = .ok (.astore 4, 2) := by decide +kernel
theorem dL_seed_23 : decode cL_seed 23 = .ok (.iconst 3, 1) := by decide +kernel
theorem dL_seed_24 : decode cL_seed 24 = .ok (.ireturn, 1) := by decide +kernel
theorem dL_seed_25 : decode cL_seed 25 = .ok (.iconst 0, 1) := by decide +kernel
theorem dL_seed_26 : decode cL_seed 26 = .ok (.ireturn, 1) := by decide +kernel
set_option maxRecDepth 20000 in
theorem ggL_advance_X10_advance : GoodIn wsL_advance wsX10_advance := goodIn_ca (goodIn_ca (goodIn_ca (goodIn_r _ [7, 8, 9, 10, 11, 12, 6, 13, 14, 15, 16, 17, 18, 19, 20, 21, 22, 23, 24, 25, 26, 27, 28, 29, 30, 31, 32, 33, 34, 35, 36, 37, 38, 39, 40, 41, 42, 43, 44, 45, 46, 47, 48, 49, 50, 51, 52, 53, 54, 55, 56, 57, 58, 59, 60, 61, 62, 63, 64, 65, 66, 67, 68, 69, 70, 71, 72, 73, 74, 75, 76, 77, 78, 79, 80, 81, 82, 83, 84, 85, 86, 87, 88, 89, 90, 91, 92, 93, 94, 95, 96, 97, 98, 99, 100, 101, 102, 103, 104, 105, 106, 107, 108, 109, 110, 111, 112, 113, 114, 115, 116, 117, 118, 119, 120, 121, 122, 123, 124, 125, 126, 127, 128, 129, 130, 131, 132, 133, 134, 135, 136, 137, 138, 139, 140, 141, 142, 143, 144, 145, 146, 147, 148, 149, 150, 151, 152, 153, 154, 155, 156, 157, 158, 159, 160, 161, 162, 163, 164, 165, 166] (by decide +kernel) (by decide +kernel)) (goodIn_sub (fun _ h => List.mem_cons_of_mem _ (List.mem_append_left _ (List.mem_append_right _ h))) (by decide +kernel))) (goodIn_sub (fun _ h => List.mem_cons_of_mem _ (List.mem_append_right _ h)) (by decide +kernel))) (goodIn_sub (fun _ h => List.mem_cons_of_mem _ (List.mem_append_left _ (List.mem_append_left _ (List.mem_append_right _ h)))) (by decide +kernel))
set_option maxRecDepth 20000 in
theorem gL_advance_X10_advance : GoodIn wsL_advance (wsV RL 49 RX10 yX10_advance wsX10_advance) := goodIn_app (goodIn_of _ (by decide +kernel)) ggL_advance_X10_advance
theorem dL_advance_0 : decode cL_advance 0 = .ok (.aload_n 2, 1) := by decide +kernel
theorem dL_advance_1 : decode cL_advance 1 = .ok (.iconst 0, 1) := by decide +kernel
theorem dL_advance_2 : decode cL_advance 2 = .ok (.aload_n 0, 1) := by decide +kernel
theorem dL_advance_3 : decode cL_advance 3 = .ok (.iload_n 1, 1) := by decide +kernel
theorem dL_advance_4 : decode cL_advance 4 = .ok (.invokevirtual 49, 3) := by decide +kernel
theorem dL_advance_7 : decode cL_advance 7 = .ok (.i2l, 1) := by decide +kernel
theorem dL_advance_8 : decode cL_advance 8 = .ok (.lastore, 1) := by decide +kernel
theorem dL_advance_9 : decode cL_advance 9 = .ok (.goto 9, 3) := by decide +kernel
theorem dL_advance_12 : decode cL_advance 12 = .ok (.astore_n 3, 1) := by decide +kernel
theorem dL_advance_13 : decode cL_advance 13 = .ok (.iconst 1, 1) := by decide +kernel
theorem dL_advance_14 : decode cL_advance 14 = .ok (.ireturn, 1) := by decide +kernel
theorem dL_advance_15 : decode cL_advance 15 = .ok (.astore_n 3, 1) := by decide +kernel
theorem dL_advance_16 : decode cL_advance 16 = .ok (.iconst 2, 1) := by decide +kernel
theorem dL_advance_17 : decode cL_advance 17 = .ok (.ireturn, 1) := by decide +kernel
theorem dL_advance_18 : decode cL_advance 18 = .ok (.iconst 0, 1) := by decide +kernel
theorem dL_advance_19 : decode cL_advance 19 = .ok (.ireturn, 1) := by decide +kernel
set_option maxRecDepth 20000 in
theorem ggL_isOnRoll_X10_isOnRoll : GoodIn wsL_isOnRoll wsX10_isOnRoll := goodIn_ca (goodIn_ca (goodIn_r _ [6, 7, 8, 9, 10, 5, 11, 12, 13, 14, 15, 16, 17, 18, 19, 20, 21, 22, 23, 24, 25, 26, 27, 28, 29, 30, 31, 32, 33, 34, 35, 36, 37, 38, 39, 40, 41] (by decide +kernel) (by decide +kernel)) (goodIn_sub (fun _ h => List.mem_cons_of_mem _ (List.mem_append_right _ h)) (by decide +kernel))) (goodIn_sub (fun _ h => List.mem_cons_of_mem _ (List.mem_append_left _ (List.mem_append_right _ h))) (by decide +kernel))
set_option maxRecDepth 20000 in
theorem gL_isOnRoll_X10_isOnRoll : GoodIn wsL_isOnRoll (wsV RL 53 RX10 yX10_isOnRoll wsX10_isOnRoll) := goodIn_app (goodIn_of _ (by decide +kernel)) ggL_isOnRoll_X10_isOnRoll
theorem dL_isOnRoll_0 : decode cL_isOnRoll 0 = .ok (.aload_n 2, 1) := by decide +kernel
theorem dL_isOnRoll_1 : decode cL_isOnRoll 1 = .ok (.iconst 0, 1) := by decide +kernel
theorem dL_isOnRoll_2 : decode cL_isOnRoll 2 = .ok (.aload_n 0, 1) := by decide +kernel
theorem dL_isOnRoll_3 : decode cL_isOnRoll 3 = .ok (.iload_n 1, 1) := by decide +kernel
theorem dL_isOnRoll_4 : decode cL_isOnRoll 4 = .ok (.invokevirtual 53, 3) := by decide +kernel
theorem dL_isOnRoll_7 : decode cL_isOnRoll 7 = .ok (.ifCond .eq 7, 3) := by decide +kernel
theorem dL_isOnRoll_10 : decode cL_isOnRoll 10 = .ok (.lconst 1, 1) := by decide +kernel
theorem dL_isOnRoll_11 : decode cL_isOnRoll 11 = .ok (.goto 4, 3) := by decide +kernel
theorem dL_isOnRoll_14 : decode cL_isOnRoll 14 = .ok (.lconst 0, 1) := by decide +kernel
theorem dL_isOnRoll_15 : decode cL_isOnRoll 15 = .ok (.lastore, 1) := by decide +kernel
theorem dL_isOnRoll_16 : decode cL_isOnRoll 16 = .ok (.goto 6, 3) := by decide +kernel
theorem dL_isOnRoll_19 : decode cL_isOnRoll 19 = .ok (.astore_n 3, 1) := by decide +kernel
theorem dL_isOnRoll_20 : decode cL_isOnRoll 20 = .ok (.iconst 1, 1) := by decide +kernel
theorem dL_isOnRoll_21 : decode cL_isOnRoll 21 = .ok (.ireturn, 1) := by decide +kernel
theorem dL_isOnRoll_22 : decode cL_isOnRoll 22 = .ok (.iconst 0, 1) := by decide +kernel
theorem dL_isOnRoll_23 : decode cL_isOnRoll 23 = .ok (.ireturn, 1) := by decide +kernel
set_option maxRecDepth 20000 in
theorem ggL_stationOf_X10_stationOf : GoodIn wsL_stationOf wsX10_stationOf := goodIn_ca (goodIn_ca (goodIn_r _ [6, 7, 8, 9, 10, 5, 11, 12, 13, 14, 15, 16, 17, 18, 19, 20, 21, 22, 23, 24, 25, 26, 27, 28, 29, 30, 31, 32, 33, 34, 35, 36, 37, 38, 39, 40, 41] (by decide +kernel) (by decide +kernel)) (goodIn_sub (fun _ h => List.mem_cons_of_mem _ (List.mem_append_right _ h)) (by decide +kernel))) (goodIn_sub (fun _ h => List.mem_cons_of_mem _ (List.mem_append_left _ (List.mem_append_right _ h))) (by decide +kernel))
set_option maxRecDepth 20000 in
theorem gL_stationOf_X10_stationOf : GoodIn wsL_stationOf (wsV RL 56 RX10 yX10_stationOf wsX10_stationOf) := goodIn_app (goodIn_of _ (by decide +kernel)) ggL_stationOf_X10_stationOf
theorem dL_stationOf_0 : decode cL_stationOf 0 = .ok (.aload_n 2, 1) := by decide +kernel
theorem dL_stationOf_1 : decode cL_stationOf 1 = .ok (.iconst 0, 1) := by decide +kernel
theorem dL_stationOf_2 : decode cL_stationOf 2 = .ok (.aload_n 0, 1) := by decide +kernel
theorem dL_stationOf_3 : decode cL_stationOf 3 = .ok (.iload_n 1, 1) := by decide +kernel
theorem dL_stationOf_4 : decode cL_stationOf 4 = .ok (.invokevirtual 56, 3) := by decide +kernel
theorem dL_stationOf_7 : decode cL_stationOf 7 = .ok (.i2l, 1) := by decide +kernel
theorem dL_stationOf_8 : decode cL_stationOf 8 = .ok (.lastore, 1) := by decide +kernel
theorem dL_stationOf_9 : decode cL_stationOf 9 = .ok (.goto 6, 3) := by decide +kernel
theorem dL_stationOf_12 : decode cL_stationOf 12 = .ok (.astore_n 3, 1) := by decide +kernel
theorem dL_stationOf_13 : decode cL_stationOf 13 = .ok (.iconst 1, 1) := by decide +kernel
theorem dL_stationOf_14 : decode cL_stationOf 14 = .ok (.ireturn, 1) := by decide +kernel
theorem dL_stationOf_15 : decode cL_stationOf 15 = .ok (.iconst 0, 1) := by decide +kernel
theorem dL_stationOf_16 : decode cL_stationOf 16 = .ok (.ireturn, 1) := by decide +kernel
set_option maxRecDepth 20000 in
theorem ggL_peopleOf_X10_peopleOf : GoodIn wsL_peopleOf wsX10_peopleOf := goodIn_ca (goodIn_ca (goodIn_r _ [6, 7, 8, 9, 10, 5, 11, 12, 13, 14, 15, 16, 17, 18, 19, 20, 21, 22, 23, 24, 25, 26, 27, 28, 29, 30, 31, 32, 33, 34, 35, 36, 37, 38, 39, 40, 41, 42, 43, 44] (by decide +kernel) (by decide +kernel)) (goodIn_sub (fun _ h => List.mem_cons_of_mem _ (List.mem_append_right _ h)) (by decide +kernel))) (goodIn_sub (fun _ h => List.mem_cons_of_mem _ (List.mem_append_left _ (List.mem_append_right _ h))) (by decide +kernel))
set_option maxRecDepth 20000 in
theorem gL_peopleOf_X10_peopleOf : GoodIn wsL_peopleOf (wsV RL 59 RX10 yX10_peopleOf wsX10_peopleOf) := goodIn_app (goodIn_of _ (by decide +kernel)) ggL_peopleOf_X10_peopleOf
theorem dL_peopleOf_0 : decode cL_peopleOf 0 = .ok (.aload_n 2, 1) := by decide +kernel
theorem dL_peopleOf_1 : decode cL_peopleOf 1 = .ok (.iconst 0, 1) := by decide +kernel
theorem dL_peopleOf_2 : decode cL_peopleOf 2 = .ok (.aload_n 0, 1) := by decide +kernel
theorem dL_peopleOf_3 : decode cL_peopleOf 3 = .ok (.iload_n 1, 1) := by decide +kernel
theorem dL_peopleOf_4 : decode cL_peopleOf 4 = .ok (.invokevirtual 59, 3) := by decide +kernel
theorem dL_peopleOf_7 : decode cL_peopleOf 7 = .ok (.i2l, 1) := by decide +kernel
theorem dL_peopleOf_8 : decode cL_peopleOf 8 = .ok (.lastore, 1) := by decide +kernel
theorem dL_peopleOf_9 : decode cL_peopleOf 9 = .ok (.goto 6, 3) := by decide +kernel
theorem dL_peopleOf_12 : decode cL_peopleOf 12 = .ok (.astore_n 3, 1) := by decide +kernel
theorem dL_peopleOf_13 : decode cL_peopleOf 13 = .ok (.iconst 1, 1) := by decide +kernel
theorem dL_peopleOf_14 : decode cL_peopleOf 14 = .ok (.ireturn, 1) := by decide +kernel
theorem dL_peopleOf_15 : decode cL_peopleOf 15 = .ok (.iconst 0, 1) := by decide +kernel
theorem dL_peopleOf_16 : decode cL_peopleOf 16 = .ok (.ireturn, 1) := by decide +kernel
set_option maxRecDepth 20000 in
theorem ggL_early_X10_early : GoodIn wsL_early wsX10_early := goodIn_ca (goodIn_ca (goodIn_ca (goodIn_ca (goodIn_r _ [8, 9, 10, 11, 12, 13, 14, 15, 7, 16, 17, 18, 19, 20, 21, 22, 23, 24, 25, 26, 27, 28, 29, 30, 31, 32, 33, 34, 35, 36, 37, 38, 39, 40, 41, 42, 43, 44, 45, 46, 47, 48, 49, 50, 51, 52, 53, 54, 55, 56, 57, 58, 59, 60, 61, 62, 63, 64, 65, 66, 67, 68, 69, 70, 71, 72, 73, 74, 75, 76, 77, 78, 79, 80, 81, 82, 83, 84, 85, 86, 87, 88, 89, 90, 91, 92, 93, 94, 95, 96, 97, 98, 99, 100, 101, 102, 103, 104, 105] (by decide +kernel) (by decide +kernel)) (goodIn_sub (fun _ h => List.mem_cons_of_mem _ (List.mem_append_left _ (List.mem_append_left _ (List.mem_append_right _ h)))) (by decide +kernel))) (goodIn_sub (fun _ h => List.mem_cons_of_mem _ (List.mem_append_left _ (List.mem_append_right _ h))) (by decide +kernel))) (goodIn_sub (fun _ h => List.mem_cons_of_mem _ (List.mem_append_right _ h)) (by decide +kernel))) (goodIn_sub (fun _ h => List.mem_cons_of_mem _ (List.mem_append_left _ (List.mem_append_left _ (List.mem_append_left _ (List.mem_append_right _ h))))) (by decide +kernel))
set_option maxRecDepth 20000 in
theorem gL_early_X10_early : GoodIn wsL_early (wsV RL 62 RX10 yX10_early wsX10_early) := goodIn_app (goodIn_of _ (by decide +kernel)) ggL_early_X10_early
theorem dL_early_0 : decode cL_early 0 = .ok (.aload_n 3, 1) := by decide +kernel
theorem dL_early_1 : decode cL_early 1 = .ok (.iconst 0, 1) := by decide +kernel
theorem dL_early_2 : decode cL_early 2 = .ok (.aload_n 0, 1) := by decide +kernel
theorem dL_early_3 : decode cL_early 3 = .ok (.iload_n 1, 1) := by decide +kernel
theorem dL_early_4 : decode cL_early 4 = .ok (.iload_n 2, 1) := by decide +kernel
theorem dL_early_5 : decode cL_early 5 = .ok (.invokevirtual 62, 3) := by decide +kernel
theorem dL_early_8 : decode cL_early 8 = .ok (.i2l, 1) := by decide +kernel
theorem dL_early_9 : decode cL_early 9 = .ok (.lastore, 1) := by decide +kernel
theorem dL_early_10 : decode cL_early 10 = .ok (.goto 15, 3) := by decide +kernel
theorem dL_early_13 : decode cL_early 13 = .ok (.astore 4, 2) := by decide +kernel
theorem dL_early_15 : decode cL_early 15 = .ok (.iconst 1, 1) := by decide +kernel
theorem dL_early_16 : decode cL_early 16 = .ok (.ireturn, 1) := by decide +kernel
theorem dL_early_17 : decode cL_early 17 = .ok (.astore 4, 2) := by decide +kernel
theorem dL_early_19 : decode cL_early 19 = .ok (.iconst 2, 1) := by decide +kernel
theorem dL_early_20 : decode cL_early 20 = .ok (.ireturn, 1) := by decide +kernel
theorem dL_early_21 : decode cL_early 21 = .ok (.astore 4, 2) := by decide +kernel
theorem dL_early_23 : decode cL_early 23 = .ok (.iconst 3, 1) := by decide +kernel
theorem dL_early_24 : decode cL_early 24 = .ok (.ireturn, 1) := by decide +kernel
theorem dL_early_25 : decode cL_early 25 = .ok (.iconst 0, 1) := by decide +kernel
theorem dL_early_26 : decode cL_early 26 = .ok (.ireturn, 1) := by decide +kernel
set_option maxRecDepth 20000 in
theorem ggL_vote_X10_vote : GoodIn wsL_vote wsX10_vote := goodIn_ca (goodIn_ca (goodIn_ca (goodIn_ca (goodIn_r _ [8, 9, 10, 11, 12, 13, 14, 15, 7, 16, 17, 18, 19, 20, 21, 22, 23, 24, 25, 26, 27, 28, 29, 30, 31, 32, 33, 34, 35, 36, 37, 38, 39, 40, 41, 42, 43, 44, 45, 46, 47, 48, 49, 50, 51, 52, 53, 54, 55, 56, 57, 58, 59, 60, 61, 62, 63, 64, 65, 66, 67, 68, 69, 70, 71, 72, 73, 74, 75, 76, 77, 78, 79, 80, 81, 82, 83, 84, 85, 86, 87, 88, 89, 90, 91, 92, 93, 94, 95, 96, 97, 98, 99, 100, 101, 102, 103, 104, 105, 106, 107, 108, 109, 110, 111, 112, 113, 114, 115, 116, 117, 118, 119, 120, 121, 122, 123, 124, 125, 126, 127, 128, 129] (by decide +kernel) (by decide +kernel)) (goodIn_sub (fun _ h => List.mem_cons_of_mem _ (List.mem_append_left _ (List.mem_append_left _ (List.mem_append_left _ (List.mem_append_right _ h))))) (by decide +kernel))) (goodIn_sub (fun _ h => List.mem_cons_of_mem _ (List.mem_append_left _ (List.mem_append_left _ (List.mem_append_right _ h)))) (by decide +kernel))) (goodIn_sub (fun _ h => List.mem_cons_of_mem _ (List.mem_append_left _ (List.mem_append_right _ h))) (by decide +kernel))) (goodIn_sub (fun _ h => List.mem_cons_of_mem _ (List.mem_append_right _ h)) (by decide +kernel))
set_option maxRecDepth 20000 in
theorem gL_vote_X10_vote : GoodIn wsL_vote (wsV RL 65 RX10 yX10_vote wsX10_vote) := goodIn_app (goodIn_of _ (by decide +kernel)) ggL_vote_X10_vote
theorem dL_vote_0 : decode cL_vote 0 = .ok (.aload 4, 2) := by decide +kernel
theorem dL_vote_2 : decode cL_vote 2 = .ok (.iconst 0, 1) := by decide +kernel
theorem dL_vote_3 : decode cL_vote 3 = .ok (.aload_n 0, 1) := by decide +kernel
theorem dL_vote_4 : decode cL_vote 4 = .ok (.iload_n 1, 1) := by decide +kernel
theorem dL_vote_5 : decode cL_vote 5 = .ok (.iload_n 2, 1) := by decide +kernel
theorem dL_vote_6 : decode cL_vote 6 = .ok (.iload_n 3, 1) := by decide +kernel
theorem dL_vote_7 : decode cL_vote 7 = .ok (.invokevirtual 65, 3) := by decide +kernel
theorem dL_vote_10 : decode cL_vote 10 = .ok (.i2l, 1) := by decide +kernel
theorem dL_vote_11 : decode cL_vote 11 = .ok (.lastore, 1) := by decide +kernel
theorem dL_vote_12 : decode cL_vote 12 = .ok (.goto 15, 3) := by decide +kernel
theorem dL_vote_15 : decode cL_vote 15 = .ok (.astore 5, 2) := by decide +kernel
theorem dL_vote_17 : decode cL_vote 17 = .ok (.iconst 1, 1) := by decide +kernel
theorem dL_vote_18 : decode cL_vote 18 = .ok (.ireturn, 1) := by decide +kernel
theorem dL_vote_19 : decode cL_vote 19 = .ok (.astore 5, 2) := by decide +kernel
theorem dL_vote_21 : decode cL_vote 21 = .ok (.iconst 2, 1) := by decide +kernel
theorem dL_vote_22 : decode cL_vote 22 = .ok (.ireturn, 1) := by decide +kernel
theorem dL_vote_23 : decode cL_vote 23 = .ok (.astore 5, 2) := by decide +kernel
theorem dL_vote_25 : decode cL_vote 25 = .ok (.iconst 3, 1) := by decide +kernel
theorem dL_vote_26 : decode cL_vote 26 = .ok (.ireturn, 1) := by decide +kernel
theorem dL_vote_27 : decode cL_vote 27 = .ok (.iconst 0, 1) := by decide +kernel
theorem dL_vote_28 : decode cL_vote 28 = .ok (.ireturn, 1) := by decide +kernel
set_option maxRecDepth 20000 in
theorem ggL_open_X10_open : GoodIn wsL_open wsX10_open := goodIn_ca (goodIn_ca (goodIn_ca (goodIn_r _ [7, 8, 9, 10, 11, 12, 13, 6, 14, 15, 16, 17, 18, 19, 20, 21, 22, 23, 24, 25, 26, 27, 28, 29, 30, 31, 32, 33, 34, 35, 36, 37, 38, 39, 40, 41, 42, 43, 44, 45, 46, 47, 48, 49, 50, 51, 52, 53, 54, 55, 56, 57, 58, 59, 60, 61, 62, 63, 64, 65, 66, 67, 68, 69, 70, 71, 72, 73, 74, 75, 76, 77, 78, 79, 80, 81, 82, 83, 84, 85, 86, 87, 88, 89, 90, 91, 92, 93, 94, 95, 96, 97, 98, 99, 100, 101] (by decide +kernel) (by decide +kernel)) (goodIn_sub (fun _ h => List.mem_cons_of_mem _ (List.mem_append_left _ (List.mem_append_right _ h))) (by decide +kernel))) (goodIn_sub (fun _ h => List.mem_cons_of_mem _ (List.mem_append_right _ h)) (by decide +kernel))) (goodIn_sub (fun _ h => List.mem_cons_of_mem _ (List.mem_append_left _ (List.mem_append_left _ (List.mem_append_right _ h)))) (by decide +kernel))
set_option maxRecDepth 20000 in
theorem gL_open_X10_open : GoodIn wsL_open (wsV RL 69 RX10 yX10_open wsX10_open) := goodIn_app (goodIn_of _ (by decide +kernel)) ggL_open_X10_open
theorem dL_open_0 : decode cL_open 0 = .ok (.aload_n 2, 1) := by decide +kernel
theorem dL_open_1 : decode cL_open 1 = .ok (.iconst 0, 1) := by decide +kernel
theorem dL_open_2 : decode cL_open 2 = .ok (.aload_n 0, 1) := by decide +kernel
theorem dL_open_3 : decode cL_open 3 = .ok (.iload_n 1, 1) := by decide +kernel
theorem dL_open_4 : decode cL_open 4 = .ok (.invokevirtual 69, 3) := by decide +kernel
theorem dL_open_7 : decode cL_open 7 = .ok (.i2l, 1) := by decide +kernel
theorem dL_open_8 : decode cL_open 8 = .ok (.lastore, 1) := by decide +kernel
theorem dL_open_9 : decode cL_open 9 = .ok (.goto 9, 3) := by decide +kernel
theorem dL_open_12 : decode cL_open 12 = .ok (.astore_n 3, 1) := by decide +kernel
theorem dL_open_13 : decode cL_open 13 = .ok (.iconst 1, 1) := by decide +kernel
theorem dL_open_14 : decode cL_open 14 = .ok (.ireturn, 1) := by decide +kernel
theorem dL_open_15 : decode cL_open 15 = .ok (.astore_n 3, 1) := by decide +kernel
theorem dL_open_16 : decode cL_open 16 = .ok (.iconst 2, 1) := by decide +kernel
theorem dL_open_17 : decode cL_open 17 = .ok (.ireturn, 1) := by decide +kernel
