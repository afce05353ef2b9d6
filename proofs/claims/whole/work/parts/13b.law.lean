theorem dL_open_18 : decode cL_open 18 = .ok (.iconst 0, 1) := by decide +kernel
theorem dL_open_19 : decode cL_open 19 = .ok (.ireturn, 1) := by decide +kernel
set_option maxRecDepth 20000 in
theorem ggL_stateOf_X10_stateOf : GoodIn wsL_stateOf wsX10_stateOf := goodIn_ca (goodIn_ca (goodIn_r _ [6, 7, 8, 9, 10, 5, 11, 12, 13, 14, 15, 16, 17, 18, 19, 20, 21, 22, 23, 24, 25, 26, 27, 28, 29, 30, 31, 32, 33, 34, 35] (by decide +kernel) (by decide +kernel)) (goodIn_sub (fun _ h => List.mem_cons_of_mem _ (List.mem_append_left _ (List.mem_append_right _ h))) (by decide +kernel))) (goodIn_sub (fun _ h => List.mem_cons_of_mem _ (List.mem_append_right _ h)) (by decide +kernel))
set_option maxRecDepth 20000 in
theorem gL_stateOf_X10_stateOf : GoodIn wsL_stateOf (wsV RL 72 RX10 yX10_stateOf wsX10_stateOf) := goodIn_app (goodIn_of _ (by decide +kernel)) ggL_stateOf_X10_stateOf
theorem dL_stateOf_0 : decode cL_stateOf 0 = .ok (.aload_n 2, 1) := by decide +kernel
theorem dL_stateOf_1 : decode cL_stateOf 1 = .ok (.iconst 0, 1) := by decide +kernel
theorem dL_stateOf_2 : decode cL_stateOf 2 = .ok (.aload_n 0, 1) := by decide +kernel
theorem dL_stateOf_3 : decode cL_stateOf 3 = .ok (.iload_n 1, 1) := by decide +kernel
theorem dL_stateOf_4 : decode cL_stateOf 4 = .ok (.invokevirtual 72, 3) := by decide +kernel
theorem dL_stateOf_7 : decode cL_stateOf 7 = .ok (.i2l, 1) := by decide +kernel
theorem dL_stateOf_8 : decode cL_stateOf 8 = .ok (.lastore, 1) := by decide +kernel
theorem dL_stateOf_9 : decode cL_stateOf 9 = .ok (.goto 6, 3) := by decide +kernel
theorem dL_stateOf_12 : decode cL_stateOf 12 = .ok (.astore_n 3, 1) := by decide +kernel
theorem dL_stateOf_13 : decode cL_stateOf 13 = .ok (.iconst 1, 1) := by decide +kernel
theorem dL_stateOf_14 : decode cL_stateOf 14 = .ok (.ireturn, 1) := by decide +kernel
theorem dL_stateOf_15 : decode cL_stateOf 15 = .ok (.iconst 0, 1) := by decide +kernel
theorem dL_stateOf_16 : decode cL_stateOf 16 = .ok (.ireturn, 1) := by decide +kernel
set_option maxRecDepth 20000 in
theorem ggL_personOf_X10_personOf : GoodIn wsL_personOf wsX10_personOf := goodIn_ca (goodIn_ca (goodIn_r _ [6, 7, 8, 9, 10, 5, 11, 12, 13, 14, 15, 16, 17, 18, 19, 20, 21, 22, 23, 24, 25, 26, 27, 28, 29, 30, 31, 32, 33, 34, 35] (by decide +kernel) (by decide +kernel)) (goodIn_sub (fun _ h => List.mem_cons_of_mem _ (List.mem_append_left _ (List.mem_append_right _ h))) (by decide +kernel))) (goodIn_sub (fun _ h => List.mem_cons_of_mem _ (List.mem_append_right _ h)) (by decide +kernel))
set_option maxRecDepth 20000 in
theorem gL_personOf_X10_personOf : GoodIn wsL_personOf (wsV RL 75 RX10 yX10_personOf wsX10_personOf) := goodIn_app (goodIn_of _ (by decide +kernel)) ggL_personOf_X10_personOf
theorem dL_personOf_0 : decode cL_personOf 0 = .ok (.aload_n 2, 1) := by decide +kernel
theorem dL_personOf_1 : decode cL_personOf 1 = .ok (.iconst 0, 1) := by decide +kernel
theorem dL_personOf_2 : decode cL_personOf 2 = .ok (.aload_n 0, 1) := by decide +kernel
theorem dL_personOf_3 : decode cL_personOf 3 = .ok (.iload_n 1, 1) := by decide +kernel
theorem dL_personOf_4 : decode cL_personOf 4 = .ok (.invokevirtual 75, 3) := by decide +kernel
theorem dL_personOf_7 : decode cL_personOf 7 = .ok (.i2l, 1) := by decide +kernel
theorem dL_personOf_8 : decode cL_personOf 8 = .ok (.lastore, 1) := by decide +kernel
theorem dL_personOf_9 : decode cL_personOf 9 = .ok (.goto 6, 3) := by decide +kernel
theorem dL_personOf_12 : decode cL_personOf 12 = .ok (.astore_n 3, 1) := by decide +kernel
theorem dL_personOf_13 : decode cL_personOf 13 = .ok (.iconst 1, 1) := by decide +kernel
theorem dL_personOf_14 : decode cL_personOf 14 = .ok (.ireturn, 1) := by decide +kernel
theorem dL_personOf_15 : decode cL_personOf 15 = .ok (.iconst 0, 1) := by decide +kernel
theorem dL_personOf_16 : decode cL_personOf 16 = .ok (.ireturn, 1) := by decide +kernel
set_option maxRecDepth 20000 in
theorem ggL_ballots_X10_ballots : GoodIn wsL_ballots wsX10_ballots := goodIn_ca (goodIn_r _ [6, 7, 8, 9, 10, 5, 11, 12, 13, 14, 15, 16, 17, 18, 19, 20, 21, 22, 23, 24, 25, 26, 27, 28, 29, 30, 31, 32, 33, 34, 35, 36, 37, 38, 39, 40, 41] (by decide +kernel) (by decide +kernel)) (goodIn_sub (fun _ h => List.mem_cons_of_mem _ (List.mem_append_right _ h)) (by decide +kernel))
set_option maxRecDepth 20000 in
theorem gL_ballots_X10_ballots : GoodIn wsL_ballots (wsV RL 78 RX10 yX10_ballots wsX10_ballots) := goodIn_app (goodIn_of _ (by decide +kernel)) ggL_ballots_X10_ballots
theorem dL_ballots_0 : decode cL_ballots 0 = .ok (.aload_n 2, 1) := by decide +kernel
theorem dL_ballots_1 : decode cL_ballots 1 = .ok (.iconst 0, 1) := by decide +kernel
theorem dL_ballots_2 : decode cL_ballots 2 = .ok (.aload_n 0, 1) := by decide +kernel
theorem dL_ballots_3 : decode cL_ballots 3 = .ok (.iload_n 1, 1) := by decide +kernel
theorem dL_ballots_4 : decode cL_ballots 4 = .ok (.invokevirtual 78, 3) := by decide +kernel
theorem dL_ballots_7 : decode cL_ballots 7 = .ok (.i2l, 1) := by decide +kernel
theorem dL_ballots_8 : decode cL_ballots 8 = .ok (.lastore, 1) := by decide +kernel
theorem dL_ballots_9 : decode cL_ballots 9 = .ok (.goto 6, 3) := by decide +kernel
theorem dL_ballots_12 : decode cL_ballots 12 = .ok (.astore_n 3, 1) := by decide +kernel
theorem dL_ballots_13 : decode cL_ballots 13 = .ok (.iconst 1, 1) := by decide +kernel
theorem dL_ballots_14 : decode cL_ballots 14 = .ok (.ireturn, 1) := by decide +kernel
theorem dL_ballots_15 : decode cL_ballots 15 = .ok (.iconst 0, 1) := by decide +kernel
theorem dL_ballots_16 : decode cL_ballots 16 = .ok (.ireturn, 1) := by decide +kernel
set_option maxRecDepth 20000 in
theorem ggL_setSlip_X10_setSlip : GoodIn wsL_setSlip wsX10_setSlip := goodIn_ca (goodIn_ca (goodIn_ca (goodIn_r _ [7, 8, 9, 10, 11, 12, 6, 13, 14, 15, 16, 17, 18, 19, 20, 21, 22, 23, 24, 25, 26] (by decide +kernel) (by decide +kernel)) (goodIn_sub (fun _ h => List.mem_cons_of_mem _ (List.mem_append_left _ (List.mem_append_right _ h))) (by decide +kernel))) (goodIn_sub (fun _ h => List.mem_cons_of_mem _ (List.mem_append_left _ (List.mem_append_left _ (List.mem_append_right _ h)))) (by decide +kernel))) (goodIn_sub (fun _ h => List.mem_cons_of_mem _ (List.mem_append_right _ h)) (by decide +kernel))
set_option maxRecDepth 20000 in
theorem gL_setSlip_X10_setSlip : GoodIn wsL_setSlip (wsV RL 81 RX10 yX10_setSlip wsX10_setSlip) := goodIn_app (goodIn_of _ (by decide +kernel)) ggL_setSlip_X10_setSlip
theorem dL_setSlip_0 : decode cL_setSlip 0 = .ok (.aload_n 3, 1) := by decide +kernel
theorem dL_setSlip_1 : decode cL_setSlip 1 = .ok (.iconst 0, 1) := by decide +kernel
theorem dL_setSlip_2 : decode cL_setSlip 2 = .ok (.aload_n 0, 1) := by decide +kernel
theorem dL_setSlip_3 : decode cL_setSlip 3 = .ok (.iload_n 1, 1) := by decide +kernel
theorem dL_setSlip_4 : decode cL_setSlip 4 = .ok (.iload_n 2, 1) := by decide +kernel
theorem dL_setSlip_5 : decode cL_setSlip 5 = .ok (.invokevirtual 81, 3) := by decide +kernel
theorem dL_setSlip_8 : decode cL_setSlip 8 = .ok (.i2l, 1) := by decide +kernel
theorem dL_setSlip_9 : decode cL_setSlip 9 = .ok (.lastore, 1) := by decide +kernel
theorem dL_setSlip_10 : decode cL_setSlip 10 = .ok (.goto 11, 3) := by decide +kernel
theorem dL_setSlip_13 : decode cL_setSlip 13 = .ok (.astore 4, 2) := by decide +kernel
theorem dL_setSlip_15 : decode cL_setSlip 15 = .ok (.iconst 1, 1) := by decide +kernel
theorem dL_setSlip_16 : decode cL_setSlip 16 = .ok (.ireturn, 1) := by decide +kernel
theorem dL_setSlip_17 : decode cL_setSlip 17 = .ok (.astore 4, 2) := by decide +kernel
theorem dL_setSlip_19 : decode cL_setSlip 19 = .ok (.iconst 2, 1) := by decide +kernel
theorem dL_setSlip_20 : decode cL_setSlip 20 = .ok (.ireturn, 1) := by decide +kernel
theorem dL_setSlip_21 : decode cL_setSlip 21 = .ok (.iconst 0, 1) := by decide +kernel
theorem dL_setSlip_22 : decode cL_setSlip 22 = .ok (.ireturn, 1) := by decide +kernel
set_option maxRecDepth 20000 in
theorem ggL_count_X10_count : GoodIn wsL_count wsX10_count := goodIn_ca (goodIn_ca (goodIn_ca (goodIn_r _ [7, 8, 9, 10, 11, 12, 13, 14, 15, 6, 16, 17, 18, 19, 20, 21, 22, 23, 24, 25, 26, 27, 28, 29, 30, 31, 32, 33, 34, 35, 36, 37, 38, 39, 40, 41, 42, 43, 44, 45, 46, 47, 48, 49, 50, 51, 52, 53, 54, 55, 56, 57, 58, 59, 60, 61, 62, 63, 64, 65, 66, 67, 68, 69, 70, 71, 72, 73, 74, 75, 76, 77, 78, 79, 80, 81, 82, 83, 84, 85, 86, 87, 88, 89, 90, 91, 92, 93, 94, 95, 96, 97, 98, 99, 100, 101] (by decide +kernel) (by decide +kernel)) (goodIn_sub (fun _ h => List.mem_cons_of_mem _ (List.mem_append_left _ (List.mem_append_right _ h))) (by decide +kernel))) (goodIn_sub (fun _ h => List.mem_cons_of_mem _ (List.mem_append_left _ (List.mem_append_left _ (List.mem_append_right _ h)))) (by decide +kernel))) (goodIn_sub (fun _ h => List.mem_cons_of_mem _ (List.mem_append_right _ h)) (by decide +kernel))
set_option maxRecDepth 20000 in
theorem gL_count_X10_count : GoodIn wsL_count (wsV RL 84 RX10 yX10_count wsX10_count) := goodIn_app (goodIn_of _ (by decide +kernel)) ggL_count_X10_count
theorem dL_count_0 : decode cL_count 0 = .ok (.aload_n 3, 1) := by decide +kernel
theorem dL_count_1 : decode cL_count 1 = .ok (.iconst 0, 1) := by decide +kernel
theorem dL_count_2 : decode cL_count 2 = .ok (.aload_n 0, 1) := by decide +kernel
theorem dL_count_3 : decode cL_count 3 = .ok (.iload_n 1, 1) := by decide +kernel
theorem dL_count_4 : decode cL_count 4 = .ok (.iload_n 2, 1) := by decide +kernel
theorem dL_count_5 : decode cL_count 5 = .ok (.invokevirtual 84, 3) := by decide +kernel
theorem dL_count_8 : decode cL_count 8 = .ok (.ifCond .eq 7, 3) := by decide +kernel
theorem dL_count_11 : decode cL_count 11 = .ok (.lconst 1, 1) := by decide +kernel
theorem dL_count_12 : decode cL_count 12 = .ok (.goto 4, 3) := by decide +kernel
theorem dL_count_15 : decode cL_count 15 = .ok (.lconst 0, 1) := by decide +kernel
theorem dL_count_16 : decode cL_count 16 = .ok (.lastore, 1) := by decide +kernel
theorem dL_count_17 : decode cL_count 17 = .ok (.goto 11, 3) := by decide +kernel
theorem dL_count_20 : decode cL_count 20 = .ok (.astore 4, 2) := by decide +kernel
theorem dL_count_22 : decode cL_count 22 = .ok (.iconst 1, 1) := by decide +kernel
theorem dL_count_23 : decode cL_count 23 = .ok (.ireturn, 1) := by decide +kernel
theorem dL_count_24 : decode cL_count 24 = .ok (.astore 4, 2) := by decide +kernel
theorem dL_count_26 : decode cL_count 26 = .ok (.iconst 2, 1) := by decide +kernel
theorem dL_count_27 : decode cL_count 27 = .ok (.ireturn, 1) := by decide +kernel
theorem dL_count_28 : decode cL_count 28 = .ok (.iconst 0, 1) := by decide +kernel
theorem dL_count_29 : decode cL_count 29 = .ok (.ireturn, 1) := by decide +kernel
set_option maxRecDepth 20000 in
theorem ggL_recount_X10_recount : GoodIn wsL_recount wsX10_recount := goodIn_ca (goodIn_ca (goodIn_r _ [7, 8, 9, 10, 11, 6, 12, 13, 14, 15, 16, 17, 18, 19, 20, 21, 22, 23, 24, 25, 26, 27, 28, 29, 30, 31, 32, 33, 34, 35, 36, 37, 38, 39, 40, 41, 42, 43, 44, 45, 46, 47, 48, 49, 50, 51, 52, 53, 54, 55] (by decide +kernel) (by decide +kernel)) (goodIn_sub (fun _ h => List.mem_cons_of_mem _ (List.mem_append_left _ (List.mem_append_right _ h))) (by decide +kernel))) (goodIn_sub (fun _ h => List.mem_cons_of_mem _ (List.mem_append_right _ h)) (by decide +kernel))
set_option maxRecDepth 20000 in
theorem gL_recount_X10_recount : GoodIn wsL_recount (wsV RL 88 RX10 yX10_recount wsX10_recount) := goodIn_app (goodIn_of _ (by decide +kernel)) ggL_recount_X10_recount
theorem dL_recount_0 : decode cL_recount 0 = .ok (.aload_n 2, 1) := by decide +kernel
theorem dL_recount_1 : decode cL_recount 1 = .ok (.iconst 0, 1) := by decide +kernel
theorem dL_recount_2 : decode cL_recount 2 = .ok (.aload_n 0, 1) := by decide +kernel
theorem dL_recount_3 : decode cL_recount 3 = .ok (.iload_n 1, 1) := by decide +kernel
theorem dL_recount_4 : decode cL_recount 4 = .ok (.invokevirtual 88, 3) := by decide +kernel
theorem dL_recount_7 : decode cL_recount 7 = .ok (.i2l, 1) := by decide +kernel
theorem dL_recount_8 : decode cL_recount 8 = .ok (.lastore, 1) := by decide +kernel
theorem dL_recount_9 : decode cL_recount 9 = .ok (.goto 9, 3) := by decide +kernel
theorem dL_recount_12 : decode cL_recount 12 = .ok (.astore_n 3, 1) := by decide +kernel
theorem dL_recount_13 : decode cL_recount 13 = .ok (.iconst 1, 1) := by decide +kernel
theorem dL_recount_14 : decode cL_recount 14 = .ok (.ireturn, 1) := by decide +kernel
theorem dL_recount_15 : decode cL_recount 15 = .ok (.astore_n 3, 1) := by decide +kernel
theorem dL_recount_16 : decode cL_recount 16 = .ok (.iconst 2, 1) := by decide +kernel
theorem dL_recount_17 : decode cL_recount 17 = .ok (.ireturn, 1) := by decide +kernel
theorem dL_recount_18 : decode cL_recount 18 = .ok (.iconst 0, 1) := by decide +kernel
theorem dL_recount_19 : decode cL_recount 19 = .ok (.ireturn, 1) := by decide +kernel
set_option maxRecDepth 20000 in
theorem ggL_isSettled_X10_isSettled : GoodIn wsL_isSettled wsX10_isSettled := goodIn_ca (goodIn_r _ [6, 7, 8, 9, 10, 5, 11, 12, 13, 14, 15, 16, 17, 18, 19, 20, 21, 22, 23, 24, 25, 26, 27, 28, 29, 30, 31, 32, 33, 34, 35, 36, 37, 38, 39, 40, 41, 42, 43, 44, 45, 46, 47] (by decide +kernel) (by decide +kernel)) (goodIn_sub (fun _ h => List.mem_cons_of_mem _ (List.mem_append_right _ h)) (by decide +kernel))
set_option maxRecDepth 20000 in
theorem gL_isSettled_X10_isSettled : GoodIn wsL_isSettled (wsV RL 91 RX10 yX10_isSettled wsX10_isSettled) := goodIn_app (goodIn_of _ (by decide +kernel)) ggL_isSettled_X10_isSettled
theorem dL_isSettled_0 : decode cL_isSettled 0 = .ok (.aload_n 2, 1) := by decide +kernel
theorem dL_isSettled_1 : decode cL_isSettled 1 = .ok (.iconst 0, 1) := by decide +kernel
theorem dL_isSettled_2 : decode cL_isSettled 2 = .ok (.aload_n 0, 1) := by decide +kernel
theorem dL_isSettled_3 : decode cL_isSettled 3 = .ok (.iload_n 1, 1) := by decide +kernel
theorem dL_isSettled_4 : decode cL_isSettled 4 = .ok (.invokevirtual 91, 3) := by decide +kernel
theorem dL_isSettled_7 : decode cL_isSettled 7 = .ok (.ifCond .eq 7, 3) := by decide +kernel
theorem dL_isSettled_10 : decode cL_isSettled 10 = .ok (.lconst 1, 1) := by decide +kernel
theorem dL_isSettled_11 : decode cL_isSettled 11 = .ok (.goto 4, 3) := by decide +kernel
theorem dL_isSettled_14 : decode cL_isSettled 14 = .ok (.lconst 0, 1) := by decide +kernel
theorem dL_isSettled_15 : decode cL_isSettled 15 = .ok (.lastore, 1) := by decide +kernel
theorem dL_isSettled_16 : decode cL_isSettled 16 = .ok (.goto 6, 3) := by decide +kernel
theorem dL_isSettled_19 : decode cL_isSettled 19 = .ok (.astore_n 3, 1) := by decide +kernel
theorem dL_isSettled_20 : decode cL_isSettled 20 = .ok (.iconst 1, 1) := by decide +kernel
theorem dL_isSettled_21 : decode cL_isSettled 21 = .ok (.ireturn, 1) := by decide +kernel
theorem dL_isSettled_22 : decode cL_isSettled 22 = .ok (.iconst 0, 1) := by decide +kernel
theorem dL_isSettled_23 : decode cL_isSettled 23 = .ok (.ireturn, 1) := by decide +kernel
set_option maxRecDepth 20000 in
theorem ggL_numberOf_X10_numberOf : GoodIn wsL_numberOf wsX10_numberOf := goodIn_ca (goodIn_ca (goodIn_ca (goodIn_r _ [7, 8, 9, 10, 11, 6, 12, 13, 14, 15, 16, 17, 18, 19, 20, 21, 22, 23, 24, 25, 26, 27, 28, 29, 30, 31, 32, 33, 34, 35, 36, 37, 38, 39, 40, 41, 42, 43, 44, 45, 46, 47, 48, 49, 50, 51, 52, 53, 54] (by decide +kernel) (by decide +kernel)) (goodIn_sub (fun _ h => List.mem_cons_of_mem _ (List.mem_append_left _ (List.mem_append_right _ h))) (by decide +kernel))) (goodIn_sub (fun _ h => List.mem_cons_of_mem _ (List.mem_append_right _ h)) (by decide +kernel))) (goodIn_sub (fun _ h => List.mem_cons_of_mem _ (List.mem_append_left _ (List.mem_append_left _ (List.mem_append_right _ h)))) (by decide +kernel))
set_option maxRecDepth 20000 in
theorem gL_numberOf_X10_numberOf : GoodIn wsL_numberOf (wsV RL 94 RX10 yX10_numberOf wsX10_numberOf) := goodIn_app (goodIn_of _ (by decide +kernel)) ggL_numberOf_X10_numberOf
theorem dL_numberOf_0 : decode cL_numberOf 0 = .ok (.aload_n 3, 1) := by decide +kernel
theorem dL_numberOf_1 : decode cL_numberOf 1 = .ok (.iconst 0, 1) := by decide +kernel
theorem dL_numberOf_2 : decode cL_numberOf 2 = .ok (.aload_n 0, 1) := by decide +kernel
theorem dL_numberOf_3 : decode cL_numberOf 3 = .ok (.iload_n 1, 1) := by decide +kernel
theorem dL_numberOf_4 : decode cL_numberOf 4 = .ok (.iload_n 2, 1) := by decide +kernel
theorem dL_numberOf_5 : decode cL_numberOf 5 = .ok (.invokevirtual 94, 3) := by decide +kernel
theorem dL_numberOf_8 : decode cL_numberOf 8 = .ok (.i2l, 1) := by decide +kernel
theorem dL_numberOf_9 : decode cL_numberOf 9 = .ok (.lastore, 1) := by decide +kernel
theorem dL_numberOf_10 : decode cL_numberOf 10 = .ok (.goto 11, 3) := by decide +kernel
theorem dL_numberOf_13 : decode cL_numberOf 13 = .ok (.astore 4, 2) := by decide +kernel
theorem dL_numberOf_15 : decode cL_numberOf 15 = .ok (.iconst 1, 1) := by decide +kernel
theorem dL_numberOf_16 : decode cL_numberOf 16 = .ok (.ireturn, 1) := by decide +kernel
theorem dL_numberOf_17 : decode cL_numberOf 17 = .ok (.astore 4, 2) := by decide +kernel
theorem dL_numberOf_19 : decode cL_numberOf 19 = .ok (.iconst 2, 1) := by decide +kernel
theorem dL_numberOf_20 : decode cL_numberOf 20 = .ok (.ireturn, 1) := by decide +kernel
theorem dL_numberOf_21 : decode cL_numberOf 21 = .ok (.iconst 0, 1) := by decide +kernel
theorem dL_numberOf_22 : decode cL_numberOf 22 = .ok (.ireturn, 1) := by decide +kernel
set_option maxRecDepth 20000 in
theorem ggL_misread_X10_misread : GoodIn wsL_misread wsX10_misread := goodIn_ca (goodIn_ca (goodIn_r _ [6, 7, 8, 9, 10, 5, 11, 12, 13, 14, 15, 16, 17, 18, 19, 20, 21, 22, 23, 24, 25, 26, 27, 28, 29, 30, 31, 32, 33, 34, 35, 36, 37, 38, 39, 40, 41, 42, 43, 44, 45, 46, 47, 48, 49, 50, 51, 52, 53, 54, 55, 56, 57, 58, 59, 60, 61, 62, 63, 64, 65, 66] (by decide +kernel) (by decide +kernel)) (goodIn_sub (fun _ h => List.mem_cons_of_mem _ (List.mem_append_right _ h)) (by decide +kernel))) (goodIn_sub (fun _ h => List.mem_cons_of_mem _ (List.mem_append_left _ (List.mem_append_right _ h))) (by decide +kernel))
set_option maxRecDepth 20000 in
theorem gL_misread_X10_misread : GoodIn wsL_misread (wsV RL 97 RX10 yX10_misread wsX10_misread) := goodIn_app (goodIn_of _ (by decide +kernel)) ggL_misread_X10_misread
theorem dL_misread_0 : decode cL_misread 0 = .ok (.aload_n 2, 1) := by decide +kernel
theorem dL_misread_1 : decode cL_misread 1 = .ok (.iconst 0, 1) := by decide +kernel
theorem dL_misread_2 : decode cL_misread 2 = .ok (.aload_n 0, 1) := by decide +kernel
theorem dL_misread_3 : decode cL_misread 3 = .ok (.iload_n 1, 1) := by decide +kernel
theorem dL_misread_4 : decode cL_misread 4 = .ok (.invokevirtual 97, 3) := by decide +kernel
theorem dL_misread_7 : decode cL_misread 7 = .ok (.i2l, 1) := by decide +kernel
theorem dL_misread_8 : decode cL_misread 8 = .ok (.lastore, 1) := by decide +kernel
theorem dL_misread_9 : decode cL_misread 9 = .ok (.goto 6, 3) := by decide +kernel
theorem dL_misread_12 : decode cL_misread 12 = .ok (.astore_n 3, 1) := by decide +kernel
theorem dL_misread_13 : decode cL_misread 13 = .ok (.iconst 1, 1) := by decide +kernel
theorem dL_misread_14 : decode cL_misread 14 = .ok (.ireturn, 1) := by decide +kernel
theorem dL_misread_15 : decode cL_misread 15 = .ok (.iconst 0, 1) := by decide +kernel
theorem dL_misread_16 : decode cL_misread 16 = .ok (.ireturn, 1) := by decide +kernel
set_option maxRecDepth 20000 in
theorem ggL_votes_X10_votes : GoodIn wsL_votes wsX10_votes := goodIn_ca (goodIn_ca (goodIn_r _ [6, 7, 8, 9, 5, 10, 11, 12, 13, 14, 15, 16, 17, 18, 19, 20, 21, 22, 23, 24, 25, 26, 27, 28, 29, 30, 31, 32, 33, 34, 35, 36, 37, 38, 39, 40, 41, 42, 43, 44, 45, 46, 47, 48, 49, 50] (by decide +kernel) (by decide +kernel)) (goodIn_sub (fun _ h => List.mem_cons_of_mem _ (List.mem_append_right _ h)) (by decide +kernel))) (goodIn_sub (fun _ h => List.mem_cons_of_mem _ (List.mem_append_left _ (List.mem_append_right _ h))) (by decide +kernel))
set_option maxRecDepth 20000 in
theorem gL_votes_X10_votes : GoodIn wsL_votes (wsV RL 100 RX10 yX10_votes wsX10_votes) := goodIn_app (goodIn_of _ (by decide +kernel)) ggL_votes_X10_votes
theorem dL_votes_0 : decode cL_votes 0 = .ok (.aload_n 2, 1) := by decide +kernel
theorem dL_votes_1 : decode cL_votes 1 = .ok (.iconst 0, 1) := by decide +kernel
theorem dL_votes_2 : decode cL_votes 2 = .ok (.aload_n 0, 1) := by decide +kernel
theorem dL_votes_3 : decode cL_votes 3 = .ok (.iload_n 1, 1) := by decide +kernel
theorem dL_votes_4 : decode cL_votes 4 = .ok (.invokevirtual 100, 3) := by decide +kernel
theorem dL_votes_7 : decode cL_votes 7 = .ok (.i2l, 1) := by decide +kernel
theorem dL_votes_8 : decode cL_votes 8 = .ok (.lastore, 1) := by decide +kernel
theorem dL_votes_9 : decode cL_votes 9 = .ok (.goto 6, 3) := by decide +kernel
theorem dL_votes_12 : decode cL_votes 12 = .ok (.astore_n 3, 1) := by decide +kernel
theorem dL_votes_13 : decode cL_votes 13 = .ok (.iconst 1, 1) := by decide +kernel
theorem dL_votes_14 : decode cL_votes 14 = .ok (.ireturn, 1) := by decide +kernel
theorem dL_votes_15 : decode cL_votes 15 = .ok (.iconst 0, 1) := by decide +kernel
theorem dL_votes_16 : decode cL_votes 16 = .ok (.ireturn, 1) := by decide +kernel
set_option maxRecDepth 20000 in
theorem ggL_seats_X10_seats : GoodIn wsL_seats wsX10_seats := goodIn_ca (goodIn_ca (goodIn_r _ [6, 7, 8, 9, 10, 5, 11, 12, 13, 14, 15, 16, 17, 18, 19, 20, 21, 22, 23, 24, 25, 26, 27, 28, 29, 30, 31, 32, 33, 34, 35, 36, 37, 38, 39, 40, 41, 42, 43, 44, 45, 46, 47, 48, 49, 50, 51, 52, 53, 54, 55, 56, 57, 58, 59, 60, 61, 62, 63, 64, 65, 66, 67, 68, 69, 70, 71, 72, 73, 74, 75, 76, 77, 78, 79, 80, 81, 82, 83, 84, 85, 86, 87, 88, 89, 90, 91, 92, 93, 94, 95, 96, 97, 98, 99, 100, 101, 102, 103, 104, 105, 106, 107, 108] (by decide +kernel) (by decide +kernel)) (goodIn_sub (fun _ h => List.mem_cons_of_mem _ (List.mem_append_left _ (List.mem_append_right _ h))) (by decide +kernel))) (goodIn_sub (fun _ h => List.mem_cons_of_mem _ (List.mem_append_right _ h)) (by decide +kernel))
set_option maxRecDepth 20000 in
theorem gL_seats_X10_seats : GoodIn wsL_seats (wsV RL 103 RX10 yX10_seats wsX10_seats) := goodIn_app (goodIn_of _ (by decide +kernel)) ggL_seats_X10_seats
theorem dL_seats_0 : decode cL_seats 0 = .ok (.aload_n 2, 1) := by decide +kernel
theorem dL_seats_1 : decode cL_seats 1 = .ok (.iconst 0, 1) := by decide +kernel
theorem dL_seats_2 : decode cL_seats 2 = .ok (.aload_n 0, 1) := by decide +kernel
theorem dL_seats_3 : decode cL_seats 3 = .ok (.iload_n 1, 1) := by decide +kernel
theorem dL_seats_4 : decode cL_seats 4 = .ok (.invokevirtual 103, 3) := by decide +kernel
theorem dL_seats_7 : decode cL_seats 7 = .ok (.i2l, 1) := by decide +kernel
theorem dL_seats_8 : decode cL_seats 8 = .ok (.lastore, 1) := by decide +kernel
theorem dL_seats_9 : decode cL_seats 9 = .ok (.goto 6, 3) := by decide +kernel
theorem dL_seats_12 : decode cL_seats 12 = .ok (.astore_n 3, 1) := by decide +kernel
theorem dL_seats_13 : decode cL_seats 13 = .ok (.iconst 1, 1) := by decide +kernel
theorem dL_seats_14 : decode cL_seats 14 = .ok (.ireturn, 1) := by decide +kernel
theorem dL_seats_15 : decode cL_seats 15 = .ok (.iconst 0, 1) := by decide +kernel
theorem dL_seats_16 : decode cL_seats 16 = .ok (.ireturn, 1) := by decide +kernel
set_option maxRecDepth 20000 in
theorem ggL_seatAt_X10_seatAt : GoodIn wsL_seatAt wsX10_seatAt := goodIn_ca (goodIn_ca (goodIn_r _ [6, 7, 8, 9, 10, 11, 12, 13, 5, 14, 15, 16, 17, 18, 19, 20, 21, 22, 23, 24, 25, 26, 27, 28, 29, 30, 31, 32, 33, 34, 35, 36, 37, 38, 39, 40, 41, 42, 43, 44, 45, 46, 47, 48, 49, 50, 51, 52, 53, 54, 55, 56, 57, 58, 59, 60, 61, 62, 63, 64, 65, 66, 67, 68, 69, 70, 71, 72, 73, 74, 75, 76, 77, 78, 79, 80, 81, 82, 83, 84, 85, 86, 87, 88, 89, 90, 91, 92, 93, 94, 95, 96, 97, 98, 99, 100, 101, 102, 103, 104, 105, 106, 107, 108, 109] (by decide +kernel) (by decide +kernel)) (goodIn_sub (fun _ h => List.mem_cons_of_mem _ (List.mem_append_right _ h)) (by decide +kernel))) (goodIn_sub (fun _ h => List.mem_cons_of_mem _ (List.mem_append_left _ (List.mem_append_right _ h))) (by decide +kernel))
set_option maxRecDepth 20000 in
theorem gL_seatAt_X10_seatAt : GoodIn wsL_seatAt (wsV RL 106 RX10 yX10_seatAt wsX10_seatAt) := goodIn_app (goodIn_of _ (by decide +kernel)) ggL_seatAt_X10_seatAt
theorem dL_seatAt_0 : decode cL_seatAt 0 = .ok (.aload_n 2, 1) := by decide +kernel
theorem dL_seatAt_1 : decode cL_seatAt 1 = .ok (.iconst 0, 1) := by decide +kernel
theorem dL_seatAt_2 : decode cL_seatAt 2 = .ok (.aload_n 0, 1) := by decide +kernel
theorem dL_seatAt_3 : decode cL_seatAt 3 = .ok (.iload_n 1, 1) := by decide +kernel
theorem dL_seatAt_4 : decode cL_seatAt 4 = .ok (.invokevirtual 106, 3) := by decide +kernel
theorem dL_seatAt_7 : decode cL_seatAt 7 = .ok (.i2l, 1) := by decide +kernel
theorem dL_seatAt_8 : decode cL_seatAt 8 = .ok (.lastore, 1) := by decide +kernel
theorem dL_seatAt_9 : decode cL_seatAt 9 = .ok (.goto 6, 3) := by decide +kernel
theorem dL_seatAt_12 : decode cL_seatAt 12 = .ok (.astore_n 3, 1) := by decide +kernel
theorem dL_seatAt_13 : decode cL_seatAt 13 = .ok (.iconst 1, 1) := by decide +kernel
theorem dL_seatAt_14 : decode cL_seatAt 14 = .ok (.ireturn, 1) := by decide +kernel
theorem dL_seatAt_15 : decode cL_seatAt 15 = .ok (.iconst 0, 1) := by decide +kernel
theorem dL_seatAt_16 : decode cL_seatAt 16 = .ok (.ireturn, 1) := by decide +kernel
set_option maxRecDepth 20000 in
theorem ggL_seatsByBallots_X10_seatsByBallots : GoodIn wsL_seatsByBallots wsX10_seatsByBallots := goodIn_ca (goodIn_ca (goodIn_r _ [6, 7, 8, 9, 10, 5, 11, 12, 13, 14, 15, 16, 17, 18, 19, 20, 21, 22, 23, 24, 25, 26, 27, 28, 29, 30, 31, 32, 33, 34, 35, 36, 37, 38, 39, 40, 41, 42, 43, 44, 45, 46, 47, 48, 49, 50, 51, 52, 53, 54, 55, 56, 57, 58, 59, 60, 61, 62, 63, 64, 65, 66, 67, 68, 69, 70, 71, 72, 73, 74, 75, 76, 77, 78, 79, 80, 81, 82, 83, 84, 85, 86, 87, 88, 89, 90, 91, 92, 93, 94, 95, 96, 97, 98, 99, 100, 101, 102, 103, 104, 105, 106, 107, 108] (by decide +kernel) (by decide +kernel)) (goodIn_sub (fun _ h => List.mem_cons_of_mem _ (List.mem_append_left _ (List.mem_append_right _ h))) (by decide +kernel))) (goodIn_sub (fun _ h => List.mem_cons_of_mem _ (List.mem_append_right _ h)) (by decide +kernel))
set_option maxRecDepth 20000 in
theorem gL_seatsByBallots_X10_seatsByBallots : GoodIn wsL_seatsByBallots (wsV RL 109 RX10 yX10_seatsByBallots wsX10_seatsByBallots) := goodIn_app (goodIn_of _ (by decide +kernel)) ggL_seatsByBallots_X10_seatsByBallots
theorem dL_seatsByBallots_0 : decode cL_seatsByBallots 0 = .ok (.aload_n 2, 1) := by decide +kernel
theorem dL_seatsByBallots_1 : decode cL_seatsByBallots 1 = .ok (.iconst 0, 1) := by decide +kernel
theorem dL_seatsByBallots_2 : decode cL_seatsByBallots 2 = .ok (.aload_n 0, 1) := by decide +kernel
theorem dL_seatsByBallots_3 : decode cL_seatsByBallots 3 = .ok (.iload_n 1, 1) := by decide +kernel
theorem dL_seatsByBallots_4 : decode cL_seatsByBallots 4 = .ok (.invokevirtual 109, 3) := by decide +kernel
theorem dL_seatsByBallots_7 : decode cL_seatsByBallots 7 = .ok (.i2l, 1) := by decide +kernel
theorem dL_seatsByBallots_8 : decode cL_seatsByBallots 8 = .ok (.lastore, 1) := by decide +kernel
theorem dL_seatsByBallots_9 : decode cL_seatsByBallots 9 = .ok (.goto 6, 3) := by decide +kernel
theorem dL_seatsByBallots_12 : decode cL_seatsByBallots 12 = .ok (.astore_n 3, 1) := by decide +kernel
theorem dL_seatsByBallots_13 : decode cL_seatsByBallots 13 = .ok (.iconst 1, 1) := by decide +kernel
theorem dL_seatsByBallots_14 : decode cL_seatsByBallots 14 = .ok (.ireturn, 1) := by decide +kernel
theorem dL_seatsByBallots_15 : decode cL_seatsByBallots 15 = .ok (.iconst 0, 1) := by decide +kernel
theorem dL_seatsByBallots_16 : decode cL_seatsByBallots 16 = .ok (.ireturn, 1) := by decide +kernel
set_option maxRecDepth 20000 in
theorem ggL_signAt_X10_signAt : GoodIn wsL_signAt wsX10_signAt := goodIn_ca (goodIn_ca (goodIn_r _ [6, 7, 8, 9, 10, 11, 12, 13, 14, 15, 16, 17, 18, 19, 20, 21, 22, 23, 24, 25, 26, 27, 28, 29, 30, 31, 32, 33, 34, 35, 36, 37, 38, 39, 40, 41, 42, 43, 44, 45, 46, 47, 48, 49, 50, 51, 52, 53, 54, 55, 56, 57, 58, 59, 60, 61, 62, 63, 64, 65, 66, 67, 68, 69, 70, 71, 72, 73, 74, 75, 76, 77, 78, 79, 80, 81, 82, 83, 84, 85, 86, 87, 88, 89, 90, 91, 92, 93, 94, 95, 96, 97, 98, 99, 100, 101, 102, 103, 104, 105, 106, 107, 108, 109, 110, 111, 112, 113, 114, 115, 116, 117, 118, 119, 120, 121, 122, 123, 124, 125, 126, 127, 128, 129, 130, 131, 132, 133, 134, 135, 136, 137, 138, 139, 140, 141, 142, 143, 144, 145, 146, 147, 148, 149, 150, 151, 152, 153, 154, 155, 156, 157, 158, 159, 160, 161, 162, 163, 164, 165, 166, 167, 168, 169, 170, 171, 172, 173, 174, 175, 176, 177, 178, 179, 180, 181, 182, 183, 184, 185, 186, 187, 188, 189, 190, 191, 192, 193, 194, 195, 196, 197, 198, 199, 200, 201, 202, 203, 204, 205, 206, 207, 208, 209, 210, 211, 212, 213, 214, 215, 216, 217, 218, 219, 220, 221, 222, 223, 224, 225, 226, 227, 228, 229, 230, 231, 232, 233, 234, 235, 236, 237, 238, 239, 240, 241, 242, 243, 244, 245, 246, 247, 248, 249, 250, 251, 252, 253, 254, 255, 256, 257, 258, 259, 260] (by decide +kernel) (by decide +kernel)) (goodIn_sub (fun _ h => List.mem_cons_of_mem _ (List.mem_append_right _ h)) (by decide +kernel))) (goodIn_sub (fun _ h => List.mem_cons_of_mem _ (List.mem_append_left _ (List.mem_append_right _ h))) (by decide +kernel))
set_option maxRecDepth 20000 in
theorem gL_signAt_X10_signAt : GoodIn wsL_signAt (wsV RL 112 RX10 yX10_signAt wsX10_signAt) := goodIn_app (goodIn_of _ (by decide +kernel)) ggL_signAt_X10_signAt
theorem dL_signAt_0 : decode cL_signAt 0 = .ok (.aload_n 3, 1) := by decide +kernel
theorem dL_signAt_1 : decode cL_signAt 1 = .ok (.iconst 0, 1) := by decide +kernel
theorem dL_signAt_2 : decode cL_signAt 2 = .ok (.aload_n 0, 1) := by decide +kernel
theorem dL_signAt_3 : decode cL_signAt 3 = .ok (.iload_n 1, 1) := by decide +kernel
theorem dL_signAt_4 : decode cL_signAt 4 = .ok (.iload_n 2, 1) := by decide +kernel
theorem dL_signAt_5 : decode cL_signAt 5 = .ok (.invokevirtual 112, 3) := by decide +kernel
theorem dL_signAt_8 : decode cL_signAt 8 = .ok (.i2l, 1) := by decide +kernel
theorem dL_signAt_9 : decode cL_signAt 9 = .ok (.lastore, 1) := by decide +kernel
theorem dL_signAt_10 : decode cL_signAt 10 = .ok (.goto 7, 3) := by decide +kernel
theorem dL_signAt_13 : decode cL_signAt 13 = .ok (.astore 4, 2) := by decide +kernel
theorem dL_signAt_15 : decode cL_signAt 15 = .ok (.iconst 1, 1) := by decide +kernel
theorem dL_signAt_16 : decode cL_signAt 16 = .ok (.ireturn, 1) := by decide +kernel
theorem dL_signAt_17 : decode cL_signAt 17 = .ok (.iconst 0, 1) := by decide +kernel
theorem dL_signAt_18 : decode cL_signAt 18 = .ok (.ireturn, 1) := by decide +kernel
set_option maxRecDepth 20000 in
theorem ggL_law_X10_init : GoodIn wsL_law wsX10_init := goodIn_r _ [9, 10, 11, 12, 13, 14, 15, 16, 17, 18, 19, 20, 21, 22, 23, 24, 25, 26, 27, 28, 29, 30, 31, 32, 33, 34, 35, 36, 37, 38, 39, 40, 41, 42, 43, 44, 45, 46, 47, 48, 49, 50, 51, 52, 53, 54, 55, 56, 57, 58, 59, 60, 61, 62, 63, 64, 65, 66, 67, 68, 69, 70, 71, 72, 73, 74, 75, 76, 77, 78, 79, 80, 81, 82, 83, 84, 85, 86, 87, 88, 89, 90, 91, 92, 93, 94, 95, 96, 97, 98, 99, 100, 101, 102, 103, 104, 105, 106, 107, 108, 109, 110, 111, 112, 113, 114, 115, 116, 117, 118, 119, 120, 121, 122, 123, 124, 125, 126, 127, 128, 129, 130, 131, 132, 133, 134, 135, 136, 137, 138, 139, 140, 141, 142, 143, 144, 145, 146, 147, 148, 149, 150, 151, 1206, 1207, 1208, 1154, 1155, 1156, 1157, 1158, 1159, 1160, 1161, 1209, 1210, 1211, 1212, 1213, 1214, 1215, 1216, 1217, 1218, 1219, 1220, 1221, 1222, 1223, 1224, 1225, 1226, 1227, 1228, 1229, 1230, 1231, 1232, 1233, 1234, 1235, 1236, 1237, 1238, 1239, 1240, 1241, 1242, 1243, 1244, 1245, 1246, 1247, 1248, 1249, 1250, 1251, 1252, 1253] (by decide +kernel) (by decide +kernel)
set_option maxRecDepth 20000 in
theorem gL_law_X10_init : GoodIn wsL_law (wsX10_init) := ggL_law_X10_init
set_option maxRecDepth 20000 in
theorem ggL_law_X11_init : GoodIn wsL_law wsX11_init := goodIn_ca (goodIn_r _ [154, 155, 11, 12, 40, 156, 24, 157, 158, 159, 160, 161, 162, 163, 164, 165, 166, 167, 168, 169, 170, 171, 172, 173, 174, 175, 176, 177, 178, 179, 180, 181, 182, 183, 184, 185, 186, 187, 188, 189, 5, 190, 191, 192, 193, 1162, 1163, 1164, 1165, 1166, 1167, 1168, 1169, 1170, 1171, 1172, 1173, 1174, 1175, 1176, 1177, 1178, 1179, 1180, 1181, 1182, 1183, 1184, 1185, 1186, 1187, 1188, 1189, 1190, 1191, 1192, 1193, 1194, 1195, 1196, 1197, 1198, 1199, 1200, 1201, 1202, 1203, 1204, 1205] (by decide +kernel) (by decide +kernel)) (goodIn_sub (fun _ h => List.mem_append_left _ (List.mem_append_left _ (List.mem_append_left _ (List.mem_append_right _ h)))) (by decide +kernel))
set_option maxRecDepth 20000 in
theorem gL_law_X11_init : GoodIn wsL_law (wsX11_init) := ggL_law_X11_init
set_option maxRecDepth 20000 in
theorem ggL_law_L_bar : GoodIn wsL_law wsL_bar := goodIn_ca (goodIn_ca (goodIn_ca (goodIn_r _ [197, 198, 199, 200, 201, 202, 2, 203, 204, 205, 16, 206, 207, 208, 209, 210, 211, 212, 15, 213, 214, 215, 216, 217, 41, 1154, 1155, 1156, 1157, 1158, 1159, 1160, 1161, 1206, 1207, 1208] (by decide +kernel) (by decide +kernel)) (goodIn_sub (fun _ h => List.mem_append_left _ (List.mem_append_left _ (List.mem_append_left _ (List.mem_append_right _ h)))) (by decide +kernel))) (goodIn_sub (fun _ h => List.mem_append_left _ (List.mem_append_left _ (List.mem_append_right _ h))) (by decide +kernel))) (goodIn_sub (fun _ h => List.mem_append_left _ (List.mem_append_right _ h)) (by decide +kernel))
set_option maxRecDepth 20000 in
theorem gL_law_L_bar : GoodIn wsL_law (va_wsS RL 119 yL_bar wsL_bar) := goodIn_app (goodIn_of _ (by decide +kernel)) ggL_law_L_bar
set_option maxRecDepth 20000 in
theorem ggL_law_X11_bar : GoodIn wsL_law wsX11_bar := goodIn_ca (goodIn_r _ [221, 156, 222, 223, 5, 224, 225, 226, 227, 228, 229, 230, 231, 232, 233, 234, 235, 1162, 1163, 1164, 1165, 1166, 1167, 1168, 1169, 1170, 1171, 1172, 1173, 1174, 1175, 1176, 1177, 1178, 1179, 1180, 1181, 1182, 1183, 1184, 1185, 1186, 1187, 1188, 1189, 1190, 1191, 1192, 1193, 1194, 1195, 1196, 1197, 1198, 1199, 1200, 1201, 1202, 1203, 1204, 1205] (by decide +kernel) (by decide +kernel)) (goodIn_sub (fun _ h => List.mem_append_left _ (List.mem_append_left _ (List.mem_append_left _ (List.mem_append_right _ h)))) (by decide +kernel))
set_option maxRecDepth 20000 in
theorem gL_law_X11_bar : GoodIn wsL_law (wsV RL 124 RX11 yX11_bar wsX11_bar) := goodIn_app (goodIn_of _ (by decide +kernel)) ggL_law_X11_bar
set_option maxRecDepth 20000 in
theorem ggL_law_X11_thrown : GoodIn wsL_law wsX11_thrown := goodIn_r _ [239, 235, 1162, 1163, 1164, 1165, 1166, 1167, 1168, 1169, 1170, 1171, 1172, 1173, 1174, 1175, 1176, 1177, 1178, 1179, 1180, 1181, 1182, 1183, 1184, 1185, 1186, 1187, 1188, 1189, 1190, 1191, 1192, 1193, 1194, 1195, 1196, 1197, 1198, 1199, 1200, 1201, 1202, 1203, 1204, 1205] (by decide +kernel) (by decide +kernel)
set_option maxRecDepth 20000 in
theorem gL_law_X11_thrown : GoodIn wsL_law (wsV RL 125 RX11 yX11_thrown wsX11_thrown) := goodIn_app (goodIn_of _ (by decide +kernel)) ggL_law_X11_thrown
set_option maxRecDepth 20000 in
theorem ggL_law_L_way : GoodIn wsL_law wsL_way := goodIn_ca (goodIn_ca (goodIn_r _ [242, 198, 243, 244, 245, 2, 246, 16, 206, 207, 208, 209, 210, 247, 248, 249, 15, 250, 42, 43, 251, 84, 85, 86, 252, 253, 254, 255, 41, 256, 212, 213, 257, 258, 259, 260, 1154, 1155, 1156, 1157, 1158, 1159, 1160, 1161, 1206, 1207, 1208] (by decide +kernel) (by decide +kernel)) (goodIn_sub (fun _ h => List.mem_append_left _ (List.mem_append_left _ (List.mem_append_left _ (List.mem_append_right _ h)))) (by decide +kernel))) (goodIn_sub (fun _ h => List.mem_append_left _ (List.mem_append_right _ h)) (by decide +kernel))
set_option maxRecDepth 20000 in
theorem gL_law_L_way : GoodIn wsL_law (va_wsS RL 129 yL_way wsL_way) := goodIn_app (goodIn_of _ (by decide +kernel)) ggL_law_L_way
set_option maxRecDepth 20000 in
theorem ggL_law_X11_way : GoodIn wsL_law wsX11_way := goodIn_ca (goodIn_r _ [264, 157, 222, 223, 5, 224, 225, 226, 227, 265, 266, 267, 268, 235, 269, 270, 271, 272, 158, 156, 228, 229, 230, 1162, 1163, 1164, 1165, 1166, 1167, 1168, 1169, 1170, 1171, 1172, 1173, 1174, 1175, 1176, 1177, 1178, 1179, 1180, 1181, 1182, 1183, 1184, 1185, 1186, 1187, 1188, 1189, 1190, 1191, 1192, 1193, 1194, 1195, 1196, 1197, 1198, 1199, 1200, 1201, 1202, 1203, 1204, 1205] (by decide +kernel) (by decide +kernel)) (goodIn_sub (fun _ h => List.mem_append_left _ (List.mem_append_left _ (List.mem_append_left _ (List.mem_append_right _ h)))) (by decide +kernel))
set_option maxRecDepth 20000 in
theorem gL_law_X11_way : GoodIn wsL_law (wsV RL 132 RX11 yX11_way wsX11_way) := goodIn_app (goodIn_of _ (by decide +kernel)) ggL_law_X11_way
set_option maxRecDepth 20000 in
theorem ggL_law_L_station : GoodIn wsL_law wsL_station := goodIn_ca (goodIn_ca (goodIn_ca (goodIn_ca (goodIn_r _ [275, 198, 199, 276, 277, 278, 279, 2, 280, 281, 282, 23, 206, 207, 208, 209, 210, 283, 284, 285, 204, 205, 286, 287, 288, 22, 289, 49, 47, 48, 1154, 1155, 1156, 1157, 1158, 1159, 1160, 1161, 1209, 1210, 1211] (by decide +kernel) (by decide +kernel)) (goodIn_sub (fun _ h => List.mem_append_left _ (List.mem_append_left _ (List.mem_append_left _ (List.mem_append_right _ h)))) (by decide +kernel))) (goodIn_sub (fun _ h => List.mem_append_right _ h) (by decide +kernel))) (goodIn_sub (fun _ h => List.mem_append_left _ (List.mem_append_right _ h)) (by decide +kernel))) (goodIn_sub (fun _ h => List.mem_append_left _ (List.mem_append_left _ (List.mem_append_right _ h))) (by decide +kernel))
set_option maxRecDepth 20000 in
theorem gL_law_L_station : GoodIn wsL_law (va_wsS RL 133 yL_station wsL_station) := goodIn_app (goodIn_of _ (by decide +kernel)) ggL_law_L_station
set_option maxRecDepth 20000 in
theorem ggL_law_X11_station : GoodIn wsL_law wsX11_station := goodIn_ca (goodIn_r _ [293, 294, 159, 160, 222, 223, 5, 224, 225, 226, 227, 295, 296, 297, 298, 235, 1162, 1163, 1164, 1165, 1166, 1167, 1168, 1169, 1170, 1171, 1172, 1173, 1174, 1175, 1176, 1177, 1178, 1179, 1180, 1181, 1182, 1183, 1184, 1185, 1186, 1187, 1188, 1189, 1190, 1191, 1192, 1193, 1194, 1195, 1196, 1197, 1198, 1199, 1200, 1201, 1202, 1203, 1204, 1205] (by decide +kernel) (by decide +kernel)) (goodIn_sub (fun _ h => List.mem_append_left _ (List.mem_append_left _ (List.mem_append_left _ (List.mem_append_right _ h)))) (by decide +kernel))
set_option maxRecDepth 20000 in
theorem gL_law_X11_station : GoodIn wsL_law (wsV RL 135 RX11 yX11_station wsX11_station) := goodIn_app (goodIn_of _ (by decide +kernel)) ggL_law_X11_station
set_option maxRecDepth 20000 in
theorem ggL_law_L_setSeats : GoodIn wsL_law wsL_setSeats := goodIn_ca (goodIn_ca (goodIn_ca (goodIn_r _ [301, 198, 199, 302, 303, 304, 2, 305, 23, 306, 307, 308, 309, 209, 210, 283, 284, 285, 204, 205, 1154, 1155, 1156, 1157, 1158, 1159, 1160, 1161, 1209, 1210, 1211] (by decide +kernel) (by decide +kernel)) (goodIn_sub (fun _ h => List.mem_append_left _ (List.mem_append_left _ (List.mem_append_left _ (List.mem_append_right _ h)))) (by decide +kernel))) (goodIn_sub (fun _ h => List.mem_append_left _ (List.mem_append_right _ h)) (by decide +kernel))) (goodIn_sub (fun _ h => List.mem_append_left _ (List.mem_append_left _ (List.mem_append_right _ h))) (by decide +kernel))
set_option maxRecDepth 20000 in
theorem gL_law_L_setSeats : GoodIn wsL_law (va_wsS RL 136 yL_setSeats wsL_setSeats) := goodIn_app (goodIn_of _ (by decide +kernel)) ggL_law_L_setSeats
set_option maxRecDepth 20000 in
theorem ggL_law_X11_setSeats : GoodIn wsL_law wsX11_setSeats := goodIn_ca (goodIn_r _ [313, 160, 314, 315, 316, 5, 317, 294, 225, 226, 227, 231, 232, 233, 234, 235, 1162, 1163, 1164, 1165, 1166, 1167, 1168, 1169, 1170, 1171, 1172, 1173, 1174, 1175, 1176, 1177, 1178, 1179, 1180, 1181, 1182, 1183, 1184, 1185, 1186, 1187, 1188, 1189, 1190, 1191, 1192, 1193, 1194, 1195, 1196, 1197, 1198, 1199, 1200, 1201, 1202, 1203, 1204, 1205] (by decide +kernel) (by decide +kernel)) (goodIn_sub (fun _ h => List.mem_append_left _ (List.mem_append_left _ (List.mem_append_left _ (List.mem_append_right _ h)))) (by decide +kernel))
set_option maxRecDepth 20000 in
theorem gL_law_X11_setSeats : GoodIn wsL_law (wsV RL 138 RX11 yX11_setSeats wsX11_setSeats) := goodIn_app (goodIn_of _ (by decide +kernel)) ggL_law_X11_setSeats
set_option maxRecDepth 20000 in
theorem ggL_law_L_person : GoodIn wsL_law wsL_person := goodIn_ca (goodIn_ca (goodIn_ca (goodIn_ca (goodIn_r _ [320, 198, 199, 276, 321, 322, 323, 2, 324, 281, 282, 19, 18, 325, 326, 327, 26, 206, 207, 208, 209, 210, 283, 284, 285, 204, 205, 328, 329, 330, 331, 11, 12, 332, 333, 334, 1154, 1155, 1156, 1157, 1158, 1159, 1160, 1161, 1229, 1230, 1231, 1254, 1255, 1256] (by decide +kernel) (by decide +kernel)) (goodIn_sub (fun _ h => List.mem_append_left _ (List.mem_append_left _ (List.mem_append_left _ (List.mem_append_right _ h)))) (by decide +kernel))) (goodIn_sub (fun _ h => List.mem_append_right _ h) (by decide +kernel))) (goodIn_sub (fun _ h => List.mem_append_left _ (List.mem_append_right _ h)) (by decide +kernel))) (goodIn_sub (fun _ h => List.mem_append_left _ (List.mem_append_left _ (List.mem_append_right _ h))) (by decide +kernel))
set_option maxRecDepth 20000 in
theorem gL_law_L_person : GoodIn wsL_law (va_wsS RL 139 yL_person wsL_person) := goodIn_app (goodIn_of _ (by decide +kernel)) ggL_law_L_person
set_option maxRecDepth 20000 in
theorem ggL_law_X11_person : GoodIn wsL_law wsX11_person := goodIn_ca (goodIn_r _ [338, 339, 161, 222, 223, 5, 224, 225, 226, 227, 295, 296, 297, 298, 235, 340, 341, 342, 343, 163, 344, 164, 345, 165, 1162, 1163, 1164, 1165, 1166, 1167, 1168, 1169, 1170, 1171, 1172, 1173, 1174, 1175, 1176, 1177, 1178, 1179, 1180, 1181, 1182, 1183, 1184, 1185, 1186, 1187, 1188, 1189, 1190, 1191, 1192, 1193, 1194, 1195, 1196, 1197, 1198, 1199, 1200, 1201, 1202, 1203, 1204, 1205] (by decide +kernel) (by decide +kernel)) (goodIn_sub (fun _ h => List.mem_append_left _ (List.mem_append_left _ (List.mem_append_left _ (List.mem_append_right _ h)))) (by decide +kernel))
set_option maxRecDepth 20000 in
theorem gL_law_X11_person : GoodIn wsL_law (wsV RL 141 RX11 yX11_person wsX11_person) := goodIn_app (goodIn_of _ (by decide +kernel)) ggL_law_X11_person
set_option maxRecDepth 20000 in
theorem ggL_law_L_move : GoodIn wsL_law wsL_move := goodIn_ca (goodIn_ca (goodIn_ca (goodIn_r _ [348, 198, 276, 349, 350, 351, 2, 352, 26, 325, 326, 327, 353, 354, 355, 356, 18, 357, 358, 359, 360, 209, 210, 19, 206, 207, 208, 361, 362, 363, 281, 282, 364, 365, 366, 36, 367, 150, 328, 329, 330, 331, 11, 12, 332, 333, 334, 1154, 1155, 1156, 1157, 1158, 1159, 1160, 1161, 1254, 1255, 1256, 1229, 1230, 1231] (by decide +kernel) (by decide +kernel)) (goodIn_sub (fun _ h => List.mem_append_left _ (List.mem_append_left _ (List.mem_append_left _ (List.mem_append_right _ h)))) (by decide +kernel))) (goodIn_sub (fun _ h => List.mem_append_left _ (List.mem_append_right _ h)) (by decide +kernel))) (goodIn_sub (fun _ h => List.mem_append_right _ h) (by decide +kernel))
set_option maxRecDepth 20000 in
theorem gL_law_L_move : GoodIn wsL_law (va_wsS RL 142 yL_move wsL_move) := goodIn_app (goodIn_of _ (by decide +kernel)) ggL_law_L_move
set_option maxRecDepth 20000 in
theorem ggL_law_X11_move : GoodIn wsL_law wsX11_move := goodIn_ca (goodIn_r _ [371, 162, 345, 372, 373, 374, 5, 375, 339, 225, 226, 227, 222, 223, 224, 231, 232, 233, 234, 235, 376, 377, 378, 379, 344, 163, 164, 165, 340, 341, 342, 343, 1162, 1163, 1164, 1165, 1166, 1167, 1168, 1169, 1170, 1171, 1172, 1173, 1174, 1175, 1176, 1177, 1178, 1179, 1180, 1181, 1182, 1183, 1184, 1185, 1186, 1187, 1188, 1189, 1190, 1191, 1192, 1193, 1194, 1195, 1196, 1197, 1198, 1199, 1200, 1201, 1202, 1203, 1204, 1205] (by decide +kernel) (by decide +kernel)) (goodIn_sub (fun _ h => List.mem_append_left _ (List.mem_append_left _ (List.mem_append_left _ (List.mem_append_right _ h)))) (by decide +kernel))
set_option maxRecDepth 20000 in
theorem gL_law_X11_move : GoodIn wsL_law (wsV RL 144 RX11 yX11_move wsX11_move) := goodIn_app (goodIn_of _ (by decide +kernel)) ggL_law_X11_move
set_option maxRecDepth 20000 in
theorem ggL_law_L_die : GoodIn wsL_law wsL_die := goodIn_ca (goodIn_ca (goodIn_ca (goodIn_r _ [382, 198, 276, 383, 384, 385, 2, 386, 353, 354, 355, 356, 18, 357, 358, 359, 360, 209, 210, 19, 361, 362, 363, 281, 282, 387, 388, 389, 390, 30, 26, 391, 392, 393, 66, 394, 93, 90, 92, 395, 396, 397, 72, 398, 105, 97, 99, 100, 1229, 1230, 1231, 1154, 1155, 1156, 1157, 1158, 1159, 1160, 1161, 1212, 1213, 1214, 1215, 1216, 1217, 1218, 1219, 1220, 1221, 1235, 1236, 1237, 1238, 1239, 1240, 1241, 1242, 1243] (by decide +kernel) (by decide +kernel)) (goodIn_sub (fun _ h => List.mem_append_left _ (List.mem_append_left _ (List.mem_append_left _ (List.mem_append_right _ h)))) (by decide +kernel))) (goodIn_sub (fun _ h => List.mem_append_left _ (List.mem_append_right _ h)) (by decide +kernel))) (goodIn_sub (fun _ h => List.mem_append_right _ h) (by decide +kernel))
set_option maxRecDepth 20000 in
theorem gL_law_L_die : GoodIn wsL_law (va_wsS RL 145 yL_die wsL_die) := goodIn_app (goodIn_of _ (by decide +kernel)) ggL_law_L_die
set_option maxRecDepth 20000 in
theorem ggL_law_X11_die : GoodIn wsL_law wsX11_die := goodIn_ca (goodIn_r _ [402, 162, 372, 373, 374, 5, 375, 339, 225, 226, 227, 231, 232, 233, 234, 235, 403, 404, 405, 406, 173, 345, 407, 408, 409, 410, 192, 171, 411, 412, 413, 414, 184, 193, 185, 186, 1162, 1163, 1164, 1165, 1166, 1167, 1168, 1169, 1170, 1171, 1172, 1173, 1174, 1175, 1176, 1177, 1178, 1179, 1180, 1181, 1182, 1183, 1184, 1185, 1186, 1187, 1188, 1189, 1190, 1191, 1192, 1193, 1194, 1195, 1196, 1197, 1198, 1199, 1200, 1201, 1202, 1203, 1204, 1205] (by decide +kernel) (by decide +kernel)) (goodIn_sub (fun _ h => List.mem_append_left _ (List.mem_append_left _ (List.mem_append_left _ (List.mem_append_right _ h)))) (by decide +kernel))
set_option maxRecDepth 20000 in
theorem gL_law_X11_die : GoodIn wsL_law (wsV RL 148 RX11 yX11_die wsX11_die) := goodIn_app (goodIn_of _ (by decide +kernel)) ggL_law_X11_die
set_option maxRecDepth 20000 in
theorem ggL_law_L_dwells : GoodIn wsL_law wsL_dwells := goodIn_ca (goodIn_ca (goodIn_ca (goodIn_r _ [417, 198, 199, 418, 419, 420, 2, 421, 26, 353, 354, 355, 356, 18, 357, 358, 359, 360, 209, 210, 19, 283, 284, 285, 204, 205, 364, 365, 366, 36, 367, 150, 1154, 1155, 1156, 1157, 1158, 1159, 1160, 1161, 1229, 1230, 1231, 1254, 1255, 1256] (by decide +kernel) (by decide +kernel)) (goodIn_sub (fun _ h => List.mem_append_left _ (List.mem_append_left _ (List.mem_append_left _ (List.mem_append_right _ h)))) (by decide +kernel))) (goodIn_sub (fun _ h => List.mem_append_left _ (List.mem_append_right _ h)) (by decide +kernel))) (goodIn_sub (fun _ h => List.mem_append_left _ (List.mem_append_left _ (List.mem_append_right _ h))) (by decide +kernel))
set_option maxRecDepth 20000 in
theorem gL_law_L_dwells : GoodIn wsL_law (va_wsS RL 149 yL_dwells wsL_dwells) := goodIn_app (goodIn_of _ (by decide +kernel)) ggL_law_L_dwells
set_option maxRecDepth 20000 in
theorem ggL_law_X11_dwells : GoodIn wsL_law wsX11_dwells := goodIn_ca (goodIn_r _ [425, 345, 372, 373, 374, 5, 375, 339, 225, 226, 227, 231, 232, 233, 234, 235, 376, 377, 378, 379, 344, 163, 164, 165, 1162, 1163, 1164, 1165, 1166, 1167, 1168, 1169, 1170, 1171, 1172, 1173, 1174, 1175, 1176, 1177, 1178, 1179, 1180, 1181, 1182, 1183, 1184, 1185, 1186, 1187, 1188, 1189, 1190, 1191, 1192, 1193, 1194, 1195, 1196, 1197, 1198, 1199, 1200, 1201, 1202, 1203, 1204, 1205] (by decide +kernel) (by decide +kernel)) (goodIn_sub (fun _ h => List.mem_append_left _ (List.mem_append_left _ (List.mem_append_left _ (List.mem_append_right _ h)))) (by decide +kernel))
set_option maxRecDepth 20000 in
theorem gL_law_X11_dwells : GoodIn wsL_law (wsV RL 151 RX11 yX11_dwells wsX11_dwells) := goodIn_app (goodIn_of _ (by decide +kernel)) ggL_law_X11_dwells
set_option maxRecDepth 20000 in
theorem ggL_law_L_call : GoodIn wsL_law wsL_call := goodIn_ca (goodIn_ca (goodIn_ca (goodIn_r _ [428, 199, 276, 429, 430, 431, 2, 432, 281, 282, 30, 23, 26, 283, 284, 285, 204, 205, 433, 434, 435, 29, 436, 54, 55, 56, 57, 58, 59, 63, 67, 69, 73, 437, 84, 85, 86, 438, 439, 440, 62, 441, 80, 81, 82, 83, 442, 443, 444, 75, 445, 130, 134, 135, 1154, 1155, 1156, 1157, 1158, 1159, 1160, 1161, 1212, 1213, 1214, 1215, 1216, 1217, 1218, 1219, 1220, 1221, 1209, 1210, 1211, 1235, 1236, 1237, 1238, 1239, 1240, 1241, 1242, 1243, 1232, 1233, 1234, 1244, 1245, 1246, 1247, 1248, 1249] (by decide +kernel) (by decide +kernel)) (goodIn_sub (fun _ h => List.mem_append_left _ (List.mem_append_left _ (List.mem_append_left _ (List.mem_append_right _ h)))) (by decide +kernel))) (goodIn_sub (fun _ h => List.mem_append_right _ h) (by decide +kernel))) (goodIn_sub (fun _ h => List.mem_append_left _ (List.mem_append_left _ (List.mem_append_right _ h))) (by decide +kernel))
set_option maxRecDepth 20000 in
theorem gL_law_L_call : GoodIn wsL_law (va_wsS RL 152 yL_call wsL_call) := goodIn_app (goodIn_of _ (by decide +kernel)) ggL_law_L_call
set_option maxRecDepth 20000 in
theorem ggL_law_X11_call : GoodIn wsL_law wsX11_call := goodIn_ca (goodIn_r _ [449, 166, 294, 345, 450, 451, 452, 225, 226, 5, 227, 231, 232, 233, 234, 235, 187, 188, 189, 190, 191, 192, 193, 168, 170, 167, 169, 175, 178, 179, 1162, 1163, 1164, 1165, 1166, 1167, 1168, 1169, 1170, 1171, 1172, 1173, 1174, 1175, 1176, 1177, 1178, 1179, 1180, 1181, 1182, 1183, 1184, 1185, 1186, 1187, 1188, 1189, 1190, 1191, 1192, 1193, 1194, 1195, 1196, 1197, 1198, 1199, 1200, 1201, 1202, 1203, 1204, 1205] (by decide +kernel) (by decide +kernel)) (goodIn_sub (fun _ h => List.mem_append_left _ (List.mem_append_left _ (List.mem_append_left _ (List.mem_append_right _ h)))) (by decide +kernel))
set_option maxRecDepth 20000 in
theorem gL_law_X11_call : GoodIn wsL_law (wsV RL 154 RX11 yX11_call wsX11_call) := goodIn_app (goodIn_of _ (by decide +kernel)) ggL_law_X11_call
set_option maxRecDepth 20000 in
theorem ggL_law_L_seed : GoodIn wsL_law wsL_seed := goodIn_ca (goodIn_ca (goodIn_ca (goodIn_ca (goodIn_r _ [455, 198, 199, 276, 456, 457, 458, 2, 459, 281, 282, 30, 460, 461, 462, 209, 210, 283, 284, 285, 204, 205, 1154, 1155, 1156, 1157, 1158, 1159, 1160, 1161, 1212, 1213, 1214, 1215, 1216, 1217, 1218, 1219, 1220, 1221] (by decide +kernel) (by decide +kernel)) (goodIn_sub (fun _ h => List.mem_append_left _ (List.mem_append_left _ (List.mem_append_left _ (List.mem_append_right _ h)))) (by decide +kernel))) (goodIn_sub (fun _ h => List.mem_append_right _ h) (by decide +kernel))) (goodIn_sub (fun _ h => List.mem_append_left _ (List.mem_append_right _ h)) (by decide +kernel))) (goodIn_sub (fun _ h => List.mem_append_left _ (List.mem_append_left _ (List.mem_append_right _ h))) (by decide +kernel))
set_option maxRecDepth 20000 in
theorem gL_law_L_seed : GoodIn wsL_law (va_wsS RL 155 yL_seed wsL_seed) := goodIn_app (goodIn_of _ (by decide +kernel)) ggL_law_L_seed
set_option maxRecDepth 20000 in
theorem ggL_law_X11_seed : GoodIn wsL_law wsX11_seed := goodIn_ca (goodIn_r _ [466, 166, 167, 225, 226, 5, 227, 295, 296, 297, 298, 235, 1162, 1163, 1164, 1165, 1166, 1167, 1168, 1169, 1170, 1171, 1172, 1173, 1174, 1175, 1176, 1177, 1178, 1179, 1180, 1181, 1182, 1183, 1184, 1185, 1186, 1187, 1188, 1189, 1190, 1191, 1192, 1193, 1194, 1195, 1196, 1197, 1198, 1199, 1200, 1201, 1202, 1203, 1204, 1205] (by decide +kernel) (by decide +kernel)) (goodIn_sub (fun _ h => List.mem_append_left _ (List.mem_append_left _ (List.mem_append_left _ (List.mem_append_right _ h)))) (by decide +kernel))
set_option maxRecDepth 20000 in
theorem gL_law_X11_seed : GoodIn wsL_law (wsV RL 157 RX11 yX11_seed wsX11_seed) := goodIn_app (goodIn_of _ (by decide +kernel)) ggL_law_X11_seed
set_option maxRecDepth 20000 in
theorem ggL_law_L_advance : GoodIn wsL_law wsL_advance := goodIn_ca (goodIn_ca (goodIn_ca (goodIn_r _ [469, 199, 276, 470, 471, 472, 2, 473, 281, 282, 26, 283, 284, 285, 204, 205, 474, 475, 476, 477, 30, 478, 479, 480, 481, 23, 19, 18, 16, 364, 365, 366, 36, 367, 150, 247, 248, 249, 15, 250, 42, 43, 251, 84, 85, 86, 252, 253, 254, 255, 41, 256, 212, 213, 482, 483, 484, 485, 486, 487, 488, 489, 257, 258, 259, 260, 490, 491, 492, 62, 493, 81, 494, 495, 496, 497, 498, 499, 500, 501, 80, 502, 503, 504, 29, 505, 67, 506, 507, 508, 509, 73, 55, 510, 396, 397, 72, 398, 105, 97, 99, 100, 511, 512, 513, 514, 63, 69, 515, 516, 517, 518, 519, 520, 521, 75, 522, 130, 129, 1154, 1155, 1156, 1157, 1158, 1159, 1160, 1161, 1212, 1213, 1214, 1215, 1216, 1217, 1218, 1219, 1220, 1221, 1209, 1210, 1211, 1229, 1230, 1231, 1254, 1255, 1256, 1206, 1207, 1208, 1232, 1233, 1234, 1235, 1236, 1237, 1238, 1239, 1240, 1241, 1242, 1243, 1244, 1245, 1246, 1247, 1248, 1249] (by decide +kernel) (by decide +kernel)) (goodIn_sub (fun _ h => List.mem_append_left _ (List.mem_append_left _ (List.mem_append_left _ (List.mem_append_right _ h)))) (by decide +kernel))) (goodIn_sub (fun _ h => List.mem_append_right _ h) (by decide +kernel))) (goodIn_sub (fun _ h => List.mem_append_left _ (List.mem_append_left _ (List.mem_append_right _ h))) (by decide +kernel))
set_option maxRecDepth 20000 in
theorem gL_law_L_advance : GoodIn wsL_law (va_wsS RL 158 yL_advance wsL_advance) := goodIn_app (goodIn_of _ (by decide +kernel)) ggL_law_L_advance
set_option maxRecDepth 20000 in
theorem ggL_law_X11_advance : GoodIn wsL_law wsX11_advance := goodIn_ca (goodIn_r _ [526, 345, 166, 450, 225, 226, 5, 227, 231, 232, 233, 234, 235, 527, 528, 529, 530, 294, 191, 339, 162, 161, 168, 169, 376, 377, 378, 379, 344, 163, 164, 165, 269, 270, 271, 272, 157, 158, 156, 228, 229, 230, 531, 532, 533, 534, 159, 160, 535, 536, 537, 538, 192, 173, 171, 172, 539, 540, 541, 542, 174, 175, 170, 411, 412, 413, 414, 184, 193, 185, 186, 1162, 1163, 1164, 1165, 1166, 1167, 1168, 1169, 1170, 1171, 1172, 1173, 1174, 1175, 1176, 1177, 1178, 1179, 1180, 1181, 1182, 1183, 1184, 1185, 1186, 1187, 1188, 1189, 1190, 1191, 1192, 1193, 1194, 1195, 1196, 1197, 1198, 1199, 1200, 1201, 1202, 1203, 1204, 1205] (by decide +kernel) (by decide +kernel)) (goodIn_sub (fun _ h => List.mem_append_left _ (List.mem_append_left _ (List.mem_append_left _ (List.mem_append_right _ h)))) (by decide +kernel))
set_option maxRecDepth 20000 in
theorem gL_law_X11_advance : GoodIn wsL_law (wsV RL 160 RX11 yX11_advance wsX11_advance) := goodIn_app (goodIn_of _ (by decide +kernel)) ggL_law_X11_advance
set_option maxRecDepth 20000 in
theorem ggL_law_X10_today : GoodIn wsL_law wsX10_today := goodIn_r _ [546, 26, 1154, 1155, 1156, 1157, 1158, 1159, 1160, 1161] (by decide +kernel) (by decide +kernel)
set_option maxRecDepth 20000 in
theorem gL_law_X10_today : GoodIn wsL_law (wsV RL 161 RX10 yX10_today wsX10_today) := goodIn_app (goodIn_of _ (by decide +kernel)) ggL_law_X10_today
set_option maxRecDepth 20000 in
theorem ggL_law_X11_today : GoodIn wsL_law wsX11_today := goodIn_r _ [550, 345, 551, 552, 553, 5, 554, 235, 1162, 1163, 1164, 1165, 1166, 1167, 1168, 1169, 1170, 1171, 1172, 1173, 1174, 1175, 1176, 1177, 1178, 1179, 1180, 1181, 1182, 1183, 1184, 1185, 1186, 1187, 1188, 1189, 1190, 1191, 1192, 1193, 1194, 1195, 1196, 1197, 1198, 1199, 1200, 1201, 1202, 1203, 1204, 1205] (by decide +kernel) (by decide +kernel)
set_option maxRecDepth 20000 in
theorem gL_law_X11_today : GoodIn wsL_law (wsV RL 164 RX11 yX11_today wsX11_today) := goodIn_app (goodIn_of _ (by decide +kernel)) ggL_law_X11_today
set_option maxRecDepth 20000 in
theorem ggL_law_X10_stage : GoodIn wsL_law wsX10_stage := goodIn_r _ [558, 30, 1154, 1155, 1156, 1157, 1158, 1159, 1160, 1161, 1212, 1213, 1214, 1215, 1216, 1217, 1218, 1219, 1220, 1221] (by decide +kernel) (by decide +kernel)
set_option maxRecDepth 20000 in
theorem gL_law_X10_stage : GoodIn wsL_law (wsV RL 165 RX10 yX10_stage wsX10_stage) := goodIn_app (goodIn_of _ (by decide +kernel)) ggL_law_X10_stage
set_option maxRecDepth 20000 in
theorem ggL_law_X11_stage : GoodIn wsL_law wsX11_stage := goodIn_r _ [562, 166, 551, 552, 553, 5, 554, 235, 1162, 1163, 1164, 1165, 1166, 1167, 1168, 1169, 1170, 1171, 1172, 1173, 1174, 1175, 1176, 1177, 1178, 1179, 1180, 1181, 1182, 1183, 1184, 1185, 1186, 1187, 1188, 1189, 1190, 1191, 1192, 1193, 1194, 1195, 1196, 1197, 1198, 1199, 1200, 1201, 1202, 1203, 1204, 1205] (by decide +kernel) (by decide +kernel)
set_option maxRecDepth 20000 in
theorem gL_law_X11_stage : GoodIn wsL_law (wsV RL 168 RX11 yX11_stage wsX11_stage) := goodIn_app (goodIn_of _ (by decide +kernel)) ggL_law_X11_stage
set_option maxRecDepth 20000 in
theorem ggL_law_L_isOnRoll : GoodIn wsL_law wsL_isOnRoll := goodIn_ca (goodIn_ca (goodIn_r _ [565, 198, 566, 567, 568, 2, 569, 30, 357, 358, 359, 360, 209, 210, 19, 570, 516, 517, 62, 518, 80, 1154, 1155, 1156, 1157, 1158, 1159, 1160, 1161, 1212, 1213, 1214, 1215, 1216, 1217, 1218, 1219, 1220, 1221, 1232, 1233, 1234] (by decide +kernel) (by decide +kernel)) (goodIn_sub (fun _ h => List.mem_append_left _ (List.mem_append_left _ (List.mem_append_left _ (List.mem_append_right _ h)))) (by decide +kernel))) (goodIn_sub (fun _ h => List.mem_append_left _ (List.mem_append_right _ h)) (by decide +kernel))
set_option maxRecDepth 20000 in
theorem gL_law_L_isOnRoll : GoodIn wsL_law (va_wsS RL 169 yL_isOnRoll wsL_isOnRoll) := goodIn_app (goodIn_of _ (by decide +kernel)) ggL_law_L_isOnRoll
set_option maxRecDepth 20000 in
theorem ggL_law_X11_isOnRoll : GoodIn wsL_law wsX11_isOnRoll := goodIn_ca (goodIn_r _ [574, 168, 372, 373, 374, 5, 375, 339, 225, 226, 227, 265, 266, 267, 268, 235, 1162, 1163, 1164, 1165, 1166, 1167, 1168, 1169, 1170, 1171, 1172, 1173, 1174, 1175, 1176, 1177, 1178, 1179, 1180, 1181, 1182, 1183, 1184, 1185, 1186, 1187, 1188, 1189, 1190, 1191, 1192, 1193, 1194, 1195, 1196, 1197, 1198, 1199, 1200, 1201, 1202, 1203, 1204, 1205] (by decide +kernel) (by decide +kernel)) (goodIn_sub (fun _ h => List.mem_append_left _ (List.mem_append_left _ (List.mem_append_left _ (List.mem_append_right _ h)))) (by decide +kernel))
set_option maxRecDepth 20000 in
theorem gL_law_X11_isOnRoll : GoodIn wsL_law (wsV RL 171 RX11 yX11_isOnRoll wsX11_isOnRoll) := goodIn_app (goodIn_of _ (by decide +kernel)) ggL_law_X11_isOnRoll
set_option maxRecDepth 20000 in
theorem ggL_law_L_stationOf : GoodIn wsL_law wsL_stationOf := goodIn_ca (goodIn_ca (goodIn_r _ [577, 198, 578, 579, 580, 2, 581, 30, 357, 358, 359, 360, 209, 210, 19, 570, 516, 517, 62, 518, 80, 1154, 1155, 1156, 1157, 1158, 1159, 1160, 1161, 1212, 1213, 1214, 1215, 1216, 1217, 1218, 1219, 1220, 1221, 1232, 1233, 1234] (by decide +kernel) (by decide +kernel)) (goodIn_sub (fun _ h => List.mem_append_left _ (List.mem_append_left _ (List.mem_append_left _ (List.mem_append_right _ h)))) (by decide +kernel))) (goodIn_sub (fun _ h => List.mem_append_left _ (List.mem_append_right _ h)) (by decide +kernel))
set_option maxRecDepth 20000 in
theorem gL_law_L_stationOf : GoodIn wsL_law (va_wsS RL 172 yL_stationOf wsL_stationOf) := goodIn_app (goodIn_of _ (by decide +kernel)) ggL_law_L_stationOf
set_option maxRecDepth 20000 in
theorem ggL_law_X11_stationOf : GoodIn wsL_law wsX11_stationOf := goodIn_ca (goodIn_r _ [585, 168, 372, 373, 374, 5, 375, 339, 225, 226, 227, 265, 266, 267, 268, 235, 1162, 1163, 1164, 1165, 1166, 1167, 1168, 1169, 1170, 1171, 1172, 1173, 1174, 1175, 1176, 1177, 1178, 1179, 1180, 1181, 1182, 1183, 1184, 1185, 1186, 1187, 1188, 1189, 1190, 1191, 1192, 1193, 1194, 1195, 1196, 1197, 1198, 1199, 1200, 1201, 1202, 1203, 1204, 1205] (by decide +kernel) (by decide +kernel)) (goodIn_sub (fun _ h => List.mem_append_left _ (List.mem_append_left _ (List.mem_append_left _ (List.mem_append_right _ h)))) (by decide +kernel))
set_option maxRecDepth 20000 in
theorem gL_law_X11_stationOf : GoodIn wsL_law (wsV RL 174 RX11 yX11_stationOf wsX11_stationOf) := goodIn_app (goodIn_of _ (by decide +kernel)) ggL_law_X11_stationOf
set_option maxRecDepth 20000 in
theorem ggL_law_L_peopleOf : GoodIn wsL_law wsL_peopleOf := goodIn_ca (goodIn_ca (goodIn_r _ [588, 198, 589, 590, 591, 2, 592, 30, 306, 307, 308, 309, 209, 210, 23, 490, 491, 492, 62, 493, 81, 1154, 1155, 1156, 1157, 1158, 1159, 1160, 1161, 1212, 1213, 1214, 1215, 1216, 1217, 1218, 1219, 1220, 1221, 1209, 1210, 1211, 1232, 1233, 1234] (by decide +kernel) (by decide +kernel)) (goodIn_sub (fun _ h => List.mem_append_left _ (List.mem_append_left _ (List.mem_append_left _ (List.mem_append_right _ h)))) (by decide +kernel))) (goodIn_sub (fun _ h => List.mem_append_left _ (List.mem_append_right _ h)) (by decide +kernel))
set_option maxRecDepth 20000 in
theorem gL_law_L_peopleOf : GoodIn wsL_law (va_wsS RL 175 yL_peopleOf wsL_peopleOf) := goodIn_app (goodIn_of _ (by decide +kernel)) ggL_law_L_peopleOf
set_option maxRecDepth 20000 in
theorem ggL_law_X11_peopleOf : GoodIn wsL_law wsX11_peopleOf := goodIn_ca (goodIn_r _ [596, 169, 314, 315, 316, 5, 317, 294, 225, 226, 227, 265, 266, 267, 268, 235, 1162, 1163, 1164, 1165, 1166, 1167, 1168, 1169, 1170, 1171, 1172, 1173, 1174, 1175, 1176, 1177, 1178, 1179, 1180, 1181, 1182, 1183, 1184, 1185, 1186, 1187, 1188, 1189, 1190, 1191, 1192, 1193, 1194, 1195, 1196, 1197, 1198, 1199, 1200, 1201, 1202, 1203, 1204, 1205] (by decide +kernel) (by decide +kernel)) (goodIn_sub (fun _ h => List.mem_append_left _ (List.mem_append_left _ (List.mem_append_left _ (List.mem_append_right _ h)))) (by decide +kernel))
set_option maxRecDepth 20000 in
theorem gL_law_X11_peopleOf : GoodIn wsL_law (wsV RL 177 RX11 yX11_peopleOf wsX11_peopleOf) := goodIn_app (goodIn_of _ (by decide +kernel)) ggL_law_X11_peopleOf
set_option maxRecDepth 20000 in
theorem ggL_law_L_early : GoodIn wsL_law wsL_early := goodIn_ca (goodIn_ca (goodIn_ca (goodIn_ca (goodIn_r _ [599, 198, 199, 276, 600, 601, 602, 2, 603, 281, 282, 30, 26, 353, 354, 355, 356, 18, 357, 358, 359, 360, 209, 210, 19, 283, 284, 285, 204, 205, 604, 605, 606, 607, 361, 362, 363, 608, 609, 610, 611, 570, 516, 517, 62, 518, 80, 387, 388, 389, 390, 391, 392, 393, 66, 394, 93, 90, 92, 395, 396, 397, 72, 398, 105, 97, 99, 100, 612, 613, 614, 615, 91, 1154, 1155, 1156, 1157, 1158, 1159, 1160, 1161, 1212, 1213, 1214, 1215, 1216, 1217, 1218, 1219, 1220, 1221, 1235, 1236, 1237, 1238, 1229, 1230, 1231, 1232, 1233, 1234, 1239, 1240, 1241, 1242, 1243] (by decide +kernel) (by decide +kernel)) (goodIn_sub (fun _ h => List.mem_append_left _ (List.mem_append_left _ (List.mem_append_left _ (List.mem_append_right _ h)))) (by decide +kernel))) (goodIn_sub (fun _ h => List.mem_append_right _ h) (by decide +kernel))) (goodIn_sub (fun _ h => List.mem_append_left _ (List.mem_append_right _ h)) (by decide +kernel))) (goodIn_sub (fun _ h => List.mem_append_left _ (List.mem_append_left _ (List.mem_append_right _ h))) (by decide +kernel))
set_option maxRecDepth 20000 in
theorem gL_law_L_early : GoodIn wsL_law (va_wsS RL 178 yL_early wsL_early) := goodIn_app (goodIn_of _ (by decide +kernel)) ggL_law_L_early
set_option maxRecDepth 20000 in
theorem ggL_law_X11_early : GoodIn wsL_law wsX11_early := goodIn_ca (goodIn_r _ [619, 166, 192, 171, 172, 173, 345, 372, 373, 374, 5, 375, 339, 225, 226, 227, 620, 621, 622, 623, 168, 162, 295, 296, 297, 298, 235, 403, 404, 405, 406, 407, 408, 409, 410, 411, 412, 413, 414, 184, 193, 185, 186, 1162, 1163, 1164, 1165, 1166, 1167, 1168, 1169, 1170, 1171, 1172, 1173, 1174, 1175, 1176, 1177, 1178, 1179, 1180, 1181, 1182, 1183, 1184, 1185, 1186, 1187, 1188, 1189, 1190, 1191, 1192, 1193, 1194, 1195, 1196, 1197, 1198, 1199, 1200, 1201, 1202, 1203, 1204, 1205] (by decide +kernel) (by decide +kernel)) (goodIn_sub (fun _ h => List.mem_append_left _ (List.mem_append_left _ (List.mem_append_left _ (List.mem_append_right _ h)))) (by decide +kernel))
set_option maxRecDepth 20000 in
theorem gL_law_X11_early : GoodIn wsL_law (wsV RL 180 RX11 yX11_early wsX11_early) := goodIn_app (goodIn_of _ (by decide +kernel)) ggL_law_X11_early
set_option maxRecDepth 20000 in
theorem ggL_law_L_vote : GoodIn wsL_law wsL_vote := goodIn_ca (goodIn_ca (goodIn_ca (goodIn_ca (goodIn_r _ [626, 198, 199, 276, 627, 628, 629, 2, 630, 281, 282, 30, 26, 353, 354, 355, 356, 18, 357, 358, 359, 360, 209, 210, 19, 306, 307, 308, 309, 23, 283, 284, 285, 204, 205, 604, 605, 606, 607, 361, 362, 363, 608, 609, 610, 611, 570, 516, 517, 62, 518, 80, 387, 388, 389, 390, 391, 392, 393, 66, 394, 93, 90, 92, 395, 396, 397, 72, 398, 105, 97, 99, 100, 631, 512, 513, 29, 514, 63, 69, 515, 519, 520, 521, 75, 522, 130, 129, 1154, 1155, 1156, 1157, 1158, 1159, 1160, 1161, 1212, 1213, 1214, 1215, 1216, 1217, 1218, 1219, 1220, 1221, 1232, 1233, 1234, 1244, 1245, 1246, 1247, 1248, 1249, 1209, 1210, 1211, 1229, 1230, 1231, 1235, 1236, 1237, 1238, 1239, 1240, 1241, 1242, 1243] (by decide +kernel) (by decide +kernel)) (goodIn_sub (fun _ h => List.mem_append_left _ (List.mem_append_left _ (List.mem_append_left _ (List.mem_append_right _ h)))) (by decide +kernel))) (goodIn_sub (fun _ h => List.mem_append_right _ h) (by decide +kernel))) (goodIn_sub (fun _ h => List.mem_append_left _ (List.mem_append_right _ h)) (by decide +kernel))) (goodIn_sub (fun _ h => List.mem_append_left _ (List.mem_append_left _ (List.mem_append_right _ h))) (by decide +kernel))
set_option maxRecDepth 20000 in
theorem gL_law_L_vote : GoodIn wsL_law (va_wsS RL 181 yL_vote wsL_vote) := goodIn_app (goodIn_of _ (by decide +kernel)) ggL_law_L_vote
set_option maxRecDepth 20000 in
theorem ggL_law_X11_vote : GoodIn wsL_law wsX11_vote := goodIn_ca (goodIn_r _ [635, 166, 170, 168, 345, 372, 373, 374, 5, 375, 339, 225, 226, 227, 314, 315, 316, 317, 294, 620, 621, 622, 623, 162, 295, 296, 297, 298, 235, 403, 404, 405, 406, 173, 407, 408, 409, 410, 192, 171, 411, 412, 413, 414, 184, 193, 185, 186, 539, 540, 541, 542, 174, 175, 1162, 1163, 1164, 1165, 1166, 1167, 1168, 1169, 1170, 1171, 1172, 1173, 1174, 1175, 1176, 1177, 1178, 1179, 1180, 1181, 1182, 1183, 1184, 1185, 1186, 1187, 1188, 1189, 1190, 1191, 1192, 1193, 1194, 1195, 1196, 1197, 1198, 1199, 1200, 1201, 1202, 1203, 1204, 1205] (by decide +kernel) (by decide +kernel)) (goodIn_sub (fun _ h => List.mem_append_left _ (List.mem_append_left _ (List.mem_append_left _ (List.mem_append_right _ h)))) (by decide +kernel))
set_option maxRecDepth 20000 in
theorem gL_law_X11_vote : GoodIn wsL_law (wsV RL 184 RX11 yX11_vote wsX11_vote) := goodIn_app (goodIn_of _ (by decide +kernel)) ggL_law_X11_vote
set_option maxRecDepth 20000 in
theorem ggL_law_L_open : GoodIn wsL_law wsL_open := goodIn_ca (goodIn_ca (goodIn_ca (goodIn_r _ [638, 198, 276, 639, 640, 641, 2, 642, 281, 282, 30, 357, 358, 359, 360, 209, 210, 19, 604, 605, 606, 607, 391, 392, 393, 66, 394, 93, 90, 92, 643, 507, 508, 29, 509, 67, 73, 55, 510, 396, 397, 72, 398, 105, 97, 99, 100, 511, 512, 513, 514, 63, 69, 515, 516, 517, 62, 518, 80, 519, 520, 521, 75, 522, 130, 129, 1154, 1155, 1156, 1157, 1158, 1159, 1160, 1161, 1212, 1213, 1214, 1215, 1216, 1217, 1218, 1219, 1220, 1221, 1235, 1236, 1237, 1238, 1239, 1240, 1241, 1242, 1243, 1232, 1233, 1234, 1244, 1245, 1246, 1247, 1248, 1249] (by decide +kernel) (by decide +kernel)) (goodIn_sub (fun _ h => List.mem_append_left _ (List.mem_append_left _ (List.mem_append_left _ (List.mem_append_right _ h)))) (by decide +kernel))) (goodIn_sub (fun _ h => List.mem_append_right _ h) (by decide +kernel))) (goodIn_sub (fun _ h => List.mem_append_left _ (List.mem_append_right _ h)) (by decide +kernel))
set_option maxRecDepth 20000 in
theorem gL_law_L_open : GoodIn wsL_law (va_wsS RL 185 yL_open wsL_open) := goodIn_app (goodIn_of _ (by decide +kernel)) ggL_law_L_open
set_option maxRecDepth 20000 in
theorem ggL_law_X11_open : GoodIn wsL_law wsX11_open := goodIn_ca (goodIn_r _ [647, 166, 173, 172, 345, 372, 373, 374, 5, 375, 339, 225, 226, 227, 407, 408, 409, 410, 192, 171, 231, 232, 233, 234, 235, 539, 540, 541, 542, 168, 174, 175, 170, 411, 412, 413, 414, 184, 193, 185, 186, 1162, 1163, 1164, 1165, 1166, 1167, 1168, 1169, 1170, 1171, 1172, 1173, 1174, 1175, 1176, 1177, 1178, 1179, 1180, 1181, 1182, 1183, 1184, 1185, 1186, 1187, 1188, 1189, 1190, 1191, 1192, 1193, 1194, 1195, 1196, 1197, 1198, 1199, 1200, 1201, 1202, 1203, 1204, 1205] (by decide +kernel) (by decide +kernel)) (goodIn_sub (fun _ h => List.mem_append_left _ (List.mem_append_left _ (List.mem_append_left _ (List.mem_append_right _ h)))) (by decide +kernel))
set_option maxRecDepth 20000 in
theorem gL_law_X11_open : GoodIn wsL_law (wsV RL 187 RX11 yX11_open wsX11_open) := goodIn_app (goodIn_of _ (by decide +kernel)) ggL_law_X11_open
set_option maxRecDepth 20000 in
theorem ggL_law_X10_envelopes : GoodIn wsL_law wsX10_envelopes := goodIn_r _ [651, 30, 1154, 1155, 1156, 1157, 1158, 1159, 1160, 1161, 1212, 1213, 1214, 1215, 1216, 1217, 1218, 1219, 1220, 1221, 1235, 1236, 1237, 1238] (by decide +kernel) (by decide +kernel)
set_option maxRecDepth 20000 in
theorem gL_law_X10_envelopes : GoodIn wsL_law (wsV RL 188 RX10 yX10_envelopes wsX10_envelopes) := goodIn_app (goodIn_of _ (by decide +kernel)) ggL_law_X10_envelopes
set_option maxRecDepth 20000 in
theorem ggL_law_X11_envelopes : GoodIn wsL_law wsX11_envelopes := goodIn_r _ [655, 192, 551, 552, 553, 5, 554, 235, 1162, 1163, 1164, 1165, 1166, 1167, 1168, 1169, 1170, 1171, 1172, 1173, 1174, 1175, 1176, 1177, 1178, 1179, 1180, 1181, 1182, 1183, 1184, 1185, 1186, 1187, 1188, 1189, 1190, 1191, 1192, 1193, 1194, 1195, 1196, 1197, 1198, 1199, 1200, 1201, 1202, 1203, 1204, 1205] (by decide +kernel) (by decide +kernel)
set_option maxRecDepth 20000 in
theorem gL_law_X11_envelopes : GoodIn wsL_law (wsV RL 191 RX11 yX11_envelopes wsX11_envelopes) := goodIn_app (goodIn_of _ (by decide +kernel)) ggL_law_X11_envelopes
set_option maxRecDepth 20000 in
theorem ggL_law_L_stateOf : GoodIn wsL_law wsL_stateOf := goodIn_ca (goodIn_ca (goodIn_r _ [658, 198, 659, 660, 661, 2, 662, 30, 663, 664, 665, 666, 209, 210, 1154, 1155, 1156, 1157, 1158, 1159, 1160, 1161, 1212, 1213, 1214, 1215, 1216, 1217, 1218, 1219, 1220, 1221, 1235, 1236, 1237, 1238] (by decide +kernel) (by decide +kernel)) (goodIn_sub (fun _ h => List.mem_append_left _ (List.mem_append_left _ (List.mem_append_left _ (List.mem_append_right _ h)))) (by decide +kernel))) (goodIn_sub (fun _ h => List.mem_append_left _ (List.mem_append_right _ h)) (by decide +kernel))
set_option maxRecDepth 20000 in
theorem gL_law_L_stateOf : GoodIn wsL_law (va_wsS RL 192 yL_stateOf wsL_stateOf) := goodIn_app (goodIn_of _ (by decide +kernel)) ggL_law_L_stateOf
set_option maxRecDepth 20000 in
theorem ggL_law_X11_stateOf : GoodIn wsL_law wsX11_stateOf := goodIn_ca (goodIn_r _ [670, 192, 173, 225, 226, 5, 227, 265, 266, 267, 268, 235, 1162, 1163, 1164, 1165, 1166, 1167, 1168, 1169, 1170, 1171, 1172, 1173, 1174, 1175, 1176, 1177, 1178, 1179, 1180, 1181, 1182, 1183, 1184, 1185, 1186, 1187, 1188, 1189, 1190, 1191, 1192, 1193, 1194, 1195, 1196, 1197, 1198, 1199, 1200, 1201, 1202, 1203, 1204, 1205] (by decide +kernel) (by decide +kernel)) (goodIn_sub (fun _ h => List.mem_append_left _ (List.mem_append_left _ (List.mem_append_left _ (List.mem_append_right _ h)))) (by decide +kernel))
set_option maxRecDepth 20000 in
theorem gL_law_X11_stateOf : GoodIn wsL_law (wsV RL 194 RX11 yX11_stateOf wsX11_stateOf) := goodIn_app (goodIn_of _ (by decide +kernel)) ggL_law_X11_stateOf
set_option maxRecDepth 20000 in
theorem ggL_law_L_personOf : GoodIn wsL_law wsL_personOf := goodIn_ca (goodIn_ca (goodIn_r _ [673, 198, 674, 675, 676, 2, 677, 30, 663, 664, 665, 666, 209, 210, 1154, 1155, 1156, 1157, 1158, 1159, 1160, 1161, 1212, 1213, 1214, 1215, 1216, 1217, 1218, 1219, 1220, 1221, 1235, 1236, 1237, 1238] (by decide +kernel) (by decide +kernel)) (goodIn_sub (fun _ h => List.mem_append_left _ (List.mem_append_left _ (List.mem_append_left _ (List.mem_append_right _ h)))) (by decide +kernel))) (goodIn_sub (fun _ h => List.mem_append_left _ (List.mem_append_right _ h)) (by decide +kernel))
set_option maxRecDepth 20000 in
theorem gL_law_L_personOf : GoodIn wsL_law (va_wsS RL 195 yL_personOf wsL_personOf) := goodIn_app (goodIn_of _ (by decide +kernel)) ggL_law_L_personOf
set_option maxRecDepth 20000 in
theorem ggL_law_X11_personOf : GoodIn wsL_law wsX11_personOf := goodIn_ca (goodIn_r _ [681, 192, 171, 225, 226, 5, 227, 265, 266, 267, 268, 235, 1162, 1163, 1164, 1165, 1166, 1167, 1168, 1169, 1170, 1171, 1172, 1173, 1174, 1175, 1176, 1177, 1178, 1179, 1180, 1181, 1182, 1183, 1184, 1185, 1186, 1187, 1188, 1189, 1190, 1191, 1192, 1193, 1194, 1195, 1196, 1197, 1198, 1199, 1200, 1201, 1202, 1203, 1204, 1205] (by decide +kernel) (by decide +kernel)) (goodIn_sub (fun _ h => List.mem_append_left _ (List.mem_append_left _ (List.mem_append_left _ (List.mem_append_right _ h)))) (by decide +kernel))
set_option maxRecDepth 20000 in
theorem gL_law_X11_personOf : GoodIn wsL_law (wsV RL 197 RX11 yX11_personOf wsX11_personOf) := goodIn_app (goodIn_of _ (by decide +kernel)) ggL_law_X11_personOf
set_option maxRecDepth 20000 in
theorem ggL_law_L_ballots : GoodIn wsL_law wsL_ballots := goodIn_ca (goodIn_ca (goodIn_r _ [684, 198, 685, 686, 687, 2, 688, 30, 306, 307, 308, 309, 209, 210, 23, 1154, 1155, 1156, 1157, 1158, 1159, 1160, 1161, 1212, 1213, 1214, 1215, 1216, 1217, 1218, 1219, 1220, 1221, 1244, 1245, 1246, 1247, 1248, 1249, 1209, 1210, 1211] (by decide +kernel) (by decide +kernel)) (goodIn_sub (fun _ h => List.mem_append_left _ (List.mem_append_left _ (List.mem_append_left _ (List.mem_append_right _ h)))) (by decide +kernel))) (goodIn_sub (fun _ h => List.mem_append_left _ (List.mem_append_right _ h)) (by decide +kernel))
set_option maxRecDepth 20000 in
theorem gL_law_L_ballots : GoodIn wsL_law (va_wsS RL 198 yL_ballots wsL_ballots) := goodIn_app (goodIn_of _ (by decide +kernel)) ggL_law_L_ballots
