theorem dX11_advance_112 : decode cX11_advance 112 = .ok (.aload_n 0, 1) := by decide +kernel
theorem dX11_advance_113 : decode cX11_advance 113 = .ok (.getfield 41, 3) := by decide +kernel
theorem dX11_advance_116 : decode cX11_advance 116 = .ok (.iconst 3, 1) := by decide +kernel
theorem dX11_advance_117 : decode cX11_advance 117 = .ok (.if_icmp .ne 7, 3) := by decide +kernel
theorem dX11_advance_120 : decode cX11_advance 120 = .ok (.aload_n 0, 1) := by decide +kernel
theorem dX11_advance_121 : decode cX11_advance 121 = .ok (.invokevirtual 201, 3) := by decide +kernel
theorem dX11_advance_124 : decode cX11_advance 124 = .ok (.iinc 3 1, 3) := by decide +kernel
theorem dX11_advance_127 : decode cX11_advance 127 = .ok (.goto (-86), 3) := by decide +kernel
theorem dX11_advance_130 : decode cX11_advance 130 = .ok (.aload_n 0, 1) := by decide +kernel
theorem dX11_advance_131 : decode cX11_advance 131 = .ok (.getfield 149, 3) := by decide +kernel
theorem dX11_advance_134 : decode cX11_advance 134 = .ok (.ireturn, 1) := by decide +kernel
set_option maxRecDepth 20000 in
theorem ggX11_today_X11_told : GoodIn wsX11_today wsX11_told := goodIn_r _ [6, 7, 8, 9, 10, 11, 12, 13, 14, 15, 16, 17, 18, 19, 20, 21, 22, 23, 24, 25, 26, 27, 28, 29, 30, 31, 32, 33, 34, 35, 36, 37, 38, 39, 40, 41, 42, 43, 44, 45, 46, 47, 48, 49, 50, 51] (by decide +kernel) (by decide +kernel)
set_option maxRecDepth 20000 in
theorem gX11_today_X11_told : GoodIn wsX11_today (wsV RX11 204 RX11 yX11_told wsX11_told) := goodIn_app (goodIn_of _ (by decide +kernel)) ggX11_today_X11_told
theorem dX11_today_0 : decode cX11_today 0 = .ok (.aload_n 0, 1) := by decide +kernel
theorem dX11_today_1 : decode cX11_today 1 = .ok (.aload_n 0, 1) := by decide +kernel
theorem dX11_today_2 : decode cX11_today 2 = .ok (.getfield 149, 3) := by decide +kernel
theorem dX11_today_5 : decode cX11_today 5 = .ok (.invokevirtual 204, 3) := by decide +kernel
theorem dX11_today_8 : decode cX11_today 8 = .ok (.ireturn, 1) := by decide +kernel
set_option maxRecDepth 20000 in
theorem ggX11_stage_X11_told : GoodIn wsX11_stage wsX11_told := goodIn_r _ [6, 7, 8, 9, 10, 11, 12, 13, 14, 15, 16, 17, 18, 19, 20, 21, 22, 23, 24, 25, 26, 27, 28, 29, 30, 31, 32, 33, 34, 35, 36, 37, 38, 39, 40, 41, 42, 43, 44, 45, 46, 47, 48, 49, 50, 51] (by decide +kernel) (by decide +kernel)
set_option maxRecDepth 20000 in
theorem gX11_stage_X11_told : GoodIn wsX11_stage (wsV RX11 204 RX11 yX11_told wsX11_told) := goodIn_app (goodIn_of _ (by decide +kernel)) ggX11_stage_X11_told
theorem dX11_stage_0 : decode cX11_stage 0 = .ok (.aload_n 0, 1) := by decide +kernel
theorem dX11_stage_1 : decode cX11_stage 1 = .ok (.aload_n 0, 1) := by decide +kernel
theorem dX11_stage_2 : decode cX11_stage 2 = .ok (.getfield 41, 3) := by decide +kernel
theorem dX11_stage_5 : decode cX11_stage 5 = .ok (.invokevirtual 204, 3) := by decide +kernel
theorem dX11_stage_8 : decode cX11_stage 8 = .ok (.ireturn, 1) := by decide +kernel
set_option maxRecDepth 20000 in
theorem ggX11_isOnRoll_X11_isPerson : GoodIn wsX11_isOnRoll wsX11_isPerson := goodIn_r _ [6, 7, 8, 9, 5, 10, 16, 17, 18, 19, 20, 21, 22, 23, 24, 25, 26, 27, 28, 29, 30, 31, 32, 33, 34, 35, 36, 37, 38, 39, 40, 41, 42, 43, 44, 45, 46, 47, 48, 49, 50, 51, 52, 53, 54, 55, 56, 57, 58, 59] (by decide +kernel) (by decide +kernel)
set_option maxRecDepth 20000 in
theorem gX11_isOnRoll_X11_isPerson : GoodIn wsX11_isOnRoll (wsV RX11 156 RX11 yX11_isPerson wsX11_isPerson) := goodIn_app (goodIn_of _ (by decide +kernel)) ggX11_isOnRoll_X11_isPerson
set_option maxRecDepth 20000 in
theorem ggX11_isOnRoll_X11_asked : GoodIn wsX11_isOnRoll wsX11_asked := goodIn_r _ [14, 15, 16, 17, 18, 19, 20, 21, 22, 23, 24, 25, 26, 27, 28, 29, 30, 31, 32, 33, 34, 35, 36, 37, 38, 39, 40, 41, 42, 43, 44, 45, 46, 47, 48, 49, 50, 51, 52, 53, 54, 55, 56, 57, 58, 59] (by decide +kernel) (by decide +kernel)
set_option maxRecDepth 20000 in
theorem gX11_isOnRoll_X11_asked : GoodIn wsX11_isOnRoll (wsV RX11 133 RX11 yX11_asked wsX11_asked) := goodIn_app (goodIn_of _ (by decide +kernel)) ggX11_isOnRoll_X11_asked
theorem dX11_isOnRoll_0 : decode cX11_isOnRoll 0 = .ok (.aload_n 0, 1) := by decide +kernel
theorem dX11_isOnRoll_1 : decode cX11_isOnRoll 1 = .ok (.aload_n 0, 1) := by decide +kernel
theorem dX11_isOnRoll_2 : decode cX11_isOnRoll 2 = .ok (.iload_n 1, 1) := by decide +kernel
theorem dX11_isOnRoll_3 : decode cX11_isOnRoll 3 = .ok (.invokevirtual 156, 3) := by decide +kernel
theorem dX11_isOnRoll_6 : decode cX11_isOnRoll 6 = .ok (.invokevirtual 133, 3) := by decide +kernel
theorem dX11_isOnRoll_9 : decode cX11_isOnRoll 9 = .ok (.ifCond .eq 17, 3) := by decide +kernel
theorem dX11_isOnRoll_12 : decode cX11_isOnRoll 12 = .ok (.aload_n 0, 1) := by decide +kernel
theorem dX11_isOnRoll_13 : decode cX11_isOnRoll 13 = .ok (.getfield 48, 3) := by decide +kernel
theorem dX11_isOnRoll_16 : decode cX11_isOnRoll 16 = .ok (.iload_n 1, 1) := by decide +kernel
theorem dX11_isOnRoll_17 : decode cX11_isOnRoll 17 = .ok (.iaload, 1) := by decide +kernel
theorem dX11_isOnRoll_18 : decode cX11_isOnRoll 18 = .ok (.iconst (-1), 1) := by decide +kernel
theorem dX11_isOnRoll_19 : decode cX11_isOnRoll 19 = .ok (.if_icmp .eq 7, 3) := by decide +kernel
theorem dX11_isOnRoll_22 : decode cX11_isOnRoll 22 = .ok (.iconst 1, 1) := by decide +kernel
theorem dX11_isOnRoll_23 : decode cX11_isOnRoll 23 = .ok (.goto 4, 3) := by decide +kernel
theorem dX11_isOnRoll_26 : decode cX11_isOnRoll 26 = .ok (.iconst 0, 1) := by decide +kernel
theorem dX11_isOnRoll_27 : decode cX11_isOnRoll 27 = .ok (.ireturn, 1) := by decide +kernel
set_option maxRecDepth 20000 in
theorem ggX11_stationOf_X11_isPerson : GoodIn wsX11_stationOf wsX11_isPerson := goodIn_r _ [6, 7, 8, 9, 5, 10, 16, 17, 18, 19, 20, 21, 22, 23, 24, 25, 26, 27, 28, 29, 30, 31, 32, 33, 34, 35, 36, 37, 38, 39, 40, 41, 42, 43, 44, 45, 46, 47, 48, 49, 50, 51, 52, 53, 54, 55, 56, 57, 58, 59] (by decide +kernel) (by decide +kernel)
set_option maxRecDepth 20000 in
theorem gX11_stationOf_X11_isPerson : GoodIn wsX11_stationOf (wsV RX11 156 RX11 yX11_isPerson wsX11_isPerson) := goodIn_app (goodIn_of _ (by decide +kernel)) ggX11_stationOf_X11_isPerson
set_option maxRecDepth 20000 in
theorem ggX11_stationOf_X11_asked : GoodIn wsX11_stationOf wsX11_asked := goodIn_r _ [14, 15, 16, 17, 18, 19, 20, 21, 22, 23, 24, 25, 26, 27, 28, 29, 30, 31, 32, 33, 34, 35, 36, 37, 38, 39, 40, 41, 42, 43, 44, 45, 46, 47, 48, 49, 50, 51, 52, 53, 54, 55, 56, 57, 58, 59] (by decide +kernel) (by decide +kernel)
set_option maxRecDepth 20000 in
theorem gX11_stationOf_X11_asked : GoodIn wsX11_stationOf (wsV RX11 133 RX11 yX11_asked wsX11_asked) := goodIn_app (goodIn_of _ (by decide +kernel)) ggX11_stationOf_X11_asked
theorem dX11_stationOf_0 : decode cX11_stationOf 0 = .ok (.aload_n 0, 1) := by decide +kernel
theorem dX11_stationOf_1 : decode cX11_stationOf 1 = .ok (.aload_n 0, 1) := by decide +kernel
theorem dX11_stationOf_2 : decode cX11_stationOf 2 = .ok (.iload_n 1, 1) := by decide +kernel
theorem dX11_stationOf_3 : decode cX11_stationOf 3 = .ok (.invokevirtual 156, 3) := by decide +kernel
theorem dX11_stationOf_6 : decode cX11_stationOf 6 = .ok (.invokevirtual 133, 3) := by decide +kernel
theorem dX11_stationOf_9 : decode cX11_stationOf 9 = .ok (.ifCond .eq 12, 3) := by decide +kernel
theorem dX11_stationOf_12 : decode cX11_stationOf 12 = .ok (.aload_n 0, 1) := by decide +kernel
theorem dX11_stationOf_13 : decode cX11_stationOf 13 = .ok (.getfield 48, 3) := by decide +kernel
theorem dX11_stationOf_16 : decode cX11_stationOf 16 = .ok (.iload_n 1, 1) := by decide +kernel
theorem dX11_stationOf_17 : decode cX11_stationOf 17 = .ok (.iaload, 1) := by decide +kernel
theorem dX11_stationOf_18 : decode cX11_stationOf 18 = .ok (.goto 4, 3) := by decide +kernel
theorem dX11_stationOf_21 : decode cX11_stationOf 21 = .ok (.iconst 0, 1) := by decide +kernel
theorem dX11_stationOf_22 : decode cX11_stationOf 22 = .ok (.ireturn, 1) := by decide +kernel
set_option maxRecDepth 20000 in
theorem ggX11_peopleOf_X11_isStation : GoodIn wsX11_peopleOf wsX11_isStation := goodIn_r _ [6, 7, 8, 9, 5, 10, 16, 17, 18, 19, 20, 21, 22, 23, 24, 25, 26, 27, 28, 29, 30, 31, 32, 33, 34, 35, 36, 37, 38, 39, 40, 41, 42, 43, 44, 45, 46, 47, 48, 49, 50, 51, 52, 53, 54, 55, 56, 57, 58, 59] (by decide +kernel) (by decide +kernel)
set_option maxRecDepth 20000 in
theorem gX11_peopleOf_X11_isStation : GoodIn wsX11_peopleOf (wsV RX11 143 RX11 yX11_isStation wsX11_isStation) := goodIn_app (goodIn_of _ (by decide +kernel)) ggX11_peopleOf_X11_isStation
set_option maxRecDepth 20000 in
theorem ggX11_peopleOf_X11_asked : GoodIn wsX11_peopleOf wsX11_asked := goodIn_r _ [14, 15, 16, 17, 18, 19, 20, 21, 22, 23, 24, 25, 26, 27, 28, 29, 30, 31, 32, 33, 34, 35, 36, 37, 38, 39, 40, 41, 42, 43, 44, 45, 46, 47, 48, 49, 50, 51, 52, 53, 54, 55, 56, 57, 58, 59] (by decide +kernel) (by decide +kernel)
set_option maxRecDepth 20000 in
theorem gX11_peopleOf_X11_asked : GoodIn wsX11_peopleOf (wsV RX11 133 RX11 yX11_asked wsX11_asked) := goodIn_app (goodIn_of _ (by decide +kernel)) ggX11_peopleOf_X11_asked
theorem dX11_peopleOf_0 : decode cX11_peopleOf 0 = .ok (.aload_n 0, 1) := by decide +kernel
theorem dX11_peopleOf_1 : decode cX11_peopleOf 1 = .ok (.aload_n 0, 1) := by decide +kernel
theorem dX11_peopleOf_2 : decode cX11_peopleOf 2 = .ok (.iload_n 1, 1) := by decide +kernel
theorem dX11_peopleOf_3 : decode cX11_peopleOf 3 = .ok (.invokevirtual 143, 3) := by decide +kernel
theorem dX11_peopleOf_6 : decode cX11_peopleOf 6 = .ok (.invokevirtual 133, 3) := by decide +kernel
theorem dX11_peopleOf_9 : decode cX11_peopleOf 9 = .ok (.ifCond .eq 12, 3) := by decide +kernel
theorem dX11_peopleOf_12 : decode cX11_peopleOf 12 = .ok (.aload_n 0, 1) := by decide +kernel
theorem dX11_peopleOf_13 : decode cX11_peopleOf 13 = .ok (.getfield 51, 3) := by decide +kernel
theorem dX11_peopleOf_16 : decode cX11_peopleOf 16 = .ok (.iload_n 1, 1) := by decide +kernel
theorem dX11_peopleOf_17 : decode cX11_peopleOf 17 = .ok (.iaload, 1) := by decide +kernel
theorem dX11_peopleOf_18 : decode cX11_peopleOf 18 = .ok (.goto 4, 3) := by decide +kernel
theorem dX11_peopleOf_21 : decode cX11_peopleOf 21 = .ok (.iconst 0, 1) := by decide +kernel
theorem dX11_peopleOf_22 : decode cX11_peopleOf 22 = .ok (.ireturn, 1) := by decide +kernel
theorem dX11_canVote_0 : decode cX11_canVote 0 = .ok (.aload_n 0, 1) := by decide +kernel
theorem dX11_canVote_1 : decode cX11_canVote 1 = .ok (.getfield 48, 3) := by decide +kernel
theorem dX11_canVote_4 : decode cX11_canVote 4 = .ok (.iload_n 1, 1) := by decide +kernel
theorem dX11_canVote_5 : decode cX11_canVote 5 = .ok (.iaload, 1) := by decide +kernel
theorem dX11_canVote_6 : decode cX11_canVote 6 = .ok (.iconst (-1), 1) := by decide +kernel
theorem dX11_canVote_7 : decode cX11_canVote 7 = .ok (.if_icmp .eq 16, 3) := by decide +kernel
theorem dX11_canVote_10 : decode cX11_canVote 10 = .ok (.aload_n 0, 1) := by decide +kernel
theorem dX11_canVote_11 : decode cX11_canVote 11 = .ok (.getfield 29, 3) := by decide +kernel
theorem dX11_canVote_14 : decode cX11_canVote 14 = .ok (.iload_n 1, 1) := by decide +kernel
theorem dX11_canVote_15 : decode cX11_canVote 15 = .ok (.baload, 1) := by decide +kernel
theorem dX11_canVote_16 : decode cX11_canVote 16 = .ok (.ifCond .ne 7, 3) := by decide +kernel
theorem dX11_canVote_19 : decode cX11_canVote 19 = .ok (.iconst 1, 1) := by decide +kernel
theorem dX11_canVote_20 : decode cX11_canVote 20 = .ok (.goto 4, 3) := by decide +kernel
theorem dX11_canVote_23 : decode cX11_canVote 23 = .ok (.iconst 0, 1) := by decide +kernel
theorem dX11_canVote_24 : decode cX11_canVote 24 = .ok (.ireturn, 1) := by decide +kernel
set_option maxRecDepth 20000 in
theorem ggX11_early_X11_isPerson : GoodIn wsX11_early wsX11_isPerson := goodIn_r _ [11, 12, 13, 14, 10, 15, 43, 44, 45, 46, 47, 48, 49, 50, 51, 52, 53, 54, 55, 56, 57, 58, 59, 60, 61, 62, 63, 64, 65, 66, 67, 68, 69, 70, 71, 72, 73, 74, 75, 76, 77, 78, 79, 80, 81, 82, 83, 84, 85, 86] (by decide +kernel) (by decide +kernel)
set_option maxRecDepth 20000 in
theorem gX11_early_X11_isPerson : GoodIn wsX11_early (wsV RX11 156 RX11 yX11_isPerson wsX11_isPerson) := goodIn_app (goodIn_of _ (by decide +kernel)) ggX11_early_X11_isPerson
set_option maxRecDepth 20000 in
theorem ggX11_early_X11_in : GoodIn wsX11_early wsX11_in := goodIn_r _ [15] (by decide +kernel) (by decide +kernel)
set_option maxRecDepth 20000 in
theorem gX11_early_X11_in : GoodIn wsX11_early (va_wsS RX11 111 yX11_in wsX11_in) := goodIn_app (goodIn_of _ (by decide +kernel)) ggX11_early_X11_in
set_option maxRecDepth 20000 in
theorem ggX11_early_X11_canVote : GoodIn wsX11_early wsX11_canVote := goodIn_ca (goodIn_r _ [19, 20, 21, 43, 44, 45, 46, 47, 48, 49, 50, 51, 52, 53, 54, 55, 56, 57, 58, 59, 60, 61, 62, 63, 64, 65, 66, 67, 68, 69, 70, 71, 72, 73, 74, 75, 76, 77, 78, 79, 80, 81, 82, 83, 84, 85, 86] (by decide +kernel) (by decide +kernel)) (goodIn_sub (fun _ h => List.mem_cons_of_mem _ (List.mem_append_right _ h)) (by decide +kernel))
set_option maxRecDepth 20000 in
theorem gX11_early_X11_canVote : GoodIn wsX11_early (wsV RX11 207 RX11 yX11_canVote wsX11_canVote) := goodIn_app (goodIn_of _ (by decide +kernel)) ggX11_early_X11_canVote
set_option maxRecDepth 20000 in
theorem ggX11_early_X11_asked__ : GoodIn wsX11_early wsX11_asked__ := goodIn_r _ [25, 26, 43, 44, 45, 46, 47, 48, 49, 50, 51, 52, 53, 54, 55, 56, 57, 58, 59, 60, 61, 62, 63, 64, 65, 66, 67, 68, 69, 70, 71, 72, 73, 74, 75, 76, 77, 78, 79, 80, 81, 82, 83, 84, 85, 86] (by decide +kernel) (by decide +kernel)
set_option maxRecDepth 20000 in
theorem gX11_early_X11_asked__ : GoodIn wsX11_early (wsV RX11 140 RX11 yX11_asked__ wsX11_asked__) := goodIn_app (goodIn_of _ (by decide +kernel)) ggX11_early_X11_asked__
set_option maxRecDepth 20000 in
theorem ggX11_early_X11_voids : GoodIn wsX11_early wsX11_voids := goodIn_ca (goodIn_r _ [30, 5, 6, 31, 32, 33, 10, 34, 2, 3, 35, 36, 37, 38, 39, 40, 41, 42, 43, 44, 45, 46, 47, 48, 49, 50, 51, 52, 53, 54, 55, 56, 57, 58, 59, 60, 61, 62, 63, 64, 65, 66, 67, 68, 69, 70, 71, 72, 73, 74, 75, 76, 77, 78, 79, 80, 81, 82, 83, 84, 85, 86] (by decide +kernel) (by decide +kernel)) (goodIn_sub (fun _ h => List.mem_cons_of_mem _ (List.mem_append_right _ h)) (by decide +kernel))
set_option maxRecDepth 20000 in
theorem gX11_early_X11_voids : GoodIn wsX11_early (wsV RX11 175 RX11 yX11_voids wsX11_voids) := goodIn_app (goodIn_of _ (by decide +kernel)) ggX11_early_X11_voids
set_option maxRecDepth 20000 in
theorem ggX11_early_X11_notes : GoodIn wsX11_early wsX11_notes := goodIn_ca (goodIn_r _ [38, 39, 40, 41, 42, 43, 44, 45, 46, 47, 48, 49, 50, 51, 52, 53, 54, 55, 56, 57, 58, 59, 60, 61, 62, 63, 64, 65, 66, 67, 68, 69, 70, 71, 72, 73, 74, 75, 76, 77, 78, 79, 80, 81, 82, 83, 84, 85, 86] (by decide +kernel) (by decide +kernel)) (goodIn_sub (fun _ h => List.mem_cons_of_mem _ (List.mem_append_right _ h)) (by decide +kernel))
set_option maxRecDepth 20000 in
theorem gX11_early_X11_notes : GoodIn wsX11_early (wsV RX11 172 RX11 yX11_notes wsX11_notes) := goodIn_app (goodIn_of _ (by decide +kernel)) ggX11_early_X11_notes
theorem dX11_early_0 : decode cX11_early 0 = .ok (.aload_n 0, 1) := by decide +kernel
theorem dX11_early_1 : decode cX11_early 1 = .ok (.iload_n 1, 1) := by decide +kernel
theorem dX11_early_2 : decode cX11_early 2 = .ok (.invokevirtual 156, 3) := by decide +kernel
theorem dX11_early_5 : decode cX11_early 5 = .ok (.istore_n 3, 1) := by decide +kernel
theorem dX11_early_6 : decode cX11_early 6 = .ok (.aload_n 0, 1) := by decide +kernel
theorem dX11_early_7 : decode cX11_early 7 = .ok (.iload_n 3, 1) := by decide +kernel
theorem dX11_early_8 : decode cX11_early 8 = .ok (.iload_n 2, 1) := by decide +kernel
theorem dX11_early_9 : decode cX11_early 9 = .ok (.iconst 0, 1) := by decide +kernel
theorem dX11_early_10 : decode cX11_early 10 = .ok (.iconst 5, 1) := by decide +kernel
theorem dX11_early_11 : decode cX11_early 11 = .ok (.invokestatic 111, 3) := by decide +kernel
theorem dX11_early_14 : decode cX11_early 14 = .ok (.iload_n 3, 1) := by decide +kernel
theorem dX11_early_15 : decode cX11_early 15 = .ok (.ifCond .eq 32, 3) := by decide +kernel
theorem dX11_early_18 : decode cX11_early 18 = .ok (.aload_n 0, 1) := by decide +kernel
theorem dX11_early_19 : decode cX11_early 19 = .ok (.getfield 41, 3) := by decide +kernel
theorem dX11_early_22 : decode cX11_early 22 = .ok (.iconst 2, 1) := by decide +kernel
theorem dX11_early_23 : decode cX11_early 23 = .ok (.if_icmp .ne 24, 3) := by decide +kernel
theorem dX11_early_26 : decode cX11_early 26 = .ok (.aload_n 0, 1) := by decide +kernel
theorem dX11_early_27 : decode cX11_early 27 = .ok (.iload_n 1, 1) := by decide +kernel
theorem dX11_early_28 : decode cX11_early 28 = .ok (.invokevirtual 207, 3) := by decide +kernel
theorem dX11_early_31 : decode cX11_early 31 = .ok (.ifCond .eq 16, 3) := by decide +kernel
theorem dX11_early_34 : decode cX11_early 34 = .ok (.aload_n 0, 1) := by decide +kernel
theorem dX11_early_35 : decode cX11_early 35 = .ok (.getfield 165, 3) := by decide +kernel
theorem dX11_early_38 : decode cX11_early 38 = .ok (.bipush 60, 2) := by decide +kernel
theorem dX11_early_40 : decode cX11_early 40 = .ok (.if_icmp .ge 7, 3) := by decide +kernel
theorem dX11_early_43 : decode cX11_early 43 = .ok (.iconst 1, 1) := by decide +kernel
theorem dX11_early_44 : decode cX11_early 44 = .ok (.goto 4, 3) := by decide +kernel
theorem dX11_early_47 : decode cX11_early 47 = .ok (.iconst 0, 1) := by decide +kernel
theorem dX11_early_48 : decode cX11_early 48 = .ok (.invokevirtual 140, 3) := by decide +kernel
theorem dX11_early_51 : decode cX11_early 51 = .ok (.ifCond .ne 5, 3) := by decide +kernel
theorem dX11_early_54 : decode cX11_early 54 = .ok (.iconst 0, 1) := by decide +kernel
theorem dX11_early_55 : decode cX11_early 55 = .ok (.ireturn, 1) := by decide +kernel
theorem dX11_early_56 : decode cX11_early 56 = .ok (.aload_n 0, 1) := by decide +kernel
theorem dX11_early_57 : decode cX11_early 57 = .ok (.iload_n 1, 1) := by decide +kernel
theorem dX11_early_58 : decode cX11_early 58 = .ok (.invokevirtual 175, 3) := by decide +kernel
theorem dX11_early_61 : decode cX11_early 61 = .ok (.pop, 1) := by decide +kernel
theorem dX11_early_62 : decode cX11_early 62 = .ok (.aload_n 0, 1) := by decide +kernel
theorem dX11_early_63 : decode cX11_early 63 = .ok (.getfield 57, 3) := by decide +kernel
theorem dX11_early_66 : decode cX11_early 66 = .ok (.aload_n 0, 1) := by decide +kernel
theorem dX11_early_67 : decode cX11_early 67 = .ok (.getfield 165, 3) := by decide +kernel
theorem dX11_early_70 : decode cX11_early 70 = .ok (.iload_n 1, 1) := by decide +kernel
theorem dX11_early_71 : decode cX11_early 71 = .ok (.iastore, 1) := by decide +kernel
theorem dX11_early_72 : decode cX11_early 72 = .ok (.aload_n 0, 1) := by decide +kernel
theorem dX11_early_73 : decode cX11_early 73 = .ok (.getfield 60, 3) := by decide +kernel
theorem dX11_early_76 : decode cX11_early 76 = .ok (.aload_n 0, 1) := by decide +kernel
theorem dX11_early_77 : decode cX11_early 77 = .ok (.getfield 165, 3) := by decide +kernel
theorem dX11_early_80 : decode cX11_early 80 = .ok (.iload_n 2, 1) := by decide +kernel
theorem dX11_early_81 : decode cX11_early 81 = .ok (.iastore, 1) := by decide +kernel
theorem dX11_early_82 : decode cX11_early 82 = .ok (.aload_n 0, 1) := by decide +kernel
theorem dX11_early_83 : decode cX11_early 83 = .ok (.getfield 63, 3) := by decide +kernel
theorem dX11_early_86 : decode cX11_early 86 = .ok (.aload_n 0, 1) := by decide +kernel
theorem dX11_early_87 : decode cX11_early 87 = .ok (.getfield 165, 3) := by decide +kernel
theorem dX11_early_90 : decode cX11_early 90 = .ok (.iconst 0, 1) := by decide +kernel
theorem dX11_early_91 : decode cX11_early 91 = .ok (.iastore, 1) := by decide +kernel
theorem dX11_early_92 : decode cX11_early 92 = .ok (.aload_n 0, 1) := by decide +kernel
theorem dX11_early_93 : decode cX11_early 93 = .ok (.dup, 1) := by decide +kernel
theorem dX11_early_94 : decode cX11_early 94 = .ok (.getfield 165, 3) := by decide +kernel
theorem dX11_early_97 : decode cX11_early 97 = .ok (.iconst 1, 1) := by decide +kernel
theorem dX11_early_98 : decode cX11_early 98 = .ok (.iadd, 1) := by decide +kernel
theorem dX11_early_99 : decode cX11_early 99 = .ok (.putfield 165, 3) := by decide +kernel
theorem dX11_early_102 : decode cX11_early 102 = .ok (.aload_n 0, 1) := by decide +kernel
theorem dX11_early_103 : decode cX11_early 103 = .ok (.aload_n 0, 1) := by decide +kernel
theorem dX11_early_104 : decode cX11_early 104 = .ok (.getfield 149, 3) := by decide +kernel
theorem dX11_early_107 : decode cX11_early 107 = .ok (.bipush 101, 2) := by decide +kernel
theorem dX11_early_109 : decode cX11_early 109 = .ok (.iload_n 1, 1) := by decide +kernel
theorem dX11_early_110 : decode cX11_early 110 = .ok (.invokevirtual 172, 3) := by decide +kernel
theorem dX11_early_113 : decode cX11_early 113 = .ok (.aload_n 0, 1) := by decide +kernel
theorem dX11_early_114 : decode cX11_early 114 = .ok (.getfield 165, 3) := by decide +kernel
theorem dX11_early_117 : decode cX11_early 117 = .ok (.iconst 1, 1) := by decide +kernel
theorem dX11_early_118 : decode cX11_early 118 = .ok (.isub, 1) := by decide +kernel
theorem dX11_early_119 : decode cX11_early 119 = .ok (.ireturn, 1) := by decide +kernel
set_option maxRecDepth 20000 in
theorem ggX11_vote_X11_isPerson : GoodIn wsX11_vote wsX11_isPerson := goodIn_r _ [9, 10, 11, 12, 8, 13, 54, 55, 56, 57, 58, 59, 60, 61, 62, 63, 64, 65, 66, 67, 68, 69, 70, 71, 72, 73, 74, 75, 76, 77, 78, 79, 80, 81, 82, 83, 84, 85, 86, 87, 88, 89, 90, 91, 92, 93, 94, 95, 96, 97] (by decide +kernel) (by decide +kernel)
set_option maxRecDepth 20000 in
theorem gX11_vote_X11_isPerson : GoodIn wsX11_vote (wsV RX11 156 RX11 yX11_isPerson wsX11_isPerson) := goodIn_app (goodIn_of _ (by decide +kernel)) ggX11_vote_X11_isPerson
set_option maxRecDepth 20000 in
theorem ggX11_vote_X11_isStation : GoodIn wsX11_vote wsX11_isStation := goodIn_r _ [17, 18, 11, 12, 8, 13, 54, 55, 56, 57, 58, 59, 60, 61, 62, 63, 64, 65, 66, 67, 68, 69, 70, 71, 72, 73, 74, 75, 76, 77, 78, 79, 80, 81, 82, 83, 84, 85, 86, 87, 88, 89, 90, 91, 92, 93, 94, 95, 96, 97] (by decide +kernel) (by decide +kernel)
set_option maxRecDepth 20000 in
theorem gX11_vote_X11_isStation : GoodIn wsX11_vote (wsV RX11 143 RX11 yX11_isStation wsX11_isStation) := goodIn_app (goodIn_of _ (by decide +kernel)) ggX11_vote_X11_isStation
set_option maxRecDepth 20000 in
theorem ggX11_vote_X11_in : GoodIn wsX11_vote wsX11_in := goodIn_r _ [13] (by decide +kernel) (by decide +kernel)
set_option maxRecDepth 20000 in
theorem gX11_vote_X11_in : GoodIn wsX11_vote (va_wsS RX11 111 yX11_in wsX11_in) := goodIn_app (goodIn_of _ (by decide +kernel)) ggX11_vote_X11_in
set_option maxRecDepth 20000 in
theorem ggX11_vote_X11_canVote : GoodIn wsX11_vote wsX11_canVote := goodIn_ca (goodIn_r _ [22, 3, 23, 54, 55, 56, 57, 58, 59, 60, 61, 62, 63, 64, 65, 66, 67, 68, 69, 70, 71, 72, 73, 74, 75, 76, 77, 78, 79, 80, 81, 82, 83, 84, 85, 86, 87, 88, 89, 90, 91, 92, 93, 94, 95, 96, 97] (by decide +kernel) (by decide +kernel)) (goodIn_sub (fun _ h => List.mem_cons_of_mem _ (List.mem_append_right _ h)) (by decide +kernel))
set_option maxRecDepth 20000 in
theorem gX11_vote_X11_canVote : GoodIn wsX11_vote (wsV RX11 207 RX11 yX11_canVote wsX11_canVote) := goodIn_app (goodIn_of _ (by decide +kernel)) ggX11_vote_X11_canVote
set_option maxRecDepth 20000 in
theorem ggX11_vote_X11_asked__ : GoodIn wsX11_vote wsX11_asked__ := goodIn_r _ [27, 28, 54, 55, 56, 57, 58, 59, 60, 61, 62, 63, 64, 65, 66, 67, 68, 69, 70, 71, 72, 73, 74, 75, 76, 77, 78, 79, 80, 81, 82, 83, 84, 85, 86, 87, 88, 89, 90, 91, 92, 93, 94, 95, 96, 97] (by decide +kernel) (by decide +kernel)
set_option maxRecDepth 20000 in
theorem gX11_vote_X11_asked__ : GoodIn wsX11_vote (wsV RX11 140 RX11 yX11_asked__ wsX11_asked__) := goodIn_app (goodIn_of _ (by decide +kernel)) ggX11_vote_X11_asked__
set_option maxRecDepth 20000 in
theorem ggX11_vote_X11_voids : GoodIn wsX11_vote wsX11_voids := goodIn_ca (goodIn_r _ [32, 33, 4, 34, 35, 36, 8, 37, 38, 39, 40, 41, 42, 43, 44, 45, 46, 47, 54, 55, 56, 57, 58, 59, 60, 61, 62, 63, 64, 65, 66, 67, 68, 69, 70, 71, 72, 73, 74, 75, 76, 77, 78, 79, 80, 81, 82, 83, 84, 85, 86, 87, 88, 89, 90, 91, 92, 93, 94, 95, 96, 97] (by decide +kernel) (by decide +kernel)) (goodIn_sub (fun _ h => List.mem_cons_of_mem _ (List.mem_append_right _ h)) (by decide +kernel))
set_option maxRecDepth 20000 in
theorem gX11_vote_X11_voids : GoodIn wsX11_vote (wsV RX11 175 RX11 yX11_voids wsX11_voids) := goodIn_app (goodIn_of _ (by decide +kernel)) ggX11_vote_X11_voids
set_option maxRecDepth 20000 in
theorem ggX11_vote_X11_notes : GoodIn wsX11_vote wsX11_notes := goodIn_ca (goodIn_r _ [43, 44, 45, 46, 47, 54, 55, 56, 57, 58, 59, 60, 61, 62, 63, 64, 65, 66, 67, 68, 69, 70, 71, 72, 73, 74, 75, 76, 77, 78, 79, 80, 81, 82, 83, 84, 85, 86, 87, 88, 89, 90, 91, 92, 93, 94, 95, 96, 97] (by decide +kernel) (by decide +kernel)) (goodIn_sub (fun _ h => List.mem_cons_of_mem _ (List.mem_append_right _ h)) (by decide +kernel))
set_option maxRecDepth 20000 in
theorem gX11_vote_X11_notes : GoodIn wsX11_vote (wsV RX11 172 RX11 yX11_notes wsX11_notes) := goodIn_app (goodIn_of _ (by decide +kernel)) ggX11_vote_X11_notes
set_option maxRecDepth 20000 in
theorem ggX11_vote_X11_casts : GoodIn wsX11_vote wsX11_casts := goodIn_ca (goodIn_r _ [51, 3, 52, 53, 2, 54, 55, 56, 57, 58, 59, 60, 61, 62, 63, 64, 65, 66, 67, 68, 69, 70, 71, 72, 73, 74, 75, 76, 77, 78, 79, 80, 81, 82, 83, 84, 85, 86, 87, 88, 89, 90, 91, 92, 93, 94, 95, 96, 97] (by decide +kernel) (by decide +kernel)) (goodIn_sub (fun _ h => List.mem_cons_of_mem _ (List.mem_append_right _ h)) (by decide +kernel))
set_option maxRecDepth 20000 in
theorem gX11_vote_X11_casts : GoodIn wsX11_vote (wsV RX11 195 RX11 yX11_casts wsX11_casts) := goodIn_app (goodIn_of _ (by decide +kernel)) ggX11_vote_X11_casts
theorem dX11_vote_0 : decode cX11_vote 0 = .ok (.aload_n 0, 1) := by decide +kernel
theorem dX11_vote_1 : decode cX11_vote 1 = .ok (.iload_n 1, 1) := by decide +kernel
theorem dX11_vote_2 : decode cX11_vote 2 = .ok (.invokevirtual 156, 3) := by decide +kernel
theorem dX11_vote_5 : decode cX11_vote 5 = .ok (.ifCond .eq 15, 3) := by decide +kernel
theorem dX11_vote_8 : decode cX11_vote 8 = .ok (.aload_n 0, 1) := by decide +kernel
theorem dX11_vote_9 : decode cX11_vote 9 = .ok (.iload_n 2, 1) := by decide +kernel
theorem dX11_vote_10 : decode cX11_vote 10 = .ok (.invokevirtual 143, 3) := by decide +kernel
theorem dX11_vote_13 : decode cX11_vote 13 = .ok (.ifCond .eq 7, 3) := by decide +kernel
theorem dX11_vote_16 : decode cX11_vote 16 = .ok (.iconst 1, 1) := by decide +kernel
theorem dX11_vote_17 : decode cX11_vote 17 = .ok (.goto 4, 3) := by decide +kernel
theorem dX11_vote_20 : decode cX11_vote 20 = .ok (.iconst 0, 1) := by decide +kernel
theorem dX11_vote_21 : decode cX11_vote 21 = .ok (.istore 4, 2) := by decide +kernel
theorem dX11_vote_23 : decode cX11_vote 23 = .ok (.aload_n 0, 1) := by decide +kernel
theorem dX11_vote_24 : decode cX11_vote 24 = .ok (.iload 4, 2) := by decide +kernel
theorem dX11_vote_26 : decode cX11_vote 26 = .ok (.iload_n 3, 1) := by decide +kernel
theorem dX11_vote_27 : decode cX11_vote 27 = .ok (.iconst 0, 1) := by decide +kernel
theorem dX11_vote_28 : decode cX11_vote 28 = .ok (.iconst 5, 1) := by decide +kernel
theorem dX11_vote_29 : decode cX11_vote 29 = .ok (.invokestatic 111, 3) := by decide +kernel
theorem dX11_vote_32 : decode cX11_vote 32 = .ok (.iload 4, 2) := by decide +kernel
theorem dX11_vote_34 : decode cX11_vote 34 = .ok (.ifCond .eq 42, 3) := by decide +kernel
theorem dX11_vote_37 : decode cX11_vote 37 = .ok (.aload_n 0, 1) := by decide +kernel
theorem dX11_vote_38 : decode cX11_vote 38 = .ok (.getfield 41, 3) := by decide +kernel
theorem dX11_vote_41 : decode cX11_vote 41 = .ok (.iconst 3, 1) := by decide +kernel
theorem dX11_vote_42 : decode cX11_vote 42 = .ok (.if_icmp .ne 34, 3) := by decide +kernel
theorem dX11_vote_45 : decode cX11_vote 45 = .ok (.aload_n 0, 1) := by decide +kernel
theorem dX11_vote_46 : decode cX11_vote 46 = .ok (.iload_n 1, 1) := by decide +kernel
theorem dX11_vote_47 : decode cX11_vote 47 = .ok (.invokevirtual 207, 3) := by decide +kernel
theorem dX11_vote_50 : decode cX11_vote 50 = .ok (.ifCond .eq 26, 3) := by decide +kernel
theorem dX11_vote_53 : decode cX11_vote 53 = .ok (.aload_n 0, 1) := by decide +kernel
theorem dX11_vote_54 : decode cX11_vote 54 = .ok (.getfield 54, 3) := by decide +kernel
theorem dX11_vote_57 : decode cX11_vote 57 = .ok (.iload_n 1, 1) := by decide +kernel
theorem dX11_vote_58 : decode cX11_vote 58 = .ok (.baload, 1) := by decide +kernel
theorem dX11_vote_59 : decode cX11_vote 59 = .ok (.ifCond .ne 17, 3) := by decide +kernel
theorem dX11_vote_62 : decode cX11_vote 62 = .ok (.aload_n 0, 1) := by decide +kernel
theorem dX11_vote_63 : decode cX11_vote 63 = .ok (.getfield 48, 3) := by decide +kernel
theorem dX11_vote_66 : decode cX11_vote 66 = .ok (.iload_n 1, 1) := by decide +kernel
theorem dX11_vote_67 : decode cX11_vote 67 = .ok (.iaload, 1) := by decide +kernel
theorem dX11_vote_68 : decode cX11_vote 68 = .ok (.iload_n 2, 1) := by decide +kernel
theorem dX11_vote_69 : decode cX11_vote 69 = .ok (.if_icmp .ne 7, 3) := by decide +kernel
theorem dX11_vote_72 : decode cX11_vote 72 = .ok (.iconst 1, 1) := by decide +kernel
theorem dX11_vote_73 : decode cX11_vote 73 = .ok (.goto 4, 3) := by decide +kernel
theorem dX11_vote_76 : decode cX11_vote 76 = .ok (.iconst 0, 1) := by decide +kernel
theorem dX11_vote_77 : decode cX11_vote 77 = .ok (.invokevirtual 140, 3) := by decide +kernel
theorem dX11_vote_80 : decode cX11_vote 80 = .ok (.ifCond .ne 5, 3) := by decide +kernel
theorem dX11_vote_83 : decode cX11_vote 83 = .ok (.iconst 0, 1) := by decide +kernel
theorem dX11_vote_84 : decode cX11_vote 84 = .ok (.ireturn, 1) := by decide +kernel
theorem dX11_vote_85 : decode cX11_vote 85 = .ok (.aload_n 0, 1) := by decide +kernel
theorem dX11_vote_86 : decode cX11_vote 86 = .ok (.iload_n 1, 1) := by decide +kernel
theorem dX11_vote_87 : decode cX11_vote 87 = .ok (.invokevirtual 175, 3) := by decide +kernel
theorem dX11_vote_90 : decode cX11_vote 90 = .ok (.pop, 1) := by decide +kernel
theorem dX11_vote_91 : decode cX11_vote 91 = .ok (.aload_n 0, 1) := by decide +kernel
theorem dX11_vote_92 : decode cX11_vote 92 = .ok (.aload_n 0, 1) := by decide +kernel
theorem dX11_vote_93 : decode cX11_vote 93 = .ok (.getfield 149, 3) := by decide +kernel
theorem dX11_vote_96 : decode cX11_vote 96 = .ok (.bipush 118, 2) := by decide +kernel
theorem dX11_vote_98 : decode cX11_vote 98 = .ok (.iload_n 1, 1) := by decide +kernel
theorem dX11_vote_99 : decode cX11_vote 99 = .ok (.invokevirtual 172, 3) := by decide +kernel
theorem dX11_vote_102 : decode cX11_vote 102 = .ok (.aload_n 0, 1) := by decide +kernel
theorem dX11_vote_103 : decode cX11_vote 103 = .ok (.iload_n 1, 1) := by decide +kernel
theorem dX11_vote_104 : decode cX11_vote 104 = .ok (.iload_n 3, 1) := by decide +kernel
theorem dX11_vote_105 : decode cX11_vote 105 = .ok (.invokevirtual 195, 3) := by decide +kernel
theorem dX11_vote_108 : decode cX11_vote 108 = .ok (.ireturn, 1) := by decide +kernel
set_option maxRecDepth 20000 in
theorem ggX11_open_X11_isPerson : GoodIn wsX11_open wsX11_isPerson := goodIn_r _ [9, 10, 11, 12, 8, 13, 41, 42, 43, 44, 45, 46, 47, 48, 49, 50, 51, 52, 53, 54, 55, 56, 57, 58, 59, 60, 61, 62, 63, 64, 65, 66, 67, 68, 69, 70, 71, 72, 73, 74, 75, 76, 77, 78, 79, 80, 81, 82, 83, 84] (by decide +kernel) (by decide +kernel)
set_option maxRecDepth 20000 in
theorem gX11_open_X11_isPerson : GoodIn wsX11_open (wsV RX11 156 RX11 yX11_isPerson wsX11_isPerson) := goodIn_app (goodIn_of _ (by decide +kernel)) ggX11_open_X11_isPerson
set_option maxRecDepth 20000 in
theorem ggX11_open_X11_sealedOf : GoodIn wsX11_open wsX11_sealedOf := goodIn_ca (goodIn_r _ [17, 18, 19, 2, 41, 42, 43, 44, 45, 46, 47, 48, 49, 50, 51, 52, 53, 54, 55, 56, 57, 58, 59, 60, 61, 62, 63, 64, 65, 66, 67, 68, 69, 70, 71, 72, 73, 74, 75, 76, 77, 78, 79, 80, 81, 82, 83, 84] (by decide +kernel) (by decide +kernel)) (goodIn_sub (fun _ h => List.mem_cons_of_mem _ (List.mem_append_right _ h)) (by decide +kernel))
set_option maxRecDepth 20000 in
theorem gX11_open_X11_sealedOf : GoodIn wsX11_open (wsV RX11 168 RX11 yX11_sealedOf wsX11_sealedOf) := goodIn_app (goodIn_of _ (by decide +kernel)) ggX11_open_X11_sealedOf
set_option maxRecDepth 20000 in
theorem ggX11_open_X11_asked_ : GoodIn wsX11_open wsX11_asked_ := goodIn_r _ [23, 24, 41, 42, 43, 44, 45, 46, 47, 48, 49, 50, 51, 52, 53, 54, 55, 56, 57, 58, 59, 60, 61, 62, 63, 64, 65, 66, 67, 68, 69, 70, 71, 72, 73, 74, 75, 76, 77, 78, 79, 80, 81, 82, 83, 84] (by decide +kernel) (by decide +kernel)
set_option maxRecDepth 20000 in
theorem gX11_open_X11_asked_ : GoodIn wsX11_open (wsV RX11 129 RX11 yX11_asked_ wsX11_asked_) := goodIn_app (goodIn_of _ (by decide +kernel)) ggX11_open_X11_asked_
set_option maxRecDepth 20000 in
theorem ggX11_open_X11_casts : GoodIn wsX11_open wsX11_casts := goodIn_ca (goodIn_r _ [28, 29, 30, 31, 32, 41, 42, 43, 44, 45, 46, 47, 48, 49, 50, 51, 52, 53, 54, 55, 56, 57, 58, 59, 60, 61, 62, 63, 64, 65, 66, 67, 68, 69, 70, 71, 72, 73, 74, 75, 76, 77, 78, 79, 80, 81, 82, 83, 84] (by decide +kernel) (by decide +kernel)) (goodIn_sub (fun _ h => List.mem_cons_of_mem _ (List.mem_append_right _ h)) (by decide +kernel))
set_option maxRecDepth 20000 in
theorem gX11_open_X11_casts : GoodIn wsX11_open (wsV RX11 195 RX11 yX11_casts wsX11_casts) := goodIn_app (goodIn_of _ (by decide +kernel)) ggX11_open_X11_casts
set_option maxRecDepth 20000 in
theorem ggX11_open_X11_notes : GoodIn wsX11_open wsX11_notes := goodIn_ca (goodIn_r _ [36, 37, 38, 39, 40, 41, 42, 43, 44, 45, 46, 47, 48, 49, 50, 51, 52, 53, 54, 55, 56, 57, 58, 59, 60, 61, 62, 63, 64, 65, 66, 67, 68, 69, 70, 71, 72, 73, 74, 75, 76, 77, 78, 79, 80, 81, 82, 83, 84] (by decide +kernel) (by decide +kernel)) (goodIn_sub (fun _ h => List.mem_cons_of_mem _ (List.mem_append_right _ h)) (by decide +kernel))
set_option maxRecDepth 20000 in
theorem gX11_open_X11_notes : GoodIn wsX11_open (wsV RX11 172 RX11 yX11_notes wsX11_notes) := goodIn_app (goodIn_of _ (by decide +kernel)) ggX11_open_X11_notes
theorem dX11_open_0 : decode cX11_open 0 = .ok (.aload_n 0, 1) := by decide +kernel
theorem dX11_open_1 : decode cX11_open 1 = .ok (.iload_n 1, 1) := by decide +kernel
theorem dX11_open_2 : decode cX11_open 2 = .ok (.invokevirtual 156, 3) := by decide +kernel
theorem dX11_open_5 : decode cX11_open 5 = .ok (.istore_n 2, 1) := by decide +kernel
theorem dX11_open_6 : decode cX11_open 6 = .ok (.iload_n 2, 1) := by decide +kernel
theorem dX11_open_7 : decode cX11_open 7 = .ok (.ifCond .eq 19, 3) := by decide +kernel
theorem dX11_open_10 : decode cX11_open 10 = .ok (.aload_n 0, 1) := by decide +kernel
theorem dX11_open_11 : decode cX11_open 11 = .ok (.getfield 41, 3) := by decide +kernel
theorem dX11_open_14 : decode cX11_open 14 = .ok (.iconst 3, 1) := by decide +kernel
theorem dX11_open_15 : decode cX11_open 15 = .ok (.if_icmp .ne 11, 3) := by decide +kernel
theorem dX11_open_18 : decode cX11_open 18 = .ok (.aload_n 0, 1) := by decide +kernel
theorem dX11_open_19 : decode cX11_open 19 = .ok (.iload_n 1, 1) := by decide +kernel
theorem dX11_open_20 : decode cX11_open 20 = .ok (.invokevirtual 168, 3) := by decide +kernel
theorem dX11_open_23 : decode cX11_open 23 = .ok (.goto 4, 3) := by decide +kernel
theorem dX11_open_26 : decode cX11_open 26 = .ok (.iconst (-1), 1) := by decide +kernel
theorem dX11_open_27 : decode cX11_open 27 = .ok (.istore_n 3, 1) := by decide +kernel
theorem dX11_open_28 : decode cX11_open 28 = .ok (.aload_n 0, 1) := by decide +kernel
theorem dX11_open_29 : decode cX11_open 29 = .ok (.iload_n 2, 1) := by decide +kernel
theorem dX11_open_30 : decode cX11_open 30 = .ok (.iload_n 3, 1) := by decide +kernel
theorem dX11_open_31 : decode cX11_open 31 = .ok (.iconst (-1), 1) := by decide +kernel
theorem dX11_open_32 : decode cX11_open 32 = .ok (.if_icmp .eq 7, 3) := by decide +kernel
theorem dX11_open_35 : decode cX11_open 35 = .ok (.iconst 1, 1) := by decide +kernel
theorem dX11_open_36 : decode cX11_open 36 = .ok (.goto 4, 3) := by decide +kernel
theorem dX11_open_39 : decode cX11_open 39 = .ok (.iconst 0, 1) := by decide +kernel
theorem dX11_open_40 : decode cX11_open 40 = .ok (.invokevirtual 129, 3) := by decide +kernel
theorem dX11_open_43 : decode cX11_open 43 = .ok (.ifCond .ne 5, 3) := by decide +kernel
theorem dX11_open_46 : decode cX11_open 46 = .ok (.iconst 0, 1) := by decide +kernel
theorem dX11_open_47 : decode cX11_open 47 = .ok (.ireturn, 1) := by decide +kernel
theorem dX11_open_48 : decode cX11_open 48 = .ok (.aload_n 0, 1) := by decide +kernel
theorem dX11_open_49 : decode cX11_open 49 = .ok (.getfield 63, 3) := by decide +kernel
theorem dX11_open_52 : decode cX11_open 52 = .ok (.iload_n 3, 1) := by decide +kernel
theorem dX11_open_53 : decode cX11_open 53 = .ok (.iconst 2, 1) := by decide +kernel
theorem dX11_open_54 : decode cX11_open 54 = .ok (.iastore, 1) := by decide +kernel
theorem dX11_open_55 : decode cX11_open 55 = .ok (.aload_n 0, 1) := by decide +kernel
theorem dX11_open_56 : decode cX11_open 56 = .ok (.iload_n 1, 1) := by decide +kernel
theorem dX11_open_57 : decode cX11_open 57 = .ok (.aload_n 0, 1) := by decide +kernel
theorem dX11_open_58 : decode cX11_open 58 = .ok (.getfield 60, 3) := by decide +kernel
theorem dX11_open_61 : decode cX11_open 61 = .ok (.iload_n 3, 1) := by decide +kernel
theorem dX11_open_62 : decode cX11_open 62 = .ok (.iaload, 1) := by decide +kernel
theorem dX11_open_63 : decode cX11_open 63 = .ok (.invokevirtual 195, 3) := by decide +kernel
theorem dX11_open_66 : decode cX11_open 66 = .ok (.pop, 1) := by decide +kernel
theorem dX11_open_67 : decode cX11_open 67 = .ok (.aload_n 0, 1) := by decide +kernel
theorem dX11_open_68 : decode cX11_open 68 = .ok (.aload_n 0, 1) := by decide +kernel
theorem dX11_open_69 : decode cX11_open 69 = .ok (.getfield 149, 3) := by decide +kernel
theorem dX11_open_72 : decode cX11_open 72 = .ok (.bipush 111, 2) := by decide +kernel
theorem dX11_open_74 : decode cX11_open 74 = .ok (.iload_n 1, 1) := by decide +kernel
theorem dX11_open_75 : decode cX11_open 75 = .ok (.invokevirtual 172, 3) := by decide +kernel
theorem dX11_open_78 : decode cX11_open 78 = .ok (.iload_n 3, 1) := by decide +kernel
theorem dX11_open_79 : decode cX11_open 79 = .ok (.ireturn, 1) := by decide +kernel
set_option maxRecDepth 20000 in
theorem ggX11_envelopes_X11_told : GoodIn wsX11_envelopes wsX11_told := goodIn_r _ [6, 7, 8, 9, 10, 11, 12, 13, 14, 15, 16, 17, 18, 19, 20, 21, 22, 23, 24, 25, 26, 27, 28, 29, 30, 31, 32, 33, 34, 35, 36, 37, 38, 39, 40, 41, 42, 43, 44, 45, 46, 47, 48, 49, 50, 51] (by decide +kernel) (by decide +kernel)
set_option maxRecDepth 20000 in
theorem gX11_envelopes_X11_told : GoodIn wsX11_envelopes (wsV RX11 204 RX11 yX11_told wsX11_told) := goodIn_app (goodIn_of _ (by decide +kernel)) ggX11_envelopes_X11_told
theorem dX11_envelopes_0 : decode cX11_envelopes 0 = .ok (.aload_n 0, 1) := by decide +kernel
theorem dX11_envelopes_1 : decode cX11_envelopes 1 = .ok (.aload_n 0, 1) := by decide +kernel
theorem dX11_envelopes_2 : decode cX11_envelopes 2 = .ok (.getfield 165, 3) := by decide +kernel
theorem dX11_envelopes_5 : decode cX11_envelopes 5 = .ok (.invokevirtual 204, 3) := by decide +kernel
theorem dX11_envelopes_8 : decode cX11_envelopes 8 = .ok (.ireturn, 1) := by decide +kernel
set_option maxRecDepth 20000 in
theorem ggX11_stateOf_X11_in : GoodIn wsX11_stateOf wsX11_in := goodIn_r _ [6] (by decide +kernel) (by decide +kernel)
set_option maxRecDepth 20000 in
theorem gX11_stateOf_X11_in : GoodIn wsX11_stateOf (va_wsS RX11 111 yX11_in wsX11_in) := goodIn_app (goodIn_of _ (by decide +kernel)) ggX11_stateOf_X11_in
set_option maxRecDepth 20000 in
theorem ggX11_stateOf_X11_asked : GoodIn wsX11_stateOf wsX11_asked := goodIn_r _ [10, 11, 12, 13, 14, 15, 16, 17, 18, 19, 20, 21, 22, 23, 24, 25, 26, 27, 28, 29, 30, 31, 32, 33, 34, 35, 36, 37, 38, 39, 40, 41, 42, 43, 44, 45, 46, 47, 48, 49, 50, 51, 52, 53, 54, 55] (by decide +kernel) (by decide +kernel)
set_option maxRecDepth 20000 in
theorem gX11_stateOf_X11_asked : GoodIn wsX11_stateOf (wsV RX11 133 RX11 yX11_asked wsX11_asked) := goodIn_app (goodIn_of _ (by decide +kernel)) ggX11_stateOf_X11_asked
theorem dX11_stateOf_0 : decode cX11_stateOf 0 = .ok (.aload_n 0, 1) := by decide +kernel
theorem dX11_stateOf_1 : decode cX11_stateOf 1 = .ok (.iload_n 1, 1) := by decide +kernel
theorem dX11_stateOf_2 : decode cX11_stateOf 2 = .ok (.iconst 0, 1) := by decide +kernel
theorem dX11_stateOf_3 : decode cX11_stateOf 3 = .ok (.aload_n 0, 1) := by decide +kernel
theorem dX11_stateOf_4 : decode cX11_stateOf 4 = .ok (.getfield 165, 3) := by decide +kernel
theorem dX11_stateOf_7 : decode cX11_stateOf 7 = .ok (.iconst 1, 1) := by decide +kernel
theorem dX11_stateOf_8 : decode cX11_stateOf 8 = .ok (.isub, 1) := by decide +kernel
theorem dX11_stateOf_9 : decode cX11_stateOf 9 = .ok (.invokestatic 111, 3) := by decide +kernel
theorem dX11_stateOf_12 : decode cX11_stateOf 12 = .ok (.invokevirtual 133, 3) := by decide +kernel
theorem dX11_stateOf_15 : decode cX11_stateOf 15 = .ok (.ifCond .eq 12, 3) := by decide +kernel
theorem dX11_stateOf_18 : decode cX11_stateOf 18 = .ok (.aload_n 0, 1) := by decide +kernel
theorem dX11_stateOf_19 : decode cX11_stateOf 19 = .ok (.getfield 63, 3) := by decide +kernel
theorem dX11_stateOf_22 : decode cX11_stateOf 22 = .ok (.iload_n 1, 1) := by decide +kernel
theorem dX11_stateOf_23 : decode cX11_stateOf 23 = .ok (.iaload, 1) := by decide +kernel
theorem dX11_stateOf_24 : decode cX11_stateOf 24 = .ok (.goto 4, 3) := by decide +kernel
theorem dX11_stateOf_27 : decode cX11_stateOf 27 = .ok (.iconst 0, 1) := by decide +kernel
theorem dX11_stateOf_28 : decode cX11_stateOf 28 = .ok (.ireturn, 1) := by decide +kernel
set_option maxRecDepth 20000 in
theorem ggX11_personOf_X11_in : GoodIn wsX11_personOf wsX11_in := goodIn_r _ [6] (by decide +kernel) (by decide +kernel)
set_option maxRecDepth 20000 in
theorem gX11_personOf_X11_in : GoodIn wsX11_personOf (va_wsS RX11 111 yX11_in wsX11_in) := goodIn_app (goodIn_of _ (by decide +kernel)) ggX11_personOf_X11_in
set_option maxRecDepth 20000 in
theorem ggX11_personOf_X11_asked : GoodIn wsX11_personOf wsX11_asked := goodIn_r _ [10, 11, 12, 13, 14, 15, 16, 17, 18, 19, 20, 21, 22, 23, 24, 25, 26, 27, 28, 29, 30, 31, 32, 33, 34, 35, 36, 37, 38, 39, 40, 41, 42, 43, 44, 45, 46, 47, 48, 49, 50, 51, 52, 53, 54, 55] (by decide +kernel) (by decide +kernel)
set_option maxRecDepth 20000 in
theorem gX11_personOf_X11_asked : GoodIn wsX11_personOf (wsV RX11 133 RX11 yX11_asked wsX11_asked) := goodIn_app (goodIn_of _ (by decide +kernel)) ggX11_personOf_X11_asked
theorem dX11_personOf_0 : decode cX11_personOf 0 = .ok (.aload_n 0, 1) := by decide +kernel
theorem dX11_personOf_1 : decode cX11_personOf 1 = .ok (.iload_n 1, 1) := by decide +kernel
theorem dX11_personOf_2 : decode cX11_personOf 2 = .ok (.iconst 0, 1) := by decide +kernel
theorem dX11_personOf_3 : decode cX11_personOf 3 = .ok (.aload_n 0, 1) := by decide +kernel
theorem dX11_personOf_4 : decode cX11_personOf 4 = .ok (.getfield 165, 3) := by decide +kernel
theorem dX11_personOf_7 : decode cX11_personOf 7 = .ok (.iconst 1, 1) := by decide +kernel
theorem dX11_personOf_8 : decode cX11_personOf 8 = .ok (.isub, 1) := by decide +kernel
theorem dX11_personOf_9 : decode cX11_personOf 9 = .ok (.invokestatic 111, 3) := by decide +kernel
theorem dX11_personOf_12 : decode cX11_personOf 12 = .ok (.invokevirtual 133, 3) := by decide +kernel
theorem dX11_personOf_15 : decode cX11_personOf 15 = .ok (.ifCond .eq 12, 3) := by decide +kernel
theorem dX11_personOf_18 : decode cX11_personOf 18 = .ok (.aload_n 0, 1) := by decide +kernel
theorem dX11_personOf_19 : decode cX11_personOf 19 = .ok (.getfield 57, 3) := by decide +kernel
theorem dX11_personOf_22 : decode cX11_personOf 22 = .ok (.iload_n 1, 1) := by decide +kernel
theorem dX11_personOf_23 : decode cX11_personOf 23 = .ok (.iaload, 1) := by decide +kernel
theorem dX11_personOf_24 : decode cX11_personOf 24 = .ok (.goto 4, 3) := by decide +kernel
theorem dX11_personOf_27 : decode cX11_personOf 27 = .ok (.iconst 0, 1) := by decide +kernel
theorem dX11_personOf_28 : decode cX11_personOf 28 = .ok (.ireturn, 1) := by decide +kernel
set_option maxRecDepth 20000 in
theorem ggX11_ballots_X11_isStation : GoodIn wsX11_ballots wsX11_isStation := goodIn_r _ [6, 7, 8, 9, 5, 10, 16, 17, 18, 19, 20, 21, 22, 23, 24, 25, 26, 27, 28, 29, 30, 31, 32, 33, 34, 35, 36, 37, 38, 39, 40, 41, 42, 43, 44, 45, 46, 47, 48, 49, 50, 51, 52, 53, 54, 55, 56, 57, 58, 59] (by decide +kernel) (by decide +kernel)
set_option maxRecDepth 20000 in
theorem gX11_ballots_X11_isStation : GoodIn wsX11_ballots (wsV RX11 143 RX11 yX11_isStation wsX11_isStation) := goodIn_app (goodIn_of _ (by decide +kernel)) ggX11_ballots_X11_isStation
set_option maxRecDepth 20000 in
theorem ggX11_ballots_X11_asked : GoodIn wsX11_ballots wsX11_asked := goodIn_r _ [14, 15, 16, 17, 18, 19, 20, 21, 22, 23, 24, 25, 26, 27, 28, 29, 30, 31, 32, 33, 34, 35, 36, 37, 38, 39, 40, 41, 42, 43, 44, 45, 46, 47, 48, 49, 50, 51, 52, 53, 54, 55, 56, 57, 58, 59] (by decide +kernel) (by decide +kernel)
set_option maxRecDepth 20000 in
theorem gX11_ballots_X11_asked : GoodIn wsX11_ballots (wsV RX11 133 RX11 yX11_asked wsX11_asked) := goodIn_app (goodIn_of _ (by decide +kernel)) ggX11_ballots_X11_asked
theorem dX11_ballots_0 : decode cX11_ballots 0 = .ok (.aload_n 0, 1) := by decide +kernel
theorem dX11_ballots_1 : decode cX11_ballots 1 = .ok (.aload_n 0, 1) := by decide +kernel
theorem dX11_ballots_2 : decode cX11_ballots 2 = .ok (.iload_n 1, 1) := by decide +kernel
theorem dX11_ballots_3 : decode cX11_ballots 3 = .ok (.invokevirtual 143, 3) := by decide +kernel
theorem dX11_ballots_6 : decode cX11_ballots 6 = .ok (.invokevirtual 133, 3) := by decide +kernel
theorem dX11_ballots_9 : decode cX11_ballots 9 = .ok (.ifCond .eq 12, 3) := by decide +kernel
theorem dX11_ballots_12 : decode cX11_ballots 12 = .ok (.aload_n 0, 1) := by decide +kernel
theorem dX11_ballots_13 : decode cX11_ballots 13 = .ok (.getfield 69, 3) := by decide +kernel
theorem dX11_ballots_16 : decode cX11_ballots 16 = .ok (.iload_n 1, 1) := by decide +kernel
theorem dX11_ballots_17 : decode cX11_ballots 17 = .ok (.iaload, 1) := by decide +kernel
theorem dX11_ballots_18 : decode cX11_ballots 18 = .ok (.goto 4, 3) := by decide +kernel
theorem dX11_ballots_21 : decode cX11_ballots 21 = .ok (.iconst 0, 1) := by decide +kernel
theorem dX11_ballots_22 : decode cX11_ballots 22 = .ok (.ireturn, 1) := by decide +kernel
set_option maxRecDepth 20000 in
theorem ggX11_setSlip_X11_in : GoodIn wsX11_setSlip wsX11_in := goodIn_r _ [5] (by decide +kernel) (by decide +kernel)
set_option maxRecDepth 20000 in
theorem gX11_setSlip_X11_in : GoodIn wsX11_setSlip (va_wsS RX11 111 yX11_in wsX11_in) := goodIn_app (goodIn_of _ (by decide +kernel)) ggX11_setSlip_X11_in
set_option maxRecDepth 20000 in
theorem ggX11_setSlip_X11_asked_ : GoodIn wsX11_setSlip wsX11_asked_ := goodIn_r _ [9, 10, 11, 12, 13, 14, 15, 16, 17, 18, 19, 20, 21, 22, 23, 24, 25, 26, 27, 28, 29, 30, 31, 32, 33, 34, 35, 36, 37, 38, 39, 40, 41, 42, 43, 44, 45, 46, 47, 48, 49, 50, 51, 52, 53, 54] (by decide +kernel) (by decide +kernel)
set_option maxRecDepth 20000 in
theorem gX11_setSlip_X11_asked_ : GoodIn wsX11_setSlip (wsV RX11 129 RX11 yX11_asked_ wsX11_asked_) := goodIn_app (goodIn_of _ (by decide +kernel)) ggX11_setSlip_X11_asked_
theorem dX11_setSlip_0 : decode cX11_setSlip 0 = .ok (.aload_n 0, 1) := by decide +kernel
theorem dX11_setSlip_1 : decode cX11_setSlip 1 = .ok (.iload_n 1, 1) := by decide +kernel
theorem dX11_setSlip_2 : decode cX11_setSlip 2 = .ok (.iconst 0, 1) := by decide +kernel
theorem dX11_setSlip_3 : decode cX11_setSlip 3 = .ok (.iconst 3, 1) := by decide +kernel
theorem dX11_setSlip_4 : decode cX11_setSlip 4 = .ok (.invokestatic 111, 3) := by decide +kernel
theorem dX11_setSlip_7 : decode cX11_setSlip 7 = .ok (.iload_n 2, 1) := by decide +kernel
theorem dX11_setSlip_8 : decode cX11_setSlip 8 = .ok (.ifCond .eq 13, 3) := by decide +kernel
theorem dX11_setSlip_11 : decode cX11_setSlip 11 = .ok (.iload_n 2, 1) := by decide +kernel
theorem dX11_setSlip_12 : decode cX11_setSlip 12 = .ok (.iconst 2, 1) := by decide +kernel
theorem dX11_setSlip_13 : decode cX11_setSlip 13 = .ok (.bipush 20, 2) := by decide +kernel
theorem dX11_setSlip_15 : decode cX11_setSlip 15 = .ok (.invokestatic 111, 3) := by decide +kernel
theorem dX11_setSlip_18 : decode cX11_setSlip 18 = .ok (.ifCond .eq 7, 3) := by decide +kernel
theorem dX11_setSlip_21 : decode cX11_setSlip 21 = .ok (.iconst 1, 1) := by decide +kernel
theorem dX11_setSlip_22 : decode cX11_setSlip 22 = .ok (.goto 4, 3) := by decide +kernel
theorem dX11_setSlip_25 : decode cX11_setSlip 25 = .ok (.iconst 0, 1) := by decide +kernel
theorem dX11_setSlip_26 : decode cX11_setSlip 26 = .ok (.invokevirtual 129, 3) := by decide +kernel
theorem dX11_setSlip_29 : decode cX11_setSlip 29 = .ok (.ifCond .ne 5, 3) := by decide +kernel
theorem dX11_setSlip_32 : decode cX11_setSlip 32 = .ok (.iconst 0, 1) := by decide +kernel
theorem dX11_setSlip_33 : decode cX11_setSlip 33 = .ok (.ireturn, 1) := by decide +kernel
theorem dX11_setSlip_34 : decode cX11_setSlip 34 = .ok (.aload_n 0, 1) := by decide +kernel
theorem dX11_setSlip_35 : decode cX11_setSlip 35 = .ok (.getfield 84, 3) := by decide +kernel
theorem dX11_setSlip_38 : decode cX11_setSlip 38 = .ok (.iload_n 1, 1) := by decide +kernel
theorem dX11_setSlip_39 : decode cX11_setSlip 39 = .ok (.iaload, 1) := by decide +kernel
theorem dX11_setSlip_40 : decode cX11_setSlip 40 = .ok (.istore_n 3, 1) := by decide +kernel
theorem dX11_setSlip_41 : decode cX11_setSlip 41 = .ok (.aload_n 0, 1) := by decide +kernel
theorem dX11_setSlip_42 : decode cX11_setSlip 42 = .ok (.getfield 84, 3) := by decide +kernel
theorem dX11_setSlip_45 : decode cX11_setSlip 45 = .ok (.iload_n 1, 1) := by decide +kernel
theorem dX11_setSlip_46 : decode cX11_setSlip 46 = .ok (.iload_n 2, 1) := by decide +kernel
theorem dX11_setSlip_47 : decode cX11_setSlip 47 = .ok (.iastore, 1) := by decide +kernel
theorem dX11_setSlip_48 : decode cX11_setSlip 48 = .ok (.iload_n 3, 1) := by decide +kernel
theorem dX11_setSlip_49 : decode cX11_setSlip 49 = .ok (.ireturn, 1) := by decide +kernel
theorem dX11_areAlike_0 : decode cX11_areAlike 0 = .ok (.aload_n 0, 1) := by decide +kernel
theorem dX11_areAlike_1 : decode cX11_areAlike 1 = .ok (.getfield 75, 3) := by decide +kernel
theorem dX11_areAlike_4 : decode cX11_areAlike 4 = .ok (.iload_n 1, 1) := by decide +kernel
theorem dX11_areAlike_5 : decode cX11_areAlike 5 = .ok (.iaload, 1) := by decide +kernel
theorem dX11_areAlike_6 : decode cX11_areAlike 6 = .ok (.aload_n 0, 1) := by decide +kernel
theorem dX11_areAlike_7 : decode cX11_areAlike 7 = .ok (.getfield 75, 3) := by decide +kernel
theorem dX11_areAlike_10 : decode cX11_areAlike 10 = .ok (.iload_n 2, 1) := by decide +kernel
