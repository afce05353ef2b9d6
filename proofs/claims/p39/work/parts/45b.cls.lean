theorem dX1_settledNumber_16 : decode cX1_settledNumber 16 = .ok (.iload_n 1, 1) := by decide +kernel
theorem dX1_settledNumber_17 : decode cX1_settledNumber 17 = .ok (.ifCond .lt 9, 3) := by decide +kernel
theorem dX1_settledNumber_20 : decode cX1_settledNumber 20 = .ok (.iload_n 1, 1) := by decide +kernel
theorem dX1_settledNumber_21 : decode cX1_settledNumber 21 = .ok (.bipush 6, 2) := by decide +kernel
theorem dX1_settledNumber_23 : decode cX1_settledNumber 23 = .ok (.if_icmp .lt 5, 3) := by decide +kernel
theorem dX1_settledNumber_26 : decode cX1_settledNumber 26 = .ok (.iconst (-1), 1) := by decide +kernel
theorem dX1_settledNumber_27 : decode cX1_settledNumber 27 = .ok (.ireturn, 1) := by decide +kernel
theorem dX1_settledNumber_28 : decode cX1_settledNumber 28 = .ok (.aload_n 0, 1) := by decide +kernel
theorem dX1_settledNumber_29 : decode cX1_settledNumber 29 = .ok (.getfield 24, 3) := by decide +kernel
theorem dX1_settledNumber_32 : decode cX1_settledNumber 32 = .ok (.aload_n 0, 1) := by decide +kernel
theorem dX1_settledNumber_33 : decode cX1_settledNumber 33 = .ok (.getfield 30, 3) := by decide +kernel
theorem dX1_settledNumber_36 : decode cX1_settledNumber 36 = .ok (.aaload, 1) := by decide +kernel
theorem dX1_settledNumber_37 : decode cX1_settledNumber 37 = .ok (.iload_n 1, 1) := by decide +kernel
theorem dX1_settledNumber_38 : decode cX1_settledNumber 38 = .ok (.iaload, 1) := by decide +kernel
theorem dX1_settledNumber_39 : decode cX1_settledNumber 39 = .ok (.ireturn, 1) := by decide +kernel
theorem dX1_ballotsFor_0 : decode cX1_ballotsFor 0 = .ok (.iconst 0, 1) := by decide +kernel
theorem dX1_ballotsFor_1 : decode cX1_ballotsFor 1 = .ok (.istore_n 2, 1) := by decide +kernel
theorem dX1_ballotsFor_2 : decode cX1_ballotsFor 2 = .ok (.iconst 0, 1) := by decide +kernel
theorem dX1_ballotsFor_3 : decode cX1_ballotsFor 3 = .ok (.istore_n 3, 1) := by decide +kernel
theorem dX1_ballotsFor_4 : decode cX1_ballotsFor 4 = .ok (.iload_n 3, 1) := by decide +kernel
theorem dX1_ballotsFor_5 : decode cX1_ballotsFor 5 = .ok (.aload_n 0, 1) := by decide +kernel
theorem dX1_ballotsFor_6 : decode cX1_ballotsFor 6 = .ok (.getfield 15, 3) := by decide +kernel
theorem dX1_ballotsFor_9 : decode cX1_ballotsFor 9 = .ok (.if_icmp .ge 22, 3) := by decide +kernel
theorem dX1_ballotsFor_12 : decode cX1_ballotsFor 12 = .ok (.aload_n 0, 1) := by decide +kernel
theorem dX1_ballotsFor_13 : decode cX1_ballotsFor 13 = .ok (.getfield 9, 3) := by decide +kernel
theorem dX1_ballotsFor_16 : decode cX1_ballotsFor 16 = .ok (.iload_n 3, 1) := by decide +kernel
theorem dX1_ballotsFor_17 : decode cX1_ballotsFor 17 = .ok (.iaload, 1) := by decide +kernel
theorem dX1_ballotsFor_18 : decode cX1_ballotsFor 18 = .ok (.iload_n 1, 1) := by decide +kernel
theorem dX1_ballotsFor_19 : decode cX1_ballotsFor 19 = .ok (.if_icmp .ne 6, 3) := by decide +kernel
theorem dX1_ballotsFor_22 : decode cX1_ballotsFor 22 = .ok (.iinc 2 1, 3) := by decide +kernel
theorem dX1_ballotsFor_25 : decode cX1_ballotsFor 25 = .ok (.iinc 3 1, 3) := by decide +kernel
theorem dX1_ballotsFor_28 : decode cX1_ballotsFor 28 = .ok (.goto (-24), 3) := by decide +kernel
theorem dX1_ballotsFor_31 : decode cX1_ballotsFor 31 = .ok (.iload_n 2, 1) := by decide +kernel
theorem dX1_ballotsFor_32 : decode cX1_ballotsFor 32 = .ok (.ireturn, 1) := by decide +kernel
set_option maxRecDepth 20000 in
theorem ggX1_lostByReading_X1_hasNumbers : GoodIn wsX1_lostByReading wsX1_hasNumbers := goodIn_r _ [9, 10, 22, 23, 24, 25, 26, 27] (by decide +kernel) (by decide +kernel)
set_option maxRecDepth 20000 in
theorem gX1_lostByReading_X1_hasNumbers : GoodIn wsX1_lostByReading (wsV RX1 46 RX1 yX1_hasNumbers wsX1_hasNumbers) := goodIn_app (goodIn_of _ (by decide +kernel)) ggX1_lostByReading_X1_hasNumbers
set_option maxRecDepth 20000 in
theorem ggX1_lostByReading_X1_ballotsFor : GoodIn wsX1_lostByReading wsX1_ballotsFor := goodIn_ca (goodIn_r _ [14, 15, 16, 22, 23, 24, 25, 26, 27] (by decide +kernel) (by decide +kernel)) (goodIn_sub (fun _ h => List.mem_cons_of_mem _ (List.mem_append_right _ h)) (by decide +kernel))
set_option maxRecDepth 20000 in
theorem gX1_lostByReading_X1_ballotsFor : GoodIn wsX1_lostByReading (wsV RX1 50 RX1 yX1_ballotsFor wsX1_ballotsFor) := goodIn_app (goodIn_of _ (by decide +kernel)) ggX1_lostByReading_X1_ballotsFor
set_option maxRecDepth 20000 in
theorem ggX1_lostByReading_X1_settledNumber : GoodIn wsX1_lostByReading wsX1_settledNumber := goodIn_ca (goodIn_r _ [20, 10, 21, 22, 23, 24, 25, 26, 27] (by decide +kernel) (by decide +kernel)) (goodIn_sub (fun _ h => List.mem_cons_of_mem _ (List.mem_append_right _ h)) (by decide +kernel))
set_option maxRecDepth 20000 in
theorem gX1_lostByReading_X1_settledNumber : GoodIn wsX1_lostByReading (wsV RX1 54 RX1 yX1_settledNumber wsX1_settledNumber) := goodIn_app (goodIn_of _ (by decide +kernel)) ggX1_lostByReading_X1_settledNumber
theorem dX1_lostByReading_0 : decode cX1_lostByReading 0 = .ok (.aload_n 0, 1) := by decide +kernel
theorem dX1_lostByReading_1 : decode cX1_lostByReading 1 = .ok (.invokevirtual 46, 3) := by decide +kernel
theorem dX1_lostByReading_4 : decode cX1_lostByReading 4 = .ok (.ifCond .ne 5, 3) := by decide +kernel
theorem dX1_lostByReading_7 : decode cX1_lostByReading 7 = .ok (.iconst (-1), 1) := by decide +kernel
theorem dX1_lostByReading_8 : decode cX1_lostByReading 8 = .ok (.ireturn, 1) := by decide +kernel
theorem dX1_lostByReading_9 : decode cX1_lostByReading 9 = .ok (.iconst 0, 1) := by decide +kernel
theorem dX1_lostByReading_10 : decode cX1_lostByReading 10 = .ok (.istore_n 1, 1) := by decide +kernel
theorem dX1_lostByReading_11 : decode cX1_lostByReading 11 = .ok (.iconst 0, 1) := by decide +kernel
theorem dX1_lostByReading_12 : decode cX1_lostByReading 12 = .ok (.istore_n 2, 1) := by decide +kernel
theorem dX1_lostByReading_13 : decode cX1_lostByReading 13 = .ok (.iload_n 2, 1) := by decide +kernel
theorem dX1_lostByReading_14 : decode cX1_lostByReading 14 = .ok (.bipush 6, 2) := by decide +kernel
theorem dX1_lostByReading_16 : decode cX1_lostByReading 16 = .ok (.if_icmp .ge 27, 3) := by decide +kernel
theorem dX1_lostByReading_19 : decode cX1_lostByReading 19 = .ok (.iload_n 1, 1) := by decide +kernel
theorem dX1_lostByReading_20 : decode cX1_lostByReading 20 = .ok (.iconst 0, 1) := by decide +kernel
theorem dX1_lostByReading_21 : decode cX1_lostByReading 21 = .ok (.aload_n 0, 1) := by decide +kernel
theorem dX1_lostByReading_22 : decode cX1_lostByReading 22 = .ok (.iload_n 2, 1) := by decide +kernel
theorem dX1_lostByReading_23 : decode cX1_lostByReading 23 = .ok (.invokevirtual 50, 3) := by decide +kernel
theorem dX1_lostByReading_26 : decode cX1_lostByReading 26 = .ok (.aload_n 0, 1) := by decide +kernel
theorem dX1_lostByReading_27 : decode cX1_lostByReading 27 = .ok (.iload_n 2, 1) := by decide +kernel
theorem dX1_lostByReading_28 : decode cX1_lostByReading 28 = .ok (.invokevirtual 54, 3) := by decide +kernel
theorem dX1_lostByReading_31 : decode cX1_lostByReading 31 = .ok (.isub, 1) := by decide +kernel
theorem dX1_lostByReading_32 : decode cX1_lostByReading 32 = .ok (.invokestatic 57, 3) := by decide +kernel
theorem dX1_lostByReading_35 : decode cX1_lostByReading 35 = .ok (.iadd, 1) := by decide +kernel
theorem dX1_lostByReading_36 : decode cX1_lostByReading 36 = .ok (.istore_n 1, 1) := by decide +kernel
theorem dX1_lostByReading_37 : decode cX1_lostByReading 37 = .ok (.iinc 2 1, 3) := by decide +kernel
theorem dX1_lostByReading_40 : decode cX1_lostByReading 40 = .ok (.goto (-27), 3) := by decide +kernel
theorem dX1_lostByReading_43 : decode cX1_lostByReading 43 = .ok (.iload_n 1, 1) := by decide +kernel
theorem dX1_lostByReading_44 : decode cX1_lostByReading 44 = .ok (.ireturn, 1) := by decide +kernel
set_option maxRecDepth 20000 in
theorem ggX2_init_X5_init : GoodIn wsX2_init wsX5_init := goodIn_r _ [29, 30, 2, 3, 9, 31, 32, 33, 34, 35, 36, 37, 38, 98, 99, 100] (by decide +kernel) (by decide +kernel)
set_option maxRecDepth 20000 in
theorem gX2_init_X5_init : GoodIn wsX2_init (wsX5_init) := ggX2_init_X5_init
set_option maxRecDepth 20000 in
theorem ggX2_init_X3_init : GoodIn wsX2_init wsX3_init := goodIn_r _ [40, 41, 2, 3, 9, 42, 43, 44, 45, 101, 102, 103, 104] (by decide +kernel) (by decide +kernel)
set_option maxRecDepth 20000 in
theorem gX2_init_X3_init_n41 : GoodIn wsX2_init (wsX3_init) := ggX2_init_X3_init
set_option maxRecDepth 20000 in
theorem ggX2_init_X0_init : GoodIn wsX2_init wsX0_init := goodIn_r _ [47, 48, 2, 3, 9, 49, 50, 51, 52, 53, 54, 55, 56, 57, 58, 59, 60, 61, 62, 63, 64, 65, 66, 67, 68, 69, 70, 71, 72, 73, 74, 75, 76, 77, 105, 106, 107, 108, 109, 116, 117, 118, 119] (by decide +kernel) (by decide +kernel)
set_option maxRecDepth 20000 in
theorem gX2_init_X0_init_n54 : GoodIn wsX2_init (wsX0_init) := ggX2_init_X0_init
set_option maxRecDepth 20000 in
theorem ggX2_init_X1_init : GoodIn wsX2_init wsX1_init := goodIn_r _ [79, 80, 2, 3, 9, 81, 82, 83, 84, 85, 86, 87, 110, 111, 112, 113, 114, 115] (by decide +kernel) (by decide +kernel)
set_option maxRecDepth 20000 in
theorem gX2_init_X1_init_n59 : GoodIn wsX2_init (wsX1_init) := ggX2_init_X1_init
theorem dX2_init_0 : decode cX2_init 0 = .ok (.aload_n 0, 1) := by decide +kernel
theorem dX2_init_1 : decode cX2_init 1 = .ok (.invokespecial 3, 3) := by decide +kernel
theorem dX2_init_4 : decode cX2_init 4 = .ok (.aload_n 0, 1) := by decide +kernel
theorem dX2_init_5 : decode cX2_init 5 = .ok (.iconst 0, 1) := by decide +kernel
theorem dX2_init_6 : decode cX2_init 6 = .ok (.putfield 9, 3) := by decide +kernel
theorem dX2_init_9 : decode cX2_init 9 = .ok (.aload_n 0, 1) := by decide +kernel
theorem dX2_init_10 : decode cX2_init 10 = .ok (.iconst 0, 1) := by decide +kernel
theorem dX2_init_11 : decode cX2_init 11 = .ok (.putfield 15, 3) := by decide +kernel
theorem dX2_init_14 : decode cX2_init 14 = .ok (.aload_n 0, 1) := by decide +kernel
theorem dX2_init_15 : decode cX2_init 15 = .ok (.iconst 0, 1) := by decide +kernel
theorem dX2_init_16 : decode cX2_init 16 = .ok (.putfield 18, 3) := by decide +kernel
theorem dX2_init_19 : decode cX2_init 19 = .ok (.aload_n 0, 1) := by decide +kernel
theorem dX2_init_20 : decode cX2_init 20 = .ok (.iconst 0, 1) := by decide +kernel
theorem dX2_init_21 : decode cX2_init 21 = .ok (.putfield 21, 3) := by decide +kernel
theorem dX2_init_24 : decode cX2_init 24 = .ok (.aload_n 0, 1) := by decide +kernel
theorem dX2_init_25 : decode cX2_init 25 = .ok (.iconst 0, 1) := by decide +kernel
theorem dX2_init_26 : decode cX2_init 26 = .ok (.putfield 25, 3) := by decide +kernel
theorem dX2_init_29 : decode cX2_init 29 = .ok (.aload_n 0, 1) := by decide +kernel
theorem dX2_init_30 : decode cX2_init 30 = .ok (.iconst 5, 1) := by decide +kernel
theorem dX2_init_31 : decode cX2_init 31 = .ok (.newarray .int, 2) := by decide +kernel
theorem dX2_init_33 : decode cX2_init 33 = .ok (.putfield 28, 3) := by decide +kernel
theorem dX2_init_36 : decode cX2_init 36 = .ok (.aload_n 0, 1) := by decide +kernel
theorem dX2_init_37 : decode cX2_init 37 = .ok (.new 32, 3) := by decide +kernel
theorem dX2_init_40 : decode cX2_init 40 = .ok (.dup, 1) := by decide +kernel
theorem dX2_init_41 : decode cX2_init 41 = .ok (.invokespecial 34, 3) := by decide +kernel
theorem dX2_init_44 : decode cX2_init 44 = .ok (.putfield 35, 3) := by decide +kernel
theorem dX2_init_47 : decode cX2_init 47 = .ok (.aload_n 0, 1) := by decide +kernel
theorem dX2_init_48 : decode cX2_init 48 = .ok (.new 39, 3) := by decide +kernel
theorem dX2_init_51 : decode cX2_init 51 = .ok (.dup, 1) := by decide +kernel
theorem dX2_init_52 : decode cX2_init 52 = .ok (.invokespecial 41, 3) := by decide +kernel
theorem dX2_init_55 : decode cX2_init 55 = .ok (.putfield 42, 3) := by decide +kernel
theorem dX2_init_58 : decode cX2_init 58 = .ok (.aload_n 0, 1) := by decide +kernel
theorem dX2_init_59 : decode cX2_init 59 = .ok (.iconst 5, 1) := by decide +kernel
theorem dX2_init_60 : decode cX2_init 60 = .ok (.anewarray 46, 3) := by decide +kernel
theorem dX2_init_63 : decode cX2_init 63 = .ok (.putfield 48, 3) := by decide +kernel
theorem dX2_init_66 : decode cX2_init 66 = .ok (.aload_n 0, 1) := by decide +kernel
theorem dX2_init_67 : decode cX2_init 67 = .ok (.new 52, 3) := by decide +kernel
theorem dX2_init_70 : decode cX2_init 70 = .ok (.dup, 1) := by decide +kernel
theorem dX2_init_71 : decode cX2_init 71 = .ok (.invokespecial 54, 3) := by decide +kernel
theorem dX2_init_74 : decode cX2_init 74 = .ok (.putfield 55, 3) := by decide +kernel
theorem dX2_init_77 : decode cX2_init 77 = .ok (.iconst 0, 1) := by decide +kernel
theorem dX2_init_78 : decode cX2_init 78 = .ok (.istore_n 1, 1) := by decide +kernel
theorem dX2_init_79 : decode cX2_init 79 = .ok (.iload_n 1, 1) := by decide +kernel
theorem dX2_init_80 : decode cX2_init 80 = .ok (.iconst 5, 1) := by decide +kernel
theorem dX2_init_81 : decode cX2_init 81 = .ok (.if_icmp .ge 22, 3) := by decide +kernel
theorem dX2_init_84 : decode cX2_init 84 = .ok (.aload_n 0, 1) := by decide +kernel
theorem dX2_init_85 : decode cX2_init 85 = .ok (.getfield 48, 3) := by decide +kernel
theorem dX2_init_88 : decode cX2_init 88 = .ok (.iload_n 1, 1) := by decide +kernel
theorem dX2_init_89 : decode cX2_init 89 = .ok (.new 46, 3) := by decide +kernel
theorem dX2_init_92 : decode cX2_init 92 = .ok (.dup, 1) := by decide +kernel
theorem dX2_init_93 : decode cX2_init 93 = .ok (.invokespecial 59, 3) := by decide +kernel
theorem dX2_init_96 : decode cX2_init 96 = .ok (.aastore, 1) := by decide +kernel
theorem dX2_init_97 : decode cX2_init 97 = .ok (.iinc 1 1, 3) := by decide +kernel
theorem dX2_init_100 : decode cX2_init 100 = .ok (.goto (-21), 3) := by decide +kernel
theorem dX2_init_103 : decode cX2_init 103 = .ok (.return_, 1) := by decide +kernel
set_option maxRecDepth 20000 in
theorem ggX2_start_J7_fill_53178 : GoodIn wsX2_start wsJ7_fill_53178 := goodIn_r _ [14] (by decide +kernel) (by decide +kernel)
set_option maxRecDepth 20000 in
theorem gX2_start_J7_fill_53178 : GoodIn wsX2_start (va_wsS RX2 60 yJ7_fill_53178 wsJ7_fill_53178) := goodIn_app (goodIn_of _ (by decide +kernel)) ggX2_start_J7_fill_53178
set_option maxRecDepth 20000 in
theorem ggX2_start_X5_clear : GoodIn wsX2_start wsX5_clear := goodIn_ca (goodIn_r _ [19, 20, 21, 22, 23, 12, 13, 14, 51, 52, 53] (by decide +kernel) (by decide +kernel)) (goodIn_sub (fun _ h => List.mem_cons_of_mem _ (List.mem_append_right _ h)) (by decide +kernel))
set_option maxRecDepth 20000 in
theorem gX2_start_X5_clear : GoodIn wsX2_start (wsV RX2 66 RX5 yX5_clear wsX5_clear) := goodIn_app (goodIn_of _ (by decide +kernel)) ggX2_start_X5_clear
set_option maxRecDepth 20000 in
theorem ggX2_start_X1_clear : GoodIn wsX2_start wsX1_clear := goodIn_r _ [28, 29, 30, 31, 54, 55, 56, 57, 58, 59] (by decide +kernel) (by decide +kernel)
set_option maxRecDepth 20000 in
theorem gX2_start_X1_clear : GoodIn wsX2_start (wsV RX2 72 RX1 yX1_clear wsX1_clear) := goodIn_app (goodIn_of _ (by decide +kernel)) ggX2_start_X1_clear
theorem dX2_start_0 : decode cX2_start 0 = .ok (.aload_n 0, 1) := by decide +kernel
theorem dX2_start_1 : decode cX2_start 1 = .ok (.iconst 1, 1) := by decide +kernel
theorem dX2_start_2 : decode cX2_start 2 = .ok (.putfield 9, 3) := by decide +kernel
theorem dX2_start_5 : decode cX2_start 5 = .ok (.aload_n 0, 1) := by decide +kernel
theorem dX2_start_6 : decode cX2_start 6 = .ok (.iload_n 1, 1) := by decide +kernel
theorem dX2_start_7 : decode cX2_start 7 = .ok (.putfield 15, 3) := by decide +kernel
theorem dX2_start_10 : decode cX2_start 10 = .ok (.aload_n 0, 1) := by decide +kernel
theorem dX2_start_11 : decode cX2_start 11 = .ok (.iload_n 2, 1) := by decide +kernel
theorem dX2_start_12 : decode cX2_start 12 = .ok (.putfield 18, 3) := by decide +kernel
theorem dX2_start_15 : decode cX2_start 15 = .ok (.aload_n 0, 1) := by decide +kernel
theorem dX2_start_16 : decode cX2_start 16 = .ok (.iload_n 3, 1) := by decide +kernel
theorem dX2_start_17 : decode cX2_start 17 = .ok (.putfield 21, 3) := by decide +kernel
theorem dX2_start_20 : decode cX2_start 20 = .ok (.aload_n 0, 1) := by decide +kernel
theorem dX2_start_21 : decode cX2_start 21 = .ok (.iconst 0, 1) := by decide +kernel
theorem dX2_start_22 : decode cX2_start 22 = .ok (.putfield 25, 3) := by decide +kernel
theorem dX2_start_25 : decode cX2_start 25 = .ok (.aload_n 0, 1) := by decide +kernel
theorem dX2_start_26 : decode cX2_start 26 = .ok (.getfield 28, 3) := by decide +kernel
theorem dX2_start_29 : decode cX2_start 29 = .ok (.iconst 0, 1) := by decide +kernel
theorem dX2_start_30 : decode cX2_start 30 = .ok (.invokestatic 60, 3) := by decide +kernel
theorem dX2_start_33 : decode cX2_start 33 = .ok (.aload_n 0, 1) := by decide +kernel
theorem dX2_start_34 : decode cX2_start 34 = .ok (.getfield 35, 3) := by decide +kernel
theorem dX2_start_37 : decode cX2_start 37 = .ok (.invokevirtual 66, 3) := by decide +kernel
theorem dX2_start_40 : decode cX2_start 40 = .ok (.aload_n 0, 1) := by decide +kernel
theorem dX2_start_41 : decode cX2_start 41 = .ok (.getfield 42, 3) := by decide +kernel
theorem dX2_start_44 : decode cX2_start 44 = .ok (.iconst 0, 1) := by decide +kernel
theorem dX2_start_45 : decode cX2_start 45 = .ok (.putfield 69, 3) := by decide +kernel
theorem dX2_start_48 : decode cX2_start 48 = .ok (.iconst 0, 1) := by decide +kernel
theorem dX2_start_49 : decode cX2_start 49 = .ok (.istore 4, 2) := by decide +kernel
theorem dX2_start_51 : decode cX2_start 51 = .ok (.iload 4, 2) := by decide +kernel
theorem dX2_start_53 : decode cX2_start 53 = .ok (.iconst 5, 1) := by decide +kernel
theorem dX2_start_54 : decode cX2_start 54 = .ok (.if_icmp .ge 19, 3) := by decide +kernel
theorem dX2_start_57 : decode cX2_start 57 = .ok (.aload_n 0, 1) := by decide +kernel
theorem dX2_start_58 : decode cX2_start 58 = .ok (.getfield 48, 3) := by decide +kernel
theorem dX2_start_61 : decode cX2_start 61 = .ok (.iload 4, 2) := by decide +kernel
theorem dX2_start_63 : decode cX2_start 63 = .ok (.aaload, 1) := by decide +kernel
theorem dX2_start_64 : decode cX2_start 64 = .ok (.invokevirtual 72, 3) := by decide +kernel
theorem dX2_start_67 : decode cX2_start 67 = .ok (.iinc 4 1, 3) := by decide +kernel
theorem dX2_start_70 : decode cX2_start 70 = .ok (.goto (-19), 3) := by decide +kernel
theorem dX2_start_73 : decode cX2_start 73 = .ok (.aload_n 0, 1) := by decide +kernel
theorem dX2_start_74 : decode cX2_start 74 = .ok (.getfield 55, 3) := by decide +kernel
theorem dX2_start_77 : decode cX2_start 77 = .ok (.iconst 0, 1) := by decide +kernel
theorem dX2_start_78 : decode cX2_start 78 = .ok (.putfield 73, 3) := by decide +kernel
theorem dX2_start_81 : decode cX2_start 81 = .ok (.return_, 1) := by decide +kernel
set_option maxRecDepth 20000 in
theorem ggX2_castFor_X5_stationFor : GoodIn wsX2_castFor wsX5_stationFor := goodIn_ca (goodIn_r _ [7, 8, 26, 27, 28] (by decide +kernel) (by decide +kernel)) (goodIn_sub (fun _ h => List.mem_cons_of_mem _ (List.mem_append_right _ h)) (by decide +kernel))
set_option maxRecDepth 20000 in
theorem gX2_castFor_X5_stationFor : GoodIn wsX2_castFor (wsV RX2 74 RX5 yX5_stationFor wsX5_stationFor) := goodIn_app (goodIn_of _ (by decide +kernel)) ggX2_castFor_X5_stationFor
set_option maxRecDepth 20000 in
theorem ggX2_castFor_X1_put : GoodIn wsX2_castFor wsX1_put := goodIn_ca (goodIn_r _ [13, 14, 15, 29, 30, 31, 32, 33, 34] (by decide +kernel) (by decide +kernel)) (goodIn_sub (fun _ h => List.mem_cons_of_mem _ (List.mem_append_right _ h)) (by decide +kernel))
set_option maxRecDepth 20000 in
theorem gX2_castFor_X1_put : GoodIn wsX2_castFor (wsV RX2 78 RX1 yX1_put wsX1_put) := goodIn_app (goodIn_of _ (by decide +kernel)) ggX2_castFor_X1_put
theorem dX2_castFor_0 : decode cX2_castFor 0 = .ok (.aload_n 0, 1) := by decide +kernel
theorem dX2_castFor_1 : decode cX2_castFor 1 = .ok (.getfield 35, 3) := by decide +kernel
theorem dX2_castFor_4 : decode cX2_castFor 4 = .ok (.iload_n 1, 1) := by decide +kernel
theorem dX2_castFor_5 : decode cX2_castFor 5 = .ok (.invokevirtual 74, 3) := by decide +kernel
theorem dX2_castFor_8 : decode cX2_castFor 8 = .ok (.istore_n 3, 1) := by decide +kernel
theorem dX2_castFor_9 : decode cX2_castFor 9 = .ok (.iload_n 3, 1) := by decide +kernel
theorem dX2_castFor_10 : decode cX2_castFor 10 = .ok (.ifCond .lt 8, 3) := by decide +kernel
theorem dX2_castFor_13 : decode cX2_castFor 13 = .ok (.iload_n 3, 1) := by decide +kernel
theorem dX2_castFor_14 : decode cX2_castFor 14 = .ok (.iconst 5, 1) := by decide +kernel
theorem dX2_castFor_15 : decode cX2_castFor 15 = .ok (.if_icmp .lt 4, 3) := by decide +kernel
theorem dX2_castFor_18 : decode cX2_castFor 18 = .ok (.return_, 1) := by decide +kernel
theorem dX2_castFor_19 : decode cX2_castFor 19 = .ok (.aload_n 0, 1) := by decide +kernel
theorem dX2_castFor_20 : decode cX2_castFor 20 = .ok (.getfield 48, 3) := by decide +kernel
theorem dX2_castFor_23 : decode cX2_castFor 23 = .ok (.iload_n 3, 1) := by decide +kernel
theorem dX2_castFor_24 : decode cX2_castFor 24 = .ok (.aaload, 1) := by decide +kernel
theorem dX2_castFor_25 : decode cX2_castFor 25 = .ok (.iload_n 2, 1) := by decide +kernel
theorem dX2_castFor_26 : decode cX2_castFor 26 = .ok (.invokevirtual 78, 3) := by decide +kernel
theorem dX2_castFor_29 : decode cX2_castFor 29 = .ok (.aload_n 0, 1) := by decide +kernel
theorem dX2_castFor_30 : decode cX2_castFor 30 = .ok (.getfield 35, 3) := by decide +kernel
theorem dX2_castFor_33 : decode cX2_castFor 33 = .ok (.getfield 82, 3) := by decide +kernel
theorem dX2_castFor_36 : decode cX2_castFor 36 = .ok (.iload_n 1, 1) := by decide +kernel
theorem dX2_castFor_37 : decode cX2_castFor 37 = .ok (.iconst 1, 1) := by decide +kernel
theorem dX2_castFor_38 : decode cX2_castFor 38 = .ok (.bastore, 1) := by decide +kernel
theorem dX2_castFor_39 : decode cX2_castFor 39 = .ok (.return_, 1) := by decide +kernel
set_option maxRecDepth 20000 in
theorem ggX2_openEnvelope_X0_write : GoodIn wsX2_openEnvelope wsX0_write := goodIn_ca (goodIn_r _ [8, 9, 10, 11, 12, 47, 48, 49, 50, 51] (by decide +kernel) (by decide +kernel)) (goodIn_sub (fun _ h => List.mem_cons_of_mem _ (List.mem_append_right _ h)) (by decide +kernel))
set_option maxRecDepth 20000 in
theorem gX2_openEnvelope_X0_write : GoodIn wsX2_openEnvelope (wsV RX2 92 RX0 yX0_write wsX0_write) := goodIn_app (goodIn_of _ (by decide +kernel)) ggX2_openEnvelope_X0_write
set_option maxRecDepth 20000 in
theorem ggX2_openEnvelope_X2_castFor : GoodIn wsX2_openEnvelope wsX2_castFor := goodIn_ca (goodIn_r _ [17, 18, 19, 20, 21, 22, 23, 24, 25, 26, 27, 28, 29, 30, 31, 32, 33, 34, 35, 36, 37, 38, 39, 40, 41, 42, 52, 53, 54, 55, 56, 57, 58, 59, 60] (by decide +kernel) (by decide +kernel)) (goodIn_sub (fun _ h => List.mem_cons_of_mem _ (List.mem_append_right _ h)) (by decide +kernel))
set_option maxRecDepth 20000 in
theorem gX2_openEnvelope_X2_castFor : GoodIn wsX2_openEnvelope (wsV RX2 99 RX2 yX2_castFor wsX2_castFor) := goodIn_app (goodIn_of _ (by decide +kernel)) ggX2_openEnvelope_X2_castFor
theorem dX2_openEnvelope_0 : decode cX2_openEnvelope 0 = .ok (.iload_n 1, 1) := by decide +kernel
theorem dX2_openEnvelope_1 : decode cX2_openEnvelope 1 = .ok (.ifCond .lt 14, 3) := by decide +kernel
theorem dX2_openEnvelope_4 : decode cX2_openEnvelope 4 = .ok (.iload_n 1, 1) := by decide +kernel
theorem dX2_openEnvelope_5 : decode cX2_openEnvelope 5 = .ok (.aload_n 0, 1) := by decide +kernel
theorem dX2_openEnvelope_6 : decode cX2_openEnvelope 6 = .ok (.getfield 42, 3) := by decide +kernel
theorem dX2_openEnvelope_9 : decode cX2_openEnvelope 9 = .ok (.getfield 69, 3) := by decide +kernel
theorem dX2_openEnvelope_12 : decode cX2_openEnvelope 12 = .ok (.if_icmp .lt 4, 3) := by decide +kernel
theorem dX2_openEnvelope_15 : decode cX2_openEnvelope 15 = .ok (.return_, 1) := by decide +kernel
theorem dX2_openEnvelope_16 : decode cX2_openEnvelope 16 = .ok (.aload_n 0, 1) := by decide +kernel
theorem dX2_openEnvelope_17 : decode cX2_openEnvelope 17 = .ok (.getfield 42, 3) := by decide +kernel
theorem dX2_openEnvelope_20 : decode cX2_openEnvelope 20 = .ok (.getfield 86, 3) := by decide +kernel
theorem dX2_openEnvelope_23 : decode cX2_openEnvelope 23 = .ok (.iload_n 1, 1) := by decide +kernel
theorem dX2_openEnvelope_24 : decode cX2_openEnvelope 24 = .ok (.iaload, 1) := by decide +kernel
theorem dX2_openEnvelope_25 : decode cX2_openEnvelope 25 = .ok (.istore_n 3, 1) := by decide +kernel
theorem dX2_openEnvelope_26 : decode cX2_openEnvelope 26 = .ok (.aload_n 0, 1) := by decide +kernel
theorem dX2_openEnvelope_27 : decode cX2_openEnvelope 27 = .ok (.getfield 42, 3) := by decide +kernel
theorem dX2_openEnvelope_30 : decode cX2_openEnvelope 30 = .ok (.getfield 89, 3) := by decide +kernel
theorem dX2_openEnvelope_33 : decode cX2_openEnvelope 33 = .ok (.iload_n 1, 1) := by decide +kernel
theorem dX2_openEnvelope_34 : decode cX2_openEnvelope 34 = .ok (.iconst 2, 1) := by decide +kernel
theorem dX2_openEnvelope_35 : decode cX2_openEnvelope 35 = .ok (.iastore, 1) := by decide +kernel
theorem dX2_openEnvelope_36 : decode cX2_openEnvelope 36 = .ok (.aload_n 0, 1) := by decide +kernel
theorem dX2_openEnvelope_37 : decode cX2_openEnvelope 37 = .ok (.getfield 55, 3) := by decide +kernel
theorem dX2_openEnvelope_40 : decode cX2_openEnvelope 40 = .ok (.aload_n 0, 1) := by decide +kernel
theorem dX2_openEnvelope_41 : decode cX2_openEnvelope 41 = .ok (.getfield 15, 3) := by decide +kernel
theorem dX2_openEnvelope_44 : decode cX2_openEnvelope 44 = .ok (.iload_n 2, 1) := by decide +kernel
theorem dX2_openEnvelope_45 : decode cX2_openEnvelope 45 = .ok (.iload_n 3, 1) := by decide +kernel
theorem dX2_openEnvelope_46 : decode cX2_openEnvelope 46 = .ok (.invokevirtual 92, 3) := by decide +kernel
theorem dX2_openEnvelope_49 : decode cX2_openEnvelope 49 = .ok (.aload_n 0, 1) := by decide +kernel
theorem dX2_openEnvelope_50 : decode cX2_openEnvelope 50 = .ok (.iload_n 3, 1) := by decide +kernel
theorem dX2_openEnvelope_51 : decode cX2_openEnvelope 51 = .ok (.aload_n 0, 1) := by decide +kernel
theorem dX2_openEnvelope_52 : decode cX2_openEnvelope 52 = .ok (.getfield 42, 3) := by decide +kernel
theorem dX2_openEnvelope_55 : decode cX2_openEnvelope 55 = .ok (.getfield 96, 3) := by decide +kernel
theorem dX2_openEnvelope_58 : decode cX2_openEnvelope 58 = .ok (.iload_n 1, 1) := by decide +kernel
theorem dX2_openEnvelope_59 : decode cX2_openEnvelope 59 = .ok (.iaload, 1) := by decide +kernel
theorem dX2_openEnvelope_60 : decode cX2_openEnvelope 60 = .ok (.invokevirtual 99, 3) := by decide +kernel
theorem dX2_openEnvelope_63 : decode cX2_openEnvelope 63 = .ok (.return_, 1) := by decide +kernel
set_option maxRecDepth 20000 in
theorem ggX2_openAllSealed_X2_openEnvelope : GoodIn wsX2_openAllSealed wsX2_openEnvelope := goodIn_ca (goodIn_r _ [6, 1, 7, 8, 9, 10, 11, 12, 13, 14, 15, 16, 17, 18, 19, 20, 5, 21, 22, 23, 24, 25, 26, 27, 28, 29, 30, 31, 32, 33, 34, 35, 36, 37, 38, 39, 40, 41, 42, 43, 44, 45, 46, 47, 48, 49, 50, 51, 52, 53, 54, 55, 56, 57, 58, 59, 60, 61, 62, 63, 64] (by decide +kernel) (by decide +kernel)) (goodIn_sub (fun _ h => List.mem_cons_of_mem _ (List.mem_append_right _ h)) (by decide +kernel))
set_option maxRecDepth 20000 in
theorem gX2_openAllSealed_X2_openEnvelope : GoodIn wsX2_openAllSealed (wsV RX2 103 RX2 yX2_openEnvelope wsX2_openEnvelope) := goodIn_app (goodIn_of _ (by decide +kernel)) ggX2_openAllSealed_X2_openEnvelope
theorem dX2_openAllSealed_0 : decode cX2_openAllSealed 0 = .ok (.iconst 0, 1) := by decide +kernel
theorem dX2_openAllSealed_1 : decode cX2_openAllSealed 1 = .ok (.istore_n 1, 1) := by decide +kernel
theorem dX2_openAllSealed_2 : decode cX2_openAllSealed 2 = .ok (.iload_n 1, 1) := by decide +kernel
theorem dX2_openAllSealed_3 : decode cX2_openAllSealed 3 = .ok (.aload_n 0, 1) := by decide +kernel
theorem dX2_openAllSealed_4 : decode cX2_openAllSealed 4 = .ok (.getfield 42, 3) := by decide +kernel
theorem dX2_openAllSealed_7 : decode cX2_openAllSealed 7 = .ok (.getfield 69, 3) := by decide +kernel
theorem dX2_openAllSealed_10 : decode cX2_openAllSealed 10 = .ok (.if_icmp .ge 28, 3) := by decide +kernel
theorem dX2_openAllSealed_13 : decode cX2_openAllSealed 13 = .ok (.aload_n 0, 1) := by decide +kernel
theorem dX2_openAllSealed_14 : decode cX2_openAllSealed 14 = .ok (.getfield 42, 3) := by decide +kernel
theorem dX2_openAllSealed_17 : decode cX2_openAllSealed 17 = .ok (.getfield 89, 3) := by decide +kernel
theorem dX2_openAllSealed_20 : decode cX2_openAllSealed 20 = .ok (.iload_n 1, 1) := by decide +kernel
theorem dX2_openAllSealed_21 : decode cX2_openAllSealed 21 = .ok (.iaload, 1) := by decide +kernel
theorem dX2_openAllSealed_22 : decode cX2_openAllSealed 22 = .ok (.ifCond .ne 10, 3) := by decide +kernel
theorem dX2_openAllSealed_25 : decode cX2_openAllSealed 25 = .ok (.aload_n 0, 1) := by decide +kernel
theorem dX2_openAllSealed_26 : decode cX2_openAllSealed 26 = .ok (.iload_n 1, 1) := by decide +kernel
theorem dX2_openAllSealed_27 : decode cX2_openAllSealed 27 = .ok (.bipush 115, 2) := by decide +kernel
theorem dX2_openAllSealed_29 : decode cX2_openAllSealed 29 = .ok (.invokevirtual 103, 3) := by decide +kernel
theorem dX2_openAllSealed_32 : decode cX2_openAllSealed 32 = .ok (.iinc 1 1, 3) := by decide +kernel
theorem dX2_openAllSealed_35 : decode cX2_openAllSealed 35 = .ok (.goto (-33), 3) := by decide +kernel
theorem dX2_openAllSealed_38 : decode cX2_openAllSealed 38 = .ok (.return_, 1) := by decide +kernel
set_option maxRecDepth 20000 in
theorem ggX2_isAllSettled_X1_hasNumbers : GoodIn wsX2_isAllSettled wsX1_hasNumbers := goodIn_r _ [7, 8, 19, 20, 21, 22, 23, 24] (by decide +kernel) (by decide +kernel)
set_option maxRecDepth 20000 in
theorem gX2_isAllSettled_X1_hasNumbers : GoodIn wsX2_isAllSettled (wsV RX2 107 RX1 yX1_hasNumbers wsX1_hasNumbers) := goodIn_app (goodIn_of _ (by decide +kernel)) ggX2_isAllSettled_X1_hasNumbers
theorem dX2_isAllSettled_0 : decode cX2_isAllSettled 0 = .ok (.iconst 0, 1) := by decide +kernel
theorem dX2_isAllSettled_1 : decode cX2_isAllSettled 1 = .ok (.istore_n 1, 1) := by decide +kernel
theorem dX2_isAllSettled_2 : decode cX2_isAllSettled 2 = .ok (.iload_n 1, 1) := by decide +kernel
theorem dX2_isAllSettled_3 : decode cX2_isAllSettled 3 = .ok (.aload_n 0, 1) := by decide +kernel
theorem dX2_isAllSettled_4 : decode cX2_isAllSettled 4 = .ok (.getfield 25, 3) := by decide +kernel
theorem dX2_isAllSettled_7 : decode cX2_isAllSettled 7 = .ok (.if_icmp .ge 23, 3) := by decide +kernel
theorem dX2_isAllSettled_10 : decode cX2_isAllSettled 10 = .ok (.aload_n 0, 1) := by decide +kernel
theorem dX2_isAllSettled_11 : decode cX2_isAllSettled 11 = .ok (.getfield 48, 3) := by decide +kernel
theorem dX2_isAllSettled_14 : decode cX2_isAllSettled 14 = .ok (.iload_n 1, 1) := by decide +kernel
theorem dX2_isAllSettled_15 : decode cX2_isAllSettled 15 = .ok (.aaload, 1) := by decide +kernel
theorem dX2_isAllSettled_16 : decode cX2_isAllSettled 16 = .ok (.invokevirtual 107, 3) := by decide +kernel
theorem dX2_isAllSettled_19 : decode cX2_isAllSettled 19 = .ok (.ifCond .ne 5, 3) := by decide +kernel
theorem dX2_isAllSettled_22 : decode cX2_isAllSettled 22 = .ok (.iconst 0, 1) := by decide +kernel
theorem dX2_isAllSettled_23 : decode cX2_isAllSettled 23 = .ok (.ireturn, 1) := by decide +kernel
theorem dX2_isAllSettled_24 : decode cX2_isAllSettled 24 = .ok (.iinc 1 1, 3) := by decide +kernel
theorem dX2_isAllSettled_27 : decode cX2_isAllSettled 27 = .ok (.goto (-25), 3) := by decide +kernel
theorem dX2_isAllSettled_30 : decode cX2_isAllSettled 30 = .ok (.iconst 1, 1) := by decide +kernel
theorem dX2_isAllSettled_31 : decode cX2_isAllSettled 31 = .ok (.ireturn, 1) := by decide +kernel
set_option maxRecDepth 20000 in
theorem ggX2_numbersFor_X1_settledNumber : GoodIn wsX2_numbersFor wsX1_settledNumber := goodIn_ca (goodIn_r _ [7, 8, 9, 20, 21, 22, 23, 24, 25] (by decide +kernel) (by decide +kernel)) (goodIn_sub (fun _ h => List.mem_cons_of_mem _ (List.mem_append_right _ h)) (by decide +kernel))
set_option maxRecDepth 20000 in
theorem gX2_numbersFor_X1_settledNumber : GoodIn wsX2_numbersFor (wsV RX2 111 RX1 yX1_settledNumber wsX1_settledNumber) := goodIn_app (goodIn_of _ (by decide +kernel)) ggX2_numbersFor_X1_settledNumber
theorem dX2_numbersFor_0 : decode cX2_numbersFor 0 = .ok (.iconst 0, 1) := by decide +kernel
theorem dX2_numbersFor_1 : decode cX2_numbersFor 1 = .ok (.istore_n 2, 1) := by decide +kernel
theorem dX2_numbersFor_2 : decode cX2_numbersFor 2 = .ok (.iconst 0, 1) := by decide +kernel
theorem dX2_numbersFor_3 : decode cX2_numbersFor 3 = .ok (.istore_n 3, 1) := by decide +kernel
theorem dX2_numbersFor_4 : decode cX2_numbersFor 4 = .ok (.iload_n 3, 1) := by decide +kernel
theorem dX2_numbersFor_5 : decode cX2_numbersFor 5 = .ok (.aload_n 0, 1) := by decide +kernel
theorem dX2_numbersFor_6 : decode cX2_numbersFor 6 = .ok (.getfield 25, 3) := by decide +kernel
theorem dX2_numbersFor_9 : decode cX2_numbersFor 9 = .ok (.if_icmp .ge 22, 3) := by decide +kernel
theorem dX2_numbersFor_12 : decode cX2_numbersFor 12 = .ok (.iload_n 2, 1) := by decide +kernel
theorem dX2_numbersFor_13 : decode cX2_numbersFor 13 = .ok (.aload_n 0, 1) := by decide +kernel
theorem dX2_numbersFor_14 : decode cX2_numbersFor 14 = .ok (.getfield 48, 3) := by decide +kernel
theorem dX2_numbersFor_17 : decode cX2_numbersFor 17 = .ok (.iload_n 3, 1) := by decide +kernel
theorem dX2_numbersFor_18 : decode cX2_numbersFor 18 = .ok (.aaload, 1) := by decide +kernel
theorem dX2_numbersFor_19 : decode cX2_numbersFor 19 = .ok (.iload_n 1, 1) := by decide +kernel
theorem dX2_numbersFor_20 : decode cX2_numbersFor 20 = .ok (.invokevirtual 111, 3) := by decide +kernel
theorem dX2_numbersFor_23 : decode cX2_numbersFor 23 = .ok (.iadd, 1) := by decide +kernel
theorem dX2_numbersFor_24 : decode cX2_numbersFor 24 = .ok (.istore_n 2, 1) := by decide +kernel
theorem dX2_numbersFor_25 : decode cX2_numbersFor 25 = .ok (.iinc 3 1, 3) := by decide +kernel
theorem dX2_numbersFor_28 : decode cX2_numbersFor 28 = .ok (.goto (-24), 3) := by decide +kernel
theorem dX2_numbersFor_31 : decode cX2_numbersFor 31 = .ok (.iload_n 2, 1) := by decide +kernel
theorem dX2_numbersFor_32 : decode cX2_numbersFor 32 = .ok (.ireturn, 1) := by decide +kernel
set_option maxRecDepth 20000 in
theorem ggX2_ballotsFor_X1_ballotsFor : GoodIn wsX2_ballotsFor wsX1_ballotsFor := goodIn_ca (goodIn_r _ [7, 8, 9, 20, 21, 22, 23, 24, 25] (by decide +kernel) (by decide +kernel)) (goodIn_sub (fun _ h => List.mem_cons_of_mem _ (List.mem_append_right _ h)) (by decide +kernel))
set_option maxRecDepth 20000 in
theorem gX2_ballotsFor_X1_ballotsFor : GoodIn wsX2_ballotsFor (wsV RX2 114 RX1 yX1_ballotsFor wsX1_ballotsFor) := goodIn_app (goodIn_of _ (by decide +kernel)) ggX2_ballotsFor_X1_ballotsFor
theorem dX2_ballotsFor_0 : decode cX2_ballotsFor 0 = .ok (.iconst 0, 1) := by decide +kernel
theorem dX2_ballotsFor_1 : decode cX2_ballotsFor 1 = .ok (.istore_n 2, 1) := by decide +kernel
theorem dX2_ballotsFor_2 : decode cX2_ballotsFor 2 = .ok (.iconst 0, 1) := by decide +kernel
theorem dX2_ballotsFor_3 : decode cX2_ballotsFor 3 = .ok (.istore_n 3, 1) := by decide +kernel
theorem dX2_ballotsFor_4 : decode cX2_ballotsFor 4 = .ok (.iload_n 3, 1) := by decide +kernel
theorem dX2_ballotsFor_5 : decode cX2_ballotsFor 5 = .ok (.aload_n 0, 1) := by decide +kernel
theorem dX2_ballotsFor_6 : decode cX2_ballotsFor 6 = .ok (.getfield 25, 3) := by decide +kernel
theorem dX2_ballotsFor_9 : decode cX2_ballotsFor 9 = .ok (.if_icmp .ge 22, 3) := by decide +kernel
theorem dX2_ballotsFor_12 : decode cX2_ballotsFor 12 = .ok (.iload_n 2, 1) := by decide +kernel
theorem dX2_ballotsFor_13 : decode cX2_ballotsFor 13 = .ok (.aload_n 0, 1) := by decide +kernel
theorem dX2_ballotsFor_14 : decode cX2_ballotsFor 14 = .ok (.getfield 48, 3) := by decide +kernel
theorem dX2_ballotsFor_17 : decode cX2_ballotsFor 17 = .ok (.iload_n 3, 1) := by decide +kernel
theorem dX2_ballotsFor_18 : decode cX2_ballotsFor 18 = .ok (.aaload, 1) := by decide +kernel
theorem dX2_ballotsFor_19 : decode cX2_ballotsFor 19 = .ok (.iload_n 1, 1) := by decide +kernel
theorem dX2_ballotsFor_20 : decode cX2_ballotsFor 20 = .ok (.invokevirtual 114, 3) := by decide +kernel
