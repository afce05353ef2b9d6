theorem dX9_measureFrom_80 : decode cX9_measureFrom 80 = .ok (.istore_n 2, 1) := by decide +kernel
theorem dX9_measureFrom_81 : decode cX9_measureFrom 81 = .ok (.aload_n 0, 1) := by decide +kernel
theorem dX9_measureFrom_82 : decode cX9_measureFrom 82 = .ok (.iload 4, 2) := by decide +kernel
theorem dX9_measureFrom_84 : decode cX9_measureFrom 84 = .ok (.iload 4, 2) := by decide +kernel
theorem dX9_measureFrom_86 : decode cX9_measureFrom 86 = .ok (.iconst 1, 1) := by decide +kernel
theorem dX9_measureFrom_87 : decode cX9_measureFrom 87 = .ok (.iadd, 1) := by decide +kernel
theorem dX9_measureFrom_88 : decode cX9_measureFrom 88 = .ok (.iload_n 2, 1) := by decide +kernel
theorem dX9_measureFrom_89 : decode cX9_measureFrom 89 = .ok (.invokevirtual 28, 3) := by decide +kernel
theorem dX9_measureFrom_92 : decode cX9_measureFrom 92 = .ok (.istore_n 2, 1) := by decide +kernel
theorem dX9_measureFrom_93 : decode cX9_measureFrom 93 = .ok (.aload_n 0, 1) := by decide +kernel
theorem dX9_measureFrom_94 : decode cX9_measureFrom 94 = .ok (.iload 4, 2) := by decide +kernel
theorem dX9_measureFrom_96 : decode cX9_measureFrom 96 = .ok (.iload 4, 2) := by decide +kernel
theorem dX9_measureFrom_98 : decode cX9_measureFrom 98 = .ok (.bipush 6, 2) := by decide +kernel
theorem dX9_measureFrom_100 : decode cX9_measureFrom 100 = .ok (.iadd, 1) := by decide +kernel
theorem dX9_measureFrom_101 : decode cX9_measureFrom 101 = .ok (.iload_n 2, 1) := by decide +kernel
theorem dX9_measureFrom_102 : decode cX9_measureFrom 102 = .ok (.invokevirtual 28, 3) := by decide +kernel
theorem dX9_measureFrom_105 : decode cX9_measureFrom 105 = .ok (.istore_n 2, 1) := by decide +kernel
theorem dX9_measureFrom_106 : decode cX9_measureFrom 106 = .ok (.iinc 3 1, 3) := by decide +kernel
theorem dX9_measureFrom_109 : decode cX9_measureFrom 109 = .ok (.goto (-72), 3) := by decide +kernel
theorem dX9_measureFrom_112 : decode cX9_measureFrom 112 = .ok (.return_, 1) := by decide +kernel
set_option maxRecDepth 20000 in
theorem ggX9_reach_X9_streetBetween : GoodIn wsX9_reach wsX9_streetBetween := goodIn_r _ [7] (by decide +kernel) (by decide +kernel)
set_option maxRecDepth 20000 in
theorem gX9_reach_X9_streetBetween : GoodIn wsX9_reach (va_wsS RX9 32 yX9_streetBetween wsX9_streetBetween) := goodIn_app (goodIn_of _ (by decide +kernel)) ggX9_reach_X9_streetBetween
theorem dX9_reach_0 : decode cX9_reach 0 = .ok (.iload_n 1, 1) := by decide +kernel
theorem dX9_reach_1 : decode cX9_reach 1 = .ok (.iload_n 2, 1) := by decide +kernel
theorem dX9_reach_2 : decode cX9_reach 2 = .ok (.invokestatic 32, 3) := by decide +kernel
theorem dX9_reach_5 : decode cX9_reach 5 = .ok (.istore 4, 2) := by decide +kernel
theorem dX9_reach_7 : decode cX9_reach 7 = .ok (.iload 4, 2) := by decide +kernel
theorem dX9_reach_9 : decode cX9_reach 9 = .ok (.iconst (-1), 1) := by decide +kernel
theorem dX9_reach_10 : decode cX9_reach 10 = .ok (.if_icmp .eq 29, 3) := by decide +kernel
theorem dX9_reach_13 : decode cX9_reach 13 = .ok (.aload_n 0, 1) := by decide +kernel
theorem dX9_reach_14 : decode cX9_reach 14 = .ok (.getfield 9, 3) := by decide +kernel
theorem dX9_reach_17 : decode cX9_reach 17 = .ok (.iload 4, 2) := by decide +kernel
theorem dX9_reach_19 : decode cX9_reach 19 = .ok (.baload, 1) := by decide +kernel
theorem dX9_reach_20 : decode cX9_reach 20 = .ok (.ifCond .ne 19, 3) := by decide +kernel
theorem dX9_reach_23 : decode cX9_reach 23 = .ok (.aload_n 0, 1) := by decide +kernel
theorem dX9_reach_24 : decode cX9_reach 24 = .ok (.getfield 15, 3) := by decide +kernel
theorem dX9_reach_27 : decode cX9_reach 27 = .ok (.iload_n 2, 1) := by decide +kernel
theorem dX9_reach_28 : decode cX9_reach 28 = .ok (.iaload, 1) := by decide +kernel
theorem dX9_reach_29 : decode cX9_reach 29 = .ok (.iconst (-1), 1) := by decide +kernel
theorem dX9_reach_30 : decode cX9_reach 30 = .ok (.if_icmp .ne 9, 3) := by decide +kernel
theorem dX9_reach_33 : decode cX9_reach 33 = .ok (.iload_n 3, 1) := by decide +kernel
theorem dX9_reach_34 : decode cX9_reach 34 = .ok (.bipush 36, 2) := by decide +kernel
theorem dX9_reach_36 : decode cX9_reach 36 = .ok (.if_icmp .lt 5, 3) := by decide +kernel
theorem dX9_reach_39 : decode cX9_reach 39 = .ok (.iload_n 3, 1) := by decide +kernel
theorem dX9_reach_40 : decode cX9_reach 40 = .ok (.ireturn, 1) := by decide +kernel
theorem dX9_reach_41 : decode cX9_reach 41 = .ok (.aload_n 0, 1) := by decide +kernel
theorem dX9_reach_42 : decode cX9_reach 42 = .ok (.getfield 15, 3) := by decide +kernel
theorem dX9_reach_45 : decode cX9_reach 45 = .ok (.iload_n 2, 1) := by decide +kernel
theorem dX9_reach_46 : decode cX9_reach 46 = .ok (.aload_n 0, 1) := by decide +kernel
theorem dX9_reach_47 : decode cX9_reach 47 = .ok (.getfield 15, 3) := by decide +kernel
theorem dX9_reach_50 : decode cX9_reach 50 = .ok (.iload_n 1, 1) := by decide +kernel
theorem dX9_reach_51 : decode cX9_reach 51 = .ok (.iaload, 1) := by decide +kernel
theorem dX9_reach_52 : decode cX9_reach 52 = .ok (.iconst 1, 1) := by decide +kernel
theorem dX9_reach_53 : decode cX9_reach 53 = .ok (.iadd, 1) := by decide +kernel
theorem dX9_reach_54 : decode cX9_reach 54 = .ok (.iastore, 1) := by decide +kernel
theorem dX9_reach_55 : decode cX9_reach 55 = .ok (.aload_n 0, 1) := by decide +kernel
theorem dX9_reach_56 : decode cX9_reach 56 = .ok (.getfield 19, 3) := by decide +kernel
theorem dX9_reach_59 : decode cX9_reach 59 = .ok (.iload_n 3, 1) := by decide +kernel
theorem dX9_reach_60 : decode cX9_reach 60 = .ok (.iload_n 2, 1) := by decide +kernel
theorem dX9_reach_61 : decode cX9_reach 61 = .ok (.iastore, 1) := by decide +kernel
theorem dX9_reach_62 : decode cX9_reach 62 = .ok (.iload_n 3, 1) := by decide +kernel
theorem dX9_reach_63 : decode cX9_reach 63 = .ok (.iconst 1, 1) := by decide +kernel
theorem dX9_reach_64 : decode cX9_reach 64 = .ok (.iadd, 1) := by decide +kernel
theorem dX9_reach_65 : decode cX9_reach 65 = .ok (.ireturn, 1) := by decide +kernel
theorem dX9_measuredTo_0 : decode cX9_measuredTo 0 = .ok (.iload_n 1, 1) := by decide +kernel
theorem dX9_measuredTo_1 : decode cX9_measuredTo 1 = .ok (.ifCond .lt 9, 3) := by decide +kernel
theorem dX9_measuredTo_4 : decode cX9_measuredTo 4 = .ok (.iload_n 1, 1) := by decide +kernel
theorem dX9_measuredTo_5 : decode cX9_measuredTo 5 = .ok (.bipush 36, 2) := by decide +kernel
theorem dX9_measuredTo_7 : decode cX9_measuredTo 7 = .ok (.if_icmp .lt 5, 3) := by decide +kernel
theorem dX9_measuredTo_10 : decode cX9_measuredTo 10 = .ok (.iconst (-1), 1) := by decide +kernel
theorem dX9_measuredTo_11 : decode cX9_measuredTo 11 = .ok (.ireturn, 1) := by decide +kernel
theorem dX9_measuredTo_12 : decode cX9_measuredTo 12 = .ok (.aload_n 0, 1) := by decide +kernel
theorem dX9_measuredTo_13 : decode cX9_measuredTo 13 = .ok (.getfield 15, 3) := by decide +kernel
theorem dX9_measuredTo_16 : decode cX9_measuredTo 16 = .ok (.iload_n 1, 1) := by decide +kernel
theorem dX9_measuredTo_17 : decode cX9_measuredTo 17 = .ok (.iaload, 1) := by decide +kernel
theorem dX9_measuredTo_18 : decode cX9_measuredTo 18 = .ok (.ireturn, 1) := by decide +kernel
set_option maxRecDepth 20000 in
theorem ggX10_init_X9_init : GoodIn wsX10_init wsX9_init := goodIn_r _ [29, 30, 2, 3, 31, 32, 15, 33, 34, 143, 144, 145] (by decide +kernel) (by decide +kernel)
set_option maxRecDepth 20000 in
theorem gX10_init_X9_init_n11 : GoodIn wsX10_init (wsX9_init) := ggX10_init_X9_init
set_option maxRecDepth 20000 in
theorem ggX10_init_X7_init : GoodIn wsX10_init wsX7_init := goodIn_r _ [36, 37, 2, 3, 15, 38, 39, 40, 154, 155, 156] (by decide +kernel) (by decide +kernel)
set_option maxRecDepth 20000 in
theorem gX10_init_X7_init_n28 : GoodIn wsX10_init (wsX7_init) := ggX10_init_X7_init
set_option maxRecDepth 20000 in
theorem ggX10_init_X2_init : GoodIn wsX10_init wsX2_init := goodIn_r _ [43, 44, 2, 3, 45, 46, 47, 48, 49, 15, 50, 51, 52, 53, 54, 55, 56, 57, 58, 59, 60, 61, 62, 63, 64, 65, 66, 67, 68, 69, 70, 71, 72, 31, 73, 74, 75, 76, 77, 78, 79, 80, 81, 82, 83, 84, 85, 86, 87, 88, 89, 90, 91, 92, 93, 94, 95, 96, 97, 98, 99, 100, 101, 102, 103, 104, 105, 106, 107, 108, 109, 110, 111, 112, 113, 114, 115, 116, 117, 118, 119, 120, 121, 122, 123, 124, 125, 126, 157, 158, 159, 160, 161, 162, 163, 164, 165, 166, 177, 178, 179, 180, 181, 182, 183, 184, 185, 186, 187, 188, 189, 190, 191, 192, 193, 194, 195, 196, 197, 198] (by decide +kernel) (by decide +kernel)
set_option maxRecDepth 20000 in
theorem gX10_init_X2_init : GoodIn wsX10_init (wsX2_init) := ggX10_init_X2_init
set_option maxRecDepth 20000 in
theorem ggX10_init_X6_init : GoodIn wsX10_init wsX6_init := goodIn_r _ [128, 129, 2, 3, 15, 130, 131, 132, 133, 134, 135, 136, 167, 168, 169, 170, 171, 172, 173] (by decide +kernel) (by decide +kernel)
set_option maxRecDepth 20000 in
theorem gX10_init_X6_init_n49 : GoodIn wsX10_init (wsX6_init) := ggX10_init_X6_init
set_option maxRecDepth 20000 in
theorem ggX10_init_X4_init : GoodIn wsX10_init wsX4_init := goodIn_r _ [138, 139, 2, 3, 140, 141, 142, 174, 175, 176] (by decide +kernel) (by decide +kernel)
set_option maxRecDepth 20000 in
theorem gX10_init_X4_init_n54 : GoodIn wsX10_init (wsX4_init) := ggX10_init_X4_init
theorem dX10_init_0 : decode cX10_init 0 = .ok (.aload_n 0, 1) := by decide +kernel
theorem dX10_init_1 : decode cX10_init 1 = .ok (.invokespecial 3, 3) := by decide +kernel
theorem dX10_init_4 : decode cX10_init 4 = .ok (.aload_n 0, 1) := by decide +kernel
theorem dX10_init_5 : decode cX10_init 5 = .ok (.new 9, 3) := by decide +kernel
theorem dX10_init_8 : decode cX10_init 8 = .ok (.dup, 1) := by decide +kernel
theorem dX10_init_9 : decode cX10_init 9 = .ok (.invokespecial 11, 3) := by decide +kernel
theorem dX10_init_12 : decode cX10_init 12 = .ok (.putfield 12, 3) := by decide +kernel
theorem dX10_init_15 : decode cX10_init 15 = .ok (.aload_n 0, 1) := by decide +kernel
theorem dX10_init_16 : decode cX10_init 16 = .ok (.bipush 20, 2) := by decide +kernel
theorem dX10_init_18 : decode cX10_init 18 = .ok (.anewarray 16, 3) := by decide +kernel
theorem dX10_init_21 : decode cX10_init 21 = .ok (.putfield 18, 3) := by decide +kernel
theorem dX10_init_24 : decode cX10_init 24 = .ok (.aload_n 0, 1) := by decide +kernel
theorem dX10_init_25 : decode cX10_init 25 = .ok (.iconst 0, 1) := by decide +kernel
theorem dX10_init_26 : decode cX10_init 26 = .ok (.putfield 22, 3) := by decide +kernel
theorem dX10_init_29 : decode cX10_init 29 = .ok (.aload_n 0, 1) := by decide +kernel
theorem dX10_init_30 : decode cX10_init 30 = .ok (.new 26, 3) := by decide +kernel
theorem dX10_init_33 : decode cX10_init 33 = .ok (.dup, 1) := by decide +kernel
theorem dX10_init_34 : decode cX10_init 34 = .ok (.invokespecial 28, 3) := by decide +kernel
theorem dX10_init_37 : decode cX10_init 37 = .ok (.putfield 29, 3) := by decide +kernel
theorem dX10_init_40 : decode cX10_init 40 = .ok (.aload_n 0, 1) := by decide +kernel
theorem dX10_init_41 : decode cX10_init 41 = .ok (.iconst 4, 1) := by decide +kernel
theorem dX10_init_42 : decode cX10_init 42 = .ok (.newarray .int, 2) := by decide +kernel
theorem dX10_init_44 : decode cX10_init 44 = .ok (.putfield 33, 3) := by decide +kernel
theorem dX10_init_47 : decode cX10_init 47 = .ok (.aload_n 0, 1) := by decide +kernel
theorem dX10_init_48 : decode cX10_init 48 = .ok (.iconst 0, 1) := by decide +kernel
theorem dX10_init_49 : decode cX10_init 49 = .ok (.putfield 37, 3) := by decide +kernel
theorem dX10_init_52 : decode cX10_init 52 = .ok (.aload_n 0, 1) := by decide +kernel
theorem dX10_init_53 : decode cX10_init 53 = .ok (.new 40, 3) := by decide +kernel
theorem dX10_init_56 : decode cX10_init 56 = .ok (.dup, 1) := by decide +kernel
theorem dX10_init_57 : decode cX10_init 57 = .ok (.invokespecial 42, 3) := by decide +kernel
theorem dX10_init_60 : decode cX10_init 60 = .ok (.putfield 43, 3) := by decide +kernel
theorem dX10_init_63 : decode cX10_init 63 = .ok (.aload_n 0, 1) := by decide +kernel
theorem dX10_init_64 : decode cX10_init 64 = .ok (.new 47, 3) := by decide +kernel
theorem dX10_init_67 : decode cX10_init 67 = .ok (.dup, 1) := by decide +kernel
theorem dX10_init_68 : decode cX10_init 68 = .ok (.invokespecial 49, 3) := by decide +kernel
theorem dX10_init_71 : decode cX10_init 71 = .ok (.putfield 50, 3) := by decide +kernel
theorem dX10_init_74 : decode cX10_init 74 = .ok (.iconst 0, 1) := by decide +kernel
theorem dX10_init_75 : decode cX10_init 75 = .ok (.istore_n 1, 1) := by decide +kernel
theorem dX10_init_76 : decode cX10_init 76 = .ok (.iload_n 1, 1) := by decide +kernel
theorem dX10_init_77 : decode cX10_init 77 = .ok (.bipush 20, 2) := by decide +kernel
theorem dX10_init_79 : decode cX10_init 79 = .ok (.if_icmp .ge 22, 3) := by decide +kernel
theorem dX10_init_82 : decode cX10_init 82 = .ok (.aload_n 0, 1) := by decide +kernel
theorem dX10_init_83 : decode cX10_init 83 = .ok (.getfield 18, 3) := by decide +kernel
theorem dX10_init_86 : decode cX10_init 86 = .ok (.iload_n 1, 1) := by decide +kernel
theorem dX10_init_87 : decode cX10_init 87 = .ok (.new 16, 3) := by decide +kernel
theorem dX10_init_90 : decode cX10_init 90 = .ok (.dup, 1) := by decide +kernel
theorem dX10_init_91 : decode cX10_init 91 = .ok (.invokespecial 54, 3) := by decide +kernel
theorem dX10_init_94 : decode cX10_init 94 = .ok (.aastore, 1) := by decide +kernel
theorem dX10_init_95 : decode cX10_init 95 = .ok (.iinc 1 1, 3) := by decide +kernel
theorem dX10_init_98 : decode cX10_init 98 = .ok (.goto (-22), 3) := by decide +kernel
theorem dX10_init_101 : decode cX10_init 101 = .ok (.return_, 1) := by decide +kernel
set_option maxRecDepth 20000 in
theorem ggX10_bar_X10_needCrossing : GoodIn wsX10_bar wsX10_needCrossing := goodIn_ca (goodIn_r _ [7, 8, 9] (by decide +kernel) (by decide +kernel)) (goodIn_sub (fun _ h => List.mem_cons_of_mem _ (List.mem_append_left _ (List.mem_append_right _ h))) (by decide +kernel))
set_option maxRecDepth 20000 in
theorem gX10_bar_X10_needCrossing : GoodIn wsX10_bar (va_wsS RX10 55 yX10_needCrossing wsX10_needCrossing) := goodIn_app (goodIn_of _ (by decide +kernel)) ggX10_bar_X10_needCrossing
set_option maxRecDepth 20000 in
theorem ggX10_bar_X9_streetBetween : GoodIn wsX10_bar wsX9_streetBetween := goodIn_r _ [13] (by decide +kernel) (by decide +kernel)
set_option maxRecDepth 20000 in
theorem gX10_bar_X9_streetBetween : GoodIn wsX10_bar (va_wsS RX10 59 yX9_streetBetween wsX9_streetBetween) := goodIn_app (goodIn_of _ (by decide +kernel)) ggX10_bar_X9_streetBetween
set_option maxRecDepth 20000 in
theorem ggX10_bar_X9_setBarred : GoodIn wsX10_bar wsX9_setBarred := goodIn_ca (goodIn_r _ [17, 18, 27, 28, 29] (by decide +kernel) (by decide +kernel)) (goodIn_sub (fun _ h => List.mem_cons_of_mem _ (List.mem_append_right _ h)) (by decide +kernel))
set_option maxRecDepth 20000 in
theorem gX10_bar_X9_setBarred : GoodIn wsX10_bar (wsV RX10 70 RX9 yX9_setBarred wsX9_setBarred) := goodIn_app (goodIn_of _ (by decide +kernel)) ggX10_bar_X9_setBarred
theorem dX10_bar_0 : decode cX10_bar 0 = .ok (.iload_n 1, 1) := by decide +kernel
theorem dX10_bar_1 : decode cX10_bar 1 = .ok (.invokestatic 55, 3) := by decide +kernel
theorem dX10_bar_4 : decode cX10_bar 4 = .ok (.iload_n 2, 1) := by decide +kernel
theorem dX10_bar_5 : decode cX10_bar 5 = .ok (.invokestatic 55, 3) := by decide +kernel
theorem dX10_bar_8 : decode cX10_bar 8 = .ok (.iload_n 1, 1) := by decide +kernel
theorem dX10_bar_9 : decode cX10_bar 9 = .ok (.iload_n 2, 1) := by decide +kernel
theorem dX10_bar_10 : decode cX10_bar 10 = .ok (.invokestatic 59, 3) := by decide +kernel
theorem dX10_bar_13 : decode cX10_bar 13 = .ok (.istore 4, 2) := by decide +kernel
theorem dX10_bar_15 : decode cX10_bar 15 = .ok (.iload 4, 2) := by decide +kernel
theorem dX10_bar_17 : decode cX10_bar 17 = .ok (.iconst (-1), 1) := by decide +kernel
theorem dX10_bar_18 : decode cX10_bar 18 = .ok (.if_icmp .ne 13, 3) := by decide +kernel
theorem dX10_bar_21 : decode cX10_bar 21 = .ok (.new 63, 3) := by decide +kernel
theorem dX10_bar_24 : decode cX10_bar 24 = .ok (.dup, 1) := by decide +kernel
theorem dX10_bar_25 : decode cX10_bar 25 = .ok (.ldc 65, 2) := by decide +kernel
theorem dX10_bar_27 : decode cX10_bar 27 = .ok (.invokespecial 67, 3) := by decide +kernel
theorem dX10_bar_30 : decode cX10_bar 30 = .ok (.athrow, 1) := by decide +kernel
theorem dX10_bar_31 : decode cX10_bar 31 = .ok (.aload_n 0, 1) := by decide +kernel
theorem dX10_bar_32 : decode cX10_bar 32 = .ok (.getfield 12, 3) := by decide +kernel
theorem dX10_bar_35 : decode cX10_bar 35 = .ok (.iload 4, 2) := by decide +kernel
theorem dX10_bar_37 : decode cX10_bar 37 = .ok (.iload_n 3, 1) := by decide +kernel
theorem dX10_bar_38 : decode cX10_bar 38 = .ok (.invokevirtual 70, 3) := by decide +kernel
theorem dX10_bar_41 : decode cX10_bar 41 = .ok (.ireturn, 1) := by decide +kernel
set_option maxRecDepth 20000 in
theorem ggX10_way_X10_needCrossing : GoodIn wsX10_way wsX10_needCrossing := goodIn_ca (goodIn_r _ [5, 6, 7] (by decide +kernel) (by decide +kernel)) (goodIn_sub (fun _ h => List.mem_cons_of_mem _ (List.mem_append_left _ (List.mem_append_right _ h))) (by decide +kernel))
set_option maxRecDepth 20000 in
theorem gX10_way_X10_needCrossing : GoodIn wsX10_way (va_wsS RX10 55 yX10_needCrossing wsX10_needCrossing) := goodIn_app (goodIn_of _ (by decide +kernel)) ggX10_way_X10_needCrossing
set_option maxRecDepth 20000 in
theorem ggX10_way_X9_measureFrom : GoodIn wsX10_way wsX9_measureFrom := goodIn_ca (goodIn_r _ [12, 13, 14, 15, 16, 17, 18, 19, 20, 21, 11, 22, 23, 24, 25, 26, 39, 40, 41] (by decide +kernel) (by decide +kernel)) (goodIn_sub (fun _ h => List.mem_cons_of_mem _ (List.mem_append_right _ h)) (by decide +kernel))
set_option maxRecDepth 20000 in
theorem gX10_way_X9_measureFrom : GoodIn wsX10_way (wsV RX10 74 RX9 yX9_measureFrom wsX9_measureFrom) := goodIn_app (goodIn_of _ (by decide +kernel)) ggX10_way_X9_measureFrom
set_option maxRecDepth 20000 in
theorem ggX10_way_X9_measuredTo : GoodIn wsX10_way wsX9_measuredTo := goodIn_ca (goodIn_r _ [30, 13, 39, 40, 41] (by decide +kernel) (by decide +kernel)) (goodIn_sub (fun _ h => List.mem_cons_of_mem _ (List.mem_append_right _ h)) (by decide +kernel))
set_option maxRecDepth 20000 in
theorem gX10_way_X9_measuredTo : GoodIn wsX10_way (wsV RX10 77 RX9 yX9_measuredTo wsX9_measuredTo) := goodIn_app (goodIn_of _ (by decide +kernel)) ggX10_way_X9_measuredTo
theorem dX10_way_0 : decode cX10_way 0 = .ok (.iload_n 1, 1) := by decide +kernel
theorem dX10_way_1 : decode cX10_way 1 = .ok (.invokestatic 55, 3) := by decide +kernel
theorem dX10_way_4 : decode cX10_way 4 = .ok (.iload_n 2, 1) := by decide +kernel
theorem dX10_way_5 : decode cX10_way 5 = .ok (.invokestatic 55, 3) := by decide +kernel
theorem dX10_way_8 : decode cX10_way 8 = .ok (.aload_n 0, 1) := by decide +kernel
theorem dX10_way_9 : decode cX10_way 9 = .ok (.getfield 12, 3) := by decide +kernel
theorem dX10_way_12 : decode cX10_way 12 = .ok (.iload_n 1, 1) := by decide +kernel
theorem dX10_way_13 : decode cX10_way 13 = .ok (.invokevirtual 74, 3) := by decide +kernel
theorem dX10_way_16 : decode cX10_way 16 = .ok (.aload_n 0, 1) := by decide +kernel
theorem dX10_way_17 : decode cX10_way 17 = .ok (.getfield 12, 3) := by decide +kernel
theorem dX10_way_20 : decode cX10_way 20 = .ok (.iload_n 2, 1) := by decide +kernel
theorem dX10_way_21 : decode cX10_way 21 = .ok (.invokevirtual 77, 3) := by decide +kernel
theorem dX10_way_24 : decode cX10_way 24 = .ok (.ireturn, 1) := by decide +kernel
set_option maxRecDepth 20000 in
theorem ggX10_station_X10_needCrossing : GoodIn wsX10_station wsX10_needCrossing := goodIn_ca (goodIn_r _ [7, 8, 9] (by decide +kernel) (by decide +kernel)) (goodIn_sub (fun _ h => List.mem_cons_of_mem _ (List.mem_append_left _ (List.mem_append_left _ (List.mem_append_right _ h)))) (by decide +kernel))
set_option maxRecDepth 20000 in
theorem gX10_station_X10_needCrossing : GoodIn wsX10_station (va_wsS RX10 55 yX10_needCrossing wsX10_needCrossing) := goodIn_app (goodIn_of _ (by decide +kernel)) ggX10_station_X10_needCrossing
set_option maxRecDepth 20000 in
theorem ggX10_station_X10_needRange : GoodIn wsX10_station wsX10_needRange := goodIn_ca (goodIn_r _ [12, 13, 14] (by decide +kernel) (by decide +kernel)) (goodIn_sub (fun _ h => List.mem_cons_of_mem _ (List.mem_append_left _ (List.mem_append_right _ h))) (by decide +kernel))
set_option maxRecDepth 20000 in
theorem gX10_station_X10_needRange : GoodIn wsX10_station (va_wsS RX10 81 yX10_needRange wsX10_needRange) := goodIn_app (goodIn_of _ (by decide +kernel)) ggX10_station_X10_needRange
set_option maxRecDepth 20000 in
theorem ggX10_station_X7_add : GoodIn wsX10_station wsX7_add := goodIn_ca (goodIn_r _ [19, 20, 21, 22, 31, 32, 33] (by decide +kernel) (by decide +kernel)) (goodIn_sub (fun _ h => List.mem_cons_of_mem _ (List.mem_append_right _ h)) (by decide +kernel))
set_option maxRecDepth 20000 in
theorem gX10_station_X7_add : GoodIn wsX10_station (wsV RX10 93 RX7 yX7_add wsX7_add) := goodIn_app (goodIn_of _ (by decide +kernel)) ggX10_station_X7_add
theorem dX10_station_0 : decode cX10_station 0 = .ok (.iload_n 1, 1) := by decide +kernel
theorem dX10_station_1 : decode cX10_station 1 = .ok (.invokestatic 55, 3) := by decide +kernel
theorem dX10_station_4 : decode cX10_station 4 = .ok (.iload_n 2, 1) := by decide +kernel
theorem dX10_station_5 : decode cX10_station 5 = .ok (.iconst 0, 1) := by decide +kernel
theorem dX10_station_6 : decode cX10_station 6 = .ok (.bipush 20, 2) := by decide +kernel
theorem dX10_station_8 : decode cX10_station 8 = .ok (.invokestatic 81, 3) := by decide +kernel
theorem dX10_station_11 : decode cX10_station 11 = .ok (.aload_n 0, 1) := by decide +kernel
theorem dX10_station_12 : decode cX10_station 12 = .ok (.getfield 29, 3) := by decide +kernel
theorem dX10_station_15 : decode cX10_station 15 = .ok (.getfield 85, 3) := by decide +kernel
theorem dX10_station_18 : decode cX10_station 18 = .ok (.iconst 5, 1) := by decide +kernel
theorem dX10_station_19 : decode cX10_station 19 = .ok (.if_icmp .lt 13, 3) := by decide +kernel
theorem dX10_station_22 : decode cX10_station 22 = .ok (.new 88, 3) := by decide +kernel
theorem dX10_station_25 : decode cX10_station 25 = .ok (.dup, 1) := by decide +kernel
theorem dX10_station_26 : decode cX10_station 26 = .ok (.ldc 90, 2) := by decide +kernel
theorem dX10_station_28 : decode cX10_station 28 = .ok (.invokespecial 92, 3) := by decide +kernel
theorem dX10_station_31 : decode cX10_station 31 = .ok (.athrow, 1) := by decide +kernel
theorem dX10_station_32 : decode cX10_station 32 = .ok (.aload_n 0, 1) := by decide +kernel
theorem dX10_station_33 : decode cX10_station 33 = .ok (.getfield 29, 3) := by decide +kernel
theorem dX10_station_36 : decode cX10_station 36 = .ok (.iload_n 1, 1) := by decide +kernel
theorem dX10_station_37 : decode cX10_station 37 = .ok (.iload_n 2, 1) := by decide +kernel
theorem dX10_station_38 : decode cX10_station 38 = .ok (.invokevirtual 93, 3) := by decide +kernel
theorem dX10_station_41 : decode cX10_station 41 = .ok (.ireturn, 1) := by decide +kernel
set_option maxRecDepth 20000 in
theorem ggX10_setSeats_X10_needStation : GoodIn wsX10_setSeats wsX10_needStation := goodIn_ca (goodIn_r _ [6, 7, 8, 1, 14, 15, 16, 17, 18, 19, 20, 21, 22, 23, 24] (by decide +kernel) (by decide +kernel)) (goodIn_sub (fun _ h => List.mem_cons_of_mem _ (List.mem_append_left _ (List.mem_append_right _ h))) (by decide +kernel))
set_option maxRecDepth 20000 in
theorem gX10_setSeats_X10_needStation : GoodIn wsX10_setSeats (wsV RX10 96 RX10 yX10_needStation wsX10_needStation) := goodIn_app (goodIn_of _ (by decide +kernel)) ggX10_setSeats_X10_needStation
set_option maxRecDepth 20000 in
theorem ggX10_setSeats_X10_needRange : GoodIn wsX10_setSeats wsX10_needRange := goodIn_ca (goodIn_r _ [11, 12, 13] (by decide +kernel) (by decide +kernel)) (goodIn_sub (fun _ h => List.mem_cons_of_mem _ (List.mem_append_right _ h)) (by decide +kernel))
set_option maxRecDepth 20000 in
theorem gX10_setSeats_X10_needRange : GoodIn wsX10_setSeats (va_wsS RX10 81 yX10_needRange wsX10_needRange) := goodIn_app (goodIn_of _ (by decide +kernel)) ggX10_setSeats_X10_needRange
theorem dX10_setSeats_0 : decode cX10_setSeats 0 = .ok (.aload_n 0, 1) := by decide +kernel
theorem dX10_setSeats_1 : decode cX10_setSeats 1 = .ok (.iload_n 1, 1) := by decide +kernel
theorem dX10_setSeats_2 : decode cX10_setSeats 2 = .ok (.invokevirtual 96, 3) := by decide +kernel
theorem dX10_setSeats_5 : decode cX10_setSeats 5 = .ok (.iload_n 2, 1) := by decide +kernel
theorem dX10_setSeats_6 : decode cX10_setSeats 6 = .ok (.iconst 0, 1) := by decide +kernel
theorem dX10_setSeats_7 : decode cX10_setSeats 7 = .ok (.bipush 20, 2) := by decide +kernel
theorem dX10_setSeats_9 : decode cX10_setSeats 9 = .ok (.invokestatic 81, 3) := by decide +kernel
theorem dX10_setSeats_12 : decode cX10_setSeats 12 = .ok (.aload_n 0, 1) := by decide +kernel
theorem dX10_setSeats_13 : decode cX10_setSeats 13 = .ok (.getfield 29, 3) := by decide +kernel
theorem dX10_setSeats_16 : decode cX10_setSeats 16 = .ok (.getfield 99, 3) := by decide +kernel
theorem dX10_setSeats_19 : decode cX10_setSeats 19 = .ok (.iload_n 1, 1) := by decide +kernel
theorem dX10_setSeats_20 : decode cX10_setSeats 20 = .ok (.iaload, 1) := by decide +kernel
theorem dX10_setSeats_21 : decode cX10_setSeats 21 = .ok (.istore_n 3, 1) := by decide +kernel
theorem dX10_setSeats_22 : decode cX10_setSeats 22 = .ok (.aload_n 0, 1) := by decide +kernel
theorem dX10_setSeats_23 : decode cX10_setSeats 23 = .ok (.getfield 29, 3) := by decide +kernel
theorem dX10_setSeats_26 : decode cX10_setSeats 26 = .ok (.getfield 99, 3) := by decide +kernel
theorem dX10_setSeats_29 : decode cX10_setSeats 29 = .ok (.iload_n 1, 1) := by decide +kernel
theorem dX10_setSeats_30 : decode cX10_setSeats 30 = .ok (.iload_n 2, 1) := by decide +kernel
theorem dX10_setSeats_31 : decode cX10_setSeats 31 = .ok (.iastore, 1) := by decide +kernel
theorem dX10_setSeats_32 : decode cX10_setSeats 32 = .ok (.iload_n 3, 1) := by decide +kernel
theorem dX10_setSeats_33 : decode cX10_setSeats 33 = .ok (.ireturn, 1) := by decide +kernel
set_option maxRecDepth 20000 in
theorem ggX10_person_X10_needCrossing : GoodIn wsX10_person wsX10_needCrossing := goodIn_ca (goodIn_r _ [12, 13, 14] (by decide +kernel) (by decide +kernel)) (goodIn_sub (fun _ h => List.mem_cons_of_mem _ (List.mem_append_left _ (List.mem_append_right _ h))) (by decide +kernel))
set_option maxRecDepth 20000 in
theorem gX10_person_X10_needCrossing : GoodIn wsX10_person (va_wsS RX10 55 yX10_needCrossing wsX10_needCrossing) := goodIn_app (goodIn_of _ (by decide +kernel)) ggX10_person_X10_needCrossing
set_option maxRecDepth 20000 in
theorem ggX10_person_X10_needRange : GoodIn wsX10_person wsX10_needRange := goodIn_ca (goodIn_r _ [17, 18, 19] (by decide +kernel) (by decide +kernel)) (goodIn_sub (fun _ h => List.mem_cons_of_mem _ (List.mem_append_right _ h)) (by decide +kernel))
set_option maxRecDepth 20000 in
theorem gX10_person_X10_needRange : GoodIn wsX10_person (va_wsS RX10 81 yX10_needRange wsX10_needRange) := goodIn_app (goodIn_of _ (by decide +kernel)) ggX10_person_X10_needRange
set_option maxRecDepth 20000 in
theorem ggX10_person_X8_init : GoodIn wsX10_person wsX8_init := goodIn_r _ [22, 23, 24, 25, 26, 27, 28, 40, 41, 42] (by decide +kernel) (by decide +kernel)
set_option maxRecDepth 20000 in
theorem gX10_person_X8_init : GoodIn wsX10_person (wsX8_init) := ggX10_person_X8_init
theorem dX10_person_0 : decode cX10_person 0 = .ok (.iload_n 1, 1) := by decide +kernel
theorem dX10_person_1 : decode cX10_person 1 = .ok (.invokestatic 55, 3) := by decide +kernel
theorem dX10_person_4 : decode cX10_person 4 = .ok (.iload_n 2, 1) := by decide +kernel
theorem dX10_person_5 : decode cX10_person 5 = .ok (.iconst 0, 1) := by decide +kernel
theorem dX10_person_6 : decode cX10_person 6 = .ok (.sipush 2000, 3) := by decide +kernel
theorem dX10_person_9 : decode cX10_person 9 = .ok (.invokestatic 81, 3) := by decide +kernel
theorem dX10_person_12 : decode cX10_person 12 = .ok (.aload_n 0, 1) := by decide +kernel
theorem dX10_person_13 : decode cX10_person 13 = .ok (.getfield 22, 3) := by decide +kernel
theorem dX10_person_16 : decode cX10_person 16 = .ok (.bipush 20, 2) := by decide +kernel
theorem dX10_person_18 : decode cX10_person 18 = .ok (.if_icmp .lt 13, 3) := by decide +kernel
theorem dX10_person_21 : decode cX10_person 21 = .ok (.new 88, 3) := by decide +kernel
theorem dX10_person_24 : decode cX10_person 24 = .ok (.dup, 1) := by decide +kernel
theorem dX10_person_25 : decode cX10_person 25 = .ok (.ldc 102, 2) := by decide +kernel
theorem dX10_person_27 : decode cX10_person 27 = .ok (.invokespecial 92, 3) := by decide +kernel
theorem dX10_person_30 : decode cX10_person 30 = .ok (.athrow, 1) := by decide +kernel
theorem dX10_person_31 : decode cX10_person 31 = .ok (.aload_n 0, 1) := by decide +kernel
theorem dX10_person_32 : decode cX10_person 32 = .ok (.getfield 22, 3) := by decide +kernel
theorem dX10_person_35 : decode cX10_person 35 = .ok (.istore_n 3, 1) := by decide +kernel
theorem dX10_person_36 : decode cX10_person 36 = .ok (.aload_n 0, 1) := by decide +kernel
theorem dX10_person_37 : decode cX10_person 37 = .ok (.getfield 18, 3) := by decide +kernel
theorem dX10_person_40 : decode cX10_person 40 = .ok (.iload_n 3, 1) := by decide +kernel
theorem dX10_person_41 : decode cX10_person 41 = .ok (.aaload, 1) := by decide +kernel
theorem dX10_person_42 : decode cX10_person 42 = .ok (.iload_n 2, 1) := by decide +kernel
theorem dX10_person_43 : decode cX10_person 43 = .ok (.putfield 104, 3) := by decide +kernel
theorem dX10_person_46 : decode cX10_person 46 = .ok (.aload_n 0, 1) := by decide +kernel
theorem dX10_person_47 : decode cX10_person 47 = .ok (.getfield 18, 3) := by decide +kernel
theorem dX10_person_50 : decode cX10_person 50 = .ok (.iload_n 3, 1) := by decide +kernel
theorem dX10_person_51 : decode cX10_person 51 = .ok (.aaload, 1) := by decide +kernel
theorem dX10_person_52 : decode cX10_person 52 = .ok (.new 107, 3) := by decide +kernel
theorem dX10_person_55 : decode cX10_person 55 = .ok (.dup, 1) := by decide +kernel
theorem dX10_person_56 : decode cX10_person 56 = .ok (.aload_n 0, 1) := by decide +kernel
theorem dX10_person_57 : decode cX10_person 57 = .ok (.getfield 37, 3) := by decide +kernel
theorem dX10_person_60 : decode cX10_person 60 = .ok (.iload_n 1, 1) := by decide +kernel
theorem dX10_person_61 : decode cX10_person 61 = .ok (.aconst_null, 1) := by decide +kernel
theorem dX10_person_62 : decode cX10_person 62 = .ok (.invokespecial 109, 3) := by decide +kernel
theorem dX10_person_65 : decode cX10_person 65 = .ok (.putfield 112, 3) := by decide +kernel
theorem dX10_person_68 : decode cX10_person 68 = .ok (.aload_n 0, 1) := by decide +kernel
theorem dX10_person_69 : decode cX10_person 69 = .ok (.dup, 1) := by decide +kernel
theorem dX10_person_70 : decode cX10_person 70 = .ok (.getfield 22, 3) := by decide +kernel
theorem dX10_person_73 : decode cX10_person 73 = .ok (.iconst 1, 1) := by decide +kernel
theorem dX10_person_74 : decode cX10_person 74 = .ok (.iadd, 1) := by decide +kernel
theorem dX10_person_75 : decode cX10_person 75 = .ok (.putfield 22, 3) := by decide +kernel
theorem dX10_person_78 : decode cX10_person 78 = .ok (.iload_n 3, 1) := by decide +kernel
theorem dX10_person_79 : decode cX10_person 79 = .ok (.ireturn, 1) := by decide +kernel
set_option maxRecDepth 20000 in
theorem ggX10_move_X10_personAt : GoodIn wsX10_move wsX10_personAt := goodIn_ca (goodIn_r _ [9, 10, 11, 12, 13, 8, 14, 15, 16, 17, 41, 42, 43, 44, 45, 46, 47, 48] (by decide +kernel) (by decide +kernel)) (goodIn_sub (fun _ h => List.mem_cons_of_mem _ (List.mem_append_left _ (List.mem_append_right _ h))) (by decide +kernel))
set_option maxRecDepth 20000 in
theorem gX10_move_X10_personAt : GoodIn wsX10_move (wsV RX10 116 RX10 yX10_personAt wsX10_personAt) := goodIn_app (goodIn_of _ (by decide +kernel)) ggX10_move_X10_personAt
set_option maxRecDepth 20000 in
theorem ggX10_move_X10_needCrossing : GoodIn wsX10_move wsX10_needCrossing := goodIn_ca (goodIn_r _ [20, 15, 16] (by decide +kernel) (by decide +kernel)) (goodIn_sub (fun _ h => List.mem_cons_of_mem _ (List.mem_append_left _ (List.mem_append_right _ h))) (by decide +kernel))
set_option maxRecDepth 20000 in
theorem gX10_move_X10_needCrossing : GoodIn wsX10_move (va_wsS RX10 55 yX10_needCrossing wsX10_needCrossing) := goodIn_app (goodIn_of _ (by decide +kernel)) ggX10_move_X10_needCrossing
set_option maxRecDepth 20000 in
theorem ggX10_move_X10_needAlive : GoodIn wsX10_move wsX10_needAlive := goodIn_ca (goodIn_r _ [23, 24, 25, 52, 53, 54] (by decide +kernel) (by decide +kernel)) (goodIn_sub (fun _ h => List.mem_cons_of_mem _ (List.mem_append_right _ h)) (by decide +kernel))
set_option maxRecDepth 20000 in
theorem gX10_move_X10_needAlive : GoodIn wsX10_move (va_wsS RX10 120 yX10_needAlive wsX10_needAlive) := goodIn_app (goodIn_of _ (by decide +kernel)) ggX10_move_X10_needAlive
set_option maxRecDepth 20000 in
theorem ggX10_move_X4_crossingOn : GoodIn wsX10_move wsX4_crossingOn := goodIn_r _ [30, 31, 52, 53, 54, 49, 50, 51] (by decide +kernel) (by decide +kernel)
set_option maxRecDepth 20000 in
theorem gX10_move_X4_crossingOn : GoodIn wsX10_move (wsV RX10 124 RX4 yX4_crossingOn wsX4_crossingOn) := goodIn_app (goodIn_of _ (by decide +kernel)) ggX10_move_X4_crossingOn
set_option maxRecDepth 20000 in
theorem ggX10_move_X8_init : GoodIn wsX10_move wsX8_init := goodIn_r _ [34, 35, 36, 37, 38, 39, 40, 49, 50, 51] (by decide +kernel) (by decide +kernel)
set_option maxRecDepth 20000 in
theorem gX10_move_X8_init : GoodIn wsX10_move (wsX8_init) := ggX10_move_X8_init
theorem dX10_move_0 : decode cX10_move 0 = .ok (.aload_n 0, 1) := by decide +kernel
theorem dX10_move_1 : decode cX10_move 1 = .ok (.iload_n 1, 1) := by decide +kernel
theorem dX10_move_2 : decode cX10_move 2 = .ok (.invokevirtual 116, 3) := by decide +kernel
theorem dX10_move_5 : decode cX10_move 5 = .ok (.astore_n 3, 1) := by decide +kernel
theorem dX10_move_6 : decode cX10_move 6 = .ok (.iload_n 2, 1) := by decide +kernel
theorem dX10_move_7 : decode cX10_move 7 = .ok (.invokestatic 55, 3) := by decide +kernel
theorem dX10_move_10 : decode cX10_move 10 = .ok (.aload_n 3, 1) := by decide +kernel
theorem dX10_move_11 : decode cX10_move 11 = .ok (.invokestatic 120, 3) := by decide +kernel
theorem dX10_move_14 : decode cX10_move 14 = .ok (.aload_n 3, 1) := by decide +kernel
theorem dX10_move_15 : decode cX10_move 15 = .ok (.aload_n 0, 1) := by decide +kernel
theorem dX10_move_16 : decode cX10_move 16 = .ok (.getfield 37, 3) := by decide +kernel
theorem dX10_move_19 : decode cX10_move 19 = .ok (.invokevirtual 124, 3) := by decide +kernel
theorem dX10_move_22 : decode cX10_move 22 = .ok (.istore 4, 2) := by decide +kernel
theorem dX10_move_24 : decode cX10_move 24 = .ok (.aload_n 3, 1) := by decide +kernel
theorem dX10_move_25 : decode cX10_move 25 = .ok (.new 107, 3) := by decide +kernel
theorem dX10_move_28 : decode cX10_move 28 = .ok (.dup, 1) := by decide +kernel
theorem dX10_move_29 : decode cX10_move 29 = .ok (.aload_n 0, 1) := by decide +kernel
theorem dX10_move_30 : decode cX10_move 30 = .ok (.getfield 37, 3) := by decide +kernel
theorem dX10_move_33 : decode cX10_move 33 = .ok (.iload_n 2, 1) := by decide +kernel
theorem dX10_move_34 : decode cX10_move 34 = .ok (.aload_n 3, 1) := by decide +kernel
theorem dX10_move_35 : decode cX10_move 35 = .ok (.getfield 112, 3) := by decide +kernel
theorem dX10_move_38 : decode cX10_move 38 = .ok (.invokespecial 109, 3) := by decide +kernel
theorem dX10_move_41 : decode cX10_move 41 = .ok (.putfield 112, 3) := by decide +kernel
theorem dX10_move_44 : decode cX10_move 44 = .ok (.iload 4, 2) := by decide +kernel
theorem dX10_move_46 : decode cX10_move 46 = .ok (.ireturn, 1) := by decide +kernel
set_option maxRecDepth 20000 in
theorem ggX10_die_X10_personAt : GoodIn wsX10_die wsX10_personAt := goodIn_ca (goodIn_r _ [5, 6, 7, 8, 9, 4, 10, 11, 12, 13, 45, 46, 47, 48, 49, 50, 51, 52] (by decide +kernel) (by decide +kernel)) (goodIn_sub (fun _ h => List.mem_cons_of_mem _ (List.mem_append_left _ (List.mem_append_left _ (List.mem_append_right _ h)))) (by decide +kernel))
set_option maxRecDepth 20000 in
theorem gX10_die_X10_personAt : GoodIn wsX10_die (wsV RX10 116 RX10 yX10_personAt wsX10_personAt) := goodIn_app (goodIn_of _ (by decide +kernel)) ggX10_die_X10_personAt
set_option maxRecDepth 20000 in
theorem ggX10_die_X10_needAlive : GoodIn wsX10_die wsX10_needAlive := goodIn_ca (goodIn_r _ [16, 17, 18, 42, 43, 44] (by decide +kernel) (by decide +kernel)) (goodIn_sub (fun _ h => List.mem_cons_of_mem _ (List.mem_append_left _ (List.mem_append_right _ h))) (by decide +kernel))
set_option maxRecDepth 20000 in
theorem gX10_die_X10_needAlive : GoodIn wsX10_die (va_wsS RX10 120 yX10_needAlive wsX10_needAlive) := goodIn_app (goodIn_of _ (by decide +kernel)) ggX10_die_X10_needAlive
set_option maxRecDepth 20000 in
theorem ggX10_die_X10_voidEnvelopeOf : GoodIn wsX10_die wsX10_voidEnvelopeOf := goodIn_ca (goodIn_r _ [22, 23, 24, 25, 26, 27, 28, 29, 30, 31, 32, 33, 34, 35, 36, 37, 38, 39, 40, 41, 45, 46, 47, 48, 49, 50, 51, 52, 53, 54, 55, 56, 57, 58, 59, 60, 61, 62, 63, 64, 65, 66, 67, 68, 69, 70, 71] (by decide +kernel) (by decide +kernel)) (goodIn_sub (fun _ h => List.mem_cons_of_mem _ (List.mem_append_right _ h)) (by decide +kernel))
set_option maxRecDepth 20000 in
theorem gX10_die_X10_voidEnvelopeOf : GoodIn wsX10_die (wsV RX10 131 RX10 yX10_voidEnvelopeOf wsX10_voidEnvelopeOf) := goodIn_app (goodIn_of _ (by decide +kernel)) ggX10_die_X10_voidEnvelopeOf
theorem dX10_die_0 : decode cX10_die 0 = .ok (.aload_n 0, 1) := by decide +kernel
theorem dX10_die_1 : decode cX10_die 1 = .ok (.iload_n 1, 1) := by decide +kernel
