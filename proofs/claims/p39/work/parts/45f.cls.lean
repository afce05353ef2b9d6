theorem dX10_die_2 : decode cX10_die 2 = .ok (.invokevirtual 116, 3) := by decide +kernel
theorem dX10_die_5 : decode cX10_die 5 = .ok (.astore_n 2, 1) := by decide +kernel
theorem dX10_die_6 : decode cX10_die 6 = .ok (.aload_n 2, 1) := by decide +kernel
theorem dX10_die_7 : decode cX10_die 7 = .ok (.invokestatic 120, 3) := by decide +kernel
theorem dX10_die_10 : decode cX10_die 10 = .ok (.aload_n 2, 1) := by decide +kernel
theorem dX10_die_11 : decode cX10_die 11 = .ok (.iconst 1, 1) := by decide +kernel
theorem dX10_die_12 : decode cX10_die 12 = .ok (.putfield 127, 3) := by decide +kernel
theorem dX10_die_15 : decode cX10_die 15 = .ok (.aload_n 0, 1) := by decide +kernel
theorem dX10_die_16 : decode cX10_die 16 = .ok (.iload_n 1, 1) := by decide +kernel
theorem dX10_die_17 : decode cX10_die 17 = .ok (.invokevirtual 131, 3) := by decide +kernel
theorem dX10_die_20 : decode cX10_die 20 = .ok (.ireturn, 1) := by decide +kernel
set_option maxRecDepth 20000 in
theorem ggX10_dwells_X10_personAt : GoodIn wsX10_dwells wsX10_personAt := goodIn_ca (goodIn_r _ [6, 7, 8, 9, 10, 5, 11, 12, 13, 14, 26, 27, 28, 29, 30, 31, 32, 33] (by decide +kernel) (by decide +kernel)) (goodIn_sub (fun _ h => List.mem_cons_of_mem _ (List.mem_append_left _ (List.mem_append_right _ h))) (by decide +kernel))
set_option maxRecDepth 20000 in
theorem gX10_dwells_X10_personAt : GoodIn wsX10_dwells (wsV RX10 116 RX10 yX10_personAt wsX10_personAt) := goodIn_app (goodIn_of _ (by decide +kernel)) ggX10_dwells_X10_personAt
set_option maxRecDepth 20000 in
theorem ggX10_dwells_X10_needRange : GoodIn wsX10_dwells wsX10_needRange := goodIn_ca (goodIn_r _ [17, 18, 19] (by decide +kernel) (by decide +kernel)) (goodIn_sub (fun _ h => List.mem_cons_of_mem _ (List.mem_append_right _ h)) (by decide +kernel))
set_option maxRecDepth 20000 in
theorem gX10_dwells_X10_needRange : GoodIn wsX10_dwells (va_wsS RX10 81 yX10_needRange wsX10_needRange) := goodIn_app (goodIn_of _ (by decide +kernel)) ggX10_dwells_X10_needRange
set_option maxRecDepth 20000 in
theorem ggX10_dwells_X4_crossingOn : GoodIn wsX10_dwells wsX4_crossingOn := goodIn_r _ [24, 25, 34, 35, 36, 37, 38, 39] (by decide +kernel) (by decide +kernel)
set_option maxRecDepth 20000 in
theorem gX10_dwells_X4_crossingOn : GoodIn wsX10_dwells (wsV RX10 124 RX4 yX4_crossingOn wsX4_crossingOn) := goodIn_app (goodIn_of _ (by decide +kernel)) ggX10_dwells_X4_crossingOn
theorem dX10_dwells_0 : decode cX10_dwells 0 = .ok (.aload_n 0, 1) := by decide +kernel
theorem dX10_dwells_1 : decode cX10_dwells 1 = .ok (.iload_n 1, 1) := by decide +kernel
theorem dX10_dwells_2 : decode cX10_dwells 2 = .ok (.invokevirtual 116, 3) := by decide +kernel
theorem dX10_dwells_5 : decode cX10_dwells 5 = .ok (.astore_n 3, 1) := by decide +kernel
theorem dX10_dwells_6 : decode cX10_dwells 6 = .ok (.iload_n 2, 1) := by decide +kernel
theorem dX10_dwells_7 : decode cX10_dwells 7 = .ok (.iconst 0, 1) := by decide +kernel
theorem dX10_dwells_8 : decode cX10_dwells 8 = .ok (.aload_n 0, 1) := by decide +kernel
theorem dX10_dwells_9 : decode cX10_dwells 9 = .ok (.getfield 37, 3) := by decide +kernel
theorem dX10_dwells_12 : decode cX10_dwells 12 = .ok (.invokestatic 81, 3) := by decide +kernel
theorem dX10_dwells_15 : decode cX10_dwells 15 = .ok (.aload_n 3, 1) := by decide +kernel
theorem dX10_dwells_16 : decode cX10_dwells 16 = .ok (.iload_n 2, 1) := by decide +kernel
theorem dX10_dwells_17 : decode cX10_dwells 17 = .ok (.invokevirtual 124, 3) := by decide +kernel
theorem dX10_dwells_20 : decode cX10_dwells 20 = .ok (.ireturn, 1) := by decide +kernel
set_option maxRecDepth 20000 in
theorem ggX10_call_X10_needRange : GoodIn wsX10_call wsX10_needRange := goodIn_ca (goodIn_r _ [9, 10, 11] (by decide +kernel) (by decide +kernel)) (goodIn_sub (fun _ h => List.mem_cons_of_mem _ (List.mem_append_left _ (List.mem_append_right _ h))) (by decide +kernel))
set_option maxRecDepth 20000 in
theorem gX10_call_X10_needRange : GoodIn wsX10_call (va_wsS RX10 81 yX10_needRange wsX10_needRange) := goodIn_app (goodIn_of _ (by decide +kernel)) ggX10_call_X10_needRange
set_option maxRecDepth 20000 in
theorem ggX10_call_X2_start : GoodIn wsX10_call wsX2_start := goodIn_ca (goodIn_r _ [16, 17, 18, 19, 20, 21, 22, 23, 24, 25, 26, 27, 28, 29, 30, 31, 32, 33, 34, 35, 36, 37, 38, 39, 40, 41, 42, 43, 44, 45, 46, 47, 56, 57, 58, 59, 60, 61, 62, 63, 64, 65, 69, 70, 71, 72, 73, 74, 75, 76, 77, 78, 79, 80, 81, 82, 83, 84, 85, 86] (by decide +kernel) (by decide +kernel)) (goodIn_sub (fun _ h => List.mem_cons_of_mem _ (List.mem_append_right _ h)) (by decide +kernel))
set_option maxRecDepth 20000 in
theorem gX10_call_X2_start : GoodIn wsX10_call (wsV RX10 144 RX2 yX2_start wsX2_start) := goodIn_app (goodIn_of _ (by decide +kernel)) ggX10_call_X2_start
theorem dX10_call_0 : decode cX10_call 0 = .ok (.iload_n 1, 1) := by decide +kernel
theorem dX10_call_1 : decode cX10_call 1 = .ok (.bipush 8, 2) := by decide +kernel
theorem dX10_call_3 : decode cX10_call 3 = .ok (.bipush 100, 2) := by decide +kernel
theorem dX10_call_5 : decode cX10_call 5 = .ok (.invokestatic 81, 3) := by decide +kernel
theorem dX10_call_8 : decode cX10_call 8 = .ok (.iload_n 2, 1) := by decide +kernel
theorem dX10_call_9 : decode cX10_call 9 = .ok (.iconst 0, 1) := by decide +kernel
theorem dX10_call_10 : decode cX10_call 10 = .ok (.bipush 30, 2) := by decide +kernel
theorem dX10_call_12 : decode cX10_call 12 = .ok (.invokestatic 81, 3) := by decide +kernel
theorem dX10_call_15 : decode cX10_call 15 = .ok (.aload_n 0, 1) := by decide +kernel
theorem dX10_call_16 : decode cX10_call 16 = .ok (.getfield 43, 3) := by decide +kernel
theorem dX10_call_19 : decode cX10_call 19 = .ok (.getfield 135, 3) := by decide +kernel
theorem dX10_call_22 : decode cX10_call 22 = .ok (.ifCond .eq 24, 3) := by decide +kernel
theorem dX10_call_25 : decode cX10_call 25 = .ok (.aload_n 0, 1) := by decide +kernel
theorem dX10_call_26 : decode cX10_call 26 = .ok (.getfield 43, 3) := by decide +kernel
theorem dX10_call_29 : decode cX10_call 29 = .ok (.getfield 135, 3) := by decide +kernel
theorem dX10_call_32 : decode cX10_call 32 = .ok (.iconst 5, 1) := by decide +kernel
theorem dX10_call_33 : decode cX10_call 33 = .ok (.if_icmp .eq 13, 3) := by decide +kernel
theorem dX10_call_36 : decode cX10_call 36 = .ok (.new 88, 3) := by decide +kernel
theorem dX10_call_39 : decode cX10_call 39 = .ok (.dup, 1) := by decide +kernel
theorem dX10_call_40 : decode cX10_call 40 = .ok (.ldc 138, 2) := by decide +kernel
theorem dX10_call_42 : decode cX10_call 42 = .ok (.invokespecial 92, 3) := by decide +kernel
theorem dX10_call_45 : decode cX10_call 45 = .ok (.athrow, 1) := by decide +kernel
theorem dX10_call_46 : decode cX10_call 46 = .ok (.aload_n 0, 1) := by decide +kernel
theorem dX10_call_47 : decode cX10_call 47 = .ok (.getfield 29, 3) := by decide +kernel
theorem dX10_call_50 : decode cX10_call 50 = .ok (.getfield 85, 3) := by decide +kernel
theorem dX10_call_53 : decode cX10_call 53 = .ok (.ifCond .ne 13, 3) := by decide +kernel
theorem dX10_call_56 : decode cX10_call 56 = .ok (.new 88, 3) := by decide +kernel
theorem dX10_call_59 : decode cX10_call 59 = .ok (.dup, 1) := by decide +kernel
theorem dX10_call_60 : decode cX10_call 60 = .ok (.ldc 140, 2) := by decide +kernel
theorem dX10_call_62 : decode cX10_call 62 = .ok (.invokespecial 92, 3) := by decide +kernel
theorem dX10_call_65 : decode cX10_call 65 = .ok (.athrow, 1) := by decide +kernel
theorem dX10_call_66 : decode cX10_call 66 = .ok (.aload_n 0, 1) := by decide +kernel
theorem dX10_call_67 : decode cX10_call 67 = .ok (.getfield 37, 3) := by decide +kernel
theorem dX10_call_70 : decode cX10_call 70 = .ok (.iload_n 1, 1) := by decide +kernel
theorem dX10_call_71 : decode cX10_call 71 = .ok (.iadd, 1) := by decide +kernel
theorem dX10_call_72 : decode cX10_call 72 = .ok (.sipush 2000, 3) := by decide +kernel
theorem dX10_call_75 : decode cX10_call 75 = .ok (.if_icmp .le 13, 3) := by decide +kernel
theorem dX10_call_78 : decode cX10_call 78 = .ok (.new 88, 3) := by decide +kernel
theorem dX10_call_81 : decode cX10_call 81 = .ok (.dup, 1) := by decide +kernel
theorem dX10_call_82 : decode cX10_call 82 = .ok (.ldc 142, 2) := by decide +kernel
theorem dX10_call_84 : decode cX10_call 84 = .ok (.invokespecial 92, 3) := by decide +kernel
theorem dX10_call_87 : decode cX10_call 87 = .ok (.athrow, 1) := by decide +kernel
theorem dX10_call_88 : decode cX10_call 88 = .ok (.aload_n 0, 1) := by decide +kernel
theorem dX10_call_89 : decode cX10_call 89 = .ok (.getfield 43, 3) := by decide +kernel
theorem dX10_call_92 : decode cX10_call 92 = .ok (.aload_n 0, 1) := by decide +kernel
theorem dX10_call_93 : decode cX10_call 93 = .ok (.getfield 37, 3) := by decide +kernel
theorem dX10_call_96 : decode cX10_call 96 = .ok (.iload_n 1, 1) := by decide +kernel
theorem dX10_call_97 : decode cX10_call 97 = .ok (.iadd, 1) := by decide +kernel
theorem dX10_call_98 : decode cX10_call 98 = .ok (.iload_n 2, 1) := by decide +kernel
theorem dX10_call_99 : decode cX10_call 99 = .ok (.iload_n 3, 1) := by decide +kernel
theorem dX10_call_100 : decode cX10_call 100 = .ok (.invokevirtual 144, 3) := by decide +kernel
theorem dX10_call_103 : decode cX10_call 103 = .ok (.aload_n 0, 1) := by decide +kernel
theorem dX10_call_104 : decode cX10_call 104 = .ok (.getfield 43, 3) := by decide +kernel
theorem dX10_call_107 : decode cX10_call 107 = .ok (.getfield 148, 3) := by decide +kernel
theorem dX10_call_110 : decode cX10_call 110 = .ok (.ireturn, 1) := by decide +kernel
set_option maxRecDepth 20000 in
theorem ggX10_seed_X10_needParty : GoodIn wsX10_seed wsX10_needParty := goodIn_ca (goodIn_r _ [7, 8, 9] (by decide +kernel) (by decide +kernel)) (goodIn_sub (fun _ h => List.mem_cons_of_mem _ (List.mem_append_left _ (List.mem_append_right _ h))) (by decide +kernel))
set_option maxRecDepth 20000 in
theorem gX10_seed_X10_needParty : GoodIn wsX10_seed (va_wsS RX10 151 yX10_needParty wsX10_needParty) := goodIn_app (goodIn_of _ (by decide +kernel)) ggX10_seed_X10_needParty
set_option maxRecDepth 20000 in
theorem ggX10_seed_X10_needRange : GoodIn wsX10_seed wsX10_needRange := goodIn_ca (goodIn_r _ [12, 13, 14] (by decide +kernel) (by decide +kernel)) (goodIn_sub (fun _ h => List.mem_cons_of_mem _ (List.mem_append_right _ h)) (by decide +kernel))
set_option maxRecDepth 20000 in
theorem gX10_seed_X10_needRange : GoodIn wsX10_seed (va_wsS RX10 81 yX10_needRange wsX10_needRange) := goodIn_app (goodIn_of _ (by decide +kernel)) ggX10_seed_X10_needRange
theorem dX10_seed_0 : decode cX10_seed 0 = .ok (.iload_n 1, 1) := by decide +kernel
theorem dX10_seed_1 : decode cX10_seed 1 = .ok (.invokestatic 151, 3) := by decide +kernel
theorem dX10_seed_4 : decode cX10_seed 4 = .ok (.iload_n 2, 1) := by decide +kernel
theorem dX10_seed_5 : decode cX10_seed 5 = .ok (.iconst 0, 1) := by decide +kernel
theorem dX10_seed_6 : decode cX10_seed 6 = .ok (.sipush 9999, 3) := by decide +kernel
theorem dX10_seed_9 : decode cX10_seed 9 = .ok (.invokestatic 81, 3) := by decide +kernel
theorem dX10_seed_12 : decode cX10_seed 12 = .ok (.aload_n 0, 1) := by decide +kernel
theorem dX10_seed_13 : decode cX10_seed 13 = .ok (.getfield 43, 3) := by decide +kernel
theorem dX10_seed_16 : decode cX10_seed 16 = .ok (.getfield 135, 3) := by decide +kernel
theorem dX10_seed_19 : decode cX10_seed 19 = .ok (.iconst 1, 1) := by decide +kernel
theorem dX10_seed_20 : decode cX10_seed 20 = .ok (.if_icmp .eq 24, 3) := by decide +kernel
theorem dX10_seed_23 : decode cX10_seed 23 = .ok (.aload_n 0, 1) := by decide +kernel
theorem dX10_seed_24 : decode cX10_seed 24 = .ok (.getfield 43, 3) := by decide +kernel
theorem dX10_seed_27 : decode cX10_seed 27 = .ok (.getfield 135, 3) := by decide +kernel
theorem dX10_seed_30 : decode cX10_seed 30 = .ok (.iconst 2, 1) := by decide +kernel
theorem dX10_seed_31 : decode cX10_seed 31 = .ok (.if_icmp .eq 13, 3) := by decide +kernel
theorem dX10_seed_34 : decode cX10_seed 34 = .ok (.new 88, 3) := by decide +kernel
theorem dX10_seed_37 : decode cX10_seed 37 = .ok (.dup, 1) := by decide +kernel
theorem dX10_seed_38 : decode cX10_seed 38 = .ok (.ldc 154, 2) := by decide +kernel
theorem dX10_seed_40 : decode cX10_seed 40 = .ok (.invokespecial 92, 3) := by decide +kernel
theorem dX10_seed_43 : decode cX10_seed 43 = .ok (.athrow, 1) := by decide +kernel
theorem dX10_seed_44 : decode cX10_seed 44 = .ok (.aload_n 0, 1) := by decide +kernel
theorem dX10_seed_45 : decode cX10_seed 45 = .ok (.getfield 43, 3) := by decide +kernel
theorem dX10_seed_48 : decode cX10_seed 48 = .ok (.getfield 156, 3) := by decide +kernel
theorem dX10_seed_51 : decode cX10_seed 51 = .ok (.iload_n 1, 1) := by decide +kernel
theorem dX10_seed_52 : decode cX10_seed 52 = .ok (.iaload, 1) := by decide +kernel
theorem dX10_seed_53 : decode cX10_seed 53 = .ok (.istore_n 3, 1) := by decide +kernel
theorem dX10_seed_54 : decode cX10_seed 54 = .ok (.aload_n 0, 1) := by decide +kernel
theorem dX10_seed_55 : decode cX10_seed 55 = .ok (.getfield 43, 3) := by decide +kernel
theorem dX10_seed_58 : decode cX10_seed 58 = .ok (.getfield 156, 3) := by decide +kernel
theorem dX10_seed_61 : decode cX10_seed 61 = .ok (.iload_n 1, 1) := by decide +kernel
theorem dX10_seed_62 : decode cX10_seed 62 = .ok (.iload_n 2, 1) := by decide +kernel
theorem dX10_seed_63 : decode cX10_seed 63 = .ok (.iastore, 1) := by decide +kernel
theorem dX10_seed_64 : decode cX10_seed 64 = .ok (.iload_n 3, 1) := by decide +kernel
theorem dX10_seed_65 : decode cX10_seed 65 = .ok (.ireturn, 1) := by decide +kernel
set_option maxRecDepth 20000 in
theorem ggX10_advance_X10_needRange : GoodIn wsX10_advance wsX10_needRange := goodIn_ca (goodIn_r _ [7, 8, 9] (by decide +kernel) (by decide +kernel)) (goodIn_sub (fun _ h => List.mem_cons_of_mem _ (List.mem_append_left _ (List.mem_append_right _ h))) (by decide +kernel))
set_option maxRecDepth 20000 in
theorem gX10_advance_X10_needRange : GoodIn wsX10_advance (va_wsS RX10 81 yX10_needRange wsX10_needRange) := goodIn_app (goodIn_of _ (by decide +kernel)) ggX10_advance_X10_needRange
set_option maxRecDepth 20000 in
theorem ggX10_advance_X10_beginDay : GoodIn wsX10_advance wsX10_beginDay := goodIn_ca (goodIn_r _ [13, 14, 3, 15, 16, 17, 6, 18, 19, 20, 21, 22, 23, 24, 25, 26, 27, 28, 29, 30, 31, 32, 33, 34, 35, 36, 37, 38, 39, 40, 41, 42, 43, 44, 45, 46, 47, 48, 49, 50, 51, 52, 53, 54, 55, 56, 57, 58, 59, 60, 61, 62, 63, 64, 65, 66, 67, 68, 69, 70, 71, 72, 73, 74, 75, 76, 77, 78, 79, 80, 81, 82, 83, 84, 85, 86, 87, 88, 89, 90, 91, 92, 93, 94, 95, 96, 97, 98, 99, 100, 101, 102, 103, 104, 105, 106, 107, 108, 109, 110, 111, 112, 113, 114, 115, 116, 117, 118, 119, 120, 121, 122, 123, 124, 125, 126, 127, 128, 129, 130, 131, 132, 133, 134, 135, 136, 137, 138, 139, 140, 141, 142, 143, 144, 145, 146, 147, 148, 149, 150, 151, 152, 153, 154, 155, 156, 157, 158, 159, 160] (by decide +kernel) (by decide +kernel)) (goodIn_sub (fun _ h => List.mem_cons_of_mem _ (List.mem_append_right _ h)) (by decide +kernel))
set_option maxRecDepth 20000 in
theorem gX10_advance_X10_beginDay : GoodIn wsX10_advance (wsV RX10 161 RX10 yX10_beginDay wsX10_beginDay) := goodIn_app (goodIn_of _ (by decide +kernel)) ggX10_advance_X10_beginDay
theorem dX10_advance_0 : decode cX10_advance 0 = .ok (.iload_n 1, 1) := by decide +kernel
theorem dX10_advance_1 : decode cX10_advance 1 = .ok (.iconst 1, 1) := by decide +kernel
theorem dX10_advance_2 : decode cX10_advance 2 = .ok (.bipush 100, 2) := by decide +kernel
theorem dX10_advance_4 : decode cX10_advance 4 = .ok (.invokestatic 81, 3) := by decide +kernel
theorem dX10_advance_7 : decode cX10_advance 7 = .ok (.aload_n 0, 1) := by decide +kernel
theorem dX10_advance_8 : decode cX10_advance 8 = .ok (.getfield 37, 3) := by decide +kernel
theorem dX10_advance_11 : decode cX10_advance 11 = .ok (.iload_n 1, 1) := by decide +kernel
theorem dX10_advance_12 : decode cX10_advance 12 = .ok (.iadd, 1) := by decide +kernel
theorem dX10_advance_13 : decode cX10_advance 13 = .ok (.sipush 2100, 3) := by decide +kernel
theorem dX10_advance_16 : decode cX10_advance 16 = .ok (.if_icmp .le 13, 3) := by decide +kernel
theorem dX10_advance_19 : decode cX10_advance 19 = .ok (.new 88, 3) := by decide +kernel
theorem dX10_advance_22 : decode cX10_advance 22 = .ok (.dup, 1) := by decide +kernel
theorem dX10_advance_23 : decode cX10_advance 23 = .ok (.ldc 159, 2) := by decide +kernel
theorem dX10_advance_25 : decode cX10_advance 25 = .ok (.invokespecial 92, 3) := by decide +kernel
theorem dX10_advance_28 : decode cX10_advance 28 = .ok (.athrow, 1) := by decide +kernel
theorem dX10_advance_29 : decode cX10_advance 29 = .ok (.iconst 0, 1) := by decide +kernel
theorem dX10_advance_30 : decode cX10_advance 30 = .ok (.istore_n 2, 1) := by decide +kernel
theorem dX10_advance_31 : decode cX10_advance 31 = .ok (.iload_n 2, 1) := by decide +kernel
theorem dX10_advance_32 : decode cX10_advance 32 = .ok (.iload_n 1, 1) := by decide +kernel
theorem dX10_advance_33 : decode cX10_advance 33 = .ok (.if_icmp .ge 23, 3) := by decide +kernel
theorem dX10_advance_36 : decode cX10_advance 36 = .ok (.aload_n 0, 1) := by decide +kernel
theorem dX10_advance_37 : decode cX10_advance 37 = .ok (.dup, 1) := by decide +kernel
theorem dX10_advance_38 : decode cX10_advance 38 = .ok (.getfield 37, 3) := by decide +kernel
theorem dX10_advance_41 : decode cX10_advance 41 = .ok (.iconst 1, 1) := by decide +kernel
theorem dX10_advance_42 : decode cX10_advance 42 = .ok (.iadd, 1) := by decide +kernel
theorem dX10_advance_43 : decode cX10_advance 43 = .ok (.putfield 37, 3) := by decide +kernel
theorem dX10_advance_46 : decode cX10_advance 46 = .ok (.aload_n 0, 1) := by decide +kernel
theorem dX10_advance_47 : decode cX10_advance 47 = .ok (.invokevirtual 161, 3) := by decide +kernel
theorem dX10_advance_50 : decode cX10_advance 50 = .ok (.iinc 2 1, 3) := by decide +kernel
theorem dX10_advance_53 : decode cX10_advance 53 = .ok (.goto (-22), 3) := by decide +kernel
theorem dX10_advance_56 : decode cX10_advance 56 = .ok (.aload_n 0, 1) := by decide +kernel
theorem dX10_advance_57 : decode cX10_advance 57 = .ok (.getfield 37, 3) := by decide +kernel
theorem dX10_advance_60 : decode cX10_advance 60 = .ok (.ireturn, 1) := by decide +kernel
theorem dX10_today_0 : decode cX10_today 0 = .ok (.aload_n 0, 1) := by decide +kernel
theorem dX10_today_1 : decode cX10_today 1 = .ok (.getfield 37, 3) := by decide +kernel
theorem dX10_today_4 : decode cX10_today 4 = .ok (.ireturn, 1) := by decide +kernel
theorem dX10_stage_0 : decode cX10_stage 0 = .ok (.aload_n 0, 1) := by decide +kernel
theorem dX10_stage_1 : decode cX10_stage 1 = .ok (.getfield 43, 3) := by decide +kernel
theorem dX10_stage_4 : decode cX10_stage 4 = .ok (.getfield 135, 3) := by decide +kernel
theorem dX10_stage_7 : decode cX10_stage 7 = .ok (.ireturn, 1) := by decide +kernel
set_option maxRecDepth 20000 in
theorem ggX10_isOnRoll_X10_needPerson : GoodIn wsX10_isOnRoll wsX10_needPerson := goodIn_ca (goodIn_r _ [6, 7, 8, 9, 16, 17, 18, 19, 20, 21, 22, 23] (by decide +kernel) (by decide +kernel)) (goodIn_sub (fun _ h => List.mem_cons_of_mem _ (List.mem_append_left _ (List.mem_append_right _ h))) (by decide +kernel))
set_option maxRecDepth 20000 in
theorem gX10_isOnRoll_X10_needPerson : GoodIn wsX10_isOnRoll (wsV RX10 164 RX10 yX10_needPerson wsX10_needPerson) := goodIn_app (goodIn_of _ (by decide +kernel)) ggX10_isOnRoll_X10_needPerson
set_option maxRecDepth 20000 in
theorem ggX10_isOnRoll_X5_stationFor : GoodIn wsX10_isOnRoll wsX5_stationFor := goodIn_ca (goodIn_r _ [14, 15, 34, 35, 36] (by decide +kernel) (by decide +kernel)) (goodIn_sub (fun _ h => List.mem_cons_of_mem _ (List.mem_append_right _ h)) (by decide +kernel))
set_option maxRecDepth 20000 in
theorem gX10_isOnRoll_X5_stationFor : GoodIn wsX10_isOnRoll (wsV RX10 171 RX5 yX5_stationFor wsX5_stationFor) := goodIn_app (goodIn_of _ (by decide +kernel)) ggX10_isOnRoll_X5_stationFor
theorem dX10_isOnRoll_0 : decode cX10_isOnRoll 0 = .ok (.aload_n 0, 1) := by decide +kernel
theorem dX10_isOnRoll_1 : decode cX10_isOnRoll 1 = .ok (.iload_n 1, 1) := by decide +kernel
theorem dX10_isOnRoll_2 : decode cX10_isOnRoll 2 = .ok (.invokevirtual 164, 3) := by decide +kernel
theorem dX10_isOnRoll_5 : decode cX10_isOnRoll 5 = .ok (.aload_n 0, 1) := by decide +kernel
theorem dX10_isOnRoll_6 : decode cX10_isOnRoll 6 = .ok (.getfield 43, 3) := by decide +kernel
theorem dX10_isOnRoll_9 : decode cX10_isOnRoll 9 = .ok (.getfield 167, 3) := by decide +kernel
theorem dX10_isOnRoll_12 : decode cX10_isOnRoll 12 = .ok (.iload_n 1, 1) := by decide +kernel
theorem dX10_isOnRoll_13 : decode cX10_isOnRoll 13 = .ok (.invokevirtual 171, 3) := by decide +kernel
theorem dX10_isOnRoll_16 : decode cX10_isOnRoll 16 = .ok (.iconst (-1), 1) := by decide +kernel
theorem dX10_isOnRoll_17 : decode cX10_isOnRoll 17 = .ok (.if_icmp .eq 7, 3) := by decide +kernel
theorem dX10_isOnRoll_20 : decode cX10_isOnRoll 20 = .ok (.iconst 1, 1) := by decide +kernel
theorem dX10_isOnRoll_21 : decode cX10_isOnRoll 21 = .ok (.goto 4, 3) := by decide +kernel
theorem dX10_isOnRoll_24 : decode cX10_isOnRoll 24 = .ok (.iconst 0, 1) := by decide +kernel
theorem dX10_isOnRoll_25 : decode cX10_isOnRoll 25 = .ok (.ireturn, 1) := by decide +kernel
set_option maxRecDepth 20000 in
theorem ggX10_stationOf_X10_needPerson : GoodIn wsX10_stationOf wsX10_needPerson := goodIn_ca (goodIn_r _ [6, 7, 8, 9, 16, 17, 18, 19, 20, 21, 22, 23] (by decide +kernel) (by decide +kernel)) (goodIn_sub (fun _ h => List.mem_cons_of_mem _ (List.mem_append_left _ (List.mem_append_right _ h))) (by decide +kernel))
set_option maxRecDepth 20000 in
theorem gX10_stationOf_X10_needPerson : GoodIn wsX10_stationOf (wsV RX10 164 RX10 yX10_needPerson wsX10_needPerson) := goodIn_app (goodIn_of _ (by decide +kernel)) ggX10_stationOf_X10_needPerson
set_option maxRecDepth 20000 in
theorem ggX10_stationOf_X5_stationFor : GoodIn wsX10_stationOf wsX5_stationFor := goodIn_ca (goodIn_r _ [14, 15, 34, 35, 36] (by decide +kernel) (by decide +kernel)) (goodIn_sub (fun _ h => List.mem_cons_of_mem _ (List.mem_append_right _ h)) (by decide +kernel))
set_option maxRecDepth 20000 in
theorem gX10_stationOf_X5_stationFor : GoodIn wsX10_stationOf (wsV RX10 171 RX5 yX5_stationFor wsX5_stationFor) := goodIn_app (goodIn_of _ (by decide +kernel)) ggX10_stationOf_X5_stationFor
theorem dX10_stationOf_0 : decode cX10_stationOf 0 = .ok (.aload_n 0, 1) := by decide +kernel
theorem dX10_stationOf_1 : decode cX10_stationOf 1 = .ok (.iload_n 1, 1) := by decide +kernel
theorem dX10_stationOf_2 : decode cX10_stationOf 2 = .ok (.invokevirtual 164, 3) := by decide +kernel
theorem dX10_stationOf_5 : decode cX10_stationOf 5 = .ok (.aload_n 0, 1) := by decide +kernel
theorem dX10_stationOf_6 : decode cX10_stationOf 6 = .ok (.getfield 43, 3) := by decide +kernel
theorem dX10_stationOf_9 : decode cX10_stationOf 9 = .ok (.getfield 167, 3) := by decide +kernel
theorem dX10_stationOf_12 : decode cX10_stationOf 12 = .ok (.iload_n 1, 1) := by decide +kernel
theorem dX10_stationOf_13 : decode cX10_stationOf 13 = .ok (.invokevirtual 171, 3) := by decide +kernel
theorem dX10_stationOf_16 : decode cX10_stationOf 16 = .ok (.ireturn, 1) := by decide +kernel
set_option maxRecDepth 20000 in
theorem ggX10_peopleOf_X10_needStation : GoodIn wsX10_peopleOf wsX10_needStation := goodIn_ca (goodIn_r _ [6, 7, 8, 9, 16, 17, 18, 19, 20, 21, 22, 23, 34, 35, 36] (by decide +kernel) (by decide +kernel)) (goodIn_sub (fun _ h => List.mem_cons_of_mem _ (List.mem_append_left _ (List.mem_append_right _ h))) (by decide +kernel))
set_option maxRecDepth 20000 in
theorem gX10_peopleOf_X10_needStation : GoodIn wsX10_peopleOf (wsV RX10 96 RX10 yX10_needStation wsX10_needStation) := goodIn_app (goodIn_of _ (by decide +kernel)) ggX10_peopleOf_X10_needStation
set_option maxRecDepth 20000 in
theorem ggX10_peopleOf_X5_peopleAt : GoodIn wsX10_peopleOf wsX5_peopleAt := goodIn_ca (goodIn_r _ [14, 15, 37, 38, 39] (by decide +kernel) (by decide +kernel)) (goodIn_sub (fun _ h => List.mem_cons_of_mem _ (List.mem_append_right _ h)) (by decide +kernel))
set_option maxRecDepth 20000 in
theorem gX10_peopleOf_X5_peopleAt : GoodIn wsX10_peopleOf (wsV RX10 176 RX5 yX5_peopleAt wsX5_peopleAt) := goodIn_app (goodIn_of _ (by decide +kernel)) ggX10_peopleOf_X5_peopleAt
theorem dX10_peopleOf_0 : decode cX10_peopleOf 0 = .ok (.aload_n 0, 1) := by decide +kernel
theorem dX10_peopleOf_1 : decode cX10_peopleOf 1 = .ok (.iload_n 1, 1) := by decide +kernel
theorem dX10_peopleOf_2 : decode cX10_peopleOf 2 = .ok (.invokevirtual 96, 3) := by decide +kernel
theorem dX10_peopleOf_5 : decode cX10_peopleOf 5 = .ok (.aload_n 0, 1) := by decide +kernel
theorem dX10_peopleOf_6 : decode cX10_peopleOf 6 = .ok (.getfield 43, 3) := by decide +kernel
theorem dX10_peopleOf_9 : decode cX10_peopleOf 9 = .ok (.getfield 167, 3) := by decide +kernel
theorem dX10_peopleOf_12 : decode cX10_peopleOf 12 = .ok (.iload_n 1, 1) := by decide +kernel
theorem dX10_peopleOf_13 : decode cX10_peopleOf 13 = .ok (.invokevirtual 176, 3) := by decide +kernel
theorem dX10_peopleOf_16 : decode cX10_peopleOf 16 = .ok (.ireturn, 1) := by decide +kernel
set_option maxRecDepth 20000 in
theorem ggX10_early_X10_personAt : GoodIn wsX10_early wsX10_personAt := goodIn_ca (goodIn_r _ [9, 10, 11, 12, 13, 8, 14, 15, 16, 17, 66, 67, 68, 69, 70, 71, 72, 73] (by decide +kernel) (by decide +kernel)) (goodIn_sub (fun _ h => List.mem_cons_of_mem _ (List.mem_append_left _ (List.mem_append_left _ (List.mem_append_right _ h)))) (by decide +kernel))
set_option maxRecDepth 20000 in
theorem gX10_early_X10_personAt : GoodIn wsX10_early (wsV RX10 116 RX10 yX10_personAt wsX10_personAt) := goodIn_app (goodIn_of _ (by decide +kernel)) ggX10_early_X10_personAt
set_option maxRecDepth 20000 in
theorem ggX10_early_X10_needRange : GoodIn wsX10_early wsX10_needRange := goodIn_ca (goodIn_r _ [20, 21, 22] (by decide +kernel) (by decide +kernel)) (goodIn_sub (fun _ h => List.mem_cons_of_mem _ (List.mem_append_left _ (List.mem_append_right _ h))) (by decide +kernel))
set_option maxRecDepth 20000 in
theorem gX10_early_X10_needRange : GoodIn wsX10_early (va_wsS RX10 81 yX10_needRange wsX10_needRange) := goodIn_app (goodIn_of _ (by decide +kernel)) ggX10_early_X10_needRange
set_option maxRecDepth 20000 in
theorem ggX10_early_X10_needStage : GoodIn wsX10_early wsX10_needStage := goodIn_ca (goodIn_r _ [26, 1, 2, 3, 66, 67, 68, 69, 70, 71, 72, 73, 74, 75, 76, 77, 78, 79, 80, 81, 82, 83] (by decide +kernel) (by decide +kernel)) (goodIn_sub (fun _ h => List.mem_cons_of_mem _ (List.mem_append_left _ (List.mem_append_left _ (List.mem_append_left _ (List.mem_append_right _ h))))) (by decide +kernel))
set_option maxRecDepth 20000 in
theorem gX10_early_X10_needStage : GoodIn wsX10_early (wsV RX10 179 RX10 yX10_needStage wsX10_needStage) := goodIn_app (goodIn_of _ (by decide +kernel)) ggX10_early_X10_needStage
set_option maxRecDepth 20000 in
theorem ggX10_early_X10_needAlive : GoodIn wsX10_early wsX10_needAlive := goodIn_ca (goodIn_r _ [29, 1, 2, 88, 89, 90] (by decide +kernel) (by decide +kernel)) (goodIn_sub (fun _ h => List.mem_cons_of_mem _ (List.mem_append_left _ (List.mem_append_left _ (List.mem_append_left _ (List.mem_append_right _ h))))) (by decide +kernel))
set_option maxRecDepth 20000 in
theorem gX10_early_X10_needAlive : GoodIn wsX10_early (va_wsS RX10 120 yX10_needAlive wsX10_needAlive) := goodIn_app (goodIn_of _ (by decide +kernel)) ggX10_early_X10_needAlive
set_option maxRecDepth 20000 in
theorem ggX10_early_X10_needOnRoll : GoodIn wsX10_early wsX10_needOnRoll := goodIn_ca (goodIn_ca (goodIn_r _ [33, 1, 2, 3, 34, 35, 36, 37, 38, 39, 66, 67, 68, 69, 70, 71, 72, 73, 74, 75, 76, 77, 78, 79, 80, 81, 82, 83, 91, 92, 93] (by decide +kernel) (by decide +kernel)) (goodIn_sub (fun _ h => List.mem_cons_of_mem _ (List.mem_append_left _ (List.mem_append_left _ (List.mem_append_left _ (List.mem_append_right _ h))))) (by decide +kernel))) (goodIn_sub (fun _ h => List.mem_cons_of_mem _ (List.mem_append_right _ h)) (by decide +kernel))
set_option maxRecDepth 20000 in
theorem gX10_early_X10_needOnRoll : GoodIn wsX10_early (wsV RX10 182 RX10 yX10_needOnRoll wsX10_needOnRoll) := goodIn_app (goodIn_of _ (by decide +kernel)) ggX10_early_X10_needOnRoll
set_option maxRecDepth 20000 in
theorem ggX10_early_X10_voidEnvelopeOf : GoodIn wsX10_early wsX10_voidEnvelopeOf := goodIn_ca (goodIn_r _ [43, 3, 4, 44, 45, 46, 47, 48, 49, 50, 51, 52, 53, 54, 55, 56, 57, 58, 59, 60, 66, 67, 68, 69, 70, 71, 72, 73, 74, 75, 76, 77, 78, 79, 80, 81, 82, 83, 84, 85, 86, 87, 94, 95, 96, 97, 98] (by decide +kernel) (by decide +kernel)) (goodIn_sub (fun _ h => List.mem_cons_of_mem _ (List.mem_append_right _ h)) (by decide +kernel))
set_option maxRecDepth 20000 in
theorem gX10_early_X10_voidEnvelopeOf : GoodIn wsX10_early (wsV RX10 131 RX10 yX10_voidEnvelopeOf wsX10_voidEnvelopeOf) := goodIn_app (goodIn_of _ (by decide +kernel)) ggX10_early_X10_voidEnvelopeOf
set_option maxRecDepth 20000 in
theorem ggX10_early_X0_write : GoodIn wsX10_early wsX0_write := goodIn_ca (goodIn_r _ [56, 57, 58, 59, 60, 94, 95, 96, 97, 98] (by decide +kernel) (by decide +kernel)) (goodIn_sub (fun _ h => List.mem_cons_of_mem _ (List.mem_append_right _ h)) (by decide +kernel))
set_option maxRecDepth 20000 in
theorem gX10_early_X0_write : GoodIn wsX10_early (wsV RX10 198 RX0 yX0_write wsX0_write) := goodIn_app (goodIn_of _ (by decide +kernel)) ggX10_early_X0_write
set_option maxRecDepth 20000 in
theorem ggX10_early_X3_add : GoodIn wsX10_early wsX3_add := goodIn_ca (goodIn_r _ [64, 49, 50, 65, 51, 84, 85, 86, 87] (by decide +kernel) (by decide +kernel)) (goodIn_sub (fun _ h => List.mem_cons_of_mem _ (List.mem_append_right _ h)) (by decide +kernel))
set_option maxRecDepth 20000 in
theorem gX10_early_X3_add : GoodIn wsX10_early (wsV RX10 204 RX3 yX3_add wsX3_add) := goodIn_app (goodIn_of _ (by decide +kernel)) ggX10_early_X3_add
theorem dX10_early_0 : decode cX10_early 0 = .ok (.aload_n 0, 1) := by decide +kernel
theorem dX10_early_1 : decode cX10_early 1 = .ok (.iload_n 1, 1) := by decide +kernel
theorem dX10_early_2 : decode cX10_early 2 = .ok (.invokevirtual 116, 3) := by decide +kernel
theorem dX10_early_5 : decode cX10_early 5 = .ok (.astore_n 3, 1) := by decide +kernel
theorem dX10_early_6 : decode cX10_early 6 = .ok (.iload_n 2, 1) := by decide +kernel
theorem dX10_early_7 : decode cX10_early 7 = .ok (.iconst 0, 1) := by decide +kernel
theorem dX10_early_8 : decode cX10_early 8 = .ok (.iconst 5, 1) := by decide +kernel
theorem dX10_early_9 : decode cX10_early 9 = .ok (.invokestatic 81, 3) := by decide +kernel
theorem dX10_early_12 : decode cX10_early 12 = .ok (.aload_n 0, 1) := by decide +kernel
theorem dX10_early_13 : decode cX10_early 13 = .ok (.iconst 2, 1) := by decide +kernel
theorem dX10_early_14 : decode cX10_early 14 = .ok (.invokevirtual 179, 3) := by decide +kernel
theorem dX10_early_17 : decode cX10_early 17 = .ok (.aload_n 3, 1) := by decide +kernel
theorem dX10_early_18 : decode cX10_early 18 = .ok (.invokestatic 120, 3) := by decide +kernel
theorem dX10_early_21 : decode cX10_early 21 = .ok (.aload_n 0, 1) := by decide +kernel
theorem dX10_early_22 : decode cX10_early 22 = .ok (.iload_n 1, 1) := by decide +kernel
theorem dX10_early_23 : decode cX10_early 23 = .ok (.invokevirtual 182, 3) := by decide +kernel
theorem dX10_early_26 : decode cX10_early 26 = .ok (.aload_n 0, 1) := by decide +kernel
theorem dX10_early_27 : decode cX10_early 27 = .ok (.getfield 43, 3) := by decide +kernel
theorem dX10_early_30 : decode cX10_early 30 = .ok (.getfield 185, 3) := by decide +kernel
theorem dX10_early_33 : decode cX10_early 33 = .ok (.getfield 189, 3) := by decide +kernel
theorem dX10_early_36 : decode cX10_early 36 = .ok (.bipush 60, 2) := by decide +kernel
theorem dX10_early_38 : decode cX10_early 38 = .ok (.if_icmp .lt 13, 3) := by decide +kernel
theorem dX10_early_41 : decode cX10_early 41 = .ok (.new 88, 3) := by decide +kernel
theorem dX10_early_44 : decode cX10_early 44 = .ok (.dup, 1) := by decide +kernel
theorem dX10_early_45 : decode cX10_early 45 = .ok (.ldc 192, 2) := by decide +kernel
theorem dX10_early_47 : decode cX10_early 47 = .ok (.invokespecial 92, 3) := by decide +kernel
theorem dX10_early_50 : decode cX10_early 50 = .ok (.athrow, 1) := by decide +kernel
theorem dX10_early_51 : decode cX10_early 51 = .ok (.aload_n 0, 1) := by decide +kernel
theorem dX10_early_52 : decode cX10_early 52 = .ok (.iload_n 1, 1) := by decide +kernel
theorem dX10_early_53 : decode cX10_early 53 = .ok (.invokevirtual 131, 3) := by decide +kernel
theorem dX10_early_56 : decode cX10_early 56 = .ok (.pop, 1) := by decide +kernel
theorem dX10_early_57 : decode cX10_early 57 = .ok (.aload_n 0, 1) := by decide +kernel
theorem dX10_early_58 : decode cX10_early 58 = .ok (.getfield 43, 3) := by decide +kernel
theorem dX10_early_61 : decode cX10_early 61 = .ok (.getfield 194, 3) := by decide +kernel
theorem dX10_early_64 : decode cX10_early 64 = .ok (.aload_n 0, 1) := by decide +kernel
theorem dX10_early_65 : decode cX10_early 65 = .ok (.getfield 37, 3) := by decide +kernel
theorem dX10_early_68 : decode cX10_early 68 = .ok (.bipush 101, 2) := by decide +kernel
theorem dX10_early_70 : decode cX10_early 70 = .ok (.iload_n 1, 1) := by decide +kernel
theorem dX10_early_71 : decode cX10_early 71 = .ok (.invokevirtual 198, 3) := by decide +kernel
theorem dX10_early_74 : decode cX10_early 74 = .ok (.aload_n 0, 1) := by decide +kernel
theorem dX10_early_75 : decode cX10_early 75 = .ok (.getfield 43, 3) := by decide +kernel
theorem dX10_early_78 : decode cX10_early 78 = .ok (.getfield 185, 3) := by decide +kernel
theorem dX10_early_81 : decode cX10_early 81 = .ok (.iload_n 1, 1) := by decide +kernel
theorem dX10_early_82 : decode cX10_early 82 = .ok (.iload_n 2, 1) := by decide +kernel
theorem dX10_early_83 : decode cX10_early 83 = .ok (.invokevirtual 204, 3) := by decide +kernel
theorem dX10_early_86 : decode cX10_early 86 = .ok (.ireturn, 1) := by decide +kernel
set_option maxRecDepth 20000 in
theorem ggX10_vote_X10_personAt : GoodIn wsX10_vote wsX10_personAt := goodIn_ca (goodIn_r _ [9, 10, 11, 12, 13, 8, 14, 15, 16, 17, 81, 82, 83, 84, 85, 86, 87, 88] (by decide +kernel) (by decide +kernel)) (goodIn_sub (fun _ h => List.mem_cons_of_mem _ (List.mem_append_left _ (List.mem_append_right _ h))) (by decide +kernel))
set_option maxRecDepth 20000 in
theorem gX10_vote_X10_personAt : GoodIn wsX10_vote (wsV RX10 116 RX10 yX10_personAt wsX10_personAt) := goodIn_app (goodIn_of _ (by decide +kernel)) ggX10_vote_X10_personAt
set_option maxRecDepth 20000 in
theorem ggX10_vote_X10_needStation : GoodIn wsX10_vote wsX10_needStation := goodIn_ca (goodIn_r _ [21, 15, 16, 22, 81, 82, 83, 84, 85, 86, 87, 88, 108, 109, 110] (by decide +kernel) (by decide +kernel)) (goodIn_sub (fun _ h => List.mem_cons_of_mem _ (List.mem_append_left _ (List.mem_append_right _ h))) (by decide +kernel))
set_option maxRecDepth 20000 in
theorem gX10_vote_X10_needStation : GoodIn wsX10_vote (wsV RX10 96 RX10 yX10_needStation wsX10_needStation) := goodIn_app (goodIn_of _ (by decide +kernel)) ggX10_vote_X10_needStation
set_option maxRecDepth 20000 in
theorem ggX10_vote_X10_needRange : GoodIn wsX10_vote wsX10_needRange := goodIn_ca (goodIn_r _ [25, 26, 27] (by decide +kernel) (by decide +kernel)) (goodIn_sub (fun _ h => List.mem_cons_of_mem _ (List.mem_append_right _ h)) (by decide +kernel))
set_option maxRecDepth 20000 in
theorem gX10_vote_X10_needRange : GoodIn wsX10_vote (va_wsS RX10 81 yX10_needRange wsX10_needRange) := goodIn_app (goodIn_of _ (by decide +kernel)) ggX10_vote_X10_needRange
set_option maxRecDepth 20000 in
theorem ggX10_vote_X10_needStage : GoodIn wsX10_vote wsX10_needStage := goodIn_ca (goodIn_r _ [31, 1, 2, 3, 81, 82, 83, 84, 85, 86, 87, 88, 89, 90, 91, 92, 93, 94, 95, 96, 97, 98] (by decide +kernel) (by decide +kernel)) (goodIn_sub (fun _ h => List.mem_cons_of_mem _ (List.mem_append_left _ (List.mem_append_left _ (List.mem_append_right _ h)))) (by decide +kernel))
set_option maxRecDepth 20000 in
theorem gX10_vote_X10_needStage : GoodIn wsX10_vote (wsV RX10 179 RX10 yX10_needStage wsX10_needStage) := goodIn_app (goodIn_of _ (by decide +kernel)) ggX10_vote_X10_needStage
set_option maxRecDepth 20000 in
theorem ggX10_vote_X10_needAlive : GoodIn wsX10_vote wsX10_needAlive := goodIn_ca (goodIn_r _ [34, 1, 2, 111, 112, 113] (by decide +kernel) (by decide +kernel)) (goodIn_sub (fun _ h => List.mem_cons_of_mem _ (List.mem_append_left _ (List.mem_append_left _ (List.mem_append_right _ h)))) (by decide +kernel))
set_option maxRecDepth 20000 in
theorem gX10_vote_X10_needAlive : GoodIn wsX10_vote (va_wsS RX10 120 yX10_needAlive wsX10_needAlive) := goodIn_app (goodIn_of _ (by decide +kernel)) ggX10_vote_X10_needAlive
set_option maxRecDepth 20000 in
theorem ggX10_vote_X10_needOnRoll : GoodIn wsX10_vote wsX10_needOnRoll := goodIn_ca (goodIn_ca (goodIn_r _ [38, 1, 2, 3, 39, 40, 41, 42, 43, 44, 81, 82, 83, 84, 85, 86, 87, 88, 89, 90, 91, 92, 93, 94, 95, 96, 97, 98, 99, 100, 101] (by decide +kernel) (by decide +kernel)) (goodIn_sub (fun _ h => List.mem_cons_of_mem _ (List.mem_append_left _ (List.mem_append_left _ (List.mem_append_right _ h)))) (by decide +kernel))) (goodIn_sub (fun _ h => List.mem_cons_of_mem _ (List.mem_append_left _ (List.mem_append_left _ (List.mem_append_left _ (List.mem_append_right _ h))))) (by decide +kernel))
set_option maxRecDepth 20000 in
theorem gX10_vote_X10_needOnRoll : GoodIn wsX10_vote (wsV RX10 182 RX10 yX10_needOnRoll wsX10_needOnRoll) := goodIn_app (goodIn_of _ (by decide +kernel)) ggX10_vote_X10_needOnRoll
set_option maxRecDepth 20000 in
theorem ggX10_vote_X5_stationFor : GoodIn wsX10_vote wsX5_stationFor := goodIn_ca (goodIn_r _ [43, 44, 99, 100, 101] (by decide +kernel) (by decide +kernel)) (goodIn_sub (fun _ h => List.mem_cons_of_mem _ (List.mem_append_left _ (List.mem_append_left _ (List.mem_append_left _ (List.mem_append_right _ h))))) (by decide +kernel))
set_option maxRecDepth 20000 in
theorem gX10_vote_X5_stationFor : GoodIn wsX10_vote (wsV RX10 171 RX5 yX5_stationFor wsX5_stationFor) := goodIn_app (goodIn_of _ (by decide +kernel)) ggX10_vote_X5_stationFor
set_option maxRecDepth 20000 in
theorem ggX10_vote_X10_voidEnvelopeOf : GoodIn wsX10_vote wsX10_voidEnvelopeOf := goodIn_ca (goodIn_r _ [48, 3, 4, 49, 50, 51, 52, 53, 54, 55, 56, 57, 58, 59, 60, 61, 62, 63, 64, 65, 81, 82, 83, 84, 85, 86, 87, 88, 89, 90, 91, 92, 93, 94, 95, 96, 97, 98, 114, 115, 116, 117, 118, 119, 120, 121, 122] (by decide +kernel) (by decide +kernel)) (goodIn_sub (fun _ h => List.mem_cons_of_mem _ (List.mem_append_left _ (List.mem_append_left _ (List.mem_append_left _ (List.mem_append_right _ h))))) (by decide +kernel))
set_option maxRecDepth 20000 in
theorem gX10_vote_X10_voidEnvelopeOf : GoodIn wsX10_vote (wsV RX10 131 RX10 yX10_voidEnvelopeOf wsX10_voidEnvelopeOf) := goodIn_app (goodIn_of _ (by decide +kernel)) ggX10_vote_X10_voidEnvelopeOf
set_option maxRecDepth 20000 in
theorem ggX10_vote_X0_write : GoodIn wsX10_vote wsX0_write := goodIn_ca (goodIn_r _ [61, 62, 63, 64, 65, 118, 119, 120, 121, 122] (by decide +kernel) (by decide +kernel)) (goodIn_sub (fun _ h => List.mem_cons_of_mem _ (List.mem_append_left _ (List.mem_append_left _ (List.mem_append_left _ (List.mem_append_right _ h))))) (by decide +kernel))
set_option maxRecDepth 20000 in
theorem gX10_vote_X0_write : GoodIn wsX10_vote (wsV RX10 198 RX0 yX0_write wsX0_write) := goodIn_app (goodIn_of _ (by decide +kernel)) ggX10_vote_X0_write
set_option maxRecDepth 20000 in
theorem ggX10_vote_X2_castFor : GoodIn wsX10_vote wsX2_castFor := goodIn_ca (goodIn_r _ [70, 71, 72, 73, 40, 41, 42, 43, 44, 74, 75, 76, 77, 78, 79, 80, 89, 90, 91, 92, 93, 94, 95, 96, 97, 98, 99, 100, 101, 102, 103, 104, 105, 106, 107] (by decide +kernel) (by decide +kernel)) (goodIn_sub (fun _ h => List.mem_cons_of_mem _ (List.mem_append_left _ (List.mem_append_left _ (List.mem_append_left _ (List.mem_append_right _ h))))) (by decide +kernel))
set_option maxRecDepth 20000 in
theorem gX10_vote_X2_castFor : GoodIn wsX10_vote (wsV RX10 213 RX2 yX2_castFor wsX2_castFor) := goodIn_app (goodIn_of _ (by decide +kernel)) ggX10_vote_X2_castFor
theorem dX10_vote_0 : decode cX10_vote 0 = .ok (.aload_n 0, 1) := by decide +kernel
theorem dX10_vote_1 : decode cX10_vote 1 = .ok (.iload_n 1, 1) := by decide +kernel
theorem dX10_vote_2 : decode cX10_vote 2 = .ok (.invokevirtual 116, 3) := by decide +kernel
theorem dX10_vote_5 : decode cX10_vote 5 = .ok (.astore 4, 2) := by decide +kernel
theorem dX10_vote_7 : decode cX10_vote 7 = .ok (.aload_n 0, 1) := by decide +kernel
theorem dX10_vote_8 : decode cX10_vote 8 = .ok (.iload_n 2, 1) := by decide +kernel
theorem dX10_vote_9 : decode cX10_vote 9 = .ok (.invokevirtual 96, 3) := by decide +kernel
theorem dX10_vote_12 : decode cX10_vote 12 = .ok (.iload_n 3, 1) := by decide +kernel
theorem dX10_vote_13 : decode cX10_vote 13 = .ok (.iconst 0, 1) := by decide +kernel
theorem dX10_vote_14 : decode cX10_vote 14 = .ok (.iconst 5, 1) := by decide +kernel
theorem dX10_vote_15 : decode cX10_vote 15 = .ok (.invokestatic 81, 3) := by decide +kernel
theorem dX10_vote_18 : decode cX10_vote 18 = .ok (.aload_n 0, 1) := by decide +kernel
theorem dX10_vote_19 : decode cX10_vote 19 = .ok (.iconst 3, 1) := by decide +kernel
theorem dX10_vote_20 : decode cX10_vote 20 = .ok (.invokevirtual 179, 3) := by decide +kernel
theorem dX10_vote_23 : decode cX10_vote 23 = .ok (.aload 4, 2) := by decide +kernel
theorem dX10_vote_25 : decode cX10_vote 25 = .ok (.invokestatic 120, 3) := by decide +kernel
theorem dX10_vote_28 : decode cX10_vote 28 = .ok (.aload_n 0, 1) := by decide +kernel
theorem dX10_vote_29 : decode cX10_vote 29 = .ok (.iload_n 1, 1) := by decide +kernel
theorem dX10_vote_30 : decode cX10_vote 30 = .ok (.invokevirtual 182, 3) := by decide +kernel
theorem dX10_vote_33 : decode cX10_vote 33 = .ok (.aload_n 0, 1) := by decide +kernel
theorem dX10_vote_34 : decode cX10_vote 34 = .ok (.getfield 43, 3) := by decide +kernel
theorem dX10_vote_37 : decode cX10_vote 37 = .ok (.getfield 167, 3) := by decide +kernel
theorem dX10_vote_40 : decode cX10_vote 40 = .ok (.getfield 205, 3) := by decide +kernel
theorem dX10_vote_43 : decode cX10_vote 43 = .ok (.iload_n 1, 1) := by decide +kernel
theorem dX10_vote_44 : decode cX10_vote 44 = .ok (.baload, 1) := by decide +kernel
theorem dX10_vote_45 : decode cX10_vote 45 = .ok (.ifCond .eq 13, 3) := by decide +kernel
theorem dX10_vote_48 : decode cX10_vote 48 = .ok (.new 88, 3) := by decide +kernel
theorem dX10_vote_51 : decode cX10_vote 51 = .ok (.dup, 1) := by decide +kernel
theorem dX10_vote_52 : decode cX10_vote 52 = .ok (.ldc 209, 2) := by decide +kernel
theorem dX10_vote_54 : decode cX10_vote 54 = .ok (.invokespecial 92, 3) := by decide +kernel
theorem dX10_vote_57 : decode cX10_vote 57 = .ok (.athrow, 1) := by decide +kernel
theorem dX10_vote_58 : decode cX10_vote 58 = .ok (.aload_n 0, 1) := by decide +kernel
