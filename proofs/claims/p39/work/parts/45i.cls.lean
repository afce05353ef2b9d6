theorem dX10_makeRoll_60 : decode cX10_makeRoll 60 = .ok (.if_icmp .gt 30, 3) := by decide +kernel
theorem dX10_makeRoll_63 : decode cX10_makeRoll 63 = .ok (.aload_n 0, 1) := by decide +kernel
theorem dX10_makeRoll_64 : decode cX10_makeRoll 64 = .ok (.getfield 12, 3) := by decide +kernel
theorem dX10_makeRoll_67 : decode cX10_makeRoll 67 = .ok (.aload_n 3, 1) := by decide +kernel
theorem dX10_makeRoll_68 : decode cX10_makeRoll 68 = .ok (.iload_n 1, 1) := by decide +kernel
theorem dX10_makeRoll_69 : decode cX10_makeRoll 69 = .ok (.invokevirtual 124, 3) := by decide +kernel
theorem dX10_makeRoll_72 : decode cX10_makeRoll 72 = .ok (.invokevirtual 74, 3) := by decide +kernel
theorem dX10_makeRoll_75 : decode cX10_makeRoll 75 = .ok (.aload_n 0, 1) := by decide +kernel
theorem dX10_makeRoll_76 : decode cX10_makeRoll 76 = .ok (.getfield 43, 3) := by decide +kernel
theorem dX10_makeRoll_79 : decode cX10_makeRoll 79 = .ok (.getfield 167, 3) := by decide +kernel
theorem dX10_makeRoll_82 : decode cX10_makeRoll 82 = .ok (.iload_n 2, 1) := by decide +kernel
theorem dX10_makeRoll_83 : decode cX10_makeRoll 83 = .ok (.aload_n 0, 1) := by decide +kernel
theorem dX10_makeRoll_84 : decode cX10_makeRoll 84 = .ok (.invokevirtual 331, 3) := by decide +kernel
theorem dX10_makeRoll_87 : decode cX10_makeRoll 87 = .ok (.invokevirtual 334, 3) := by decide +kernel
theorem dX10_makeRoll_90 : decode cX10_makeRoll 90 = .ok (.iinc 2 1, 3) := by decide +kernel
theorem dX10_makeRoll_93 : decode cX10_makeRoll 93 = .ok (.goto (-66), 3) := by decide +kernel
theorem dX10_makeRoll_96 : decode cX10_makeRoll 96 = .ok (.return_, 1) := by decide +kernel
set_option maxRecDepth 20000 in
theorem ggX10_chooseStation_X10_nearestWithSeat : GoodIn wsX10_chooseStation wsX10_nearestWithSeat := goodIn_ca (goodIn_r _ [5, 6, 7, 8, 9, 10, 11, 12, 13, 14, 15, 16, 17, 18, 19, 20, 25, 26, 27, 28, 29, 30, 31, 32, 33, 34, 35, 36, 37, 38, 39, 40, 41, 42, 43, 44, 45, 46, 47, 48, 49, 50, 51] (by decide +kernel) (by decide +kernel)) (goodIn_sub (fun _ h => List.mem_cons_of_mem _ (List.mem_append_right _ h)) (by decide +kernel))
set_option maxRecDepth 20000 in
theorem gX10_chooseStation_X10_nearestWithSeat : GoodIn wsX10_chooseStation (wsV RX10 337 RX10 yX10_nearestWithSeat wsX10_nearestWithSeat) := goodIn_app (goodIn_of _ (by decide +kernel)) ggX10_chooseStation_X10_nearestWithSeat
set_option maxRecDepth 20000 in
theorem ggX10_chooseStation_X10_emptiestWithWay : GoodIn wsX10_chooseStation wsX10_emptiestWithWay := goodIn_ca (goodIn_r _ [24, 6, 7, 8, 9, 10, 11, 12, 13, 14, 15, 16, 17, 18, 19, 20, 25, 26, 27, 28, 29, 30, 31, 32, 33, 34, 35, 36, 37, 38, 39, 40, 41, 42, 43, 44, 45, 46, 47, 48, 49, 50, 51] (by decide +kernel) (by decide +kernel)) (goodIn_sub (fun _ h => List.mem_cons_of_mem _ (List.mem_append_right _ h)) (by decide +kernel))
set_option maxRecDepth 20000 in
theorem gX10_chooseStation_X10_emptiestWithWay : GoodIn wsX10_chooseStation (wsV RX10 340 RX10 yX10_emptiestWithWay wsX10_emptiestWithWay) := goodIn_app (goodIn_of _ (by decide +kernel)) ggX10_chooseStation_X10_emptiestWithWay
theorem dX10_chooseStation_0 : decode cX10_chooseStation 0 = .ok (.aload_n 0, 1) := by decide +kernel
theorem dX10_chooseStation_1 : decode cX10_chooseStation 1 = .ok (.invokevirtual 337, 3) := by decide +kernel
theorem dX10_chooseStation_4 : decode cX10_chooseStation 4 = .ok (.istore_n 1, 1) := by decide +kernel
theorem dX10_chooseStation_5 : decode cX10_chooseStation 5 = .ok (.iload_n 1, 1) := by decide +kernel
theorem dX10_chooseStation_6 : decode cX10_chooseStation 6 = .ok (.iconst (-1), 1) := by decide +kernel
theorem dX10_chooseStation_7 : decode cX10_chooseStation 7 = .ok (.if_icmp .eq 5, 3) := by decide +kernel
theorem dX10_chooseStation_10 : decode cX10_chooseStation 10 = .ok (.iload_n 1, 1) := by decide +kernel
theorem dX10_chooseStation_11 : decode cX10_chooseStation 11 = .ok (.ireturn, 1) := by decide +kernel
theorem dX10_chooseStation_12 : decode cX10_chooseStation 12 = .ok (.aload_n 0, 1) := by decide +kernel
theorem dX10_chooseStation_13 : decode cX10_chooseStation 13 = .ok (.invokevirtual 340, 3) := by decide +kernel
theorem dX10_chooseStation_16 : decode cX10_chooseStation 16 = .ok (.istore_n 2, 1) := by decide +kernel
theorem dX10_chooseStation_17 : decode cX10_chooseStation 17 = .ok (.iload_n 2, 1) := by decide +kernel
theorem dX10_chooseStation_18 : decode cX10_chooseStation 18 = .ok (.iconst (-1), 1) := by decide +kernel
theorem dX10_chooseStation_19 : decode cX10_chooseStation 19 = .ok (.if_icmp .eq 7, 3) := by decide +kernel
theorem dX10_chooseStation_22 : decode cX10_chooseStation 22 = .ok (.iload_n 2, 1) := by decide +kernel
theorem dX10_chooseStation_23 : decode cX10_chooseStation 23 = .ok (.goto 4, 3) := by decide +kernel
theorem dX10_chooseStation_26 : decode cX10_chooseStation 26 = .ok (.iconst 0, 1) := by decide +kernel
theorem dX10_chooseStation_27 : decode cX10_chooseStation 27 = .ok (.ireturn, 1) := by decide +kernel
set_option maxRecDepth 20000 in
theorem ggX10_nearestWithSeat_X9_measuredTo : GoodIn wsX10_nearestWithSeat wsX9_measuredTo := goodIn_ca (goodIn_r _ [8, 9, 37, 38, 39] (by decide +kernel) (by decide +kernel)) (goodIn_sub (fun _ h => List.mem_cons_of_mem _ (List.mem_append_right _ h)) (by decide +kernel))
set_option maxRecDepth 20000 in
theorem gX10_nearestWithSeat_X9_measuredTo : GoodIn wsX10_nearestWithSeat (wsV RX10 77 RX9 yX9_measuredTo wsX9_measuredTo) := goodIn_app (goodIn_of _ (by decide +kernel)) ggX10_nearestWithSeat_X9_measuredTo
set_option maxRecDepth 20000 in
theorem ggX10_nearestWithSeat_X5_peopleAt : GoodIn wsX10_nearestWithSeat wsX5_peopleAt := goodIn_ca (goodIn_r _ [14, 15, 40, 41, 42] (by decide +kernel) (by decide +kernel)) (goodIn_sub (fun _ h => List.mem_cons_of_mem _ (List.mem_append_right _ h)) (by decide +kernel))
set_option maxRecDepth 20000 in
theorem gX10_nearestWithSeat_X5_peopleAt : GoodIn wsX10_nearestWithSeat (wsV RX10 176 RX5 yX5_peopleAt wsX5_peopleAt) := goodIn_app (goodIn_of _ (by decide +kernel)) ggX10_nearestWithSeat_X5_peopleAt
theorem dX10_nearestWithSeat_0 : decode cX10_nearestWithSeat 0 = .ok (.iconst (-1), 1) := by decide +kernel
theorem dX10_nearestWithSeat_1 : decode cX10_nearestWithSeat 1 = .ok (.istore_n 1, 1) := by decide +kernel
theorem dX10_nearestWithSeat_2 : decode cX10_nearestWithSeat 2 = .ok (.iconst 0, 1) := by decide +kernel
theorem dX10_nearestWithSeat_3 : decode cX10_nearestWithSeat 3 = .ok (.istore_n 2, 1) := by decide +kernel
theorem dX10_nearestWithSeat_4 : decode cX10_nearestWithSeat 4 = .ok (.iconst 0, 1) := by decide +kernel
theorem dX10_nearestWithSeat_5 : decode cX10_nearestWithSeat 5 = .ok (.istore_n 3, 1) := by decide +kernel
theorem dX10_nearestWithSeat_6 : decode cX10_nearestWithSeat 6 = .ok (.iload_n 3, 1) := by decide +kernel
theorem dX10_nearestWithSeat_7 : decode cX10_nearestWithSeat 7 = .ok (.aload_n 0, 1) := by decide +kernel
theorem dX10_nearestWithSeat_8 : decode cX10_nearestWithSeat 8 = .ok (.getfield 29, 3) := by decide +kernel
theorem dX10_nearestWithSeat_11 : decode cX10_nearestWithSeat 11 = .ok (.getfield 85, 3) := by decide +kernel
theorem dX10_nearestWithSeat_14 : decode cX10_nearestWithSeat 14 = .ok (.if_icmp .ge 84, 3) := by decide +kernel
theorem dX10_nearestWithSeat_17 : decode cX10_nearestWithSeat 17 = .ok (.aload_n 0, 1) := by decide +kernel
theorem dX10_nearestWithSeat_18 : decode cX10_nearestWithSeat 18 = .ok (.getfield 12, 3) := by decide +kernel
theorem dX10_nearestWithSeat_21 : decode cX10_nearestWithSeat 21 = .ok (.aload_n 0, 1) := by decide +kernel
theorem dX10_nearestWithSeat_22 : decode cX10_nearestWithSeat 22 = .ok (.getfield 29, 3) := by decide +kernel
theorem dX10_nearestWithSeat_25 : decode cX10_nearestWithSeat 25 = .ok (.getfield 343, 3) := by decide +kernel
theorem dX10_nearestWithSeat_28 : decode cX10_nearestWithSeat 28 = .ok (.iload_n 3, 1) := by decide +kernel
theorem dX10_nearestWithSeat_29 : decode cX10_nearestWithSeat 29 = .ok (.iaload, 1) := by decide +kernel
theorem dX10_nearestWithSeat_30 : decode cX10_nearestWithSeat 30 = .ok (.invokevirtual 77, 3) := by decide +kernel
theorem dX10_nearestWithSeat_33 : decode cX10_nearestWithSeat 33 = .ok (.istore 4, 2) := by decide +kernel
theorem dX10_nearestWithSeat_35 : decode cX10_nearestWithSeat 35 = .ok (.aload_n 0, 1) := by decide +kernel
theorem dX10_nearestWithSeat_36 : decode cX10_nearestWithSeat 36 = .ok (.getfield 43, 3) := by decide +kernel
theorem dX10_nearestWithSeat_39 : decode cX10_nearestWithSeat 39 = .ok (.getfield 167, 3) := by decide +kernel
theorem dX10_nearestWithSeat_42 : decode cX10_nearestWithSeat 42 = .ok (.iload_n 3, 1) := by decide +kernel
theorem dX10_nearestWithSeat_43 : decode cX10_nearestWithSeat 43 = .ok (.invokevirtual 176, 3) := by decide +kernel
theorem dX10_nearestWithSeat_46 : decode cX10_nearestWithSeat 46 = .ok (.aload_n 0, 1) := by decide +kernel
theorem dX10_nearestWithSeat_47 : decode cX10_nearestWithSeat 47 = .ok (.getfield 29, 3) := by decide +kernel
theorem dX10_nearestWithSeat_50 : decode cX10_nearestWithSeat 50 = .ok (.getfield 99, 3) := by decide +kernel
theorem dX10_nearestWithSeat_53 : decode cX10_nearestWithSeat 53 = .ok (.iload_n 3, 1) := by decide +kernel
theorem dX10_nearestWithSeat_54 : decode cX10_nearestWithSeat 54 = .ok (.iaload, 1) := by decide +kernel
theorem dX10_nearestWithSeat_55 : decode cX10_nearestWithSeat 55 = .ok (.if_icmp .ge 7, 3) := by decide +kernel
theorem dX10_nearestWithSeat_58 : decode cX10_nearestWithSeat 58 = .ok (.iconst 1, 1) := by decide +kernel
theorem dX10_nearestWithSeat_59 : decode cX10_nearestWithSeat 59 = .ok (.goto 4, 3) := by decide +kernel
theorem dX10_nearestWithSeat_62 : decode cX10_nearestWithSeat 62 = .ok (.iconst 0, 1) := by decide +kernel
theorem dX10_nearestWithSeat_63 : decode cX10_nearestWithSeat 63 = .ok (.istore 5, 2) := by decide +kernel
theorem dX10_nearestWithSeat_65 : decode cX10_nearestWithSeat 65 = .ok (.iload 4, 2) := by decide +kernel
theorem dX10_nearestWithSeat_67 : decode cX10_nearestWithSeat 67 = .ok (.iconst (-1), 1) := by decide +kernel
theorem dX10_nearestWithSeat_68 : decode cX10_nearestWithSeat 68 = .ok (.if_icmp .eq 24, 3) := by decide +kernel
theorem dX10_nearestWithSeat_71 : decode cX10_nearestWithSeat 71 = .ok (.iload 5, 2) := by decide +kernel
theorem dX10_nearestWithSeat_73 : decode cX10_nearestWithSeat 73 = .ok (.ifCond .eq 19, 3) := by decide +kernel
theorem dX10_nearestWithSeat_76 : decode cX10_nearestWithSeat 76 = .ok (.iload_n 1, 1) := by decide +kernel
theorem dX10_nearestWithSeat_77 : decode cX10_nearestWithSeat 77 = .ok (.iconst (-1), 1) := by decide +kernel
theorem dX10_nearestWithSeat_78 : decode cX10_nearestWithSeat 78 = .ok (.if_icmp .eq 9, 3) := by decide +kernel
theorem dX10_nearestWithSeat_81 : decode cX10_nearestWithSeat 81 = .ok (.iload 4, 2) := by decide +kernel
theorem dX10_nearestWithSeat_83 : decode cX10_nearestWithSeat 83 = .ok (.iload_n 2, 1) := by decide +kernel
theorem dX10_nearestWithSeat_84 : decode cX10_nearestWithSeat 84 = .ok (.if_icmp .ge 8, 3) := by decide +kernel
theorem dX10_nearestWithSeat_87 : decode cX10_nearestWithSeat 87 = .ok (.iload_n 3, 1) := by decide +kernel
theorem dX10_nearestWithSeat_88 : decode cX10_nearestWithSeat 88 = .ok (.istore_n 1, 1) := by decide +kernel
theorem dX10_nearestWithSeat_89 : decode cX10_nearestWithSeat 89 = .ok (.iload 4, 2) := by decide +kernel
theorem dX10_nearestWithSeat_91 : decode cX10_nearestWithSeat 91 = .ok (.istore_n 2, 1) := by decide +kernel
theorem dX10_nearestWithSeat_92 : decode cX10_nearestWithSeat 92 = .ok (.iinc 3 1, 3) := by decide +kernel
theorem dX10_nearestWithSeat_95 : decode cX10_nearestWithSeat 95 = .ok (.goto (-89), 3) := by decide +kernel
theorem dX10_nearestWithSeat_98 : decode cX10_nearestWithSeat 98 = .ok (.iload_n 1, 1) := by decide +kernel
theorem dX10_nearestWithSeat_99 : decode cX10_nearestWithSeat 99 = .ok (.ireturn, 1) := by decide +kernel
set_option maxRecDepth 20000 in
theorem ggX10_emptiestWithWay_X9_measuredTo : GoodIn wsX10_emptiestWithWay wsX9_measuredTo := goodIn_ca (goodIn_r _ [8, 9, 37, 38, 39] (by decide +kernel) (by decide +kernel)) (goodIn_sub (fun _ h => List.mem_cons_of_mem _ (List.mem_append_right _ h)) (by decide +kernel))
set_option maxRecDepth 20000 in
theorem gX10_emptiestWithWay_X9_measuredTo : GoodIn wsX10_emptiestWithWay (wsV RX10 77 RX9 yX9_measuredTo wsX9_measuredTo) := goodIn_app (goodIn_of _ (by decide +kernel)) ggX10_emptiestWithWay_X9_measuredTo
set_option maxRecDepth 20000 in
theorem ggX10_emptiestWithWay_X5_peopleAt : GoodIn wsX10_emptiestWithWay wsX5_peopleAt := goodIn_ca (goodIn_r _ [14, 15, 40, 41, 42] (by decide +kernel) (by decide +kernel)) (goodIn_sub (fun _ h => List.mem_cons_of_mem _ (List.mem_append_right _ h)) (by decide +kernel))
set_option maxRecDepth 20000 in
theorem gX10_emptiestWithWay_X5_peopleAt : GoodIn wsX10_emptiestWithWay (wsV RX10 176 RX5 yX5_peopleAt wsX5_peopleAt) := goodIn_app (goodIn_of _ (by decide +kernel)) ggX10_emptiestWithWay_X5_peopleAt
theorem dX10_emptiestWithWay_0 : decode cX10_emptiestWithWay 0 = .ok (.iconst (-1), 1) := by decide +kernel
theorem dX10_emptiestWithWay_1 : decode cX10_emptiestWithWay 1 = .ok (.istore_n 1, 1) := by decide +kernel
theorem dX10_emptiestWithWay_2 : decode cX10_emptiestWithWay 2 = .ok (.iconst 0, 1) := by decide +kernel
theorem dX10_emptiestWithWay_3 : decode cX10_emptiestWithWay 3 = .ok (.istore_n 2, 1) := by decide +kernel
theorem dX10_emptiestWithWay_4 : decode cX10_emptiestWithWay 4 = .ok (.iconst 0, 1) := by decide +kernel
theorem dX10_emptiestWithWay_5 : decode cX10_emptiestWithWay 5 = .ok (.istore_n 3, 1) := by decide +kernel
theorem dX10_emptiestWithWay_6 : decode cX10_emptiestWithWay 6 = .ok (.iload_n 3, 1) := by decide +kernel
theorem dX10_emptiestWithWay_7 : decode cX10_emptiestWithWay 7 = .ok (.aload_n 0, 1) := by decide +kernel
theorem dX10_emptiestWithWay_8 : decode cX10_emptiestWithWay 8 = .ok (.getfield 29, 3) := by decide +kernel
theorem dX10_emptiestWithWay_11 : decode cX10_emptiestWithWay 11 = .ok (.getfield 85, 3) := by decide +kernel
theorem dX10_emptiestWithWay_14 : decode cX10_emptiestWithWay 14 = .ok (.if_icmp .ge 62, 3) := by decide +kernel
theorem dX10_emptiestWithWay_17 : decode cX10_emptiestWithWay 17 = .ok (.aload_n 0, 1) := by decide +kernel
theorem dX10_emptiestWithWay_18 : decode cX10_emptiestWithWay 18 = .ok (.getfield 12, 3) := by decide +kernel
theorem dX10_emptiestWithWay_21 : decode cX10_emptiestWithWay 21 = .ok (.aload_n 0, 1) := by decide +kernel
theorem dX10_emptiestWithWay_22 : decode cX10_emptiestWithWay 22 = .ok (.getfield 29, 3) := by decide +kernel
theorem dX10_emptiestWithWay_25 : decode cX10_emptiestWithWay 25 = .ok (.getfield 343, 3) := by decide +kernel
theorem dX10_emptiestWithWay_28 : decode cX10_emptiestWithWay 28 = .ok (.iload_n 3, 1) := by decide +kernel
theorem dX10_emptiestWithWay_29 : decode cX10_emptiestWithWay 29 = .ok (.iaload, 1) := by decide +kernel
theorem dX10_emptiestWithWay_30 : decode cX10_emptiestWithWay 30 = .ok (.invokevirtual 77, 3) := by decide +kernel
theorem dX10_emptiestWithWay_33 : decode cX10_emptiestWithWay 33 = .ok (.istore 4, 2) := by decide +kernel
theorem dX10_emptiestWithWay_35 : decode cX10_emptiestWithWay 35 = .ok (.aload_n 0, 1) := by decide +kernel
theorem dX10_emptiestWithWay_36 : decode cX10_emptiestWithWay 36 = .ok (.getfield 43, 3) := by decide +kernel
theorem dX10_emptiestWithWay_39 : decode cX10_emptiestWithWay 39 = .ok (.getfield 167, 3) := by decide +kernel
theorem dX10_emptiestWithWay_42 : decode cX10_emptiestWithWay 42 = .ok (.iload_n 3, 1) := by decide +kernel
theorem dX10_emptiestWithWay_43 : decode cX10_emptiestWithWay 43 = .ok (.invokevirtual 176, 3) := by decide +kernel
theorem dX10_emptiestWithWay_46 : decode cX10_emptiestWithWay 46 = .ok (.istore 5, 2) := by decide +kernel
theorem dX10_emptiestWithWay_48 : decode cX10_emptiestWithWay 48 = .ok (.iload 4, 2) := by decide +kernel
theorem dX10_emptiestWithWay_50 : decode cX10_emptiestWithWay 50 = .ok (.iconst (-1), 1) := by decide +kernel
theorem dX10_emptiestWithWay_51 : decode cX10_emptiestWithWay 51 = .ok (.if_icmp .eq 19, 3) := by decide +kernel
theorem dX10_emptiestWithWay_54 : decode cX10_emptiestWithWay 54 = .ok (.iload_n 1, 1) := by decide +kernel
theorem dX10_emptiestWithWay_55 : decode cX10_emptiestWithWay 55 = .ok (.iconst (-1), 1) := by decide +kernel
theorem dX10_emptiestWithWay_56 : decode cX10_emptiestWithWay 56 = .ok (.if_icmp .eq 9, 3) := by decide +kernel
theorem dX10_emptiestWithWay_59 : decode cX10_emptiestWithWay 59 = .ok (.iload 5, 2) := by decide +kernel
theorem dX10_emptiestWithWay_61 : decode cX10_emptiestWithWay 61 = .ok (.iload_n 2, 1) := by decide +kernel
theorem dX10_emptiestWithWay_62 : decode cX10_emptiestWithWay 62 = .ok (.if_icmp .ge 8, 3) := by decide +kernel
theorem dX10_emptiestWithWay_65 : decode cX10_emptiestWithWay 65 = .ok (.iload_n 3, 1) := by decide +kernel
theorem dX10_emptiestWithWay_66 : decode cX10_emptiestWithWay 66 = .ok (.istore_n 1, 1) := by decide +kernel
theorem dX10_emptiestWithWay_67 : decode cX10_emptiestWithWay 67 = .ok (.iload 5, 2) := by decide +kernel
theorem dX10_emptiestWithWay_69 : decode cX10_emptiestWithWay 69 = .ok (.istore_n 2, 1) := by decide +kernel
theorem dX10_emptiestWithWay_70 : decode cX10_emptiestWithWay 70 = .ok (.iinc 3 1, 3) := by decide +kernel
theorem dX10_emptiestWithWay_73 : decode cX10_emptiestWithWay 73 = .ok (.goto (-67), 3) := by decide +kernel
theorem dX10_emptiestWithWay_76 : decode cX10_emptiestWithWay 76 = .ok (.iload_n 1, 1) := by decide +kernel
theorem dX10_emptiestWithWay_77 : decode cX10_emptiestWithWay 77 = .ok (.ireturn, 1) := by decide +kernel
set_option maxRecDepth 20000 in
theorem ggX10_voidEnvelopeOf_X3_sealedOf : GoodIn wsX10_voidEnvelopeOf wsX3_sealedOf := goodIn_ca (goodIn_r _ [7, 8, 9, 10, 38, 39, 40, 41] (by decide +kernel) (by decide +kernel)) (goodIn_sub (fun _ h => List.mem_cons_of_mem _ (List.mem_append_right _ h)) (by decide +kernel))
set_option maxRecDepth 20000 in
theorem gX10_voidEnvelopeOf_X3_sealedOf : GoodIn wsX10_voidEnvelopeOf (wsV RX10 224 RX3 yX3_sealedOf wsX3_sealedOf) := goodIn_app (goodIn_of _ (by decide +kernel)) ggX10_voidEnvelopeOf_X3_sealedOf
set_option maxRecDepth 20000 in
theorem ggX10_voidEnvelopeOf_X0_write : GoodIn wsX10_voidEnvelopeOf wsX0_write := goodIn_ca (goodIn_r _ [15, 16, 17, 18, 19, 42, 43, 44, 45, 46] (by decide +kernel) (by decide +kernel)) (goodIn_sub (fun _ h => List.mem_cons_of_mem _ (List.mem_append_right _ h)) (by decide +kernel))
set_option maxRecDepth 20000 in
theorem gX10_voidEnvelopeOf_X0_write : GoodIn wsX10_voidEnvelopeOf (wsV RX10 198 RX0 yX0_write wsX0_write) := goodIn_app (goodIn_of _ (by decide +kernel)) ggX10_voidEnvelopeOf_X0_write
theorem dX10_voidEnvelopeOf_0 : decode cX10_voidEnvelopeOf 0 = .ok (.aload_n 0, 1) := by decide +kernel
theorem dX10_voidEnvelopeOf_1 : decode cX10_voidEnvelopeOf 1 = .ok (.getfield 43, 3) := by decide +kernel
theorem dX10_voidEnvelopeOf_4 : decode cX10_voidEnvelopeOf 4 = .ok (.getfield 185, 3) := by decide +kernel
theorem dX10_voidEnvelopeOf_7 : decode cX10_voidEnvelopeOf 7 = .ok (.iload_n 1, 1) := by decide +kernel
theorem dX10_voidEnvelopeOf_8 : decode cX10_voidEnvelopeOf 8 = .ok (.invokevirtual 224, 3) := by decide +kernel
theorem dX10_voidEnvelopeOf_11 : decode cX10_voidEnvelopeOf 11 = .ok (.istore_n 2, 1) := by decide +kernel
theorem dX10_voidEnvelopeOf_12 : decode cX10_voidEnvelopeOf 12 = .ok (.iload_n 2, 1) := by decide +kernel
theorem dX10_voidEnvelopeOf_13 : decode cX10_voidEnvelopeOf 13 = .ok (.iconst (-1), 1) := by decide +kernel
theorem dX10_voidEnvelopeOf_14 : decode cX10_voidEnvelopeOf 14 = .ok (.if_icmp .ne 5, 3) := by decide +kernel
theorem dX10_voidEnvelopeOf_17 : decode cX10_voidEnvelopeOf 17 = .ok (.iconst 0, 1) := by decide +kernel
theorem dX10_voidEnvelopeOf_18 : decode cX10_voidEnvelopeOf 18 = .ok (.ireturn, 1) := by decide +kernel
theorem dX10_voidEnvelopeOf_19 : decode cX10_voidEnvelopeOf 19 = .ok (.aload_n 0, 1) := by decide +kernel
theorem dX10_voidEnvelopeOf_20 : decode cX10_voidEnvelopeOf 20 = .ok (.getfield 43, 3) := by decide +kernel
theorem dX10_voidEnvelopeOf_23 : decode cX10_voidEnvelopeOf 23 = .ok (.getfield 185, 3) := by decide +kernel
theorem dX10_voidEnvelopeOf_26 : decode cX10_voidEnvelopeOf 26 = .ok (.getfield 236, 3) := by decide +kernel
theorem dX10_voidEnvelopeOf_29 : decode cX10_voidEnvelopeOf 29 = .ok (.iload_n 2, 1) := by decide +kernel
theorem dX10_voidEnvelopeOf_30 : decode cX10_voidEnvelopeOf 30 = .ok (.iconst 1, 1) := by decide +kernel
theorem dX10_voidEnvelopeOf_31 : decode cX10_voidEnvelopeOf 31 = .ok (.iastore, 1) := by decide +kernel
theorem dX10_voidEnvelopeOf_32 : decode cX10_voidEnvelopeOf 32 = .ok (.aload_n 0, 1) := by decide +kernel
theorem dX10_voidEnvelopeOf_33 : decode cX10_voidEnvelopeOf 33 = .ok (.getfield 43, 3) := by decide +kernel
theorem dX10_voidEnvelopeOf_36 : decode cX10_voidEnvelopeOf 36 = .ok (.getfield 194, 3) := by decide +kernel
theorem dX10_voidEnvelopeOf_39 : decode cX10_voidEnvelopeOf 39 = .ok (.aload_n 0, 1) := by decide +kernel
theorem dX10_voidEnvelopeOf_40 : decode cX10_voidEnvelopeOf 40 = .ok (.getfield 37, 3) := by decide +kernel
theorem dX10_voidEnvelopeOf_43 : decode cX10_voidEnvelopeOf 43 = .ok (.bipush 120, 2) := by decide +kernel
theorem dX10_voidEnvelopeOf_45 : decode cX10_voidEnvelopeOf 45 = .ok (.iload_n 1, 1) := by decide +kernel
theorem dX10_voidEnvelopeOf_46 : decode cX10_voidEnvelopeOf 46 = .ok (.invokevirtual 198, 3) := by decide +kernel
theorem dX10_voidEnvelopeOf_49 : decode cX10_voidEnvelopeOf 49 = .ok (.iconst 1, 1) := by decide +kernel
theorem dX10_voidEnvelopeOf_50 : decode cX10_voidEnvelopeOf 50 = .ok (.ireturn, 1) := by decide +kernel
set_option maxRecDepth 20000 in
theorem ggX10_giveByNumbers_X2_numbersFor : GoodIn wsX10_giveByNumbers wsX2_numbersFor := goodIn_ca (goodIn_r _ [7, 8, 9, 10, 11, 12, 13, 14, 15, 16, 78, 79, 80, 81, 82, 83, 84, 85, 86, 87, 88, 89, 90, 91, 92, 93] (by decide +kernel) (by decide +kernel)) (goodIn_sub (fun _ h => List.mem_cons_of_mem _ (List.mem_append_right _ h)) (by decide +kernel))
set_option maxRecDepth 20000 in
theorem gX10_giveByNumbers_X2_numbersFor : GoodIn wsX10_giveByNumbers (wsV RX10 278 RX2 yX2_numbersFor wsX2_numbersFor) := goodIn_app (goodIn_of _ (by decide +kernel)) ggX10_giveByNumbers_X2_numbersFor
set_option maxRecDepth 20000 in
theorem ggX10_giveByNumbers_X2_sumOfSeeds : GoodIn wsX10_giveByNumbers wsX2_sumOfSeeds := goodIn_ca (goodIn_r _ [20, 21, 78, 79, 80, 81, 82, 83, 84, 85, 86, 87] (by decide +kernel) (by decide +kernel)) (goodIn_sub (fun _ h => List.mem_cons_of_mem _ (List.mem_append_right _ h)) (by decide +kernel))
set_option maxRecDepth 20000 in
theorem gX10_giveByNumbers_X2_sumOfSeeds : GoodIn wsX10_giveByNumbers (wsV RX10 355 RX2 yX2_sumOfSeeds wsX2_sumOfSeeds) := goodIn_app (goodIn_of _ (by decide +kernel)) ggX10_giveByNumbers_X2_sumOfSeeds
set_option maxRecDepth 20000 in
theorem ggX10_giveByNumbers_X6_give : GoodIn wsX10_giveByNumbers wsX6_give := goodIn_ca (goodIn_r _ [26, 27, 28, 29, 30, 31, 32, 33, 34, 35, 36, 37, 38, 25, 39, 40, 41, 42, 43, 44, 45, 46, 47, 48, 49, 50, 51, 52, 53, 54, 55, 56, 57, 58, 59, 60, 61, 62, 71, 72, 73, 74, 75, 76, 77] (by decide +kernel) (by decide +kernel)) (goodIn_sub (fun _ h => List.mem_cons_of_mem _ (List.mem_append_right _ h)) (by decide +kernel))
set_option maxRecDepth 20000 in
theorem gX10_giveByNumbers_X6_give : GoodIn wsX10_giveByNumbers (wsV RX10 358 RX6 yX6_give wsX6_give) := goodIn_app (goodIn_of _ (by decide +kernel)) ggX10_giveByNumbers_X6_give
theorem dX10_giveByNumbers_0 : decode cX10_giveByNumbers 0 = .ok (.iconst 0, 1) := by decide +kernel
theorem dX10_giveByNumbers_1 : decode cX10_giveByNumbers 1 = .ok (.istore_n 1, 1) := by decide +kernel
theorem dX10_giveByNumbers_2 : decode cX10_giveByNumbers 2 = .ok (.iload_n 1, 1) := by decide +kernel
theorem dX10_giveByNumbers_3 : decode cX10_giveByNumbers 3 = .ok (.iconst 5, 1) := by decide +kernel
theorem dX10_giveByNumbers_4 : decode cX10_giveByNumbers 4 = .ok (.if_icmp .ge 26, 3) := by decide +kernel
theorem dX10_giveByNumbers_7 : decode cX10_giveByNumbers 7 = .ok (.aload_n 0, 1) := by decide +kernel
theorem dX10_giveByNumbers_8 : decode cX10_giveByNumbers 8 = .ok (.getfield 50, 3) := by decide +kernel
theorem dX10_giveByNumbers_11 : decode cX10_giveByNumbers 11 = .ok (.getfield 346, 3) := by decide +kernel
theorem dX10_giveByNumbers_14 : decode cX10_giveByNumbers 14 = .ok (.iload_n 1, 1) := by decide +kernel
theorem dX10_giveByNumbers_15 : decode cX10_giveByNumbers 15 = .ok (.aload_n 0, 1) := by decide +kernel
theorem dX10_giveByNumbers_16 : decode cX10_giveByNumbers 16 = .ok (.getfield 43, 3) := by decide +kernel
theorem dX10_giveByNumbers_19 : decode cX10_giveByNumbers 19 = .ok (.iload_n 1, 1) := by decide +kernel
theorem dX10_giveByNumbers_20 : decode cX10_giveByNumbers 20 = .ok (.invokevirtual 278, 3) := by decide +kernel
theorem dX10_giveByNumbers_23 : decode cX10_giveByNumbers 23 = .ok (.iastore, 1) := by decide +kernel
theorem dX10_giveByNumbers_24 : decode cX10_giveByNumbers 24 = .ok (.iinc 1 1, 3) := by decide +kernel
theorem dX10_giveByNumbers_27 : decode cX10_giveByNumbers 27 = .ok (.goto (-25), 3) := by decide +kernel
theorem dX10_giveByNumbers_30 : decode cX10_giveByNumbers 30 = .ok (.aload_n 0, 1) := by decide +kernel
theorem dX10_giveByNumbers_31 : decode cX10_giveByNumbers 31 = .ok (.getfield 50, 3) := by decide +kernel
theorem dX10_giveByNumbers_34 : decode cX10_giveByNumbers 34 = .ok (.aload_n 0, 1) := by decide +kernel
theorem dX10_giveByNumbers_35 : decode cX10_giveByNumbers 35 = .ok (.getfield 43, 3) := by decide +kernel
theorem dX10_giveByNumbers_38 : decode cX10_giveByNumbers 38 = .ok (.getfield 349, 3) := by decide +kernel
theorem dX10_giveByNumbers_41 : decode cX10_giveByNumbers 41 = .ok (.aload_n 0, 1) := by decide +kernel
theorem dX10_giveByNumbers_42 : decode cX10_giveByNumbers 42 = .ok (.getfield 43, 3) := by decide +kernel
theorem dX10_giveByNumbers_45 : decode cX10_giveByNumbers 45 = .ok (.getfield 352, 3) := by decide +kernel
theorem dX10_giveByNumbers_48 : decode cX10_giveByNumbers 48 = .ok (.aload_n 0, 1) := by decide +kernel
theorem dX10_giveByNumbers_49 : decode cX10_giveByNumbers 49 = .ok (.getfield 43, 3) := by decide +kernel
theorem dX10_giveByNumbers_52 : decode cX10_giveByNumbers 52 = .ok (.invokevirtual 355, 3) := by decide +kernel
theorem dX10_giveByNumbers_55 : decode cX10_giveByNumbers 55 = .ok (.invokevirtual 358, 3) := by decide +kernel
theorem dX10_giveByNumbers_58 : decode cX10_giveByNumbers 58 = .ok (.return_, 1) := by decide +kernel
set_option maxRecDepth 20000 in
theorem ggX10_giveByBallots_X2_ballotsFor : GoodIn wsX10_giveByBallots wsX2_ballotsFor := goodIn_ca (goodIn_r _ [7, 8, 9, 10, 11, 12, 13, 14, 15, 16, 78, 79, 80, 81, 82, 83, 84, 85, 86, 87, 88, 89, 90, 91, 92, 93] (by decide +kernel) (by decide +kernel)) (goodIn_sub (fun _ h => List.mem_cons_of_mem _ (List.mem_append_right _ h)) (by decide +kernel))
set_option maxRecDepth 20000 in
theorem gX10_giveByBallots_X2_ballotsFor : GoodIn wsX10_giveByBallots (wsV RX10 362 RX2 yX2_ballotsFor wsX2_ballotsFor) := goodIn_app (goodIn_of _ (by decide +kernel)) ggX10_giveByBallots_X2_ballotsFor
set_option maxRecDepth 20000 in
theorem ggX10_giveByBallots_X2_sumOfSeeds : GoodIn wsX10_giveByBallots wsX2_sumOfSeeds := goodIn_ca (goodIn_r _ [20, 21, 78, 79, 80, 81, 82, 83, 84, 85, 86, 87] (by decide +kernel) (by decide +kernel)) (goodIn_sub (fun _ h => List.mem_cons_of_mem _ (List.mem_append_right _ h)) (by decide +kernel))
set_option maxRecDepth 20000 in
theorem gX10_giveByBallots_X2_sumOfSeeds : GoodIn wsX10_giveByBallots (wsV RX10 355 RX2 yX2_sumOfSeeds wsX2_sumOfSeeds) := goodIn_app (goodIn_of _ (by decide +kernel)) ggX10_giveByBallots_X2_sumOfSeeds
set_option maxRecDepth 20000 in
theorem ggX10_giveByBallots_X6_give : GoodIn wsX10_giveByBallots wsX6_give := goodIn_ca (goodIn_r _ [26, 27, 28, 29, 30, 31, 32, 33, 34, 35, 36, 37, 38, 25, 39, 40, 41, 42, 43, 44, 45, 46, 47, 48, 49, 50, 51, 52, 53, 54, 55, 56, 57, 58, 59, 60, 61, 62, 71, 72, 73, 74, 75, 76, 77] (by decide +kernel) (by decide +kernel)) (goodIn_sub (fun _ h => List.mem_cons_of_mem _ (List.mem_append_right _ h)) (by decide +kernel))
set_option maxRecDepth 20000 in
theorem gX10_giveByBallots_X6_give : GoodIn wsX10_giveByBallots (wsV RX10 358 RX6 yX6_give wsX6_give) := goodIn_app (goodIn_of _ (by decide +kernel)) ggX10_giveByBallots_X6_give
theorem dX10_giveByBallots_0 : decode cX10_giveByBallots 0 = .ok (.iconst 0, 1) := by decide +kernel
theorem dX10_giveByBallots_1 : decode cX10_giveByBallots 1 = .ok (.istore_n 1, 1) := by decide +kernel
theorem dX10_giveByBallots_2 : decode cX10_giveByBallots 2 = .ok (.iload_n 1, 1) := by decide +kernel
theorem dX10_giveByBallots_3 : decode cX10_giveByBallots 3 = .ok (.iconst 5, 1) := by decide +kernel
theorem dX10_giveByBallots_4 : decode cX10_giveByBallots 4 = .ok (.if_icmp .ge 26, 3) := by decide +kernel
theorem dX10_giveByBallots_7 : decode cX10_giveByBallots 7 = .ok (.aload_n 0, 1) := by decide +kernel
theorem dX10_giveByBallots_8 : decode cX10_giveByBallots 8 = .ok (.getfield 50, 3) := by decide +kernel
theorem dX10_giveByBallots_11 : decode cX10_giveByBallots 11 = .ok (.getfield 346, 3) := by decide +kernel
theorem dX10_giveByBallots_14 : decode cX10_giveByBallots 14 = .ok (.iload_n 1, 1) := by decide +kernel
theorem dX10_giveByBallots_15 : decode cX10_giveByBallots 15 = .ok (.aload_n 0, 1) := by decide +kernel
theorem dX10_giveByBallots_16 : decode cX10_giveByBallots 16 = .ok (.getfield 43, 3) := by decide +kernel
theorem dX10_giveByBallots_19 : decode cX10_giveByBallots 19 = .ok (.iload_n 1, 1) := by decide +kernel
theorem dX10_giveByBallots_20 : decode cX10_giveByBallots 20 = .ok (.invokevirtual 362, 3) := by decide +kernel
theorem dX10_giveByBallots_23 : decode cX10_giveByBallots 23 = .ok (.iastore, 1) := by decide +kernel
theorem dX10_giveByBallots_24 : decode cX10_giveByBallots 24 = .ok (.iinc 1 1, 3) := by decide +kernel
theorem dX10_giveByBallots_27 : decode cX10_giveByBallots 27 = .ok (.goto (-25), 3) := by decide +kernel
theorem dX10_giveByBallots_30 : decode cX10_giveByBallots 30 = .ok (.aload_n 0, 1) := by decide +kernel
theorem dX10_giveByBallots_31 : decode cX10_giveByBallots 31 = .ok (.getfield 50, 3) := by decide +kernel
theorem dX10_giveByBallots_34 : decode cX10_giveByBallots 34 = .ok (.aload_n 0, 1) := by decide +kernel
theorem dX10_giveByBallots_35 : decode cX10_giveByBallots 35 = .ok (.getfield 43, 3) := by decide +kernel
theorem dX10_giveByBallots_38 : decode cX10_giveByBallots 38 = .ok (.getfield 349, 3) := by decide +kernel
theorem dX10_giveByBallots_41 : decode cX10_giveByBallots 41 = .ok (.aload_n 0, 1) := by decide +kernel
theorem dX10_giveByBallots_42 : decode cX10_giveByBallots 42 = .ok (.getfield 43, 3) := by decide +kernel
theorem dX10_giveByBallots_45 : decode cX10_giveByBallots 45 = .ok (.getfield 352, 3) := by decide +kernel
theorem dX10_giveByBallots_48 : decode cX10_giveByBallots 48 = .ok (.aload_n 0, 1) := by decide +kernel
theorem dX10_giveByBallots_49 : decode cX10_giveByBallots 49 = .ok (.getfield 43, 3) := by decide +kernel
theorem dX10_giveByBallots_52 : decode cX10_giveByBallots 52 = .ok (.invokevirtual 355, 3) := by decide +kernel
theorem dX10_giveByBallots_55 : decode cX10_giveByBallots 55 = .ok (.invokevirtual 358, 3) := by decide +kernel
theorem dX10_giveByBallots_58 : decode cX10_giveByBallots 58 = .ok (.return_, 1) := by decide +kernel
