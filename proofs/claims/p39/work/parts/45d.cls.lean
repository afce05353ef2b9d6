theorem dX6_nextParty_12 : decode cX6_nextParty 12 = .ok (.iload_n 2, 1) := by decide +kernel
theorem dX6_nextParty_13 : decode cX6_nextParty 13 = .ok (.iconst 1, 1) := by decide +kernel
theorem dX6_nextParty_14 : decode cX6_nextParty 14 = .ok (.if_icmp .ne 10, 3) := by decide +kernel
theorem dX6_nextParty_17 : decode cX6_nextParty 17 = .ok (.aload_n 0, 1) := by decide +kernel
theorem dX6_nextParty_18 : decode cX6_nextParty 18 = .ok (.getfield 21, 3) := by decide +kernel
theorem dX6_nextParty_21 : decode cX6_nextParty 21 = .ok (.iconst 0, 1) := by decide +kernel
theorem dX6_nextParty_22 : decode cX6_nextParty 22 = .ok (.iaload, 1) := by decide +kernel
theorem dX6_nextParty_23 : decode cX6_nextParty 23 = .ok (.ireturn, 1) := by decide +kernel
theorem dX6_nextParty_24 : decode cX6_nextParty 24 = .ok (.aload_n 0, 1) := by decide +kernel
theorem dX6_nextParty_25 : decode cX6_nextParty 25 = .ok (.iload_n 2, 1) := by decide +kernel
theorem dX6_nextParty_26 : decode cX6_nextParty 26 = .ok (.invokevirtual 47, 3) := by decide +kernel
theorem dX6_nextParty_29 : decode cX6_nextParty 29 = .ok (.istore_n 3, 1) := by decide +kernel
theorem dX6_nextParty_30 : decode cX6_nextParty 30 = .ok (.iload_n 3, 1) := by decide +kernel
theorem dX6_nextParty_31 : decode cX6_nextParty 31 = .ok (.ifCond .lt 8, 3) := by decide +kernel
theorem dX6_nextParty_34 : decode cX6_nextParty 34 = .ok (.iload_n 3, 1) := by decide +kernel
theorem dX6_nextParty_35 : decode cX6_nextParty 35 = .ok (.iconst 5, 1) := by decide +kernel
theorem dX6_nextParty_36 : decode cX6_nextParty 36 = .ok (.if_icmp .lt 7, 3) := by decide +kernel
theorem dX6_nextParty_39 : decode cX6_nextParty 39 = .ok (.iconst (-1), 1) := by decide +kernel
theorem dX6_nextParty_40 : decode cX6_nextParty 40 = .ok (.goto 9, 3) := by decide +kernel
theorem dX6_nextParty_43 : decode cX6_nextParty 43 = .ok (.aload_n 0, 1) := by decide +kernel
theorem dX6_nextParty_44 : decode cX6_nextParty 44 = .ok (.getfield 21, 3) := by decide +kernel
theorem dX6_nextParty_47 : decode cX6_nextParty 47 = .ok (.iload_n 3, 1) := by decide +kernel
theorem dX6_nextParty_48 : decode cX6_nextParty 48 = .ok (.iaload, 1) := by decide +kernel
theorem dX6_nextParty_49 : decode cX6_nextParty 49 = .ok (.ireturn, 1) := by decide +kernel
set_option maxRecDepth 20000 in
theorem ggX6_findGreatest_X6_compareQuotients : GoodIn wsX6_findGreatest wsX6_compareQuotients := goodIn_ca (goodIn_r _ [7, 1, 8, 9, 10, 6, 11, 12, 13, 14, 15, 16, 17, 18, 19, 20, 21, 22, 23] (by decide +kernel) (by decide +kernel)) (goodIn_sub (fun _ h => List.mem_cons_of_mem _ (List.mem_append_right _ h)) (by decide +kernel))
set_option maxRecDepth 20000 in
theorem gX6_findGreatest_X6_compareQuotients : GoodIn wsX6_findGreatest (wsV RX6 51 RX6 yX6_compareQuotients wsX6_compareQuotients) := goodIn_app (goodIn_of _ (by decide +kernel)) ggX6_findGreatest_X6_compareQuotients
theorem dX6_findGreatest_0 : decode cX6_findGreatest 0 = .ok (.iconst 0, 1) := by decide +kernel
theorem dX6_findGreatest_1 : decode cX6_findGreatest 1 = .ok (.istore_n 2, 1) := by decide +kernel
theorem dX6_findGreatest_2 : decode cX6_findGreatest 2 = .ok (.iconst 0, 1) := by decide +kernel
theorem dX6_findGreatest_3 : decode cX6_findGreatest 3 = .ok (.istore_n 3, 1) := by decide +kernel
theorem dX6_findGreatest_4 : decode cX6_findGreatest 4 = .ok (.iload_n 3, 1) := by decide +kernel
theorem dX6_findGreatest_5 : decode cX6_findGreatest 5 = .ok (.iconst 5, 1) := by decide +kernel
theorem dX6_findGreatest_6 : decode cX6_findGreatest 6 = .ok (.if_icmp .ge 70, 3) := by decide +kernel
theorem dX6_findGreatest_9 : decode cX6_findGreatest 9 = .ok (.aload_n 0, 1) := by decide +kernel
theorem dX6_findGreatest_10 : decode cX6_findGreatest 10 = .ok (.getfield 9, 3) := by decide +kernel
theorem dX6_findGreatest_13 : decode cX6_findGreatest 13 = .ok (.iload_n 3, 1) := by decide +kernel
theorem dX6_findGreatest_14 : decode cX6_findGreatest 14 = .ok (.iaload, 1) := by decide +kernel
theorem dX6_findGreatest_15 : decode cX6_findGreatest 15 = .ok (.ifCond .gt 6, 3) := by decide +kernel
theorem dX6_findGreatest_18 : decode cX6_findGreatest 18 = .ok (.goto 52, 3) := by decide +kernel
theorem dX6_findGreatest_21 : decode cX6_findGreatest 21 = .ok (.iload_n 2, 1) := by decide +kernel
theorem dX6_findGreatest_22 : decode cX6_findGreatest 22 = .ok (.ifCond .ne 7, 3) := by decide +kernel
theorem dX6_findGreatest_25 : decode cX6_findGreatest 25 = .ok (.iconst 0, 1) := by decide +kernel
theorem dX6_findGreatest_26 : decode cX6_findGreatest 26 = .ok (.goto 15, 3) := by decide +kernel
theorem dX6_findGreatest_29 : decode cX6_findGreatest 29 = .ok (.aload_n 0, 1) := by decide +kernel
theorem dX6_findGreatest_30 : decode cX6_findGreatest 30 = .ok (.iload_n 3, 1) := by decide +kernel
theorem dX6_findGreatest_31 : decode cX6_findGreatest 31 = .ok (.aload_n 0, 1) := by decide +kernel
theorem dX6_findGreatest_32 : decode cX6_findGreatest 32 = .ok (.getfield 21, 3) := by decide +kernel
theorem dX6_findGreatest_35 : decode cX6_findGreatest 35 = .ok (.iconst 0, 1) := by decide +kernel
theorem dX6_findGreatest_36 : decode cX6_findGreatest 36 = .ok (.iaload, 1) := by decide +kernel
theorem dX6_findGreatest_37 : decode cX6_findGreatest 37 = .ok (.iload_n 1, 1) := by decide +kernel
theorem dX6_findGreatest_38 : decode cX6_findGreatest 38 = .ok (.invokevirtual 51, 3) := by decide +kernel
theorem dX6_findGreatest_41 : decode cX6_findGreatest 41 = .ok (.istore 4, 2) := by decide +kernel
theorem dX6_findGreatest_43 : decode cX6_findGreatest 43 = .ok (.iload 4, 2) := by decide +kernel
theorem dX6_findGreatest_45 : decode cX6_findGreatest 45 = .ok (.ifCond .le 5, 3) := by decide +kernel
theorem dX6_findGreatest_48 : decode cX6_findGreatest 48 = .ok (.iconst 0, 1) := by decide +kernel
theorem dX6_findGreatest_49 : decode cX6_findGreatest 49 = .ok (.istore_n 2, 1) := by decide +kernel
theorem dX6_findGreatest_50 : decode cX6_findGreatest 50 = .ok (.iload 4, 2) := by decide +kernel
theorem dX6_findGreatest_52 : decode cX6_findGreatest 52 = .ok (.ifCond .lt 18, 3) := by decide +kernel
theorem dX6_findGreatest_55 : decode cX6_findGreatest 55 = .ok (.iload_n 2, 1) := by decide +kernel
theorem dX6_findGreatest_56 : decode cX6_findGreatest 56 = .ok (.iconst 5, 1) := by decide +kernel
theorem dX6_findGreatest_57 : decode cX6_findGreatest 57 = .ok (.if_icmp .ge 13, 3) := by decide +kernel
theorem dX6_findGreatest_60 : decode cX6_findGreatest 60 = .ok (.aload_n 0, 1) := by decide +kernel
theorem dX6_findGreatest_61 : decode cX6_findGreatest 61 = .ok (.getfield 21, 3) := by decide +kernel
theorem dX6_findGreatest_64 : decode cX6_findGreatest 64 = .ok (.iload_n 2, 1) := by decide +kernel
theorem dX6_findGreatest_65 : decode cX6_findGreatest 65 = .ok (.iload_n 3, 1) := by decide +kernel
theorem dX6_findGreatest_66 : decode cX6_findGreatest 66 = .ok (.iastore, 1) := by decide +kernel
theorem dX6_findGreatest_67 : decode cX6_findGreatest 67 = .ok (.iinc 2 1, 3) := by decide +kernel
theorem dX6_findGreatest_70 : decode cX6_findGreatest 70 = .ok (.iinc 3 1, 3) := by decide +kernel
theorem dX6_findGreatest_73 : decode cX6_findGreatest 73 = .ok (.goto (-69), 3) := by decide +kernel
theorem dX6_findGreatest_76 : decode cX6_findGreatest 76 = .ok (.iload_n 2, 1) := by decide +kernel
theorem dX6_findGreatest_77 : decode cX6_findGreatest 77 = .ok (.ireturn, 1) := by decide +kernel
set_option maxRecDepth 20000 in
theorem ggX6_compareQuotients_X6_divisor : GoodIn wsX6_compareQuotients wsX6_divisor := goodIn_ca (goodIn_r _ [6, 7, 12, 13, 14, 15, 16, 17, 18] (by decide +kernel) (by decide +kernel)) (goodIn_sub (fun _ h => List.mem_cons_of_mem _ (List.mem_append_right _ h)) (by decide +kernel))
set_option maxRecDepth 20000 in
theorem gX6_compareQuotients_X6_divisor : GoodIn wsX6_compareQuotients (wsV RX6 55 RX6 yX6_divisor wsX6_divisor) := goodIn_app (goodIn_of _ (by decide +kernel)) ggX6_compareQuotients_X6_divisor
set_option maxRecDepth 20000 in
theorem ggX6_compareQuotients_J6_compare_7cf53 : GoodIn wsX6_compareQuotients wsJ6_compare_7cf53 := goodIn_r _ [11] (by decide +kernel) (by decide +kernel)
set_option maxRecDepth 20000 in
theorem gX6_compareQuotients_J6_compare_7cf53 : GoodIn wsX6_compareQuotients (va_wsS RX6 59 yJ6_compare_7cf53 wsJ6_compare_7cf53) := goodIn_app (goodIn_of _ (by decide +kernel)) ggX6_compareQuotients_J6_compare_7cf53
theorem dX6_compareQuotients_0 : decode cX6_compareQuotients 0 = .ok (.aload_n 0, 1) := by decide +kernel
theorem dX6_compareQuotients_1 : decode cX6_compareQuotients 1 = .ok (.getfield 9, 3) := by decide +kernel
theorem dX6_compareQuotients_4 : decode cX6_compareQuotients 4 = .ok (.iload_n 1, 1) := by decide +kernel
theorem dX6_compareQuotients_5 : decode cX6_compareQuotients 5 = .ok (.iaload, 1) := by decide +kernel
theorem dX6_compareQuotients_6 : decode cX6_compareQuotients 6 = .ok (.aload_n 0, 1) := by decide +kernel
theorem dX6_compareQuotients_7 : decode cX6_compareQuotients 7 = .ok (.iload_n 2, 1) := by decide +kernel
theorem dX6_compareQuotients_8 : decode cX6_compareQuotients 8 = .ok (.iload_n 3, 1) := by decide +kernel
theorem dX6_compareQuotients_9 : decode cX6_compareQuotients 9 = .ok (.invokevirtual 55, 3) := by decide +kernel
theorem dX6_compareQuotients_12 : decode cX6_compareQuotients 12 = .ok (.imul, 1) := by decide +kernel
theorem dX6_compareQuotients_13 : decode cX6_compareQuotients 13 = .ok (.aload_n 0, 1) := by decide +kernel
theorem dX6_compareQuotients_14 : decode cX6_compareQuotients 14 = .ok (.getfield 9, 3) := by decide +kernel
theorem dX6_compareQuotients_17 : decode cX6_compareQuotients 17 = .ok (.iload_n 2, 1) := by decide +kernel
theorem dX6_compareQuotients_18 : decode cX6_compareQuotients 18 = .ok (.iaload, 1) := by decide +kernel
theorem dX6_compareQuotients_19 : decode cX6_compareQuotients 19 = .ok (.aload_n 0, 1) := by decide +kernel
theorem dX6_compareQuotients_20 : decode cX6_compareQuotients 20 = .ok (.iload_n 1, 1) := by decide +kernel
theorem dX6_compareQuotients_21 : decode cX6_compareQuotients 21 = .ok (.iload_n 3, 1) := by decide +kernel
theorem dX6_compareQuotients_22 : decode cX6_compareQuotients 22 = .ok (.invokevirtual 55, 3) := by decide +kernel
theorem dX6_compareQuotients_25 : decode cX6_compareQuotients 25 = .ok (.imul, 1) := by decide +kernel
theorem dX6_compareQuotients_26 : decode cX6_compareQuotients 26 = .ok (.invokestatic 59, 3) := by decide +kernel
theorem dX6_compareQuotients_29 : decode cX6_compareQuotients 29 = .ok (.ireturn, 1) := by decide +kernel
theorem dX6_divisor_0 : decode cX6_divisor 0 = .ok (.iload_n 2, 1) := by decide +kernel
theorem dX6_divisor_1 : decode cX6_divisor 1 = .ok (.ifCond .eq 16, 3) := by decide +kernel
theorem dX6_divisor_4 : decode cX6_divisor 4 = .ok (.iconst 2, 1) := by decide +kernel
theorem dX6_divisor_5 : decode cX6_divisor 5 = .ok (.aload_n 0, 1) := by decide +kernel
theorem dX6_divisor_6 : decode cX6_divisor 6 = .ok (.getfield 15, 3) := by decide +kernel
theorem dX6_divisor_9 : decode cX6_divisor 9 = .ok (.iload_n 1, 1) := by decide +kernel
theorem dX6_divisor_10 : decode cX6_divisor 10 = .ok (.iaload, 1) := by decide +kernel
theorem dX6_divisor_11 : decode cX6_divisor 11 = .ok (.imul, 1) := by decide +kernel
theorem dX6_divisor_12 : decode cX6_divisor 12 = .ok (.iconst 1, 1) := by decide +kernel
theorem dX6_divisor_13 : decode cX6_divisor 13 = .ok (.iadd, 1) := by decide +kernel
theorem dX6_divisor_14 : decode cX6_divisor 14 = .ok (.goto 11, 3) := by decide +kernel
theorem dX6_divisor_17 : decode cX6_divisor 17 = .ok (.aload_n 0, 1) := by decide +kernel
theorem dX6_divisor_18 : decode cX6_divisor 18 = .ok (.getfield 15, 3) := by decide +kernel
theorem dX6_divisor_21 : decode cX6_divisor 21 = .ok (.iload_n 1, 1) := by decide +kernel
theorem dX6_divisor_22 : decode cX6_divisor 22 = .ok (.iaload, 1) := by decide +kernel
theorem dX6_divisor_23 : decode cX6_divisor 23 = .ok (.iconst 1, 1) := by decide +kernel
theorem dX6_divisor_24 : decode cX6_divisor 24 = .ok (.iadd, 1) := by decide +kernel
theorem dX6_divisor_25 : decode cX6_divisor 25 = .ok (.ireturn, 1) := by decide +kernel
theorem dX6_drawLot_0 : decode cX6_drawLot 0 = .ok (.aload_n 0, 1) := by decide +kernel
theorem dX6_drawLot_1 : decode cX6_drawLot 1 = .ok (.aload_n 0, 1) := by decide +kernel
theorem dX6_drawLot_2 : decode cX6_drawLot 2 = .ok (.getfield 31, 3) := by decide +kernel
theorem dX6_drawLot_5 : decode cX6_drawLot 5 = .ok (.sipush 1103, 3) := by decide +kernel
theorem dX6_drawLot_8 : decode cX6_drawLot 8 = .ok (.imul, 1) := by decide +kernel
theorem dX6_drawLot_9 : decode cX6_drawLot 9 = .ok (.sipush 12345, 3) := by decide +kernel
theorem dX6_drawLot_12 : decode cX6_drawLot 12 = .ok (.iadd, 1) := by decide +kernel
theorem dX6_drawLot_13 : decode cX6_drawLot 13 = .ok (.ldc 65, 2) := by decide +kernel
theorem dX6_drawLot_15 : decode cX6_drawLot 15 = .ok (.irem, 1) := by decide +kernel
theorem dX6_drawLot_16 : decode cX6_drawLot 16 = .ok (.putfield 31, 3) := by decide +kernel
theorem dX6_drawLot_19 : decode cX6_drawLot 19 = .ok (.aload_n 0, 1) := by decide +kernel
theorem dX6_drawLot_20 : decode cX6_drawLot 20 = .ok (.dup, 1) := by decide +kernel
theorem dX6_drawLot_21 : decode cX6_drawLot 21 = .ok (.getfield 28, 3) := by decide +kernel
theorem dX6_drawLot_24 : decode cX6_drawLot 24 = .ok (.iconst 1, 1) := by decide +kernel
theorem dX6_drawLot_25 : decode cX6_drawLot 25 = .ok (.iadd, 1) := by decide +kernel
theorem dX6_drawLot_26 : decode cX6_drawLot 26 = .ok (.putfield 28, 3) := by decide +kernel
theorem dX6_drawLot_29 : decode cX6_drawLot 29 = .ok (.iload_n 1, 1) := by decide +kernel
theorem dX6_drawLot_30 : decode cX6_drawLot 30 = .ok (.ifCond .le 12, 3) := by decide +kernel
theorem dX6_drawLot_33 : decode cX6_drawLot 33 = .ok (.aload_n 0, 1) := by decide +kernel
theorem dX6_drawLot_34 : decode cX6_drawLot 34 = .ok (.getfield 31, 3) := by decide +kernel
theorem dX6_drawLot_37 : decode cX6_drawLot 37 = .ok (.iload_n 1, 1) := by decide +kernel
theorem dX6_drawLot_38 : decode cX6_drawLot 38 = .ok (.irem, 1) := by decide +kernel
theorem dX6_drawLot_39 : decode cX6_drawLot 39 = .ok (.goto 4, 3) := by decide +kernel
theorem dX6_drawLot_42 : decode cX6_drawLot 42 = .ok (.iconst (-1), 1) := by decide +kernel
theorem dX6_drawLot_43 : decode cX6_drawLot 43 = .ok (.ireturn, 1) := by decide +kernel
theorem dX7_init_0 : decode cX7_init 0 = .ok (.aload_n 0, 1) := by decide +kernel
theorem dX7_init_1 : decode cX7_init 1 = .ok (.invokespecial 3, 3) := by decide +kernel
theorem dX7_init_4 : decode cX7_init 4 = .ok (.aload_n 0, 1) := by decide +kernel
theorem dX7_init_5 : decode cX7_init 5 = .ok (.iconst 5, 1) := by decide +kernel
theorem dX7_init_6 : decode cX7_init 6 = .ok (.newarray .int, 2) := by decide +kernel
theorem dX7_init_8 : decode cX7_init 8 = .ok (.putfield 9, 3) := by decide +kernel
theorem dX7_init_11 : decode cX7_init 11 = .ok (.aload_n 0, 1) := by decide +kernel
theorem dX7_init_12 : decode cX7_init 12 = .ok (.iconst 5, 1) := by decide +kernel
theorem dX7_init_13 : decode cX7_init 13 = .ok (.newarray .int, 2) := by decide +kernel
theorem dX7_init_15 : decode cX7_init 15 = .ok (.putfield 15, 3) := by decide +kernel
theorem dX7_init_18 : decode cX7_init 18 = .ok (.aload_n 0, 1) := by decide +kernel
theorem dX7_init_19 : decode cX7_init 19 = .ok (.iconst 0, 1) := by decide +kernel
theorem dX7_init_20 : decode cX7_init 20 = .ok (.putfield 18, 3) := by decide +kernel
theorem dX7_init_23 : decode cX7_init 23 = .ok (.return_, 1) := by decide +kernel
theorem dX7_add_0 : decode cX7_add 0 = .ok (.aload_n 0, 1) := by decide +kernel
theorem dX7_add_1 : decode cX7_add 1 = .ok (.getfield 18, 3) := by decide +kernel
theorem dX7_add_4 : decode cX7_add 4 = .ok (.iconst 5, 1) := by decide +kernel
theorem dX7_add_5 : decode cX7_add 5 = .ok (.if_icmp .lt 5, 3) := by decide +kernel
theorem dX7_add_8 : decode cX7_add 8 = .ok (.iconst (-1), 1) := by decide +kernel
theorem dX7_add_9 : decode cX7_add 9 = .ok (.ireturn, 1) := by decide +kernel
theorem dX7_add_10 : decode cX7_add 10 = .ok (.aload_n 0, 1) := by decide +kernel
theorem dX7_add_11 : decode cX7_add 11 = .ok (.getfield 9, 3) := by decide +kernel
theorem dX7_add_14 : decode cX7_add 14 = .ok (.aload_n 0, 1) := by decide +kernel
theorem dX7_add_15 : decode cX7_add 15 = .ok (.getfield 18, 3) := by decide +kernel
theorem dX7_add_18 : decode cX7_add 18 = .ok (.iload_n 1, 1) := by decide +kernel
theorem dX7_add_19 : decode cX7_add 19 = .ok (.iastore, 1) := by decide +kernel
theorem dX7_add_20 : decode cX7_add 20 = .ok (.aload_n 0, 1) := by decide +kernel
theorem dX7_add_21 : decode cX7_add 21 = .ok (.getfield 15, 3) := by decide +kernel
theorem dX7_add_24 : decode cX7_add 24 = .ok (.aload_n 0, 1) := by decide +kernel
theorem dX7_add_25 : decode cX7_add 25 = .ok (.getfield 18, 3) := by decide +kernel
theorem dX7_add_28 : decode cX7_add 28 = .ok (.iload_n 2, 1) := by decide +kernel
theorem dX7_add_29 : decode cX7_add 29 = .ok (.iastore, 1) := by decide +kernel
theorem dX7_add_30 : decode cX7_add 30 = .ok (.aload_n 0, 1) := by decide +kernel
theorem dX7_add_31 : decode cX7_add 31 = .ok (.dup, 1) := by decide +kernel
theorem dX7_add_32 : decode cX7_add 32 = .ok (.getfield 18, 3) := by decide +kernel
theorem dX7_add_35 : decode cX7_add 35 = .ok (.iconst 1, 1) := by decide +kernel
theorem dX7_add_36 : decode cX7_add 36 = .ok (.iadd, 1) := by decide +kernel
theorem dX7_add_37 : decode cX7_add 37 = .ok (.putfield 18, 3) := by decide +kernel
theorem dX7_add_40 : decode cX7_add 40 = .ok (.aload_n 0, 1) := by decide +kernel
theorem dX7_add_41 : decode cX7_add 41 = .ok (.getfield 18, 3) := by decide +kernel
theorem dX7_add_44 : decode cX7_add 44 = .ok (.iconst 1, 1) := by decide +kernel
theorem dX7_add_45 : decode cX7_add 45 = .ok (.isub, 1) := by decide +kernel
theorem dX7_add_46 : decode cX7_add 46 = .ok (.ireturn, 1) := by decide +kernel
theorem dX8_init_0 : decode cX8_init 0 = .ok (.aload_n 0, 1) := by decide +kernel
theorem dX8_init_1 : decode cX8_init 1 = .ok (.invokespecial 1, 3) := by decide +kernel
theorem dX8_init_4 : decode cX8_init 4 = .ok (.aload_n 0, 1) := by decide +kernel
theorem dX8_init_5 : decode cX8_init 5 = .ok (.iload_n 1, 1) := by decide +kernel
theorem dX8_init_6 : decode cX8_init 6 = .ok (.putfield 7, 3) := by decide +kernel
theorem dX8_init_9 : decode cX8_init 9 = .ok (.aload_n 0, 1) := by decide +kernel
theorem dX8_init_10 : decode cX8_init 10 = .ok (.iload_n 2, 1) := by decide +kernel
theorem dX8_init_11 : decode cX8_init 11 = .ok (.putfield 13, 3) := by decide +kernel
theorem dX8_init_14 : decode cX8_init 14 = .ok (.aload_n 0, 1) := by decide +kernel
theorem dX8_init_15 : decode cX8_init 15 = .ok (.aload_n 3, 1) := by decide +kernel
theorem dX8_init_16 : decode cX8_init 16 = .ok (.putfield 16, 3) := by decide +kernel
theorem dX8_init_19 : decode cX8_init 19 = .ok (.return_, 1) := by decide +kernel
theorem dX9_init_0 : decode cX9_init 0 = .ok (.aload_n 0, 1) := by decide +kernel
theorem dX9_init_1 : decode cX9_init 1 = .ok (.invokespecial 3, 3) := by decide +kernel
theorem dX9_init_4 : decode cX9_init 4 = .ok (.aload_n 0, 1) := by decide +kernel
theorem dX9_init_5 : decode cX9_init 5 = .ok (.bipush 72, 2) := by decide +kernel
theorem dX9_init_7 : decode cX9_init 7 = .ok (.newarray .boolean, 2) := by decide +kernel
theorem dX9_init_9 : decode cX9_init 9 = .ok (.putfield 9, 3) := by decide +kernel
theorem dX9_init_12 : decode cX9_init 12 = .ok (.aload_n 0, 1) := by decide +kernel
theorem dX9_init_13 : decode cX9_init 13 = .ok (.bipush 36, 2) := by decide +kernel
theorem dX9_init_15 : decode cX9_init 15 = .ok (.newarray .int, 2) := by decide +kernel
theorem dX9_init_17 : decode cX9_init 17 = .ok (.putfield 15, 3) := by decide +kernel
theorem dX9_init_20 : decode cX9_init 20 = .ok (.aload_n 0, 1) := by decide +kernel
theorem dX9_init_21 : decode cX9_init 21 = .ok (.bipush 36, 2) := by decide +kernel
theorem dX9_init_23 : decode cX9_init 23 = .ok (.newarray .int, 2) := by decide +kernel
theorem dX9_init_25 : decode cX9_init 25 = .ok (.putfield 19, 3) := by decide +kernel
theorem dX9_init_28 : decode cX9_init 28 = .ok (.return_, 1) := by decide +kernel
theorem dX9_streetBetween_0 : decode cX9_streetBetween 0 = .ok (.iload_n 0, 1) := by decide +kernel
theorem dX9_streetBetween_1 : decode cX9_streetBetween 1 = .ok (.iload_n 1, 1) := by decide +kernel
theorem dX9_streetBetween_2 : decode cX9_streetBetween 2 = .ok (.if_icmp .ge 7, 3) := by decide +kernel
theorem dX9_streetBetween_5 : decode cX9_streetBetween 5 = .ok (.iload_n 0, 1) := by decide +kernel
theorem dX9_streetBetween_6 : decode cX9_streetBetween 6 = .ok (.goto 4, 3) := by decide +kernel
theorem dX9_streetBetween_9 : decode cX9_streetBetween 9 = .ok (.iload_n 1, 1) := by decide +kernel
theorem dX9_streetBetween_10 : decode cX9_streetBetween 10 = .ok (.istore_n 2, 1) := by decide +kernel
theorem dX9_streetBetween_11 : decode cX9_streetBetween 11 = .ok (.iload_n 0, 1) := by decide +kernel
theorem dX9_streetBetween_12 : decode cX9_streetBetween 12 = .ok (.iload_n 1, 1) := by decide +kernel
theorem dX9_streetBetween_13 : decode cX9_streetBetween 13 = .ok (.if_icmp .ge 7, 3) := by decide +kernel
theorem dX9_streetBetween_16 : decode cX9_streetBetween 16 = .ok (.iload_n 1, 1) := by decide +kernel
theorem dX9_streetBetween_17 : decode cX9_streetBetween 17 = .ok (.goto 4, 3) := by decide +kernel
theorem dX9_streetBetween_20 : decode cX9_streetBetween 20 = .ok (.iload_n 0, 1) := by decide +kernel
theorem dX9_streetBetween_21 : decode cX9_streetBetween 21 = .ok (.istore_n 3, 1) := by decide +kernel
theorem dX9_streetBetween_22 : decode cX9_streetBetween 22 = .ok (.iload_n 2, 1) := by decide +kernel
theorem dX9_streetBetween_23 : decode cX9_streetBetween 23 = .ok (.ifCond .lt 9, 3) := by decide +kernel
theorem dX9_streetBetween_26 : decode cX9_streetBetween 26 = .ok (.iload_n 3, 1) := by decide +kernel
theorem dX9_streetBetween_27 : decode cX9_streetBetween 27 = .ok (.bipush 36, 2) := by decide +kernel
theorem dX9_streetBetween_29 : decode cX9_streetBetween 29 = .ok (.if_icmp .lt 5, 3) := by decide +kernel
theorem dX9_streetBetween_32 : decode cX9_streetBetween 32 = .ok (.iconst (-1), 1) := by decide +kernel
theorem dX9_streetBetween_33 : decode cX9_streetBetween 33 = .ok (.ireturn, 1) := by decide +kernel
theorem dX9_streetBetween_34 : decode cX9_streetBetween 34 = .ok (.iload_n 3, 1) := by decide +kernel
theorem dX9_streetBetween_35 : decode cX9_streetBetween 35 = .ok (.iload_n 2, 1) := by decide +kernel
theorem dX9_streetBetween_36 : decode cX9_streetBetween 36 = .ok (.isub, 1) := by decide +kernel
theorem dX9_streetBetween_37 : decode cX9_streetBetween 37 = .ok (.bipush 6, 2) := by decide +kernel
theorem dX9_streetBetween_39 : decode cX9_streetBetween 39 = .ok (.if_icmp .ne 9, 3) := by decide +kernel
theorem dX9_streetBetween_42 : decode cX9_streetBetween 42 = .ok (.iconst 2, 1) := by decide +kernel
theorem dX9_streetBetween_43 : decode cX9_streetBetween 43 = .ok (.iload_n 2, 1) := by decide +kernel
theorem dX9_streetBetween_44 : decode cX9_streetBetween 44 = .ok (.imul, 1) := by decide +kernel
theorem dX9_streetBetween_45 : decode cX9_streetBetween 45 = .ok (.iconst 1, 1) := by decide +kernel
theorem dX9_streetBetween_46 : decode cX9_streetBetween 46 = .ok (.iadd, 1) := by decide +kernel
theorem dX9_streetBetween_47 : decode cX9_streetBetween 47 = .ok (.ireturn, 1) := by decide +kernel
theorem dX9_streetBetween_48 : decode cX9_streetBetween 48 = .ok (.iload_n 3, 1) := by decide +kernel
theorem dX9_streetBetween_49 : decode cX9_streetBetween 49 = .ok (.iload_n 2, 1) := by decide +kernel
theorem dX9_streetBetween_50 : decode cX9_streetBetween 50 = .ok (.isub, 1) := by decide +kernel
theorem dX9_streetBetween_51 : decode cX9_streetBetween 51 = .ok (.iconst 1, 1) := by decide +kernel
theorem dX9_streetBetween_52 : decode cX9_streetBetween 52 = .ok (.if_icmp .ne 14, 3) := by decide +kernel
theorem dX9_streetBetween_55 : decode cX9_streetBetween 55 = .ok (.iload_n 3, 1) := by decide +kernel
theorem dX9_streetBetween_56 : decode cX9_streetBetween 56 = .ok (.bipush 6, 2) := by decide +kernel
theorem dX9_streetBetween_58 : decode cX9_streetBetween 58 = .ok (.irem, 1) := by decide +kernel
theorem dX9_streetBetween_59 : decode cX9_streetBetween 59 = .ok (.ifCond .eq 7, 3) := by decide +kernel
theorem dX9_streetBetween_62 : decode cX9_streetBetween 62 = .ok (.iconst 2, 1) := by decide +kernel
theorem dX9_streetBetween_63 : decode cX9_streetBetween 63 = .ok (.iload_n 2, 1) := by decide +kernel
theorem dX9_streetBetween_64 : decode cX9_streetBetween 64 = .ok (.imul, 1) := by decide +kernel
theorem dX9_streetBetween_65 : decode cX9_streetBetween 65 = .ok (.ireturn, 1) := by decide +kernel
theorem dX9_streetBetween_66 : decode cX9_streetBetween 66 = .ok (.iconst (-1), 1) := by decide +kernel
theorem dX9_streetBetween_67 : decode cX9_streetBetween 67 = .ok (.ireturn, 1) := by decide +kernel
theorem dX9_setBarred_0 : decode cX9_setBarred 0 = .ok (.iload_n 1, 1) := by decide +kernel
theorem dX9_setBarred_1 : decode cX9_setBarred 1 = .ok (.ifCond .lt 12, 3) := by decide +kernel
theorem dX9_setBarred_4 : decode cX9_setBarred 4 = .ok (.iload_n 1, 1) := by decide +kernel
theorem dX9_setBarred_5 : decode cX9_setBarred 5 = .ok (.aload_n 0, 1) := by decide +kernel
theorem dX9_setBarred_6 : decode cX9_setBarred 6 = .ok (.getfield 9, 3) := by decide +kernel
theorem dX9_setBarred_9 : decode cX9_setBarred 9 = .ok (.arraylength, 1) := by decide +kernel
theorem dX9_setBarred_10 : decode cX9_setBarred 10 = .ok (.if_icmp .lt 5, 3) := by decide +kernel
theorem dX9_setBarred_13 : decode cX9_setBarred 13 = .ok (.iconst 0, 1) := by decide +kernel
theorem dX9_setBarred_14 : decode cX9_setBarred 14 = .ok (.ireturn, 1) := by decide +kernel
theorem dX9_setBarred_15 : decode cX9_setBarred 15 = .ok (.aload_n 0, 1) := by decide +kernel
theorem dX9_setBarred_16 : decode cX9_setBarred 16 = .ok (.getfield 9, 3) := by decide +kernel
theorem dX9_setBarred_19 : decode cX9_setBarred 19 = .ok (.iload_n 1, 1) := by decide +kernel
theorem dX9_setBarred_20 : decode cX9_setBarred 20 = .ok (.baload, 1) := by decide +kernel
theorem dX9_setBarred_21 : decode cX9_setBarred 21 = .ok (.istore_n 3, 1) := by decide +kernel
theorem dX9_setBarred_22 : decode cX9_setBarred 22 = .ok (.aload_n 0, 1) := by decide +kernel
theorem dX9_setBarred_23 : decode cX9_setBarred 23 = .ok (.getfield 9, 3) := by decide +kernel
theorem dX9_setBarred_26 : decode cX9_setBarred 26 = .ok (.iload_n 1, 1) := by decide +kernel
theorem dX9_setBarred_27 : decode cX9_setBarred 27 = .ok (.iload_n 2, 1) := by decide +kernel
theorem dX9_setBarred_28 : decode cX9_setBarred 28 = .ok (.bastore, 1) := by decide +kernel
theorem dX9_setBarred_29 : decode cX9_setBarred 29 = .ok (.iload_n 3, 1) := by decide +kernel
theorem dX9_setBarred_30 : decode cX9_setBarred 30 = .ok (.ireturn, 1) := by decide +kernel
set_option maxRecDepth 20000 in
theorem ggX9_measureFrom_J7_fill_53178 : GoodIn wsX9_measureFrom wsJ7_fill_53178 := goodIn_r _ [6] (by decide +kernel) (by decide +kernel)
set_option maxRecDepth 20000 in
theorem gX9_measureFrom_J7_fill_53178 : GoodIn wsX9_measureFrom (va_wsS RX9 22 yJ7_fill_53178 wsJ7_fill_53178) := goodIn_app (goodIn_of _ (by decide +kernel)) ggX9_measureFrom_J7_fill_53178
set_option maxRecDepth 20000 in
theorem ggX9_measureFrom_X9_reach : GoodIn wsX9_measureFrom wsX9_reach := goodIn_ca (goodIn_r _ [11, 12, 1, 2, 13, 14, 10, 15, 16, 17, 18] (by decide +kernel) (by decide +kernel)) (goodIn_sub (fun _ h => List.mem_cons_of_mem _ (List.mem_append_right _ h)) (by decide +kernel))
set_option maxRecDepth 20000 in
theorem gX9_measureFrom_X9_reach : GoodIn wsX9_measureFrom (wsV RX9 28 RX9 yX9_reach wsX9_reach) := goodIn_app (goodIn_of _ (by decide +kernel)) ggX9_measureFrom_X9_reach
theorem dX9_measureFrom_0 : decode cX9_measureFrom 0 = .ok (.aload_n 0, 1) := by decide +kernel
theorem dX9_measureFrom_1 : decode cX9_measureFrom 1 = .ok (.getfield 15, 3) := by decide +kernel
theorem dX9_measureFrom_4 : decode cX9_measureFrom 4 = .ok (.iconst (-1), 1) := by decide +kernel
theorem dX9_measureFrom_5 : decode cX9_measureFrom 5 = .ok (.invokestatic 22, 3) := by decide +kernel
theorem dX9_measureFrom_8 : decode cX9_measureFrom 8 = .ok (.iload_n 1, 1) := by decide +kernel
theorem dX9_measureFrom_9 : decode cX9_measureFrom 9 = .ok (.ifCond .lt 9, 3) := by decide +kernel
theorem dX9_measureFrom_12 : decode cX9_measureFrom 12 = .ok (.iload_n 1, 1) := by decide +kernel
theorem dX9_measureFrom_13 : decode cX9_measureFrom 13 = .ok (.bipush 36, 2) := by decide +kernel
theorem dX9_measureFrom_15 : decode cX9_measureFrom 15 = .ok (.if_icmp .lt 4, 3) := by decide +kernel
theorem dX9_measureFrom_18 : decode cX9_measureFrom 18 = .ok (.return_, 1) := by decide +kernel
theorem dX9_measureFrom_19 : decode cX9_measureFrom 19 = .ok (.aload_n 0, 1) := by decide +kernel
theorem dX9_measureFrom_20 : decode cX9_measureFrom 20 = .ok (.getfield 15, 3) := by decide +kernel
theorem dX9_measureFrom_23 : decode cX9_measureFrom 23 = .ok (.iload_n 1, 1) := by decide +kernel
theorem dX9_measureFrom_24 : decode cX9_measureFrom 24 = .ok (.iconst 0, 1) := by decide +kernel
theorem dX9_measureFrom_25 : decode cX9_measureFrom 25 = .ok (.iastore, 1) := by decide +kernel
theorem dX9_measureFrom_26 : decode cX9_measureFrom 26 = .ok (.aload_n 0, 1) := by decide +kernel
theorem dX9_measureFrom_27 : decode cX9_measureFrom 27 = .ok (.getfield 19, 3) := by decide +kernel
theorem dX9_measureFrom_30 : decode cX9_measureFrom 30 = .ok (.iconst 0, 1) := by decide +kernel
theorem dX9_measureFrom_31 : decode cX9_measureFrom 31 = .ok (.iload_n 1, 1) := by decide +kernel
theorem dX9_measureFrom_32 : decode cX9_measureFrom 32 = .ok (.iastore, 1) := by decide +kernel
theorem dX9_measureFrom_33 : decode cX9_measureFrom 33 = .ok (.iconst 1, 1) := by decide +kernel
theorem dX9_measureFrom_34 : decode cX9_measureFrom 34 = .ok (.istore_n 2, 1) := by decide +kernel
theorem dX9_measureFrom_35 : decode cX9_measureFrom 35 = .ok (.iconst 0, 1) := by decide +kernel
theorem dX9_measureFrom_36 : decode cX9_measureFrom 36 = .ok (.istore_n 3, 1) := by decide +kernel
theorem dX9_measureFrom_37 : decode cX9_measureFrom 37 = .ok (.iload_n 3, 1) := by decide +kernel
theorem dX9_measureFrom_38 : decode cX9_measureFrom 38 = .ok (.iload_n 2, 1) := by decide +kernel
theorem dX9_measureFrom_39 : decode cX9_measureFrom 39 = .ok (.if_icmp .ge 73, 3) := by decide +kernel
theorem dX9_measureFrom_42 : decode cX9_measureFrom 42 = .ok (.iload_n 3, 1) := by decide +kernel
theorem dX9_measureFrom_43 : decode cX9_measureFrom 43 = .ok (.bipush 36, 2) := by decide +kernel
theorem dX9_measureFrom_45 : decode cX9_measureFrom 45 = .ok (.if_icmp .ge 67, 3) := by decide +kernel
theorem dX9_measureFrom_48 : decode cX9_measureFrom 48 = .ok (.aload_n 0, 1) := by decide +kernel
theorem dX9_measureFrom_49 : decode cX9_measureFrom 49 = .ok (.getfield 19, 3) := by decide +kernel
theorem dX9_measureFrom_52 : decode cX9_measureFrom 52 = .ok (.iload_n 3, 1) := by decide +kernel
theorem dX9_measureFrom_53 : decode cX9_measureFrom 53 = .ok (.iaload, 1) := by decide +kernel
theorem dX9_measureFrom_54 : decode cX9_measureFrom 54 = .ok (.istore 4, 2) := by decide +kernel
theorem dX9_measureFrom_56 : decode cX9_measureFrom 56 = .ok (.aload_n 0, 1) := by decide +kernel
theorem dX9_measureFrom_57 : decode cX9_measureFrom 57 = .ok (.iload 4, 2) := by decide +kernel
theorem dX9_measureFrom_59 : decode cX9_measureFrom 59 = .ok (.iload 4, 2) := by decide +kernel
theorem dX9_measureFrom_61 : decode cX9_measureFrom 61 = .ok (.bipush 6, 2) := by decide +kernel
theorem dX9_measureFrom_63 : decode cX9_measureFrom 63 = .ok (.isub, 1) := by decide +kernel
theorem dX9_measureFrom_64 : decode cX9_measureFrom 64 = .ok (.iload_n 2, 1) := by decide +kernel
theorem dX9_measureFrom_65 : decode cX9_measureFrom 65 = .ok (.invokevirtual 28, 3) := by decide +kernel
theorem dX9_measureFrom_68 : decode cX9_measureFrom 68 = .ok (.istore_n 2, 1) := by decide +kernel
theorem dX9_measureFrom_69 : decode cX9_measureFrom 69 = .ok (.aload_n 0, 1) := by decide +kernel
theorem dX9_measureFrom_70 : decode cX9_measureFrom 70 = .ok (.iload 4, 2) := by decide +kernel
theorem dX9_measureFrom_72 : decode cX9_measureFrom 72 = .ok (.iload 4, 2) := by decide +kernel
theorem dX9_measureFrom_74 : decode cX9_measureFrom 74 = .ok (.iconst 1, 1) := by decide +kernel
theorem dX9_measureFrom_75 : decode cX9_measureFrom 75 = .ok (.isub, 1) := by decide +kernel
theorem dX9_measureFrom_76 : decode cX9_measureFrom 76 = .ok (.iload_n 2, 1) := by decide +kernel
theorem dX9_measureFrom_77 : decode cX9_measureFrom 77 = .ok (.invokevirtual 28, 3) := by decide +kernel
