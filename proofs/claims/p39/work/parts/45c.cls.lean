theorem dX2_ballotsFor_23 : decode cX2_ballotsFor 23 = .ok (.iadd, 1) := by decide +kernel
theorem dX2_ballotsFor_24 : decode cX2_ballotsFor 24 = .ok (.istore_n 2, 1) := by decide +kernel
theorem dX2_ballotsFor_25 : decode cX2_ballotsFor 25 = .ok (.iinc 3 1, 3) := by decide +kernel
theorem dX2_ballotsFor_28 : decode cX2_ballotsFor 28 = .ok (.goto (-24), 3) := by decide +kernel
theorem dX2_ballotsFor_31 : decode cX2_ballotsFor 31 = .ok (.iload_n 2, 1) := by decide +kernel
theorem dX2_ballotsFor_32 : decode cX2_ballotsFor 32 = .ok (.ireturn, 1) := by decide +kernel
theorem dX2_sumOfSeeds_0 : decode cX2_sumOfSeeds 0 = .ok (.iconst 0, 1) := by decide +kernel
theorem dX2_sumOfSeeds_1 : decode cX2_sumOfSeeds 1 = .ok (.istore_n 1, 1) := by decide +kernel
theorem dX2_sumOfSeeds_2 : decode cX2_sumOfSeeds 2 = .ok (.iconst 0, 1) := by decide +kernel
theorem dX2_sumOfSeeds_3 : decode cX2_sumOfSeeds 3 = .ok (.istore_n 2, 1) := by decide +kernel
theorem dX2_sumOfSeeds_4 : decode cX2_sumOfSeeds 4 = .ok (.iload_n 2, 1) := by decide +kernel
theorem dX2_sumOfSeeds_5 : decode cX2_sumOfSeeds 5 = .ok (.iconst 5, 1) := by decide +kernel
theorem dX2_sumOfSeeds_6 : decode cX2_sumOfSeeds 6 = .ok (.if_icmp .ge 18, 3) := by decide +kernel
theorem dX2_sumOfSeeds_9 : decode cX2_sumOfSeeds 9 = .ok (.iload_n 1, 1) := by decide +kernel
theorem dX2_sumOfSeeds_10 : decode cX2_sumOfSeeds 10 = .ok (.aload_n 0, 1) := by decide +kernel
theorem dX2_sumOfSeeds_11 : decode cX2_sumOfSeeds 11 = .ok (.getfield 28, 3) := by decide +kernel
theorem dX2_sumOfSeeds_14 : decode cX2_sumOfSeeds 14 = .ok (.iload_n 2, 1) := by decide +kernel
theorem dX2_sumOfSeeds_15 : decode cX2_sumOfSeeds 15 = .ok (.iaload, 1) := by decide +kernel
theorem dX2_sumOfSeeds_16 : decode cX2_sumOfSeeds 16 = .ok (.iadd, 1) := by decide +kernel
theorem dX2_sumOfSeeds_17 : decode cX2_sumOfSeeds 17 = .ok (.istore_n 1, 1) := by decide +kernel
theorem dX2_sumOfSeeds_18 : decode cX2_sumOfSeeds 18 = .ok (.iinc 2 1, 3) := by decide +kernel
theorem dX2_sumOfSeeds_21 : decode cX2_sumOfSeeds 21 = .ok (.goto (-17), 3) := by decide +kernel
theorem dX2_sumOfSeeds_24 : decode cX2_sumOfSeeds 24 = .ok (.iload_n 1, 1) := by decide +kernel
theorem dX2_sumOfSeeds_25 : decode cX2_sumOfSeeds 25 = .ok (.ireturn, 1) := by decide +kernel
theorem dX3_init_0 : decode cX3_init 0 = .ok (.aload_n 0, 1) := by decide +kernel
theorem dX3_init_1 : decode cX3_init 1 = .ok (.invokespecial 3, 3) := by decide +kernel
theorem dX3_init_4 : decode cX3_init 4 = .ok (.aload_n 0, 1) := by decide +kernel
theorem dX3_init_5 : decode cX3_init 5 = .ok (.bipush 60, 2) := by decide +kernel
theorem dX3_init_7 : decode cX3_init 7 = .ok (.newarray .int, 2) := by decide +kernel
theorem dX3_init_9 : decode cX3_init 9 = .ok (.putfield 9, 3) := by decide +kernel
theorem dX3_init_12 : decode cX3_init 12 = .ok (.aload_n 0, 1) := by decide +kernel
theorem dX3_init_13 : decode cX3_init 13 = .ok (.bipush 60, 2) := by decide +kernel
theorem dX3_init_15 : decode cX3_init 15 = .ok (.newarray .int, 2) := by decide +kernel
theorem dX3_init_17 : decode cX3_init 17 = .ok (.putfield 15, 3) := by decide +kernel
theorem dX3_init_20 : decode cX3_init 20 = .ok (.aload_n 0, 1) := by decide +kernel
theorem dX3_init_21 : decode cX3_init 21 = .ok (.bipush 60, 2) := by decide +kernel
theorem dX3_init_23 : decode cX3_init 23 = .ok (.newarray .int, 2) := by decide +kernel
theorem dX3_init_25 : decode cX3_init 25 = .ok (.putfield 18, 3) := by decide +kernel
theorem dX3_init_28 : decode cX3_init 28 = .ok (.aload_n 0, 1) := by decide +kernel
theorem dX3_init_29 : decode cX3_init 29 = .ok (.iconst 0, 1) := by decide +kernel
theorem dX3_init_30 : decode cX3_init 30 = .ok (.putfield 21, 3) := by decide +kernel
theorem dX3_init_33 : decode cX3_init 33 = .ok (.return_, 1) := by decide +kernel
theorem dX3_add_0 : decode cX3_add 0 = .ok (.aload_n 0, 1) := by decide +kernel
theorem dX3_add_1 : decode cX3_add 1 = .ok (.getfield 21, 3) := by decide +kernel
theorem dX3_add_4 : decode cX3_add 4 = .ok (.bipush 60, 2) := by decide +kernel
theorem dX3_add_6 : decode cX3_add 6 = .ok (.if_icmp .lt 5, 3) := by decide +kernel
theorem dX3_add_9 : decode cX3_add 9 = .ok (.iconst (-1), 1) := by decide +kernel
theorem dX3_add_10 : decode cX3_add 10 = .ok (.ireturn, 1) := by decide +kernel
theorem dX3_add_11 : decode cX3_add 11 = .ok (.aload_n 0, 1) := by decide +kernel
theorem dX3_add_12 : decode cX3_add 12 = .ok (.getfield 9, 3) := by decide +kernel
theorem dX3_add_15 : decode cX3_add 15 = .ok (.aload_n 0, 1) := by decide +kernel
theorem dX3_add_16 : decode cX3_add 16 = .ok (.getfield 21, 3) := by decide +kernel
theorem dX3_add_19 : decode cX3_add 19 = .ok (.iload_n 1, 1) := by decide +kernel
theorem dX3_add_20 : decode cX3_add 20 = .ok (.iastore, 1) := by decide +kernel
theorem dX3_add_21 : decode cX3_add 21 = .ok (.aload_n 0, 1) := by decide +kernel
theorem dX3_add_22 : decode cX3_add 22 = .ok (.getfield 15, 3) := by decide +kernel
theorem dX3_add_25 : decode cX3_add 25 = .ok (.aload_n 0, 1) := by decide +kernel
theorem dX3_add_26 : decode cX3_add 26 = .ok (.getfield 21, 3) := by decide +kernel
theorem dX3_add_29 : decode cX3_add 29 = .ok (.iload_n 2, 1) := by decide +kernel
theorem dX3_add_30 : decode cX3_add 30 = .ok (.iastore, 1) := by decide +kernel
theorem dX3_add_31 : decode cX3_add 31 = .ok (.aload_n 0, 1) := by decide +kernel
theorem dX3_add_32 : decode cX3_add 32 = .ok (.getfield 18, 3) := by decide +kernel
theorem dX3_add_35 : decode cX3_add 35 = .ok (.aload_n 0, 1) := by decide +kernel
theorem dX3_add_36 : decode cX3_add 36 = .ok (.getfield 21, 3) := by decide +kernel
theorem dX3_add_39 : decode cX3_add 39 = .ok (.iconst 0, 1) := by decide +kernel
theorem dX3_add_40 : decode cX3_add 40 = .ok (.iastore, 1) := by decide +kernel
theorem dX3_add_41 : decode cX3_add 41 = .ok (.aload_n 0, 1) := by decide +kernel
theorem dX3_add_42 : decode cX3_add 42 = .ok (.dup, 1) := by decide +kernel
theorem dX3_add_43 : decode cX3_add 43 = .ok (.getfield 21, 3) := by decide +kernel
theorem dX3_add_46 : decode cX3_add 46 = .ok (.iconst 1, 1) := by decide +kernel
theorem dX3_add_47 : decode cX3_add 47 = .ok (.iadd, 1) := by decide +kernel
theorem dX3_add_48 : decode cX3_add 48 = .ok (.putfield 21, 3) := by decide +kernel
theorem dX3_add_51 : decode cX3_add 51 = .ok (.aload_n 0, 1) := by decide +kernel
theorem dX3_add_52 : decode cX3_add 52 = .ok (.getfield 21, 3) := by decide +kernel
theorem dX3_add_55 : decode cX3_add 55 = .ok (.iconst 1, 1) := by decide +kernel
theorem dX3_add_56 : decode cX3_add 56 = .ok (.isub, 1) := by decide +kernel
theorem dX3_add_57 : decode cX3_add 57 = .ok (.ireturn, 1) := by decide +kernel
theorem dX3_sealedOf_0 : decode cX3_sealedOf 0 = .ok (.iconst 0, 1) := by decide +kernel
theorem dX3_sealedOf_1 : decode cX3_sealedOf 1 = .ok (.istore_n 2, 1) := by decide +kernel
theorem dX3_sealedOf_2 : decode cX3_sealedOf 2 = .ok (.iload_n 2, 1) := by decide +kernel
theorem dX3_sealedOf_3 : decode cX3_sealedOf 3 = .ok (.aload_n 0, 1) := by decide +kernel
theorem dX3_sealedOf_4 : decode cX3_sealedOf 4 = .ok (.getfield 21, 3) := by decide +kernel
theorem dX3_sealedOf_7 : decode cX3_sealedOf 7 = .ok (.if_icmp .ge 30, 3) := by decide +kernel
theorem dX3_sealedOf_10 : decode cX3_sealedOf 10 = .ok (.aload_n 0, 1) := by decide +kernel
theorem dX3_sealedOf_11 : decode cX3_sealedOf 11 = .ok (.getfield 9, 3) := by decide +kernel
theorem dX3_sealedOf_14 : decode cX3_sealedOf 14 = .ok (.iload_n 2, 1) := by decide +kernel
theorem dX3_sealedOf_15 : decode cX3_sealedOf 15 = .ok (.iaload, 1) := by decide +kernel
theorem dX3_sealedOf_16 : decode cX3_sealedOf 16 = .ok (.iload_n 1, 1) := by decide +kernel
theorem dX3_sealedOf_17 : decode cX3_sealedOf 17 = .ok (.if_icmp .ne 14, 3) := by decide +kernel
theorem dX3_sealedOf_20 : decode cX3_sealedOf 20 = .ok (.aload_n 0, 1) := by decide +kernel
theorem dX3_sealedOf_21 : decode cX3_sealedOf 21 = .ok (.getfield 18, 3) := by decide +kernel
theorem dX3_sealedOf_24 : decode cX3_sealedOf 24 = .ok (.iload_n 2, 1) := by decide +kernel
theorem dX3_sealedOf_25 : decode cX3_sealedOf 25 = .ok (.iaload, 1) := by decide +kernel
theorem dX3_sealedOf_26 : decode cX3_sealedOf 26 = .ok (.ifCond .ne 5, 3) := by decide +kernel
theorem dX3_sealedOf_29 : decode cX3_sealedOf 29 = .ok (.iload_n 2, 1) := by decide +kernel
theorem dX3_sealedOf_30 : decode cX3_sealedOf 30 = .ok (.ireturn, 1) := by decide +kernel
theorem dX3_sealedOf_31 : decode cX3_sealedOf 31 = .ok (.iinc 2 1, 3) := by decide +kernel
theorem dX3_sealedOf_34 : decode cX3_sealedOf 34 = .ok (.goto (-32), 3) := by decide +kernel
theorem dX3_sealedOf_37 : decode cX3_sealedOf 37 = .ok (.iconst (-1), 1) := by decide +kernel
theorem dX3_sealedOf_38 : decode cX3_sealedOf 38 = .ok (.ireturn, 1) := by decide +kernel
theorem dX4_init_0 : decode cX4_init 0 = .ok (.aload_n 0, 1) := by decide +kernel
theorem dX4_init_1 : decode cX4_init 1 = .ok (.invokespecial 3, 3) := by decide +kernel
theorem dX4_init_4 : decode cX4_init 4 = .ok (.aload_n 0, 1) := by decide +kernel
theorem dX4_init_5 : decode cX4_init 5 = .ok (.iconst 0, 1) := by decide +kernel
theorem dX4_init_6 : decode cX4_init 6 = .ok (.putfield 9, 3) := by decide +kernel
theorem dX4_init_9 : decode cX4_init 9 = .ok (.aload_n 0, 1) := by decide +kernel
theorem dX4_init_10 : decode cX4_init 10 = .ok (.aconst_null, 1) := by decide +kernel
theorem dX4_init_11 : decode cX4_init 11 = .ok (.putfield 15, 3) := by decide +kernel
theorem dX4_init_14 : decode cX4_init 14 = .ok (.aload_n 0, 1) := by decide +kernel
theorem dX4_init_15 : decode cX4_init 15 = .ok (.iconst 0, 1) := by decide +kernel
theorem dX4_init_16 : decode cX4_init 16 = .ok (.putfield 19, 3) := by decide +kernel
theorem dX4_init_19 : decode cX4_init 19 = .ok (.return_, 1) := by decide +kernel
theorem dX4_crossingOn_0 : decode cX4_crossingOn 0 = .ok (.aload_n 0, 1) := by decide +kernel
theorem dX4_crossingOn_1 : decode cX4_crossingOn 1 = .ok (.getfield 15, 3) := by decide +kernel
theorem dX4_crossingOn_4 : decode cX4_crossingOn 4 = .ok (.astore_n 2, 1) := by decide +kernel
theorem dX4_crossingOn_5 : decode cX4_crossingOn 5 = .ok (.aload_n 2, 1) := by decide +kernel
theorem dX4_crossingOn_6 : decode cX4_crossingOn 6 = .ok (.ifnull 24, 3) := by decide +kernel
theorem dX4_crossingOn_9 : decode cX4_crossingOn 9 = .ok (.aload_n 2, 1) := by decide +kernel
theorem dX4_crossingOn_10 : decode cX4_crossingOn 10 = .ok (.getfield 23, 3) := by decide +kernel
theorem dX4_crossingOn_13 : decode cX4_crossingOn 13 = .ok (.iload_n 1, 1) := by decide +kernel
theorem dX4_crossingOn_14 : decode cX4_crossingOn 14 = .ok (.if_icmp .gt 8, 3) := by decide +kernel
theorem dX4_crossingOn_17 : decode cX4_crossingOn 17 = .ok (.aload_n 2, 1) := by decide +kernel
theorem dX4_crossingOn_18 : decode cX4_crossingOn 18 = .ok (.getfield 28, 3) := by decide +kernel
theorem dX4_crossingOn_21 : decode cX4_crossingOn 21 = .ok (.ireturn, 1) := by decide +kernel
theorem dX4_crossingOn_22 : decode cX4_crossingOn 22 = .ok (.aload_n 2, 1) := by decide +kernel
theorem dX4_crossingOn_23 : decode cX4_crossingOn 23 = .ok (.getfield 31, 3) := by decide +kernel
theorem dX4_crossingOn_26 : decode cX4_crossingOn 26 = .ok (.astore_n 2, 1) := by decide +kernel
theorem dX4_crossingOn_27 : decode cX4_crossingOn 27 = .ok (.goto (-22), 3) := by decide +kernel
theorem dX4_crossingOn_30 : decode cX4_crossingOn 30 = .ok (.iconst (-1), 1) := by decide +kernel
theorem dX4_crossingOn_31 : decode cX4_crossingOn 31 = .ok (.ireturn, 1) := by decide +kernel
set_option maxRecDepth 20000 in
theorem ggX5_init_J7_fill_53178 : GoodIn wsX5_init wsJ7_fill_53178 := goodIn_r _ [12] (by decide +kernel) (by decide +kernel)
set_option maxRecDepth 20000 in
theorem gX5_init_J7_fill_53178 : GoodIn wsX5_init (va_wsS RX5 22 yJ7_fill_53178 wsJ7_fill_53178) := goodIn_app (goodIn_of _ (by decide +kernel)) ggX5_init_J7_fill_53178
theorem dX5_init_0 : decode cX5_init 0 = .ok (.aload_n 0, 1) := by decide +kernel
theorem dX5_init_1 : decode cX5_init 1 = .ok (.invokespecial 3, 3) := by decide +kernel
theorem dX5_init_4 : decode cX5_init 4 = .ok (.aload_n 0, 1) := by decide +kernel
theorem dX5_init_5 : decode cX5_init 5 = .ok (.bipush 20, 2) := by decide +kernel
theorem dX5_init_7 : decode cX5_init 7 = .ok (.newarray .int, 2) := by decide +kernel
theorem dX5_init_9 : decode cX5_init 9 = .ok (.putfield 9, 3) := by decide +kernel
theorem dX5_init_12 : decode cX5_init 12 = .ok (.aload_n 0, 1) := by decide +kernel
theorem dX5_init_13 : decode cX5_init 13 = .ok (.iconst 5, 1) := by decide +kernel
theorem dX5_init_14 : decode cX5_init 14 = .ok (.newarray .int, 2) := by decide +kernel
theorem dX5_init_16 : decode cX5_init 16 = .ok (.putfield 15, 3) := by decide +kernel
theorem dX5_init_19 : decode cX5_init 19 = .ok (.aload_n 0, 1) := by decide +kernel
theorem dX5_init_20 : decode cX5_init 20 = .ok (.bipush 20, 2) := by decide +kernel
theorem dX5_init_22 : decode cX5_init 22 = .ok (.newarray .boolean, 2) := by decide +kernel
theorem dX5_init_24 : decode cX5_init 24 = .ok (.putfield 18, 3) := by decide +kernel
theorem dX5_init_27 : decode cX5_init 27 = .ok (.aload_n 0, 1) := by decide +kernel
theorem dX5_init_28 : decode cX5_init 28 = .ok (.getfield 9, 3) := by decide +kernel
theorem dX5_init_31 : decode cX5_init 31 = .ok (.iconst (-1), 1) := by decide +kernel
theorem dX5_init_32 : decode cX5_init 32 = .ok (.invokestatic 22, 3) := by decide +kernel
theorem dX5_init_35 : decode cX5_init 35 = .ok (.return_, 1) := by decide +kernel
set_option maxRecDepth 20000 in
theorem ggX5_clear_J7_fill_53178 : GoodIn wsX5_clear wsJ7_fill_53178 := goodIn_r _ [7] (by decide +kernel) (by decide +kernel)
set_option maxRecDepth 20000 in
theorem gX5_clear_J7_fill_53178 : GoodIn wsX5_clear (va_wsS RX5 22 yJ7_fill_53178 wsJ7_fill_53178) := goodIn_app (goodIn_of _ (by decide +kernel)) ggX5_clear_J7_fill_53178
theorem dX5_clear_0 : decode cX5_clear 0 = .ok (.aload_n 0, 1) := by decide +kernel
theorem dX5_clear_1 : decode cX5_clear 1 = .ok (.getfield 9, 3) := by decide +kernel
theorem dX5_clear_4 : decode cX5_clear 4 = .ok (.iconst (-1), 1) := by decide +kernel
theorem dX5_clear_5 : decode cX5_clear 5 = .ok (.invokestatic 22, 3) := by decide +kernel
theorem dX5_clear_8 : decode cX5_clear 8 = .ok (.aload_n 0, 1) := by decide +kernel
theorem dX5_clear_9 : decode cX5_clear 9 = .ok (.getfield 15, 3) := by decide +kernel
theorem dX5_clear_12 : decode cX5_clear 12 = .ok (.iconst 0, 1) := by decide +kernel
theorem dX5_clear_13 : decode cX5_clear 13 = .ok (.invokestatic 22, 3) := by decide +kernel
theorem dX5_clear_16 : decode cX5_clear 16 = .ok (.iconst 0, 1) := by decide +kernel
theorem dX5_clear_17 : decode cX5_clear 17 = .ok (.istore_n 1, 1) := by decide +kernel
theorem dX5_clear_21 : decode cX5_clear 21 = .ok (.if_icmp .ge 16, 3) := by decide +kernel
theorem dX5_clear_24 : decode cX5_clear 24 = .ok (.aload_n 0, 1) := by decide +kernel
theorem dX5_clear_18 : decode cX5_clear 18 = .ok (.iload_n 1, 1) := by decide +kernel
theorem dX5_clear_19 : decode cX5_clear 19 = .ok (.bipush 20, 2) := by decide +kernel
theorem dX5_clear_25 : decode cX5_clear 25 = .ok (.getfield 18, 3) := by decide +kernel
theorem dX5_clear_28 : decode cX5_clear 28 = .ok (.iload_n 1, 1) := by decide +kernel
theorem dX5_clear_29 : decode cX5_clear 29 = .ok (.iconst 0, 1) := by decide +kernel
theorem dX5_clear_30 : decode cX5_clear 30 = .ok (.bastore, 1) := by decide +kernel
theorem dX5_clear_31 : decode cX5_clear 31 = .ok (.iinc 1 1, 3) := by decide +kernel
theorem dX5_clear_34 : decode cX5_clear 34 = .ok (.goto (-16), 3) := by decide +kernel
theorem dX5_clear_37 : decode cX5_clear 37 = .ok (.return_, 1) := by decide +kernel
theorem dX5_enter_0 : decode cX5_enter 0 = .ok (.iload_n 1, 1) := by decide +kernel
theorem dX5_enter_1 : decode cX5_enter 1 = .ok (.ifCond .lt 18, 3) := by decide +kernel
theorem dX5_enter_4 : decode cX5_enter 4 = .ok (.iload_n 1, 1) := by decide +kernel
theorem dX5_enter_5 : decode cX5_enter 5 = .ok (.bipush 20, 2) := by decide +kernel
theorem dX5_enter_7 : decode cX5_enter 7 = .ok (.if_icmp .ge 12, 3) := by decide +kernel
theorem dX5_enter_10 : decode cX5_enter 10 = .ok (.iload_n 2, 1) := by decide +kernel
theorem dX5_enter_11 : decode cX5_enter 11 = .ok (.ifCond .lt 8, 3) := by decide +kernel
theorem dX5_enter_14 : decode cX5_enter 14 = .ok (.iload_n 2, 1) := by decide +kernel
theorem dX5_enter_15 : decode cX5_enter 15 = .ok (.iconst 5, 1) := by decide +kernel
theorem dX5_enter_16 : decode cX5_enter 16 = .ok (.if_icmp .lt 4, 3) := by decide +kernel
theorem dX5_enter_19 : decode cX5_enter 19 = .ok (.return_, 1) := by decide +kernel
theorem dX5_enter_20 : decode cX5_enter 20 = .ok (.aload_n 0, 1) := by decide +kernel
theorem dX5_enter_21 : decode cX5_enter 21 = .ok (.getfield 9, 3) := by decide +kernel
theorem dX5_enter_24 : decode cX5_enter 24 = .ok (.iload_n 1, 1) := by decide +kernel
theorem dX5_enter_25 : decode cX5_enter 25 = .ok (.iload_n 2, 1) := by decide +kernel
theorem dX5_enter_26 : decode cX5_enter 26 = .ok (.iastore, 1) := by decide +kernel
theorem dX5_enter_27 : decode cX5_enter 27 = .ok (.aload_n 0, 1) := by decide +kernel
theorem dX5_enter_28 : decode cX5_enter 28 = .ok (.getfield 15, 3) := by decide +kernel
theorem dX5_enter_31 : decode cX5_enter 31 = .ok (.iload_n 2, 1) := by decide +kernel
theorem dX5_enter_32 : decode cX5_enter 32 = .ok (.dup2, 1) := by decide +kernel
theorem dX5_enter_33 : decode cX5_enter 33 = .ok (.iaload, 1) := by decide +kernel
theorem dX5_enter_34 : decode cX5_enter 34 = .ok (.iconst 1, 1) := by decide +kernel
theorem dX5_enter_35 : decode cX5_enter 35 = .ok (.iadd, 1) := by decide +kernel
theorem dX5_enter_36 : decode cX5_enter 36 = .ok (.iastore, 1) := by decide +kernel
theorem dX5_enter_37 : decode cX5_enter 37 = .ok (.return_, 1) := by decide +kernel
theorem dX5_stationFor_0 : decode cX5_stationFor 0 = .ok (.iload_n 1, 1) := by decide +kernel
theorem dX5_stationFor_1 : decode cX5_stationFor 1 = .ok (.ifCond .lt 9, 3) := by decide +kernel
theorem dX5_stationFor_4 : decode cX5_stationFor 4 = .ok (.iload_n 1, 1) := by decide +kernel
theorem dX5_stationFor_5 : decode cX5_stationFor 5 = .ok (.bipush 20, 2) := by decide +kernel
theorem dX5_stationFor_7 : decode cX5_stationFor 7 = .ok (.if_icmp .lt 5, 3) := by decide +kernel
theorem dX5_stationFor_10 : decode cX5_stationFor 10 = .ok (.iconst (-1), 1) := by decide +kernel
theorem dX5_stationFor_11 : decode cX5_stationFor 11 = .ok (.ireturn, 1) := by decide +kernel
theorem dX5_stationFor_12 : decode cX5_stationFor 12 = .ok (.aload_n 0, 1) := by decide +kernel
theorem dX5_stationFor_13 : decode cX5_stationFor 13 = .ok (.getfield 9, 3) := by decide +kernel
theorem dX5_stationFor_16 : decode cX5_stationFor 16 = .ok (.iload_n 1, 1) := by decide +kernel
theorem dX5_stationFor_17 : decode cX5_stationFor 17 = .ok (.iaload, 1) := by decide +kernel
theorem dX5_stationFor_18 : decode cX5_stationFor 18 = .ok (.ireturn, 1) := by decide +kernel
theorem dX5_peopleAt_0 : decode cX5_peopleAt 0 = .ok (.iload_n 1, 1) := by decide +kernel
theorem dX5_peopleAt_1 : decode cX5_peopleAt 1 = .ok (.ifCond .lt 8, 3) := by decide +kernel
theorem dX5_peopleAt_4 : decode cX5_peopleAt 4 = .ok (.iload_n 1, 1) := by decide +kernel
theorem dX5_peopleAt_5 : decode cX5_peopleAt 5 = .ok (.iconst 5, 1) := by decide +kernel
theorem dX5_peopleAt_6 : decode cX5_peopleAt 6 = .ok (.if_icmp .lt 5, 3) := by decide +kernel
theorem dX5_peopleAt_9 : decode cX5_peopleAt 9 = .ok (.iconst 0, 1) := by decide +kernel
theorem dX5_peopleAt_10 : decode cX5_peopleAt 10 = .ok (.ireturn, 1) := by decide +kernel
theorem dX5_peopleAt_11 : decode cX5_peopleAt 11 = .ok (.aload_n 0, 1) := by decide +kernel
theorem dX5_peopleAt_12 : decode cX5_peopleAt 12 = .ok (.getfield 15, 3) := by decide +kernel
theorem dX5_peopleAt_15 : decode cX5_peopleAt 15 = .ok (.iload_n 1, 1) := by decide +kernel
theorem dX5_peopleAt_16 : decode cX5_peopleAt 16 = .ok (.iaload, 1) := by decide +kernel
theorem dX5_peopleAt_17 : decode cX5_peopleAt 17 = .ok (.ireturn, 1) := by decide +kernel
theorem dX6_init_0 : decode cX6_init 0 = .ok (.aload_n 0, 1) := by decide +kernel
theorem dX6_init_1 : decode cX6_init 1 = .ok (.invokespecial 3, 3) := by decide +kernel
theorem dX6_init_4 : decode cX6_init 4 = .ok (.aload_n 0, 1) := by decide +kernel
theorem dX6_init_5 : decode cX6_init 5 = .ok (.iconst 5, 1) := by decide +kernel
theorem dX6_init_6 : decode cX6_init 6 = .ok (.newarray .int, 2) := by decide +kernel
theorem dX6_init_8 : decode cX6_init 8 = .ok (.putfield 9, 3) := by decide +kernel
theorem dX6_init_11 : decode cX6_init 11 = .ok (.aload_n 0, 1) := by decide +kernel
theorem dX6_init_12 : decode cX6_init 12 = .ok (.iconst 5, 1) := by decide +kernel
theorem dX6_init_13 : decode cX6_init 13 = .ok (.newarray .int, 2) := by decide +kernel
theorem dX6_init_15 : decode cX6_init 15 = .ok (.putfield 15, 3) := by decide +kernel
theorem dX6_init_18 : decode cX6_init 18 = .ok (.aload_n 0, 1) := by decide +kernel
theorem dX6_init_19 : decode cX6_init 19 = .ok (.bipush 30, 2) := by decide +kernel
theorem dX6_init_21 : decode cX6_init 21 = .ok (.newarray .int, 2) := by decide +kernel
theorem dX6_init_23 : decode cX6_init 23 = .ok (.putfield 18, 3) := by decide +kernel
theorem dX6_init_26 : decode cX6_init 26 = .ok (.aload_n 0, 1) := by decide +kernel
theorem dX6_init_27 : decode cX6_init 27 = .ok (.iconst 5, 1) := by decide +kernel
theorem dX6_init_28 : decode cX6_init 28 = .ok (.newarray .int, 2) := by decide +kernel
theorem dX6_init_30 : decode cX6_init 30 = .ok (.putfield 21, 3) := by decide +kernel
theorem dX6_init_33 : decode cX6_init 33 = .ok (.aload_n 0, 1) := by decide +kernel
theorem dX6_init_34 : decode cX6_init 34 = .ok (.iconst 0, 1) := by decide +kernel
theorem dX6_init_35 : decode cX6_init 35 = .ok (.putfield 24, 3) := by decide +kernel
theorem dX6_init_38 : decode cX6_init 38 = .ok (.aload_n 0, 1) := by decide +kernel
theorem dX6_init_39 : decode cX6_init 39 = .ok (.iconst 0, 1) := by decide +kernel
theorem dX6_init_40 : decode cX6_init 40 = .ok (.putfield 28, 3) := by decide +kernel
theorem dX6_init_43 : decode cX6_init 43 = .ok (.aload_n 0, 1) := by decide +kernel
theorem dX6_init_44 : decode cX6_init 44 = .ok (.iconst 0, 1) := by decide +kernel
theorem dX6_init_45 : decode cX6_init 45 = .ok (.putfield 31, 3) := by decide +kernel
theorem dX6_init_48 : decode cX6_init 48 = .ok (.return_, 1) := by decide +kernel
set_option maxRecDepth 20000 in
theorem ggX6_give_J7_fill_53178 : GoodIn wsX6_give wsJ7_fill_53178 := goodIn_r _ [9] (by decide +kernel) (by decide +kernel)
set_option maxRecDepth 20000 in
theorem gX6_give_J7_fill_53178 : GoodIn wsX6_give (va_wsS RX6 34 yJ7_fill_53178 wsJ7_fill_53178) := goodIn_app (goodIn_of _ (by decide +kernel)) ggX6_give_J7_fill_53178
set_option maxRecDepth 20000 in
theorem ggX6_give_X6_nextParty : GoodIn wsX6_give wsX6_nextParty := goodIn_ca (goodIn_r _ [14, 15, 16, 17, 18, 13, 19, 20, 21, 22, 23, 24, 25, 26, 27, 28, 1, 29, 30, 31, 32, 33, 34, 35, 36, 4, 37, 3, 38, 39, 40, 41, 42, 43, 44] (by decide +kernel) (by decide +kernel)) (goodIn_sub (fun _ h => List.mem_cons_of_mem _ (List.mem_append_right _ h)) (by decide +kernel))
set_option maxRecDepth 20000 in
theorem gX6_give_X6_nextParty : GoodIn wsX6_give (wsV RX6 40 RX6 yX6_nextParty wsX6_nextParty) := goodIn_app (goodIn_of _ (by decide +kernel)) ggX6_give_X6_nextParty
theorem dX6_give_0 : decode cX6_give 0 = .ok (.aload_n 0, 1) := by decide +kernel
theorem dX6_give_1 : decode cX6_give 1 = .ok (.getfield 15, 3) := by decide +kernel
theorem dX6_give_4 : decode cX6_give 4 = .ok (.iconst 0, 1) := by decide +kernel
theorem dX6_give_5 : decode cX6_give 5 = .ok (.invokestatic 34, 3) := by decide +kernel
theorem dX6_give_8 : decode cX6_give 8 = .ok (.aload_n 0, 1) := by decide +kernel
theorem dX6_give_9 : decode cX6_give 9 = .ok (.iconst 0, 1) := by decide +kernel
theorem dX6_give_10 : decode cX6_give 10 = .ok (.putfield 24, 3) := by decide +kernel
theorem dX6_give_13 : decode cX6_give 13 = .ok (.aload_n 0, 1) := by decide +kernel
theorem dX6_give_14 : decode cX6_give 14 = .ok (.iconst 0, 1) := by decide +kernel
theorem dX6_give_15 : decode cX6_give 15 = .ok (.putfield 28, 3) := by decide +kernel
theorem dX6_give_18 : decode cX6_give 18 = .ok (.aload_n 0, 1) := by decide +kernel
theorem dX6_give_19 : decode cX6_give 19 = .ok (.iload_n 3, 1) := by decide +kernel
theorem dX6_give_20 : decode cX6_give 20 = .ok (.putfield 31, 3) := by decide +kernel
theorem dX6_give_23 : decode cX6_give 23 = .ok (.iconst 0, 1) := by decide +kernel
theorem dX6_give_24 : decode cX6_give 24 = .ok (.istore 4, 2) := by decide +kernel
theorem dX6_give_26 : decode cX6_give 26 = .ok (.iload 4, 2) := by decide +kernel
theorem dX6_give_28 : decode cX6_give 28 = .ok (.iload_n 1, 1) := by decide +kernel
theorem dX6_give_29 : decode cX6_give 29 = .ok (.if_icmp .ge 65, 3) := by decide +kernel
theorem dX6_give_32 : decode cX6_give 32 = .ok (.iload 4, 2) := by decide +kernel
theorem dX6_give_34 : decode cX6_give 34 = .ok (.bipush 30, 2) := by decide +kernel
theorem dX6_give_36 : decode cX6_give 36 = .ok (.if_icmp .ge 58, 3) := by decide +kernel
theorem dX6_give_39 : decode cX6_give 39 = .ok (.aload_n 0, 1) := by decide +kernel
theorem dX6_give_40 : decode cX6_give 40 = .ok (.iload_n 2, 1) := by decide +kernel
theorem dX6_give_41 : decode cX6_give 41 = .ok (.invokevirtual 40, 3) := by decide +kernel
theorem dX6_give_44 : decode cX6_give 44 = .ok (.istore 5, 2) := by decide +kernel
theorem dX6_give_46 : decode cX6_give 46 = .ok (.iload 5, 2) := by decide +kernel
theorem dX6_give_48 : decode cX6_give 48 = .ok (.ifCond .lt 9, 3) := by decide +kernel
theorem dX6_give_51 : decode cX6_give 51 = .ok (.iload 5, 2) := by decide +kernel
theorem dX6_give_53 : decode cX6_give 53 = .ok (.iconst 5, 1) := by decide +kernel
theorem dX6_give_54 : decode cX6_give 54 = .ok (.if_icmp .lt 4, 3) := by decide +kernel
theorem dX6_give_57 : decode cX6_give 57 = .ok (.return_, 1) := by decide +kernel
theorem dX6_give_58 : decode cX6_give 58 = .ok (.aload_n 0, 1) := by decide +kernel
theorem dX6_give_59 : decode cX6_give 59 = .ok (.getfield 18, 3) := by decide +kernel
theorem dX6_give_62 : decode cX6_give 62 = .ok (.iload 4, 2) := by decide +kernel
theorem dX6_give_64 : decode cX6_give 64 = .ok (.iload 5, 2) := by decide +kernel
theorem dX6_give_66 : decode cX6_give 66 = .ok (.iastore, 1) := by decide +kernel
theorem dX6_give_67 : decode cX6_give 67 = .ok (.aload_n 0, 1) := by decide +kernel
theorem dX6_give_68 : decode cX6_give 68 = .ok (.getfield 15, 3) := by decide +kernel
theorem dX6_give_71 : decode cX6_give 71 = .ok (.iload 5, 2) := by decide +kernel
theorem dX6_give_73 : decode cX6_give 73 = .ok (.dup2, 1) := by decide +kernel
theorem dX6_give_74 : decode cX6_give 74 = .ok (.iaload, 1) := by decide +kernel
theorem dX6_give_75 : decode cX6_give 75 = .ok (.iconst 1, 1) := by decide +kernel
theorem dX6_give_76 : decode cX6_give 76 = .ok (.iadd, 1) := by decide +kernel
theorem dX6_give_77 : decode cX6_give 77 = .ok (.iastore, 1) := by decide +kernel
theorem dX6_give_78 : decode cX6_give 78 = .ok (.aload_n 0, 1) := by decide +kernel
theorem dX6_give_79 : decode cX6_give 79 = .ok (.dup, 1) := by decide +kernel
theorem dX6_give_80 : decode cX6_give 80 = .ok (.getfield 24, 3) := by decide +kernel
theorem dX6_give_83 : decode cX6_give 83 = .ok (.iconst 1, 1) := by decide +kernel
theorem dX6_give_84 : decode cX6_give 84 = .ok (.iadd, 1) := by decide +kernel
theorem dX6_give_85 : decode cX6_give 85 = .ok (.putfield 24, 3) := by decide +kernel
theorem dX6_give_88 : decode cX6_give 88 = .ok (.iinc 4 1, 3) := by decide +kernel
theorem dX6_give_91 : decode cX6_give 91 = .ok (.goto (-65), 3) := by decide +kernel
theorem dX6_give_94 : decode cX6_give 94 = .ok (.return_, 1) := by decide +kernel
theorem dX6_partyAt_0 : decode cX6_partyAt 0 = .ok (.iload_n 1, 1) := by decide +kernel
theorem dX6_partyAt_1 : decode cX6_partyAt 1 = .ok (.ifCond .lt 17, 3) := by decide +kernel
theorem dX6_partyAt_4 : decode cX6_partyAt 4 = .ok (.iload_n 1, 1) := by decide +kernel
theorem dX6_partyAt_5 : decode cX6_partyAt 5 = .ok (.aload_n 0, 1) := by decide +kernel
theorem dX6_partyAt_6 : decode cX6_partyAt 6 = .ok (.getfield 24, 3) := by decide +kernel
theorem dX6_partyAt_9 : decode cX6_partyAt 9 = .ok (.if_icmp .ge 9, 3) := by decide +kernel
theorem dX6_partyAt_12 : decode cX6_partyAt 12 = .ok (.iload_n 1, 1) := by decide +kernel
theorem dX6_partyAt_13 : decode cX6_partyAt 13 = .ok (.bipush 30, 2) := by decide +kernel
theorem dX6_partyAt_15 : decode cX6_partyAt 15 = .ok (.if_icmp .lt 5, 3) := by decide +kernel
theorem dX6_partyAt_18 : decode cX6_partyAt 18 = .ok (.iconst (-1), 1) := by decide +kernel
theorem dX6_partyAt_19 : decode cX6_partyAt 19 = .ok (.ireturn, 1) := by decide +kernel
theorem dX6_partyAt_20 : decode cX6_partyAt 20 = .ok (.aload_n 0, 1) := by decide +kernel
theorem dX6_partyAt_21 : decode cX6_partyAt 21 = .ok (.getfield 18, 3) := by decide +kernel
theorem dX6_partyAt_24 : decode cX6_partyAt 24 = .ok (.iload_n 1, 1) := by decide +kernel
theorem dX6_partyAt_25 : decode cX6_partyAt 25 = .ok (.iaload, 1) := by decide +kernel
theorem dX6_partyAt_26 : decode cX6_partyAt 26 = .ok (.ireturn, 1) := by decide +kernel
set_option maxRecDepth 20000 in
theorem ggX6_nextParty_X6_findGreatest : GoodIn wsX6_nextParty wsX6_findGreatest := goodIn_ca (goodIn_r _ [6, 7, 1, 8, 9, 10, 5, 11, 12, 13, 14, 15, 16, 17, 18, 19, 20, 28, 29, 30, 31, 32, 33, 34] (by decide +kernel) (by decide +kernel)) (goodIn_sub (fun _ h => List.mem_cons_of_mem _ (List.mem_append_right _ h)) (by decide +kernel))
set_option maxRecDepth 20000 in
theorem gX6_nextParty_X6_findGreatest : GoodIn wsX6_nextParty (wsV RX6 44 RX6 yX6_findGreatest wsX6_findGreatest) := goodIn_app (goodIn_of _ (by decide +kernel)) ggX6_nextParty_X6_findGreatest
set_option maxRecDepth 20000 in
theorem ggX6_nextParty_X6_drawLot : GoodIn wsX6_nextParty wsX6_drawLot := goodIn_r _ [24, 25, 26, 27, 28, 29, 30, 31, 32, 33, 34] (by decide +kernel) (by decide +kernel)
set_option maxRecDepth 20000 in
theorem gX6_nextParty_X6_drawLot : GoodIn wsX6_nextParty (wsV RX6 47 RX6 yX6_drawLot wsX6_drawLot) := goodIn_app (goodIn_of _ (by decide +kernel)) ggX6_nextParty_X6_drawLot
theorem dX6_nextParty_0 : decode cX6_nextParty 0 = .ok (.aload_n 0, 1) := by decide +kernel
theorem dX6_nextParty_1 : decode cX6_nextParty 1 = .ok (.iload_n 1, 1) := by decide +kernel
theorem dX6_nextParty_2 : decode cX6_nextParty 2 = .ok (.invokevirtual 44, 3) := by decide +kernel
theorem dX6_nextParty_5 : decode cX6_nextParty 5 = .ok (.istore_n 2, 1) := by decide +kernel
theorem dX6_nextParty_6 : decode cX6_nextParty 6 = .ok (.iload_n 2, 1) := by decide +kernel
theorem dX6_nextParty_7 : decode cX6_nextParty 7 = .ok (.ifCond .gt 5, 3) := by decide +kernel
theorem dX6_nextParty_10 : decode cX6_nextParty 10 = .ok (.iconst (-1), 1) := by decide +kernel
theorem dX6_nextParty_11 : decode cX6_nextParty 11 = .ok (.ireturn, 1) := by decide +kernel
