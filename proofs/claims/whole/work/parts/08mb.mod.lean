set_option maxRecDepth 20000 in
theorem gX11_station_X11_in : GoodIn wsX11_station (va_wsS RX11 111 yX11_in wsX11_in) := goodIn_app (goodIn_of _ (by decide +kernel)) ggX11_station_X11_in
set_option maxRecDepth 20000 in
theorem ggX11_station_X11_asked__ : GoodIn wsX11_station wsX11_asked__ := goodIn_r _ [14, 15, 16, 17, 18, 19, 20, 21, 22, 23, 24, 25, 26, 27, 28, 29, 30, 31, 32, 33, 34, 35, 36, 37, 38, 39, 40, 41, 42, 43, 44, 45, 46, 47, 48, 49, 50, 51, 52, 53, 54, 55, 56, 57, 58, 59] (by decide +kernel) (by decide +kernel)
set_option maxRecDepth 20000 in
theorem gX11_station_X11_asked__ : GoodIn wsX11_station (wsV RX11 140 RX11 yX11_asked__ wsX11_asked__) := goodIn_app (goodIn_of _ (by decide +kernel)) ggX11_station_X11_asked__
theorem dX11_station_0 : decode cX11_station 0 = .ok (.aload_n 0, 1) := by decide +kernel
theorem dX11_station_1 : decode cX11_station 1 = .ok (.iload_n 1, 1) := by decide +kernel
theorem dX11_station_2 : decode cX11_station 2 = .ok (.invokestatic 121, 3) := by decide +kernel
theorem dX11_station_5 : decode cX11_station 5 = .ok (.iload_n 2, 1) := by decide +kernel
theorem dX11_station_6 : decode cX11_station 6 = .ok (.iconst 0, 1) := by decide +kernel
theorem dX11_station_7 : decode cX11_station 7 = .ok (.bipush 20, 2) := by decide +kernel
theorem dX11_station_9 : decode cX11_station 9 = .ok (.invokestatic 111, 3) := by decide +kernel
theorem dX11_station_12 : decode cX11_station 12 = .ok (.aload_n 0, 1) := by decide +kernel
theorem dX11_station_13 : decode cX11_station 13 = .ok (.getfield 115, 3) := by decide +kernel
theorem dX11_station_16 : decode cX11_station 16 = .ok (.iconst 5, 1) := by decide +kernel
theorem dX11_station_17 : decode cX11_station 17 = .ok (.if_icmp .ge 7, 3) := by decide +kernel
theorem dX11_station_20 : decode cX11_station 20 = .ok (.iconst 1, 1) := by decide +kernel
theorem dX11_station_21 : decode cX11_station 21 = .ok (.goto 4, 3) := by decide +kernel
theorem dX11_station_24 : decode cX11_station 24 = .ok (.iconst 0, 1) := by decide +kernel
theorem dX11_station_25 : decode cX11_station 25 = .ok (.invokevirtual 140, 3) := by decide +kernel
theorem dX11_station_28 : decode cX11_station 28 = .ok (.ifCond .ne 5, 3) := by decide +kernel
theorem dX11_station_31 : decode cX11_station 31 = .ok (.iconst 0, 1) := by decide +kernel
theorem dX11_station_32 : decode cX11_station 32 = .ok (.ireturn, 1) := by decide +kernel
theorem dX11_station_33 : decode cX11_station 33 = .ok (.aload_n 0, 1) := by decide +kernel
theorem dX11_station_34 : decode cX11_station 34 = .ok (.getfield 20, 3) := by decide +kernel
theorem dX11_station_37 : decode cX11_station 37 = .ok (.aload_n 0, 1) := by decide +kernel
theorem dX11_station_38 : decode cX11_station 38 = .ok (.getfield 115, 3) := by decide +kernel
theorem dX11_station_41 : decode cX11_station 41 = .ok (.iload_n 1, 1) := by decide +kernel
theorem dX11_station_42 : decode cX11_station 42 = .ok (.iastore, 1) := by decide +kernel
theorem dX11_station_43 : decode cX11_station 43 = .ok (.aload_n 0, 1) := by decide +kernel
theorem dX11_station_44 : decode cX11_station 44 = .ok (.getfield 23, 3) := by decide +kernel
theorem dX11_station_47 : decode cX11_station 47 = .ok (.aload_n 0, 1) := by decide +kernel
theorem dX11_station_48 : decode cX11_station 48 = .ok (.getfield 115, 3) := by decide +kernel
theorem dX11_station_51 : decode cX11_station 51 = .ok (.iload_n 2, 1) := by decide +kernel
theorem dX11_station_52 : decode cX11_station 52 = .ok (.iastore, 1) := by decide +kernel
theorem dX11_station_53 : decode cX11_station 53 = .ok (.aload_n 0, 1) := by decide +kernel
theorem dX11_station_54 : decode cX11_station 54 = .ok (.dup, 1) := by decide +kernel
theorem dX11_station_55 : decode cX11_station 55 = .ok (.getfield 115, 3) := by decide +kernel
theorem dX11_station_58 : decode cX11_station 58 = .ok (.iconst 1, 1) := by decide +kernel
theorem dX11_station_59 : decode cX11_station 59 = .ok (.iadd, 1) := by decide +kernel
theorem dX11_station_60 : decode cX11_station 60 = .ok (.putfield 115, 3) := by decide +kernel
theorem dX11_station_63 : decode cX11_station 63 = .ok (.aload_n 0, 1) := by decide +kernel
theorem dX11_station_64 : decode cX11_station 64 = .ok (.getfield 115, 3) := by decide +kernel
theorem dX11_station_67 : decode cX11_station 67 = .ok (.iconst 1, 1) := by decide +kernel
theorem dX11_station_68 : decode cX11_station 68 = .ok (.isub, 1) := by decide +kernel
theorem dX11_station_69 : decode cX11_station 69 = .ok (.ireturn, 1) := by decide +kernel
set_option maxRecDepth 20000 in
theorem ggX11_setSeats_X11_isStation : GoodIn wsX11_setSeats wsX11_isStation := goodIn_r _ [6, 7, 8, 9, 5, 10, 16, 17, 18, 19, 20, 21, 22, 23, 24, 25, 26, 27, 28, 29, 30, 31, 32, 33, 34, 35, 36, 37, 38, 39, 40, 41, 42, 43, 44, 45, 46, 47, 48, 49, 50, 51, 52, 53, 54, 55, 56, 57, 58, 59] (by decide +kernel) (by decide +kernel)
set_option maxRecDepth 20000 in
theorem gX11_setSeats_X11_isStation : GoodIn wsX11_setSeats (wsV RX11 143 RX11 yX11_isStation wsX11_isStation) := goodIn_app (goodIn_of _ (by decide +kernel)) ggX11_setSeats_X11_isStation
set_option maxRecDepth 20000 in
theorem ggX11_setSeats_X11_in : GoodIn wsX11_setSeats wsX11_in := goodIn_r _ [10] (by decide +kernel) (by decide +kernel)
set_option maxRecDepth 20000 in
theorem gX11_setSeats_X11_in : GoodIn wsX11_setSeats (va_wsS RX11 111 yX11_in wsX11_in) := goodIn_app (goodIn_of _ (by decide +kernel)) ggX11_setSeats_X11_in
set_option maxRecDepth 20000 in
theorem ggX11_setSeats_X11_asked_ : GoodIn wsX11_setSeats wsX11_asked_ := goodIn_r _ [14, 15, 16, 17, 18, 19, 20, 21, 22, 23, 24, 25, 26, 27, 28, 29, 30, 31, 32, 33, 34, 35, 36, 37, 38, 39, 40, 41, 42, 43, 44, 45, 46, 47, 48, 49, 50, 51, 52, 53, 54, 55, 56, 57, 58, 59] (by decide +kernel) (by decide +kernel)
set_option maxRecDepth 20000 in
theorem gX11_setSeats_X11_asked_ : GoodIn wsX11_setSeats (wsV RX11 129 RX11 yX11_asked_ wsX11_asked_) := goodIn_app (goodIn_of _ (by decide +kernel)) ggX11_setSeats_X11_asked_
theorem dX11_setSeats_0 : decode cX11_setSeats 0 = .ok (.aload_n 0, 1) := by decide +kernel
theorem dX11_setSeats_1 : decode cX11_setSeats 1 = .ok (.aload_n 0, 1) := by decide +kernel
theorem dX11_setSeats_2 : decode cX11_setSeats 2 = .ok (.iload_n 1, 1) := by decide +kernel
theorem dX11_setSeats_3 : decode cX11_setSeats 3 = .ok (.invokevirtual 143, 3) := by decide +kernel
theorem dX11_setSeats_6 : decode cX11_setSeats 6 = .ok (.iload_n 2, 1) := by decide +kernel
theorem dX11_setSeats_7 : decode cX11_setSeats 7 = .ok (.iconst 0, 1) := by decide +kernel
theorem dX11_setSeats_8 : decode cX11_setSeats 8 = .ok (.bipush 20, 2) := by decide +kernel
theorem dX11_setSeats_10 : decode cX11_setSeats 10 = .ok (.invokestatic 111, 3) := by decide +kernel
theorem dX11_setSeats_13 : decode cX11_setSeats 13 = .ok (.invokevirtual 129, 3) := by decide +kernel
theorem dX11_setSeats_16 : decode cX11_setSeats 16 = .ok (.ifCond .ne 5, 3) := by decide +kernel
theorem dX11_setSeats_19 : decode cX11_setSeats 19 = .ok (.iconst 0, 1) := by decide +kernel
theorem dX11_setSeats_20 : decode cX11_setSeats 20 = .ok (.ireturn, 1) := by decide +kernel
theorem dX11_setSeats_21 : decode cX11_setSeats 21 = .ok (.aload_n 0, 1) := by decide +kernel
theorem dX11_setSeats_22 : decode cX11_setSeats 22 = .ok (.getfield 23, 3) := by decide +kernel
theorem dX11_setSeats_25 : decode cX11_setSeats 25 = .ok (.iload_n 1, 1) := by decide +kernel
theorem dX11_setSeats_26 : decode cX11_setSeats 26 = .ok (.iaload, 1) := by decide +kernel
theorem dX11_setSeats_27 : decode cX11_setSeats 27 = .ok (.istore_n 3, 1) := by decide +kernel
theorem dX11_setSeats_28 : decode cX11_setSeats 28 = .ok (.aload_n 0, 1) := by decide +kernel
theorem dX11_setSeats_29 : decode cX11_setSeats 29 = .ok (.getfield 23, 3) := by decide +kernel
theorem dX11_setSeats_32 : decode cX11_setSeats 32 = .ok (.iload_n 1, 1) := by decide +kernel
theorem dX11_setSeats_33 : decode cX11_setSeats 33 = .ok (.iload_n 2, 1) := by decide +kernel
theorem dX11_setSeats_34 : decode cX11_setSeats 34 = .ok (.iastore, 1) := by decide +kernel
theorem dX11_setSeats_35 : decode cX11_setSeats 35 = .ok (.iload_n 3, 1) := by decide +kernel
theorem dX11_setSeats_36 : decode cX11_setSeats 36 = .ok (.ireturn, 1) := by decide +kernel
theorem dX11_comes_0 : decode cX11_comes 0 = .ok (.aload_n 0, 1) := by decide +kernel
theorem dX11_comes_1 : decode cX11_comes 1 = .ok (.getfield 32, 3) := by decide +kernel
theorem dX11_comes_4 : decode cX11_comes 4 = .ok (.aload_n 0, 1) := by decide +kernel
theorem dX11_comes_5 : decode cX11_comes 5 = .ok (.getfield 146, 3) := by decide +kernel
theorem dX11_comes_8 : decode cX11_comes 8 = .ok (.iload_n 1, 1) := by decide +kernel
theorem dX11_comes_9 : decode cX11_comes 9 = .ok (.iastore, 1) := by decide +kernel
theorem dX11_comes_10 : decode cX11_comes 10 = .ok (.aload_n 0, 1) := by decide +kernel
theorem dX11_comes_11 : decode cX11_comes 11 = .ok (.getfield 35, 3) := by decide +kernel
theorem dX11_comes_14 : decode cX11_comes 14 = .ok (.aload_n 0, 1) := by decide +kernel
theorem dX11_comes_15 : decode cX11_comes 15 = .ok (.getfield 146, 3) := by decide +kernel
theorem dX11_comes_18 : decode cX11_comes 18 = .ok (.aload_n 0, 1) := by decide +kernel
theorem dX11_comes_19 : decode cX11_comes 19 = .ok (.getfield 149, 3) := by decide +kernel
theorem dX11_comes_22 : decode cX11_comes 22 = .ok (.iastore, 1) := by decide +kernel
theorem dX11_comes_23 : decode cX11_comes 23 = .ok (.aload_n 0, 1) := by decide +kernel
theorem dX11_comes_24 : decode cX11_comes 24 = .ok (.getfield 38, 3) := by decide +kernel
theorem dX11_comes_27 : decode cX11_comes 27 = .ok (.aload_n 0, 1) := by decide +kernel
theorem dX11_comes_28 : decode cX11_comes 28 = .ok (.getfield 146, 3) := by decide +kernel
theorem dX11_comes_31 : decode cX11_comes 31 = .ok (.iload_n 2, 1) := by decide +kernel
theorem dX11_comes_32 : decode cX11_comes 32 = .ok (.iastore, 1) := by decide +kernel
theorem dX11_comes_33 : decode cX11_comes 33 = .ok (.aload_n 0, 1) := by decide +kernel
theorem dX11_comes_34 : decode cX11_comes 34 = .ok (.dup, 1) := by decide +kernel
theorem dX11_comes_35 : decode cX11_comes 35 = .ok (.getfield 146, 3) := by decide +kernel
theorem dX11_comes_38 : decode cX11_comes 38 = .ok (.iconst 1, 1) := by decide +kernel
theorem dX11_comes_39 : decode cX11_comes 39 = .ok (.iadd, 1) := by decide +kernel
theorem dX11_comes_40 : decode cX11_comes 40 = .ok (.putfield 146, 3) := by decide +kernel
theorem dX11_comes_43 : decode cX11_comes 43 = .ok (.return_, 1) := by decide +kernel
theorem dX11_dwelt_0 : decode cX11_dwelt 0 = .ok (.iconst (-1), 1) := by decide +kernel
theorem dX11_dwelt_1 : decode cX11_dwelt 1 = .ok (.istore_n 3, 1) := by decide +kernel
theorem dX11_dwelt_2 : decode cX11_dwelt 2 = .ok (.iconst 0, 1) := by decide +kernel
theorem dX11_dwelt_3 : decode cX11_dwelt 3 = .ok (.istore 4, 2) := by decide +kernel
theorem dX11_dwelt_5 : decode cX11_dwelt 5 = .ok (.iload 4, 2) := by decide +kernel
theorem dX11_dwelt_7 : decode cX11_dwelt 7 = .ok (.aload_n 0, 1) := by decide +kernel
theorem dX11_dwelt_8 : decode cX11_dwelt 8 = .ok (.getfield 146, 3) := by decide +kernel
theorem dX11_dwelt_11 : decode cX11_dwelt 11 = .ok (.if_icmp .ge 43, 3) := by decide +kernel
theorem dX11_dwelt_14 : decode cX11_dwelt 14 = .ok (.aload_n 0, 1) := by decide +kernel
theorem dX11_dwelt_15 : decode cX11_dwelt 15 = .ok (.getfield 32, 3) := by decide +kernel
theorem dX11_dwelt_18 : decode cX11_dwelt 18 = .ok (.iload 4, 2) := by decide +kernel
theorem dX11_dwelt_20 : decode cX11_dwelt 20 = .ok (.iaload, 1) := by decide +kernel
theorem dX11_dwelt_21 : decode cX11_dwelt 21 = .ok (.iload_n 1, 1) := by decide +kernel
theorem dX11_dwelt_22 : decode cX11_dwelt 22 = .ok (.if_icmp .ne 24, 3) := by decide +kernel
theorem dX11_dwelt_25 : decode cX11_dwelt 25 = .ok (.aload_n 0, 1) := by decide +kernel
theorem dX11_dwelt_26 : decode cX11_dwelt 26 = .ok (.getfield 35, 3) := by decide +kernel
theorem dX11_dwelt_29 : decode cX11_dwelt 29 = .ok (.iload 4, 2) := by decide +kernel
theorem dX11_dwelt_31 : decode cX11_dwelt 31 = .ok (.iaload, 1) := by decide +kernel
theorem dX11_dwelt_32 : decode cX11_dwelt 32 = .ok (.iload_n 2, 1) := by decide +kernel
theorem dX11_dwelt_33 : decode cX11_dwelt 33 = .ok (.if_icmp .gt 13, 3) := by decide +kernel
theorem dX11_dwelt_36 : decode cX11_dwelt 36 = .ok (.aload_n 0, 1) := by decide +kernel
theorem dX11_dwelt_37 : decode cX11_dwelt 37 = .ok (.getfield 38, 3) := by decide +kernel
theorem dX11_dwelt_40 : decode cX11_dwelt 40 = .ok (.iload 4, 2) := by decide +kernel
theorem dX11_dwelt_42 : decode cX11_dwelt 42 = .ok (.iaload, 1) := by decide +kernel
theorem dX11_dwelt_43 : decode cX11_dwelt 43 = .ok (.goto 4, 3) := by decide +kernel
theorem dX11_dwelt_46 : decode cX11_dwelt 46 = .ok (.iload_n 3, 1) := by decide +kernel
theorem dX11_dwelt_47 : decode cX11_dwelt 47 = .ok (.istore_n 3, 1) := by decide +kernel
theorem dX11_dwelt_48 : decode cX11_dwelt 48 = .ok (.iinc 4 1, 3) := by decide +kernel
theorem dX11_dwelt_51 : decode cX11_dwelt 51 = .ok (.goto (-46), 3) := by decide +kernel
theorem dX11_dwelt_54 : decode cX11_dwelt 54 = .ok (.iload_n 3, 1) := by decide +kernel
theorem dX11_dwelt_55 : decode cX11_dwelt 55 = .ok (.ireturn, 1) := by decide +kernel
set_option maxRecDepth 20000 in
theorem ggX11_person_X11_isCrossing : GoodIn wsX11_person wsX11_isCrossing := goodIn_r _ [6, 7, 8, 5, 9] (by decide +kernel) (by decide +kernel)
set_option maxRecDepth 20000 in
theorem gX11_person_X11_isCrossing : GoodIn wsX11_person (va_wsS RX11 121 yX11_isCrossing wsX11_isCrossing) := goodIn_app (goodIn_of _ (by decide +kernel)) ggX11_person_X11_isCrossing
set_option maxRecDepth 20000 in
theorem ggX11_person_X11_in : GoodIn wsX11_person wsX11_in := goodIn_r _ [9] (by decide +kernel) (by decide +kernel)
set_option maxRecDepth 20000 in
theorem gX11_person_X11_in : GoodIn wsX11_person (va_wsS RX11 111 yX11_in wsX11_in) := goodIn_app (goodIn_of _ (by decide +kernel)) ggX11_person_X11_in
set_option maxRecDepth 20000 in
theorem ggX11_person_X11_asked__ : GoodIn wsX11_person wsX11_asked__ := goodIn_r _ [13, 14, 24, 25, 26, 27, 28, 29, 30, 31, 32, 33, 34, 35, 36, 37, 38, 39, 40, 41, 42, 43, 44, 45, 46, 47, 48, 49, 50, 51, 52, 53, 54, 55, 56, 57, 58, 59, 60, 61, 62, 63, 64, 65, 66, 67] (by decide +kernel) (by decide +kernel)
set_option maxRecDepth 20000 in
theorem gX11_person_X11_asked__ : GoodIn wsX11_person (wsV RX11 140 RX11 yX11_asked__ wsX11_asked__) := goodIn_app (goodIn_of _ (by decide +kernel)) ggX11_person_X11_asked__
set_option maxRecDepth 20000 in
theorem ggX11_person_X11_comes : GoodIn wsX11_person wsX11_comes := goodIn_ca (goodIn_r _ [18, 19, 20, 21, 22, 23, 24, 25, 26, 27, 28, 29, 30, 31, 32, 33, 34, 35, 36, 37, 38, 39, 40, 41, 42, 43, 44, 45, 46, 47, 48, 49, 50, 51, 52, 53, 54, 55, 56, 57, 58, 59, 60, 61, 62, 63, 64, 65, 66, 67] (by decide +kernel) (by decide +kernel)) (goodIn_sub (fun _ h => List.mem_cons_of_mem _ (List.mem_append_right _ h)) (by decide +kernel))
set_option maxRecDepth 20000 in
theorem gX11_person_X11_comes : GoodIn wsX11_person (wsV RX11 152 RX11 yX11_comes wsX11_comes) := goodIn_app (goodIn_of _ (by decide +kernel)) ggX11_person_X11_comes
theorem dX11_person_0 : decode cX11_person 0 = .ok (.aload_n 0, 1) := by decide +kernel
theorem dX11_person_1 : decode cX11_person 1 = .ok (.iload_n 1, 1) := by decide +kernel
theorem dX11_person_2 : decode cX11_person 2 = .ok (.invokestatic 121, 3) := by decide +kernel
theorem dX11_person_5 : decode cX11_person 5 = .ok (.iload_n 2, 1) := by decide +kernel
theorem dX11_person_6 : decode cX11_person 6 = .ok (.iconst 0, 1) := by decide +kernel
theorem dX11_person_7 : decode cX11_person 7 = .ok (.sipush 2000, 3) := by decide +kernel
theorem dX11_person_10 : decode cX11_person 10 = .ok (.invokestatic 111, 3) := by decide +kernel
theorem dX11_person_13 : decode cX11_person 13 = .ok (.aload_n 0, 1) := by decide +kernel
theorem dX11_person_14 : decode cX11_person 14 = .ok (.getfield 118, 3) := by decide +kernel
theorem dX11_person_17 : decode cX11_person 17 = .ok (.bipush 20, 2) := by decide +kernel
theorem dX11_person_19 : decode cX11_person 19 = .ok (.if_icmp .ge 7, 3) := by decide +kernel
theorem dX11_person_22 : decode cX11_person 22 = .ok (.iconst 1, 1) := by decide +kernel
theorem dX11_person_23 : decode cX11_person 23 = .ok (.goto 4, 3) := by decide +kernel
theorem dX11_person_26 : decode cX11_person 26 = .ok (.iconst 0, 1) := by decide +kernel
theorem dX11_person_27 : decode cX11_person 27 = .ok (.invokevirtual 140, 3) := by decide +kernel
theorem dX11_person_30 : decode cX11_person 30 = .ok (.ifCond .ne 5, 3) := by decide +kernel
theorem dX11_person_33 : decode cX11_person 33 = .ok (.iconst 0, 1) := by decide +kernel
theorem dX11_person_34 : decode cX11_person 34 = .ok (.ireturn, 1) := by decide +kernel
theorem dX11_person_35 : decode cX11_person 35 = .ok (.aload_n 0, 1) := by decide +kernel
theorem dX11_person_36 : decode cX11_person 36 = .ok (.getfield 26, 3) := by decide +kernel
theorem dX11_person_39 : decode cX11_person 39 = .ok (.aload_n 0, 1) := by decide +kernel
theorem dX11_person_40 : decode cX11_person 40 = .ok (.getfield 118, 3) := by decide +kernel
theorem dX11_person_43 : decode cX11_person 43 = .ok (.iload_n 2, 1) := by decide +kernel
theorem dX11_person_44 : decode cX11_person 44 = .ok (.iastore, 1) := by decide +kernel
theorem dX11_person_45 : decode cX11_person 45 = .ok (.aload_n 0, 1) := by decide +kernel
theorem dX11_person_46 : decode cX11_person 46 = .ok (.dup, 1) := by decide +kernel
theorem dX11_person_47 : decode cX11_person 47 = .ok (.getfield 118, 3) := by decide +kernel
theorem dX11_person_50 : decode cX11_person 50 = .ok (.iconst 1, 1) := by decide +kernel
theorem dX11_person_51 : decode cX11_person 51 = .ok (.iadd, 1) := by decide +kernel
theorem dX11_person_52 : decode cX11_person 52 = .ok (.putfield 118, 3) := by decide +kernel
theorem dX11_person_55 : decode cX11_person 55 = .ok (.aload_n 0, 1) := by decide +kernel
theorem dX11_person_56 : decode cX11_person 56 = .ok (.aload_n 0, 1) := by decide +kernel
theorem dX11_person_57 : decode cX11_person 57 = .ok (.getfield 118, 3) := by decide +kernel
theorem dX11_person_60 : decode cX11_person 60 = .ok (.iconst 1, 1) := by decide +kernel
theorem dX11_person_61 : decode cX11_person 61 = .ok (.isub, 1) := by decide +kernel
theorem dX11_person_62 : decode cX11_person 62 = .ok (.iload_n 1, 1) := by decide +kernel
theorem dX11_person_63 : decode cX11_person 63 = .ok (.invokevirtual 152, 3) := by decide +kernel
theorem dX11_person_66 : decode cX11_person 66 = .ok (.aload_n 0, 1) := by decide +kernel
theorem dX11_person_67 : decode cX11_person 67 = .ok (.getfield 118, 3) := by decide +kernel
theorem dX11_person_70 : decode cX11_person 70 = .ok (.iconst 1, 1) := by decide +kernel
theorem dX11_person_71 : decode cX11_person 71 = .ok (.isub, 1) := by decide +kernel
theorem dX11_person_72 : decode cX11_person 72 = .ok (.ireturn, 1) := by decide +kernel
set_option maxRecDepth 20000 in
theorem ggX11_move_X11_isPerson : GoodIn wsX11_move wsX11_isPerson := goodIn_r _ [7, 8, 9, 10, 6, 11, 32, 33, 34, 35, 36, 37, 38, 39, 40, 41, 42, 43, 44, 45, 46, 47, 48, 49, 50, 51, 52, 53, 54, 55, 56, 57, 58, 59, 60, 61, 62, 63, 64, 65, 66, 67, 68, 69, 70, 71, 72, 73, 74, 75] (by decide +kernel) (by decide +kernel)
set_option maxRecDepth 20000 in
theorem gX11_move_X11_isPerson : GoodIn wsX11_move (wsV RX11 156 RX11 yX11_isPerson wsX11_isPerson) := goodIn_app (goodIn_of _ (by decide +kernel)) ggX11_move_X11_isPerson
set_option maxRecDepth 20000 in
theorem ggX11_move_X11_isCrossing : GoodIn wsX11_move wsX11_isCrossing := goodIn_r _ [14, 9, 10, 6, 11] (by decide +kernel) (by decide +kernel)
set_option maxRecDepth 20000 in
theorem gX11_move_X11_isCrossing : GoodIn wsX11_move (va_wsS RX11 121 yX11_isCrossing wsX11_isCrossing) := goodIn_app (goodIn_of _ (by decide +kernel)) ggX11_move_X11_isCrossing
set_option maxRecDepth 20000 in
theorem ggX11_move_X11_asked_ : GoodIn wsX11_move wsX11_asked_ := goodIn_r _ [18, 19, 32, 33, 34, 35, 36, 37, 38, 39, 40, 41, 42, 43, 44, 45, 46, 47, 48, 49, 50, 51, 52, 53, 54, 55, 56, 57, 58, 59, 60, 61, 62, 63, 64, 65, 66, 67, 68, 69, 70, 71, 72, 73, 74, 75] (by decide +kernel) (by decide +kernel)
set_option maxRecDepth 20000 in
theorem gX11_move_X11_asked_ : GoodIn wsX11_move (wsV RX11 129 RX11 yX11_asked_ wsX11_asked_) := goodIn_app (goodIn_of _ (by decide +kernel)) ggX11_move_X11_asked_
set_option maxRecDepth 20000 in
theorem ggX11_move_X11_dwelt : GoodIn wsX11_move wsX11_dwelt := goodIn_ca (goodIn_r _ [23, 24, 25, 26, 27, 32, 33, 34, 35, 36, 37, 38, 39, 40, 41, 42, 43, 44, 45, 46, 47, 48, 49, 50, 51, 52, 53, 54, 55, 56, 57, 58, 59, 60, 61, 62, 63, 64, 65, 66, 67, 68, 69, 70, 71, 72, 73, 74, 75] (by decide +kernel) (by decide +kernel)) (goodIn_sub (fun _ h => List.mem_cons_of_mem _ (List.mem_append_right _ h)) (by decide +kernel))
set_option maxRecDepth 20000 in
theorem gX11_move_X11_dwelt : GoodIn wsX11_move (wsV RX11 159 RX11 yX11_dwelt wsX11_dwelt) := goodIn_app (goodIn_of _ (by decide +kernel)) ggX11_move_X11_dwelt
set_option maxRecDepth 20000 in
theorem ggX11_move_X11_comes : GoodIn wsX11_move wsX11_comes := goodIn_ca (goodIn_r _ [31, 25, 24, 26, 2, 27, 32, 33, 34, 35, 36, 37, 38, 39, 40, 41, 42, 43, 44, 45, 46, 47, 48, 49, 50, 51, 52, 53, 54, 55, 56, 57, 58, 59, 60, 61, 62, 63, 64, 65, 66, 67, 68, 69, 70, 71, 72, 73, 74, 75] (by decide +kernel) (by decide +kernel)) (goodIn_sub (fun _ h => List.mem_cons_of_mem _ (List.mem_append_right _ h)) (by decide +kernel))
set_option maxRecDepth 20000 in
theorem gX11_move_X11_comes : GoodIn wsX11_move (wsV RX11 152 RX11 yX11_comes wsX11_comes) := goodIn_app (goodIn_of _ (by decide +kernel)) ggX11_move_X11_comes
theorem dX11_move_0 : decode cX11_move 0 = .ok (.aload_n 0, 1) := by decide +kernel
theorem dX11_move_1 : decode cX11_move 1 = .ok (.iload_n 1, 1) := by decide +kernel
theorem dX11_move_2 : decode cX11_move 2 = .ok (.invokevirtual 156, 3) := by decide +kernel
theorem dX11_move_5 : decode cX11_move 5 = .ok (.ifCond .eq 14, 3) := by decide +kernel
theorem dX11_move_8 : decode cX11_move 8 = .ok (.iload_n 2, 1) := by decide +kernel
theorem dX11_move_9 : decode cX11_move 9 = .ok (.invokestatic 121, 3) := by decide +kernel
theorem dX11_move_12 : decode cX11_move 12 = .ok (.ifCond .eq 7, 3) := by decide +kernel
theorem dX11_move_15 : decode cX11_move 15 = .ok (.iconst 1, 1) := by decide +kernel
theorem dX11_move_16 : decode cX11_move 16 = .ok (.goto 4, 3) := by decide +kernel
theorem dX11_move_19 : decode cX11_move 19 = .ok (.iconst 0, 1) := by decide +kernel
theorem dX11_move_20 : decode cX11_move 20 = .ok (.istore_n 3, 1) := by decide +kernel
theorem dX11_move_21 : decode cX11_move 21 = .ok (.aload_n 0, 1) := by decide +kernel
theorem dX11_move_22 : decode cX11_move 22 = .ok (.iload_n 3, 1) := by decide +kernel
theorem dX11_move_23 : decode cX11_move 23 = .ok (.iload_n 3, 1) := by decide +kernel
theorem dX11_move_24 : decode cX11_move 24 = .ok (.ifCond .eq 16, 3) := by decide +kernel
theorem dX11_move_27 : decode cX11_move 27 = .ok (.aload_n 0, 1) := by decide +kernel
theorem dX11_move_28 : decode cX11_move 28 = .ok (.getfield 29, 3) := by decide +kernel
theorem dX11_move_31 : decode cX11_move 31 = .ok (.iload_n 1, 1) := by decide +kernel
theorem dX11_move_32 : decode cX11_move 32 = .ok (.baload, 1) := by decide +kernel
theorem dX11_move_33 : decode cX11_move 33 = .ok (.ifCond .ne 7, 3) := by decide +kernel
theorem dX11_move_36 : decode cX11_move 36 = .ok (.iconst 1, 1) := by decide +kernel
theorem dX11_move_37 : decode cX11_move 37 = .ok (.goto 4, 3) := by decide +kernel
theorem dX11_move_40 : decode cX11_move 40 = .ok (.iconst 0, 1) := by decide +kernel
theorem dX11_move_41 : decode cX11_move 41 = .ok (.invokevirtual 129, 3) := by decide +kernel
theorem dX11_move_44 : decode cX11_move 44 = .ok (.ifCond .ne 5, 3) := by decide +kernel
theorem dX11_move_47 : decode cX11_move 47 = .ok (.iconst 0, 1) := by decide +kernel
theorem dX11_move_48 : decode cX11_move 48 = .ok (.ireturn, 1) := by decide +kernel
theorem dX11_move_49 : decode cX11_move 49 = .ok (.aload_n 0, 1) := by decide +kernel
theorem dX11_move_50 : decode cX11_move 50 = .ok (.iload_n 1, 1) := by decide +kernel
theorem dX11_move_51 : decode cX11_move 51 = .ok (.aload_n 0, 1) := by decide +kernel
theorem dX11_move_52 : decode cX11_move 52 = .ok (.getfield 149, 3) := by decide +kernel
theorem dX11_move_55 : decode cX11_move 55 = .ok (.invokevirtual 159, 3) := by decide +kernel
theorem dX11_move_58 : decode cX11_move 58 = .ok (.istore 4, 2) := by decide +kernel
theorem dX11_move_60 : decode cX11_move 60 = .ok (.aload_n 0, 1) := by decide +kernel
theorem dX11_move_61 : decode cX11_move 61 = .ok (.iload_n 1, 1) := by decide +kernel
theorem dX11_move_62 : decode cX11_move 62 = .ok (.iload_n 2, 1) := by decide +kernel
theorem dX11_move_63 : decode cX11_move 63 = .ok (.invokevirtual 152, 3) := by decide +kernel
theorem dX11_move_66 : decode cX11_move 66 = .ok (.iload 4, 2) := by decide +kernel
theorem dX11_move_68 : decode cX11_move 68 = .ok (.ireturn, 1) := by decide +kernel
theorem dX11_notes_0 : decode cX11_notes 0 = .ok (.aload_n 0, 1) := by decide +kernel
theorem dX11_notes_1 : decode cX11_notes 1 = .ok (.getfield 96, 3) := by decide +kernel
theorem dX11_notes_4 : decode cX11_notes 4 = .ok (.aload_n 0, 1) := by decide +kernel
theorem dX11_notes_5 : decode cX11_notes 5 = .ok (.getfield 162, 3) := by decide +kernel
theorem dX11_notes_8 : decode cX11_notes 8 = .ok (.iload_n 1, 1) := by decide +kernel
theorem dX11_notes_9 : decode cX11_notes 9 = .ok (.iastore, 1) := by decide +kernel
theorem dX11_notes_10 : decode cX11_notes 10 = .ok (.aload_n 0, 1) := by decide +kernel
theorem dX11_notes_11 : decode cX11_notes 11 = .ok (.getfield 99, 3) := by decide +kernel
theorem dX11_notes_14 : decode cX11_notes 14 = .ok (.aload_n 0, 1) := by decide +kernel
theorem dX11_notes_15 : decode cX11_notes 15 = .ok (.getfield 162, 3) := by decide +kernel
theorem dX11_notes_18 : decode cX11_notes 18 = .ok (.iload_n 2, 1) := by decide +kernel
theorem dX11_notes_19 : decode cX11_notes 19 = .ok (.iastore, 1) := by decide +kernel
theorem dX11_notes_20 : decode cX11_notes 20 = .ok (.aload_n 0, 1) := by decide +kernel
theorem dX11_notes_21 : decode cX11_notes 21 = .ok (.getfield 102, 3) := by decide +kernel
theorem dX11_notes_24 : decode cX11_notes 24 = .ok (.aload_n 0, 1) := by decide +kernel
theorem dX11_notes_25 : decode cX11_notes 25 = .ok (.getfield 162, 3) := by decide +kernel
theorem dX11_notes_28 : decode cX11_notes 28 = .ok (.iload_n 3, 1) := by decide +kernel
theorem dX11_notes_29 : decode cX11_notes 29 = .ok (.iastore, 1) := by decide +kernel
theorem dX11_notes_30 : decode cX11_notes 30 = .ok (.aload_n 0, 1) := by decide +kernel
theorem dX11_notes_31 : decode cX11_notes 31 = .ok (.dup, 1) := by decide +kernel
theorem dX11_notes_32 : decode cX11_notes 32 = .ok (.getfield 162, 3) := by decide +kernel
theorem dX11_notes_35 : decode cX11_notes 35 = .ok (.iconst 1, 1) := by decide +kernel
theorem dX11_notes_36 : decode cX11_notes 36 = .ok (.iadd, 1) := by decide +kernel
theorem dX11_notes_37 : decode cX11_notes 37 = .ok (.putfield 162, 3) := by decide +kernel
theorem dX11_notes_40 : decode cX11_notes 40 = .ok (.return_, 1) := by decide +kernel
theorem dX11_sealedOf_0 : decode cX11_sealedOf 0 = .ok (.iconst (-1), 1) := by decide +kernel
theorem dX11_sealedOf_1 : decode cX11_sealedOf 1 = .ok (.istore_n 2, 1) := by decide +kernel
theorem dX11_sealedOf_2 : decode cX11_sealedOf 2 = .ok (.iconst 0, 1) := by decide +kernel
theorem dX11_sealedOf_3 : decode cX11_sealedOf 3 = .ok (.istore_n 3, 1) := by decide +kernel
theorem dX11_sealedOf_4 : decode cX11_sealedOf 4 = .ok (.iload_n 3, 1) := by decide +kernel
theorem dX11_sealedOf_5 : decode cX11_sealedOf 5 = .ok (.aload_n 0, 1) := by decide +kernel
theorem dX11_sealedOf_6 : decode cX11_sealedOf 6 = .ok (.getfield 165, 3) := by decide +kernel
theorem dX11_sealedOf_9 : decode cX11_sealedOf 9 = .ok (.if_icmp .ge 34, 3) := by decide +kernel
theorem dX11_sealedOf_12 : decode cX11_sealedOf 12 = .ok (.aload_n 0, 1) := by decide +kernel
theorem dX11_sealedOf_13 : decode cX11_sealedOf 13 = .ok (.getfield 57, 3) := by decide +kernel
theorem dX11_sealedOf_16 : decode cX11_sealedOf 16 = .ok (.iload_n 3, 1) := by decide +kernel
theorem dX11_sealedOf_17 : decode cX11_sealedOf 17 = .ok (.iaload, 1) := by decide +kernel
theorem dX11_sealedOf_18 : decode cX11_sealedOf 18 = .ok (.iload_n 1, 1) := by decide +kernel
theorem dX11_sealedOf_19 : decode cX11_sealedOf 19 = .ok (.if_icmp .ne 16, 3) := by decide +kernel
theorem dX11_sealedOf_22 : decode cX11_sealedOf 22 = .ok (.aload_n 0, 1) := by decide +kernel
theorem dX11_sealedOf_23 : decode cX11_sealedOf 23 = .ok (.getfield 63, 3) := by decide +kernel
theorem dX11_sealedOf_26 : decode cX11_sealedOf 26 = .ok (.iload_n 3, 1) := by decide +kernel
theorem dX11_sealedOf_27 : decode cX11_sealedOf 27 = .ok (.iaload, 1) := by decide +kernel
theorem dX11_sealedOf_28 : decode cX11_sealedOf 28 = .ok (.ifCond .ne 7, 3) := by decide +kernel
theorem dX11_sealedOf_31 : decode cX11_sealedOf 31 = .ok (.iload_n 3, 1) := by decide +kernel
theorem dX11_sealedOf_32 : decode cX11_sealedOf 32 = .ok (.goto 4, 3) := by decide +kernel
theorem dX11_sealedOf_35 : decode cX11_sealedOf 35 = .ok (.iload_n 2, 1) := by decide +kernel
theorem dX11_sealedOf_36 : decode cX11_sealedOf 36 = .ok (.istore_n 2, 1) := by decide +kernel
theorem dX11_sealedOf_37 : decode cX11_sealedOf 37 = .ok (.iinc 3 1, 3) := by decide +kernel
theorem dX11_sealedOf_40 : decode cX11_sealedOf 40 = .ok (.goto (-36), 3) := by decide +kernel
theorem dX11_sealedOf_43 : decode cX11_sealedOf 43 = .ok (.iload_n 2, 1) := by decide +kernel
theorem dX11_sealedOf_44 : decode cX11_sealedOf 44 = .ok (.ireturn, 1) := by decide +kernel
set_option maxRecDepth 20000 in
theorem ggX11_voids_X11_sealedOf : GoodIn wsX11_voids wsX11_sealedOf := goodIn_ca (goodIn_r _ [7, 8, 9, 1, 18, 19, 20, 21, 22, 23, 24, 25, 26, 27, 28, 29, 30, 31, 32, 33, 34, 35, 36, 37, 38, 39, 40, 41, 42, 43, 44, 45, 46, 47, 48, 49, 50, 51, 52, 53, 54, 55, 56, 57, 58, 59, 60, 61] (by decide +kernel) (by decide +kernel)) (goodIn_sub (fun _ h => List.mem_cons_of_mem _ (List.mem_append_right _ h)) (by decide +kernel))
set_option maxRecDepth 20000 in
theorem gX11_voids_X11_sealedOf : GoodIn wsX11_voids (wsV RX11 168 RX11 yX11_sealedOf wsX11_sealedOf) := goodIn_app (goodIn_of _ (by decide +kernel)) ggX11_voids_X11_sealedOf
set_option maxRecDepth 20000 in
theorem ggX11_voids_X11_notes : GoodIn wsX11_voids wsX11_notes := goodIn_ca (goodIn_r _ [13, 14, 15, 16, 17, 18, 19, 20, 21, 22, 23, 24, 25, 26, 27, 28, 29, 30, 31, 32, 33, 34, 35, 36, 37, 38, 39, 40, 41, 42, 43, 44, 45, 46, 47, 48, 49, 50, 51, 52, 53, 54, 55, 56, 57, 58, 59, 60, 61] (by decide +kernel) (by decide +kernel)) (goodIn_sub (fun _ h => List.mem_cons_of_mem _ (List.mem_append_right _ h)) (by decide +kernel))
set_option maxRecDepth 20000 in
theorem gX11_voids_X11_notes : GoodIn wsX11_voids (wsV RX11 172 RX11 yX11_notes wsX11_notes) := goodIn_app (goodIn_of _ (by decide +kernel)) ggX11_voids_X11_notes
theorem dX11_voids_0 : decode cX11_voids 0 = .ok (.aload_n 0, 1) := by decide +kernel
theorem dX11_voids_1 : decode cX11_voids 1 = .ok (.iload_n 1, 1) := by decide +kernel
theorem dX11_voids_2 : decode cX11_voids 2 = .ok (.invokevirtual 168, 3) := by decide +kernel
theorem dX11_voids_5 : decode cX11_voids 5 = .ok (.istore_n 2, 1) := by decide +kernel
theorem dX11_voids_6 : decode cX11_voids 6 = .ok (.iload_n 2, 1) := by decide +kernel
theorem dX11_voids_7 : decode cX11_voids 7 = .ok (.iconst (-1), 1) := by decide +kernel
theorem dX11_voids_8 : decode cX11_voids 8 = .ok (.if_icmp .eq 21, 3) := by decide +kernel
theorem dX11_voids_11 : decode cX11_voids 11 = .ok (.aload_n 0, 1) := by decide +kernel
theorem dX11_voids_12 : decode cX11_voids 12 = .ok (.getfield 63, 3) := by decide +kernel
theorem dX11_voids_15 : decode cX11_voids 15 = .ok (.iload_n 2, 1) := by decide +kernel
theorem dX11_voids_16 : decode cX11_voids 16 = .ok (.iconst 1, 1) := by decide +kernel
theorem dX11_voids_17 : decode cX11_voids 17 = .ok (.iastore, 1) := by decide +kernel
theorem dX11_voids_18 : decode cX11_voids 18 = .ok (.aload_n 0, 1) := by decide +kernel
theorem dX11_voids_19 : decode cX11_voids 19 = .ok (.aload_n 0, 1) := by decide +kernel
theorem dX11_voids_20 : decode cX11_voids 20 = .ok (.getfield 149, 3) := by decide +kernel
theorem dX11_voids_23 : decode cX11_voids 23 = .ok (.bipush 120, 2) := by decide +kernel
theorem dX11_voids_25 : decode cX11_voids 25 = .ok (.iload_n 1, 1) := by decide +kernel
theorem dX11_voids_26 : decode cX11_voids 26 = .ok (.invokevirtual 172, 3) := by decide +kernel
theorem dX11_voids_29 : decode cX11_voids 29 = .ok (.iload_n 2, 1) := by decide +kernel
theorem dX11_voids_30 : decode cX11_voids 30 = .ok (.iconst (-1), 1) := by decide +kernel
theorem dX11_voids_31 : decode cX11_voids 31 = .ok (.if_icmp .eq 7, 3) := by decide +kernel
theorem dX11_voids_34 : decode cX11_voids 34 = .ok (.iconst 1, 1) := by decide +kernel
theorem dX11_voids_35 : decode cX11_voids 35 = .ok (.goto 4, 3) := by decide +kernel
theorem dX11_voids_38 : decode cX11_voids 38 = .ok (.iconst 0, 1) := by decide +kernel
theorem dX11_voids_39 : decode cX11_voids 39 = .ok (.ireturn, 1) := by decide +kernel
set_option maxRecDepth 20000 in
theorem ggX11_die_X11_isPerson : GoodIn wsX11_die wsX11_isPerson := goodIn_r _ [6, 7, 8, 9, 5, 10, 36, 37, 38, 39, 40, 41, 42, 43, 44, 45, 46, 47, 48, 49, 50, 51, 52, 53, 54, 55, 56, 57, 58, 59, 60, 61, 62, 63, 64, 65, 66, 67, 68, 69, 70, 71, 72, 73, 74, 75, 76, 77, 78, 79] (by decide +kernel) (by decide +kernel)
set_option maxRecDepth 20000 in
theorem gX11_die_X11_isPerson : GoodIn wsX11_die (wsV RX11 156 RX11 yX11_isPerson wsX11_isPerson) := goodIn_app (goodIn_of _ (by decide +kernel)) ggX11_die_X11_isPerson
set_option maxRecDepth 20000 in
theorem ggX11_die_X11_asked_ : GoodIn wsX11_die wsX11_asked_ := goodIn_r _ [14, 15, 36, 37, 38, 39, 40, 41, 42, 43, 44, 45, 46, 47, 48, 49, 50, 51, 52, 53, 54, 55, 56, 57, 58, 59, 60, 61, 62, 63, 64, 65, 66, 67, 68, 69, 70, 71, 72, 73, 74, 75, 76, 77, 78, 79] (by decide +kernel) (by decide +kernel)
set_option maxRecDepth 20000 in
theorem gX11_die_X11_asked_ : GoodIn wsX11_die (wsV RX11 129 RX11 yX11_asked_ wsX11_asked_) := goodIn_app (goodIn_of _ (by decide +kernel)) ggX11_die_X11_asked_
set_option maxRecDepth 20000 in
theorem ggX11_die_X11_voids : GoodIn wsX11_die wsX11_voids := goodIn_ca (goodIn_r _ [19, 20, 21, 22, 23, 24, 5, 25, 26, 27, 28, 29, 30, 31, 32, 33, 34, 35, 36, 37, 38, 39, 40, 41, 42, 43, 44, 45, 46, 47, 48, 49, 50, 51, 52, 53, 54, 55, 56, 57, 58, 59, 60, 61, 62, 63, 64, 65, 66, 67, 68, 69, 70, 71, 72, 73, 74, 75, 76, 77, 78, 79] (by decide +kernel) (by decide +kernel)) (goodIn_sub (fun _ h => List.mem_cons_of_mem _ (List.mem_append_right _ h)) (by decide +kernel))
set_option maxRecDepth 20000 in
theorem gX11_die_X11_voids : GoodIn wsX11_die (wsV RX11 175 RX11 yX11_voids wsX11_voids) := goodIn_app (goodIn_of _ (by decide +kernel)) ggX11_die_X11_voids
theorem dX11_die_0 : decode cX11_die 0 = .ok (.aload_n 0, 1) := by decide +kernel
theorem dX11_die_1 : decode cX11_die 1 = .ok (.iload_n 1, 1) := by decide +kernel
theorem dX11_die_2 : decode cX11_die 2 = .ok (.invokevirtual 156, 3) := by decide +kernel
theorem dX11_die_5 : decode cX11_die 5 = .ok (.istore_n 2, 1) := by decide +kernel
theorem dX11_die_6 : decode cX11_die 6 = .ok (.aload_n 0, 1) := by decide +kernel
theorem dX11_die_7 : decode cX11_die 7 = .ok (.iload_n 2, 1) := by decide +kernel
theorem dX11_die_8 : decode cX11_die 8 = .ok (.iload_n 2, 1) := by decide +kernel
theorem dX11_die_9 : decode cX11_die 9 = .ok (.ifCond .eq 16, 3) := by decide +kernel
theorem dX11_die_12 : decode cX11_die 12 = .ok (.aload_n 0, 1) := by decide +kernel
theorem dX11_die_13 : decode cX11_die 13 = .ok (.getfield 29, 3) := by decide +kernel
theorem dX11_die_16 : decode cX11_die 16 = .ok (.iload_n 1, 1) := by decide +kernel
theorem dX11_die_17 : decode cX11_die 17 = .ok (.baload, 1) := by decide +kernel
theorem dX11_die_18 : decode cX11_die 18 = .ok (.ifCond .ne 7, 3) := by decide +kernel
theorem dX11_die_21 : decode cX11_die 21 = .ok (.iconst 1, 1) := by decide +kernel
theorem dX11_die_22 : decode cX11_die 22 = .ok (.goto 4, 3) := by decide +kernel
theorem dX11_die_25 : decode cX11_die 25 = .ok (.iconst 0, 1) := by decide +kernel
theorem dX11_die_26 : decode cX11_die 26 = .ok (.invokevirtual 129, 3) := by decide +kernel
theorem dX11_die_29 : decode cX11_die 29 = .ok (.ifCond .ne 5, 3) := by decide +kernel
theorem dX11_die_32 : decode cX11_die 32 = .ok (.iconst 0, 1) := by decide +kernel
theorem dX11_die_33 : decode cX11_die 33 = .ok (.ireturn, 1) := by decide +kernel
theorem dX11_die_34 : decode cX11_die 34 = .ok (.aload_n 0, 1) := by decide +kernel
theorem dX11_die_35 : decode cX11_die 35 = .ok (.getfield 29, 3) := by decide +kernel
theorem dX11_die_38 : decode cX11_die 38 = .ok (.iload_n 1, 1) := by decide +kernel
theorem dX11_die_39 : decode cX11_die 39 = .ok (.iconst 1, 1) := by decide +kernel
theorem dX11_die_40 : decode cX11_die 40 = .ok (.bastore, 1) := by decide +kernel
theorem dX11_die_41 : decode cX11_die 41 = .ok (.aload_n 0, 1) := by decide +kernel
theorem dX11_die_42 : decode cX11_die 42 = .ok (.iload_n 1, 1) := by decide +kernel
theorem dX11_die_43 : decode cX11_die 43 = .ok (.invokevirtual 175, 3) := by decide +kernel
theorem dX11_die_46 : decode cX11_die 46 = .ok (.ireturn, 1) := by decide +kernel
set_option maxRecDepth 20000 in
theorem ggX11_dwells_X11_isPerson : GoodIn wsX11_dwells wsX11_isPerson := goodIn_r _ [6, 7, 8, 9, 5, 10, 24, 25, 26, 27, 28, 29, 30, 31, 32, 33, 34, 35, 36, 37, 38, 39, 40, 41, 42, 43, 44, 45, 46, 47, 48, 49, 50, 51, 52, 53, 54, 55, 56, 57, 58, 59, 60, 61, 62, 63, 64, 65, 66, 67] (by decide +kernel) (by decide +kernel)
set_option maxRecDepth 20000 in
theorem gX11_dwells_X11_isPerson : GoodIn wsX11_dwells (wsV RX11 156 RX11 yX11_isPerson wsX11_isPerson) := goodIn_app (goodIn_of _ (by decide +kernel)) ggX11_dwells_X11_isPerson
set_option maxRecDepth 20000 in
theorem ggX11_dwells_X11_in : GoodIn wsX11_dwells wsX11_in := goodIn_r _ [10] (by decide +kernel) (by decide +kernel)
set_option maxRecDepth 20000 in
theorem gX11_dwells_X11_in : GoodIn wsX11_dwells (va_wsS RX11 111 yX11_in wsX11_in) := goodIn_app (goodIn_of _ (by decide +kernel)) ggX11_dwells_X11_in
set_option maxRecDepth 20000 in
theorem ggX11_dwells_X11_asked_ : GoodIn wsX11_dwells wsX11_asked_ := goodIn_r _ [14, 15, 24, 25, 26, 27, 28, 29, 30, 31, 32, 33, 34, 35, 36, 37, 38, 39, 40, 41, 42, 43, 44, 45, 46, 47, 48, 49, 50, 51, 52, 53, 54, 55, 56, 57, 58, 59, 60, 61, 62, 63, 64, 65, 66, 67] (by decide +kernel) (by decide +kernel)
set_option maxRecDepth 20000 in
theorem gX11_dwells_X11_asked_ : GoodIn wsX11_dwells (wsV RX11 129 RX11 yX11_asked_ wsX11_asked_) := goodIn_app (goodIn_of _ (by decide +kernel)) ggX11_dwells_X11_asked_
set_option maxRecDepth 20000 in
theorem ggX11_dwells_X11_dwelt : GoodIn wsX11_dwells wsX11_dwelt := goodIn_ca (goodIn_r _ [19, 20, 21, 22, 23, 24, 25, 26, 27, 28, 29, 30, 31, 32, 33, 34, 35, 36, 37, 38, 39, 40, 41, 42, 43, 44, 45, 46, 47, 48, 49, 50, 51, 52, 53, 54, 55, 56, 57, 58, 59, 60, 61, 62, 63, 64, 65, 66, 67] (by decide +kernel) (by decide +kernel)) (goodIn_sub (fun _ h => List.mem_cons_of_mem _ (List.mem_append_right _ h)) (by decide +kernel))
set_option maxRecDepth 20000 in
theorem gX11_dwells_X11_dwelt : GoodIn wsX11_dwells (wsV RX11 159 RX11 yX11_dwelt wsX11_dwelt) := goodIn_app (goodIn_of _ (by decide +kernel)) ggX11_dwells_X11_dwelt
theorem dX11_dwells_0 : decode cX11_dwells 0 = .ok (.aload_n 0, 1) := by decide +kernel
theorem dX11_dwells_1 : decode cX11_dwells 1 = .ok (.aload_n 0, 1) := by decide +kernel
theorem dX11_dwells_2 : decode cX11_dwells 2 = .ok (.iload_n 1, 1) := by decide +kernel
theorem dX11_dwells_3 : decode cX11_dwells 3 = .ok (.invokevirtual 156, 3) := by decide +kernel
theorem dX11_dwells_6 : decode cX11_dwells 6 = .ok (.iload_n 2, 1) := by decide +kernel
theorem dX11_dwells_7 : decode cX11_dwells 7 = .ok (.iconst 0, 1) := by decide +kernel
theorem dX11_dwells_8 : decode cX11_dwells 8 = .ok (.aload_n 0, 1) := by decide +kernel
theorem dX11_dwells_9 : decode cX11_dwells 9 = .ok (.getfield 149, 3) := by decide +kernel
theorem dX11_dwells_12 : decode cX11_dwells 12 = .ok (.invokestatic 111, 3) := by decide +kernel
theorem dX11_dwells_15 : decode cX11_dwells 15 = .ok (.invokevirtual 129, 3) := by decide +kernel
theorem dX11_dwells_18 : decode cX11_dwells 18 = .ok (.ifCond .eq 12, 3) := by decide +kernel
theorem dX11_dwells_21 : decode cX11_dwells 21 = .ok (.aload_n 0, 1) := by decide +kernel
theorem dX11_dwells_22 : decode cX11_dwells 22 = .ok (.iload_n 1, 1) := by decide +kernel
theorem dX11_dwells_23 : decode cX11_dwells 23 = .ok (.iload_n 2, 1) := by decide +kernel
theorem dX11_dwells_24 : decode cX11_dwells 24 = .ok (.invokevirtual 159, 3) := by decide +kernel
theorem dX11_dwells_27 : decode cX11_dwells 27 = .ok (.goto 4, 3) := by decide +kernel
theorem dX11_dwells_30 : decode cX11_dwells 30 = .ok (.iconst 0, 1) := by decide +kernel
theorem dX11_dwells_31 : decode cX11_dwells 31 = .ok (.ireturn, 1) := by decide +kernel
theorem dX11_clears_0 : decode cX11_clears 0 = .ok (.aload_n 0, 1) := by decide +kernel
theorem dX11_clears_1 : decode cX11_clears 1 = .ok (.iconst 0, 1) := by decide +kernel
theorem dX11_clears_2 : decode cX11_clears 2 = .ok (.putfield 178, 3) := by decide +kernel
theorem dX11_clears_5 : decode cX11_clears 5 = .ok (.aload_n 0, 1) := by decide +kernel
theorem dX11_clears_6 : decode cX11_clears 6 = .ok (.iconst 0, 1) := by decide +kernel
theorem dX11_clears_7 : decode cX11_clears 7 = .ok (.putfield 165, 3) := by decide +kernel
theorem dX11_clears_10 : decode cX11_clears 10 = .ok (.aload_n 0, 1) := by decide +kernel
theorem dX11_clears_11 : decode cX11_clears 11 = .ok (.iconst 0, 1) := by decide +kernel
theorem dX11_clears_12 : decode cX11_clears 12 = .ok (.putfield 162, 3) := by decide +kernel
theorem dX11_clears_15 : decode cX11_clears 15 = .ok (.iconst 0, 1) := by decide +kernel
theorem dX11_clears_16 : decode cX11_clears 16 = .ok (.istore_n 1, 1) := by decide +kernel
theorem dX11_clears_17 : decode cX11_clears 17 = .ok (.iload_n 1, 1) := by decide +kernel
theorem dX11_clears_18 : decode cX11_clears 18 = .ok (.bipush 20, 2) := by decide +kernel
theorem dX11_clears_20 : decode cX11_clears 20 = .ok (.if_icmp .ge 23, 3) := by decide +kernel
theorem dX11_clears_23 : decode cX11_clears 23 = .ok (.aload_n 0, 1) := by decide +kernel
theorem dX11_clears_24 : decode cX11_clears 24 = .ok (.getfield 48, 3) := by decide +kernel
theorem dX11_clears_27 : decode cX11_clears 27 = .ok (.iload_n 1, 1) := by decide +kernel
theorem dX11_clears_28 : decode cX11_clears 28 = .ok (.iconst (-1), 1) := by decide +kernel
theorem dX11_clears_29 : decode cX11_clears 29 = .ok (.iastore, 1) := by decide +kernel
theorem dX11_clears_30 : decode cX11_clears 30 = .ok (.aload_n 0, 1) := by decide +kernel
theorem dX11_clears_31 : decode cX11_clears 31 = .ok (.getfield 54, 3) := by decide +kernel
theorem dX11_clears_34 : decode cX11_clears 34 = .ok (.iload_n 1, 1) := by decide +kernel
theorem dX11_clears_35 : decode cX11_clears 35 = .ok (.iconst 0, 1) := by decide +kernel
theorem dX11_clears_36 : decode cX11_clears 36 = .ok (.bastore, 1) := by decide +kernel
theorem dX11_clears_37 : decode cX11_clears 37 = .ok (.iinc 1 1, 3) := by decide +kernel
theorem dX11_clears_40 : decode cX11_clears 40 = .ok (.goto (-23), 3) := by decide +kernel
theorem dX11_clears_43 : decode cX11_clears 43 = .ok (.iconst 0, 1) := by decide +kernel
theorem dX11_clears_44 : decode cX11_clears 44 = .ok (.istore_n 1, 1) := by decide +kernel
theorem dX11_clears_45 : decode cX11_clears 45 = .ok (.iload_n 1, 1) := by decide +kernel
theorem dX11_clears_46 : decode cX11_clears 46 = .ok (.iconst 5, 1) := by decide +kernel
theorem dX11_clears_47 : decode cX11_clears 47 = .ok (.if_icmp .ge 44, 3) := by decide +kernel
theorem dX11_clears_50 : decode cX11_clears 50 = .ok (.aload_n 0, 1) := by decide +kernel
theorem dX11_clears_51 : decode cX11_clears 51 = .ok (.getfield 45, 3) := by decide +kernel
theorem dX11_clears_54 : decode cX11_clears 54 = .ok (.iload_n 1, 1) := by decide +kernel
theorem dX11_clears_55 : decode cX11_clears 55 = .ok (.iconst 0, 1) := by decide +kernel
theorem dX11_clears_56 : decode cX11_clears 56 = .ok (.iastore, 1) := by decide +kernel
theorem dX11_clears_57 : decode cX11_clears 57 = .ok (.aload_n 0, 1) := by decide +kernel
theorem dX11_clears_58 : decode cX11_clears 58 = .ok (.getfield 51, 3) := by decide +kernel
theorem dX11_clears_61 : decode cX11_clears 61 = .ok (.iload_n 1, 1) := by decide +kernel
theorem dX11_clears_62 : decode cX11_clears 62 = .ok (.iconst 0, 1) := by decide +kernel
theorem dX11_clears_63 : decode cX11_clears 63 = .ok (.iastore, 1) := by decide +kernel
theorem dX11_clears_64 : decode cX11_clears 64 = .ok (.aload_n 0, 1) := by decide +kernel
theorem dX11_clears_65 : decode cX11_clears 65 = .ok (.getfield 69, 3) := by decide +kernel
theorem dX11_clears_68 : decode cX11_clears 68 = .ok (.iload_n 1, 1) := by decide +kernel
theorem dX11_clears_69 : decode cX11_clears 69 = .ok (.iconst 0, 1) := by decide +kernel
theorem dX11_clears_70 : decode cX11_clears 70 = .ok (.iastore, 1) := by decide +kernel
theorem dX11_clears_71 : decode cX11_clears 71 = .ok (.aload_n 0, 1) := by decide +kernel
theorem dX11_clears_72 : decode cX11_clears 72 = .ok (.getfield 78, 3) := by decide +kernel
