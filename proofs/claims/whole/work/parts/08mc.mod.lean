theorem dX11_clears_75 : decode cX11_clears 75 = .ok (.iload_n 1, 1) := by decide +kernel
theorem dX11_clears_76 : decode cX11_clears 76 = .ok (.iconst 0, 1) := by decide +kernel
theorem dX11_clears_77 : decode cX11_clears 77 = .ok (.iastore, 1) := by decide +kernel
theorem dX11_clears_78 : decode cX11_clears 78 = .ok (.aload_n 0, 1) := by decide +kernel
theorem dX11_clears_79 : decode cX11_clears 79 = .ok (.getfield 81, 3) := by decide +kernel
theorem dX11_clears_82 : decode cX11_clears 82 = .ok (.iload_n 1, 1) := by decide +kernel
theorem dX11_clears_83 : decode cX11_clears 83 = .ok (.iconst (-1), 1) := by decide +kernel
theorem dX11_clears_84 : decode cX11_clears 84 = .ok (.iastore, 1) := by decide +kernel
theorem dX11_clears_85 : decode cX11_clears 85 = .ok (.iinc 1 1, 3) := by decide +kernel
theorem dX11_clears_88 : decode cX11_clears 88 = .ok (.goto (-43), 3) := by decide +kernel
theorem dX11_clears_91 : decode cX11_clears 91 = .ok (.return_, 1) := by decide +kernel
set_option maxRecDepth 20000 in
theorem ggX11_call_X11_in : GoodIn wsX11_call wsX11_in := goodIn_r _ [10] (by decide +kernel) (by decide +kernel)
set_option maxRecDepth 20000 in
theorem gX11_call_X11_in : GoodIn wsX11_call (va_wsS RX11 111 yX11_in wsX11_in) := goodIn_app (goodIn_of _ (by decide +kernel)) ggX11_call_X11_in
set_option maxRecDepth 20000 in
theorem ggX11_call_X11_asked_ : GoodIn wsX11_call wsX11_asked_ := goodIn_r _ [14, 15, 30, 31, 32, 33, 34, 35, 36, 37, 38, 39, 40, 41, 42, 43, 44, 45, 46, 47, 48, 49, 50, 51, 52, 53, 54, 55, 56, 57, 58, 59, 60, 61, 62, 63, 64, 65, 66, 67, 68, 69, 70, 71, 72, 73] (by decide +kernel) (by decide +kernel)
set_option maxRecDepth 20000 in
theorem gX11_call_X11_asked_ : GoodIn wsX11_call (wsV RX11 129 RX11 yX11_asked_ wsX11_asked_) := goodIn_app (goodIn_of _ (by decide +kernel)) ggX11_call_X11_asked_
set_option maxRecDepth 20000 in
theorem ggX11_call_X11_clears : GoodIn wsX11_call wsX11_clears := goodIn_ca (goodIn_r _ [19, 20, 21, 22, 23, 24, 25, 26, 27, 28, 29, 30, 31, 32, 33, 34, 35, 36, 37, 38, 39, 40, 41, 42, 43, 44, 45, 46, 47, 48, 49, 50, 51, 52, 53, 54, 55, 56, 57, 58, 59, 60, 61, 62, 63, 64, 65, 66, 67, 68, 69, 70, 71, 72, 73] (by decide +kernel) (by decide +kernel)) (goodIn_sub (fun _ h => List.mem_cons_of_mem _ (List.mem_append_right _ h)) (by decide +kernel))
set_option maxRecDepth 20000 in
theorem gX11_call_X11_clears : GoodIn wsX11_call (wsV RX11 105 RX11 yX11_clears wsX11_clears) := goodIn_app (goodIn_of _ (by decide +kernel)) ggX11_call_X11_clears
theorem dX11_call_0 : decode cX11_call 0 = .ok (.iload_n 1, 1) := by decide +kernel
theorem dX11_call_1 : decode cX11_call 1 = .ok (.bipush 8, 2) := by decide +kernel
theorem dX11_call_3 : decode cX11_call 3 = .ok (.bipush 100, 2) := by decide +kernel
theorem dX11_call_5 : decode cX11_call 5 = .ok (.invokestatic 111, 3) := by decide +kernel
theorem dX11_call_8 : decode cX11_call 8 = .ok (.ifCond .eq 17, 3) := by decide +kernel
theorem dX11_call_11 : decode cX11_call 11 = .ok (.iload_n 2, 1) := by decide +kernel
theorem dX11_call_12 : decode cX11_call 12 = .ok (.iconst 0, 1) := by decide +kernel
theorem dX11_call_13 : decode cX11_call 13 = .ok (.bipush 30, 2) := by decide +kernel
theorem dX11_call_15 : decode cX11_call 15 = .ok (.invokestatic 111, 3) := by decide +kernel
theorem dX11_call_18 : decode cX11_call 18 = .ok (.ifCond .eq 7, 3) := by decide +kernel
theorem dX11_call_21 : decode cX11_call 21 = .ok (.iconst 1, 1) := by decide +kernel
theorem dX11_call_22 : decode cX11_call 22 = .ok (.goto 4, 3) := by decide +kernel
theorem dX11_call_25 : decode cX11_call 25 = .ok (.iconst 0, 1) := by decide +kernel
theorem dX11_call_26 : decode cX11_call 26 = .ok (.istore 4, 2) := by decide +kernel
theorem dX11_call_28 : decode cX11_call 28 = .ok (.aload_n 0, 1) := by decide +kernel
theorem dX11_call_29 : decode cX11_call 29 = .ok (.iload 4, 2) := by decide +kernel
theorem dX11_call_31 : decode cX11_call 31 = .ok (.iload 4, 2) := by decide +kernel
theorem dX11_call_33 : decode cX11_call 33 = .ok (.ifCond .eq 41, 3) := by decide +kernel
theorem dX11_call_36 : decode cX11_call 36 = .ok (.aload_n 0, 1) := by decide +kernel
theorem dX11_call_37 : decode cX11_call 37 = .ok (.getfield 41, 3) := by decide +kernel
theorem dX11_call_40 : decode cX11_call 40 = .ok (.ifCond .eq 11, 3) := by decide +kernel
theorem dX11_call_43 : decode cX11_call 43 = .ok (.aload_n 0, 1) := by decide +kernel
theorem dX11_call_44 : decode cX11_call 44 = .ok (.getfield 41, 3) := by decide +kernel
theorem dX11_call_47 : decode cX11_call 47 = .ok (.iconst 5, 1) := by decide +kernel
theorem dX11_call_48 : decode cX11_call 48 = .ok (.if_icmp .ne 26, 3) := by decide +kernel
theorem dX11_call_51 : decode cX11_call 51 = .ok (.aload_n 0, 1) := by decide +kernel
theorem dX11_call_52 : decode cX11_call 52 = .ok (.getfield 115, 3) := by decide +kernel
theorem dX11_call_55 : decode cX11_call 55 = .ok (.ifCond .le 19, 3) := by decide +kernel
theorem dX11_call_58 : decode cX11_call 58 = .ok (.aload_n 0, 1) := by decide +kernel
theorem dX11_call_59 : decode cX11_call 59 = .ok (.getfield 149, 3) := by decide +kernel
theorem dX11_call_62 : decode cX11_call 62 = .ok (.iload_n 1, 1) := by decide +kernel
theorem dX11_call_63 : decode cX11_call 63 = .ok (.iadd, 1) := by decide +kernel
theorem dX11_call_64 : decode cX11_call 64 = .ok (.sipush 2000, 3) := by decide +kernel
theorem dX11_call_67 : decode cX11_call 67 = .ok (.if_icmp .gt 7, 3) := by decide +kernel
theorem dX11_call_70 : decode cX11_call 70 = .ok (.iconst 1, 1) := by decide +kernel
theorem dX11_call_71 : decode cX11_call 71 = .ok (.goto 4, 3) := by decide +kernel
theorem dX11_call_74 : decode cX11_call 74 = .ok (.iconst 0, 1) := by decide +kernel
theorem dX11_call_75 : decode cX11_call 75 = .ok (.invokevirtual 129, 3) := by decide +kernel
theorem dX11_call_78 : decode cX11_call 78 = .ok (.ifCond .ne 5, 3) := by decide +kernel
theorem dX11_call_81 : decode cX11_call 81 = .ok (.iconst 0, 1) := by decide +kernel
theorem dX11_call_82 : decode cX11_call 82 = .ok (.ireturn, 1) := by decide +kernel
theorem dX11_call_83 : decode cX11_call 83 = .ok (.aload_n 0, 1) := by decide +kernel
theorem dX11_call_84 : decode cX11_call 84 = .ok (.invokevirtual 105, 3) := by decide +kernel
theorem dX11_call_87 : decode cX11_call 87 = .ok (.aload_n 0, 1) := by decide +kernel
theorem dX11_call_88 : decode cX11_call 88 = .ok (.iconst 1, 1) := by decide +kernel
theorem dX11_call_89 : decode cX11_call 89 = .ok (.putfield 41, 3) := by decide +kernel
theorem dX11_call_92 : decode cX11_call 92 = .ok (.aload_n 0, 1) := by decide +kernel
theorem dX11_call_93 : decode cX11_call 93 = .ok (.aload_n 0, 1) := by decide +kernel
theorem dX11_call_94 : decode cX11_call 94 = .ok (.getfield 149, 3) := by decide +kernel
theorem dX11_call_97 : decode cX11_call 97 = .ok (.iload_n 1, 1) := by decide +kernel
theorem dX11_call_98 : decode cX11_call 98 = .ok (.iadd, 1) := by decide +kernel
theorem dX11_call_99 : decode cX11_call 99 = .ok (.putfield 181, 3) := by decide +kernel
theorem dX11_call_102 : decode cX11_call 102 = .ok (.aload_n 0, 1) := by decide +kernel
theorem dX11_call_103 : decode cX11_call 103 = .ok (.iload_n 2, 1) := by decide +kernel
theorem dX11_call_104 : decode cX11_call 104 = .ok (.putfield 184, 3) := by decide +kernel
theorem dX11_call_107 : decode cX11_call 107 = .ok (.aload_n 0, 1) := by decide +kernel
theorem dX11_call_108 : decode cX11_call 108 = .ok (.iload_n 3, 1) := by decide +kernel
theorem dX11_call_109 : decode cX11_call 109 = .ok (.putfield 187, 3) := by decide +kernel
theorem dX11_call_112 : decode cX11_call 112 = .ok (.aload_n 0, 1) := by decide +kernel
theorem dX11_call_113 : decode cX11_call 113 = .ok (.getfield 181, 3) := by decide +kernel
theorem dX11_call_116 : decode cX11_call 116 = .ok (.ireturn, 1) := by decide +kernel
set_option maxRecDepth 20000 in
theorem ggX11_seed_X11_in : GoodIn wsX11_seed wsX11_in := goodIn_r _ [6] (by decide +kernel) (by decide +kernel)
set_option maxRecDepth 20000 in
theorem gX11_seed_X11_in : GoodIn wsX11_seed (va_wsS RX11 111 yX11_in wsX11_in) := goodIn_app (goodIn_of _ (by decide +kernel)) ggX11_seed_X11_in
set_option maxRecDepth 20000 in
theorem ggX11_seed_X11_asked__ : GoodIn wsX11_seed wsX11_asked__ := goodIn_r _ [10, 11, 12, 13, 14, 15, 16, 17, 18, 19, 20, 21, 22, 23, 24, 25, 26, 27, 28, 29, 30, 31, 32, 33, 34, 35, 36, 37, 38, 39, 40, 41, 42, 43, 44, 45, 46, 47, 48, 49, 50, 51, 52, 53, 54, 55] (by decide +kernel) (by decide +kernel)
set_option maxRecDepth 20000 in
theorem gX11_seed_X11_asked__ : GoodIn wsX11_seed (wsV RX11 140 RX11 yX11_asked__ wsX11_asked__) := goodIn_app (goodIn_of _ (by decide +kernel)) ggX11_seed_X11_asked__
theorem dX11_seed_0 : decode cX11_seed 0 = .ok (.iload_n 1, 1) := by decide +kernel
theorem dX11_seed_1 : decode cX11_seed 1 = .ok (.iconst 0, 1) := by decide +kernel
theorem dX11_seed_2 : decode cX11_seed 2 = .ok (.iconst 4, 1) := by decide +kernel
theorem dX11_seed_3 : decode cX11_seed 3 = .ok (.invokestatic 111, 3) := by decide +kernel
theorem dX11_seed_6 : decode cX11_seed 6 = .ok (.istore_n 3, 1) := by decide +kernel
theorem dX11_seed_7 : decode cX11_seed 7 = .ok (.aload_n 0, 1) := by decide +kernel
theorem dX11_seed_8 : decode cX11_seed 8 = .ok (.iload_n 3, 1) := by decide +kernel
theorem dX11_seed_9 : decode cX11_seed 9 = .ok (.iload_n 2, 1) := by decide +kernel
theorem dX11_seed_10 : decode cX11_seed 10 = .ok (.iconst 0, 1) := by decide +kernel
theorem dX11_seed_11 : decode cX11_seed 11 = .ok (.sipush 9999, 3) := by decide +kernel
theorem dX11_seed_14 : decode cX11_seed 14 = .ok (.invokestatic 111, 3) := by decide +kernel
theorem dX11_seed_17 : decode cX11_seed 17 = .ok (.aload_n 0, 1) := by decide +kernel
theorem dX11_seed_18 : decode cX11_seed 18 = .ok (.getfield 41, 3) := by decide +kernel
theorem dX11_seed_21 : decode cX11_seed 21 = .ok (.iconst 1, 1) := by decide +kernel
theorem dX11_seed_22 : decode cX11_seed 22 = .ok (.if_icmp .eq 11, 3) := by decide +kernel
theorem dX11_seed_25 : decode cX11_seed 25 = .ok (.aload_n 0, 1) := by decide +kernel
theorem dX11_seed_26 : decode cX11_seed 26 = .ok (.getfield 41, 3) := by decide +kernel
theorem dX11_seed_29 : decode cX11_seed 29 = .ok (.iconst 2, 1) := by decide +kernel
theorem dX11_seed_30 : decode cX11_seed 30 = .ok (.if_icmp .ne 7, 3) := by decide +kernel
theorem dX11_seed_33 : decode cX11_seed 33 = .ok (.iconst 1, 1) := by decide +kernel
theorem dX11_seed_34 : decode cX11_seed 34 = .ok (.goto 4, 3) := by decide +kernel
theorem dX11_seed_37 : decode cX11_seed 37 = .ok (.iconst 0, 1) := by decide +kernel
theorem dX11_seed_38 : decode cX11_seed 38 = .ok (.invokevirtual 140, 3) := by decide +kernel
theorem dX11_seed_41 : decode cX11_seed 41 = .ok (.ifCond .ne 5, 3) := by decide +kernel
theorem dX11_seed_44 : decode cX11_seed 44 = .ok (.iconst 0, 1) := by decide +kernel
theorem dX11_seed_45 : decode cX11_seed 45 = .ok (.ireturn, 1) := by decide +kernel
theorem dX11_seed_46 : decode cX11_seed 46 = .ok (.aload_n 0, 1) := by decide +kernel
theorem dX11_seed_47 : decode cX11_seed 47 = .ok (.getfield 45, 3) := by decide +kernel
theorem dX11_seed_50 : decode cX11_seed 50 = .ok (.iload_n 1, 1) := by decide +kernel
theorem dX11_seed_51 : decode cX11_seed 51 = .ok (.iaload, 1) := by decide +kernel
theorem dX11_seed_52 : decode cX11_seed 52 = .ok (.istore 4, 2) := by decide +kernel
theorem dX11_seed_54 : decode cX11_seed 54 = .ok (.aload_n 0, 1) := by decide +kernel
theorem dX11_seed_55 : decode cX11_seed 55 = .ok (.getfield 45, 3) := by decide +kernel
theorem dX11_seed_58 : decode cX11_seed 58 = .ok (.iload_n 1, 1) := by decide +kernel
theorem dX11_seed_59 : decode cX11_seed 59 = .ok (.iload_n 2, 1) := by decide +kernel
theorem dX11_seed_60 : decode cX11_seed 60 = .ok (.iastore, 1) := by decide +kernel
theorem dX11_seed_61 : decode cX11_seed 61 = .ok (.iload 4, 2) := by decide +kernel
theorem dX11_seed_63 : decode cX11_seed 63 = .ok (.ireturn, 1) := by decide +kernel
theorem dX11_stationFor_0 : decode cX11_stationFor 0 = .ok (.iconst (-1), 1) := by decide +kernel
theorem dX11_stationFor_1 : decode cX11_stationFor 1 = .ok (.istore_n 1, 1) := by decide +kernel
theorem dX11_stationFor_2 : decode cX11_stationFor 2 = .ok (.iconst 0, 1) := by decide +kernel
theorem dX11_stationFor_3 : decode cX11_stationFor 3 = .ok (.istore_n 2, 1) := by decide +kernel
theorem dX11_stationFor_4 : decode cX11_stationFor 4 = .ok (.iload_n 2, 1) := by decide +kernel
theorem dX11_stationFor_5 : decode cX11_stationFor 5 = .ok (.aload_n 0, 1) := by decide +kernel
theorem dX11_stationFor_6 : decode cX11_stationFor 6 = .ok (.getfield 178, 3) := by decide +kernel
theorem dX11_stationFor_9 : decode cX11_stationFor 9 = .ok (.if_icmp .ge 67, 3) := by decide +kernel
theorem dX11_stationFor_12 : decode cX11_stationFor 12 = .ok (.aload_n 0, 1) := by decide +kernel
theorem dX11_stationFor_13 : decode cX11_stationFor 13 = .ok (.getfield 13, 3) := by decide +kernel
theorem dX11_stationFor_16 : decode cX11_stationFor 16 = .ok (.aload_n 0, 1) := by decide +kernel
theorem dX11_stationFor_17 : decode cX11_stationFor 17 = .ok (.getfield 20, 3) := by decide +kernel
theorem dX11_stationFor_20 : decode cX11_stationFor 20 = .ok (.iload_n 2, 1) := by decide +kernel
theorem dX11_stationFor_21 : decode cX11_stationFor 21 = .ok (.iaload, 1) := by decide +kernel
theorem dX11_stationFor_22 : decode cX11_stationFor 22 = .ok (.iaload, 1) := by decide +kernel
theorem dX11_stationFor_23 : decode cX11_stationFor 23 = .ok (.istore_n 3, 1) := by decide +kernel
theorem dX11_stationFor_24 : decode cX11_stationFor 24 = .ok (.iload_n 3, 1) := by decide +kernel
theorem dX11_stationFor_25 : decode cX11_stationFor 25 = .ok (.iconst (-1), 1) := by decide +kernel
theorem dX11_stationFor_26 : decode cX11_stationFor 26 = .ok (.if_icmp .eq 42, 3) := by decide +kernel
theorem dX11_stationFor_29 : decode cX11_stationFor 29 = .ok (.aload_n 0, 1) := by decide +kernel
theorem dX11_stationFor_30 : decode cX11_stationFor 30 = .ok (.getfield 51, 3) := by decide +kernel
theorem dX11_stationFor_33 : decode cX11_stationFor 33 = .ok (.iload_n 2, 1) := by decide +kernel
theorem dX11_stationFor_34 : decode cX11_stationFor 34 = .ok (.iaload, 1) := by decide +kernel
theorem dX11_stationFor_35 : decode cX11_stationFor 35 = .ok (.aload_n 0, 1) := by decide +kernel
theorem dX11_stationFor_36 : decode cX11_stationFor 36 = .ok (.getfield 23, 3) := by decide +kernel
theorem dX11_stationFor_39 : decode cX11_stationFor 39 = .ok (.iload_n 2, 1) := by decide +kernel
theorem dX11_stationFor_40 : decode cX11_stationFor 40 = .ok (.iaload, 1) := by decide +kernel
theorem dX11_stationFor_41 : decode cX11_stationFor 41 = .ok (.if_icmp .ge 27, 3) := by decide +kernel
theorem dX11_stationFor_44 : decode cX11_stationFor 44 = .ok (.iload_n 1, 1) := by decide +kernel
theorem dX11_stationFor_45 : decode cX11_stationFor 45 = .ok (.iconst (-1), 1) := by decide +kernel
theorem dX11_stationFor_46 : decode cX11_stationFor 46 = .ok (.if_icmp .eq 18, 3) := by decide +kernel
theorem dX11_stationFor_49 : decode cX11_stationFor 49 = .ok (.iload_n 3, 1) := by decide +kernel
theorem dX11_stationFor_50 : decode cX11_stationFor 50 = .ok (.aload_n 0, 1) := by decide +kernel
theorem dX11_stationFor_51 : decode cX11_stationFor 51 = .ok (.getfield 13, 3) := by decide +kernel
theorem dX11_stationFor_54 : decode cX11_stationFor 54 = .ok (.aload_n 0, 1) := by decide +kernel
theorem dX11_stationFor_55 : decode cX11_stationFor 55 = .ok (.getfield 20, 3) := by decide +kernel
theorem dX11_stationFor_58 : decode cX11_stationFor 58 = .ok (.iload_n 1, 1) := by decide +kernel
theorem dX11_stationFor_59 : decode cX11_stationFor 59 = .ok (.iaload, 1) := by decide +kernel
theorem dX11_stationFor_60 : decode cX11_stationFor 60 = .ok (.iaload, 1) := by decide +kernel
theorem dX11_stationFor_61 : decode cX11_stationFor 61 = .ok (.if_icmp .ge 7, 3) := by decide +kernel
theorem dX11_stationFor_64 : decode cX11_stationFor 64 = .ok (.iload_n 2, 1) := by decide +kernel
theorem dX11_stationFor_65 : decode cX11_stationFor 65 = .ok (.goto 4, 3) := by decide +kernel
theorem dX11_stationFor_68 : decode cX11_stationFor 68 = .ok (.iload_n 1, 1) := by decide +kernel
theorem dX11_stationFor_69 : decode cX11_stationFor 69 = .ok (.istore_n 1, 1) := by decide +kernel
theorem dX11_stationFor_70 : decode cX11_stationFor 70 = .ok (.iinc 2 1, 3) := by decide +kernel
theorem dX11_stationFor_73 : decode cX11_stationFor 73 = .ok (.goto (-69), 3) := by decide +kernel
theorem dX11_stationFor_76 : decode cX11_stationFor 76 = .ok (.iload_n 1, 1) := by decide +kernel
theorem dX11_stationFor_77 : decode cX11_stationFor 77 = .ok (.iconst (-1), 1) := by decide +kernel
theorem dX11_stationFor_78 : decode cX11_stationFor 78 = .ok (.if_icmp .eq 5, 3) := by decide +kernel
theorem dX11_stationFor_81 : decode cX11_stationFor 81 = .ok (.iload_n 1, 1) := by decide +kernel
theorem dX11_stationFor_82 : decode cX11_stationFor 82 = .ok (.ireturn, 1) := by decide +kernel
theorem dX11_stationFor_83 : decode cX11_stationFor 83 = .ok (.iconst 0, 1) := by decide +kernel
theorem dX11_stationFor_84 : decode cX11_stationFor 84 = .ok (.istore_n 2, 1) := by decide +kernel
theorem dX11_stationFor_85 : decode cX11_stationFor 85 = .ok (.iload_n 2, 1) := by decide +kernel
theorem dX11_stationFor_86 : decode cX11_stationFor 86 = .ok (.aload_n 0, 1) := by decide +kernel
theorem dX11_stationFor_87 : decode cX11_stationFor 87 = .ok (.getfield 178, 3) := by decide +kernel
theorem dX11_stationFor_90 : decode cX11_stationFor 90 = .ok (.if_icmp .ge 50, 3) := by decide +kernel
theorem dX11_stationFor_93 : decode cX11_stationFor 93 = .ok (.aload_n 0, 1) := by decide +kernel
theorem dX11_stationFor_94 : decode cX11_stationFor 94 = .ok (.getfield 13, 3) := by decide +kernel
theorem dX11_stationFor_97 : decode cX11_stationFor 97 = .ok (.aload_n 0, 1) := by decide +kernel
theorem dX11_stationFor_98 : decode cX11_stationFor 98 = .ok (.getfield 20, 3) := by decide +kernel
theorem dX11_stationFor_101 : decode cX11_stationFor 101 = .ok (.iload_n 2, 1) := by decide +kernel
theorem dX11_stationFor_102 : decode cX11_stationFor 102 = .ok (.iaload, 1) := by decide +kernel
theorem dX11_stationFor_103 : decode cX11_stationFor 103 = .ok (.iaload, 1) := by decide +kernel
theorem dX11_stationFor_104 : decode cX11_stationFor 104 = .ok (.iconst (-1), 1) := by decide +kernel
theorem dX11_stationFor_105 : decode cX11_stationFor 105 = .ok (.if_icmp .eq 27, 3) := by decide +kernel
theorem dX11_stationFor_108 : decode cX11_stationFor 108 = .ok (.iload_n 1, 1) := by decide +kernel
theorem dX11_stationFor_109 : decode cX11_stationFor 109 = .ok (.iconst (-1), 1) := by decide +kernel
theorem dX11_stationFor_110 : decode cX11_stationFor 110 = .ok (.if_icmp .eq 18, 3) := by decide +kernel
theorem dX11_stationFor_113 : decode cX11_stationFor 113 = .ok (.aload_n 0, 1) := by decide +kernel
theorem dX11_stationFor_114 : decode cX11_stationFor 114 = .ok (.getfield 51, 3) := by decide +kernel
theorem dX11_stationFor_117 : decode cX11_stationFor 117 = .ok (.iload_n 2, 1) := by decide +kernel
theorem dX11_stationFor_118 : decode cX11_stationFor 118 = .ok (.iaload, 1) := by decide +kernel
theorem dX11_stationFor_119 : decode cX11_stationFor 119 = .ok (.aload_n 0, 1) := by decide +kernel
theorem dX11_stationFor_120 : decode cX11_stationFor 120 = .ok (.getfield 51, 3) := by decide +kernel
theorem dX11_stationFor_123 : decode cX11_stationFor 123 = .ok (.iload_n 1, 1) := by decide +kernel
theorem dX11_stationFor_124 : decode cX11_stationFor 124 = .ok (.iaload, 1) := by decide +kernel
theorem dX11_stationFor_125 : decode cX11_stationFor 125 = .ok (.if_icmp .ge 7, 3) := by decide +kernel
theorem dX11_stationFor_128 : decode cX11_stationFor 128 = .ok (.iload_n 2, 1) := by decide +kernel
theorem dX11_stationFor_129 : decode cX11_stationFor 129 = .ok (.goto 4, 3) := by decide +kernel
theorem dX11_stationFor_132 : decode cX11_stationFor 132 = .ok (.iload_n 1, 1) := by decide +kernel
theorem dX11_stationFor_133 : decode cX11_stationFor 133 = .ok (.istore_n 1, 1) := by decide +kernel
theorem dX11_stationFor_134 : decode cX11_stationFor 134 = .ok (.iinc 2 1, 3) := by decide +kernel
theorem dX11_stationFor_137 : decode cX11_stationFor 137 = .ok (.goto (-52), 3) := by decide +kernel
theorem dX11_stationFor_140 : decode cX11_stationFor 140 = .ok (.iload_n 1, 1) := by decide +kernel
theorem dX11_stationFor_141 : decode cX11_stationFor 141 = .ok (.iconst (-1), 1) := by decide +kernel
theorem dX11_stationFor_142 : decode cX11_stationFor 142 = .ok (.if_icmp .ne 7, 3) := by decide +kernel
theorem dX11_stationFor_145 : decode cX11_stationFor 145 = .ok (.iconst 0, 1) := by decide +kernel
theorem dX11_stationFor_146 : decode cX11_stationFor 146 = .ok (.goto 4, 3) := by decide +kernel
theorem dX11_stationFor_149 : decode cX11_stationFor 149 = .ok (.iload_n 1, 1) := by decide +kernel
theorem dX11_stationFor_150 : decode cX11_stationFor 150 = .ok (.ireturn, 1) := by decide +kernel
set_option maxRecDepth 20000 in
theorem ggX11_makesRoll_X11_dwelt : GoodIn wsX11_makesRoll wsX11_dwelt := goodIn_ca (goodIn_r _ [14, 15, 16, 17, 18, 35, 36, 37, 38, 39, 40, 41, 42, 43, 44, 45, 46, 47, 48, 49, 50, 51, 52, 53, 54, 55, 56, 57, 58, 59, 60, 61, 62, 63, 64, 65, 66, 67, 68, 69, 70, 71, 72, 73, 74, 75, 76, 77, 78] (by decide +kernel) (by decide +kernel)) (goodIn_sub (fun _ h => List.mem_cons_of_mem _ (List.mem_append_right _ h)) (by decide +kernel))
set_option maxRecDepth 20000 in
theorem gX11_makesRoll_X11_dwelt : GoodIn wsX11_makesRoll (wsV RX11 159 RX11 yX11_dwelt wsX11_dwelt) := goodIn_app (goodIn_of _ (by decide +kernel)) ggX11_makesRoll_X11_dwelt
set_option maxRecDepth 20000 in
theorem ggX11_makesRoll_X11_finds : GoodIn wsX11_makesRoll wsX11_finds := goodIn_ca (goodIn_r _ [22, 23, 24, 25, 26, 27, 13, 28, 35, 36, 37, 38, 39, 40, 41, 42, 43, 44, 45, 46, 47, 48, 49, 50, 51, 52, 53, 54, 55, 56, 57, 58, 59, 60, 61, 62, 63, 64, 65, 66, 67, 68, 69, 70, 71, 72, 73, 74, 75, 76, 77, 78] (by decide +kernel) (by decide +kernel)) (goodIn_sub (fun _ h => List.mem_cons_of_mem _ (List.mem_append_right _ h)) (by decide +kernel))
set_option maxRecDepth 20000 in
theorem gX11_makesRoll_X11_finds : GoodIn wsX11_makesRoll (wsV RX11 136 RX11 yX11_finds wsX11_finds) := goodIn_app (goodIn_of _ (by decide +kernel)) ggX11_makesRoll_X11_finds
set_option maxRecDepth 20000 in
theorem ggX11_makesRoll_X11_stationFor : GoodIn wsX11_makesRoll wsX11_stationFor := goodIn_ca (goodIn_r _ [32, 3, 23, 33, 9, 34, 35, 36, 37, 38, 39, 40, 41, 42, 43, 44, 45, 46, 47, 48, 49, 50, 51, 52, 53, 54, 55, 56, 57, 58, 59, 60, 61, 62, 63, 64, 65, 66, 67, 68, 69, 70, 71, 72, 73, 74, 75, 76, 77, 78] (by decide +kernel) (by decide +kernel)) (goodIn_sub (fun _ h => List.mem_cons_of_mem _ (List.mem_append_right _ h)) (by decide +kernel))
set_option maxRecDepth 20000 in
theorem gX11_makesRoll_X11_stationFor : GoodIn wsX11_makesRoll (wsV RX11 191 RX11 yX11_stationFor wsX11_stationFor) := goodIn_app (goodIn_of _ (by decide +kernel)) ggX11_makesRoll_X11_stationFor
theorem dX11_makesRoll_0 : decode cX11_makesRoll 0 = .ok (.aload_n 0, 1) := by decide +kernel
theorem dX11_makesRoll_1 : decode cX11_makesRoll 1 = .ok (.iconst 2, 1) := by decide +kernel
theorem dX11_makesRoll_2 : decode cX11_makesRoll 2 = .ok (.putfield 41, 3) := by decide +kernel
theorem dX11_makesRoll_5 : decode cX11_makesRoll 5 = .ok (.aload_n 0, 1) := by decide +kernel
theorem dX11_makesRoll_6 : decode cX11_makesRoll 6 = .ok (.aload_n 0, 1) := by decide +kernel
theorem dX11_makesRoll_7 : decode cX11_makesRoll 7 = .ok (.getfield 115, 3) := by decide +kernel
theorem dX11_makesRoll_10 : decode cX11_makesRoll 10 = .ok (.putfield 178, 3) := by decide +kernel
theorem dX11_makesRoll_13 : decode cX11_makesRoll 13 = .ok (.iconst 0, 1) := by decide +kernel
theorem dX11_makesRoll_14 : decode cX11_makesRoll 14 = .ok (.istore_n 1, 1) := by decide +kernel
theorem dX11_makesRoll_15 : decode cX11_makesRoll 15 = .ok (.iload_n 1, 1) := by decide +kernel
theorem dX11_makesRoll_16 : decode cX11_makesRoll 16 = .ok (.aload_n 0, 1) := by decide +kernel
theorem dX11_makesRoll_17 : decode cX11_makesRoll 17 = .ok (.getfield 118, 3) := by decide +kernel
theorem dX11_makesRoll_20 : decode cX11_makesRoll 20 = .ok (.if_icmp .ge 72, 3) := by decide +kernel
theorem dX11_makesRoll_23 : decode cX11_makesRoll 23 = .ok (.aload_n 0, 1) := by decide +kernel
theorem dX11_makesRoll_24 : decode cX11_makesRoll 24 = .ok (.getfield 29, 3) := by decide +kernel
theorem dX11_makesRoll_27 : decode cX11_makesRoll 27 = .ok (.iload_n 1, 1) := by decide +kernel
theorem dX11_makesRoll_28 : decode cX11_makesRoll 28 = .ok (.baload, 1) := by decide +kernel
theorem dX11_makesRoll_29 : decode cX11_makesRoll 29 = .ok (.ifCond .ne 57, 3) := by decide +kernel
theorem dX11_makesRoll_32 : decode cX11_makesRoll 32 = .ok (.aload_n 0, 1) := by decide +kernel
theorem dX11_makesRoll_33 : decode cX11_makesRoll 33 = .ok (.getfield 26, 3) := by decide +kernel
theorem dX11_makesRoll_36 : decode cX11_makesRoll 36 = .ok (.iload_n 1, 1) := by decide +kernel
theorem dX11_makesRoll_37 : decode cX11_makesRoll 37 = .ok (.iaload, 1) := by decide +kernel
theorem dX11_makesRoll_38 : decode cX11_makesRoll 38 = .ok (.aload_n 0, 1) := by decide +kernel
theorem dX11_makesRoll_39 : decode cX11_makesRoll 39 = .ok (.getfield 181, 3) := by decide +kernel
theorem dX11_makesRoll_42 : decode cX11_makesRoll 42 = .ok (.if_icmp .gt 44, 3) := by decide +kernel
theorem dX11_makesRoll_45 : decode cX11_makesRoll 45 = .ok (.aload_n 0, 1) := by decide +kernel
theorem dX11_makesRoll_46 : decode cX11_makesRoll 46 = .ok (.aload_n 0, 1) := by decide +kernel
theorem dX11_makesRoll_47 : decode cX11_makesRoll 47 = .ok (.iload_n 1, 1) := by decide +kernel
theorem dX11_makesRoll_48 : decode cX11_makesRoll 48 = .ok (.aload_n 0, 1) := by decide +kernel
theorem dX11_makesRoll_49 : decode cX11_makesRoll 49 = .ok (.getfield 181, 3) := by decide +kernel
theorem dX11_makesRoll_52 : decode cX11_makesRoll 52 = .ok (.bipush 7, 2) := by decide +kernel
theorem dX11_makesRoll_54 : decode cX11_makesRoll 54 = .ok (.isub, 1) := by decide +kernel
theorem dX11_makesRoll_55 : decode cX11_makesRoll 55 = .ok (.invokevirtual 159, 3) := by decide +kernel
theorem dX11_makesRoll_58 : decode cX11_makesRoll 58 = .ok (.invokevirtual 136, 3) := by decide +kernel
theorem dX11_makesRoll_61 : decode cX11_makesRoll 61 = .ok (.aload_n 0, 1) := by decide +kernel
theorem dX11_makesRoll_62 : decode cX11_makesRoll 62 = .ok (.getfield 48, 3) := by decide +kernel
theorem dX11_makesRoll_65 : decode cX11_makesRoll 65 = .ok (.iload_n 1, 1) := by decide +kernel
theorem dX11_makesRoll_66 : decode cX11_makesRoll 66 = .ok (.aload_n 0, 1) := by decide +kernel
theorem dX11_makesRoll_67 : decode cX11_makesRoll 67 = .ok (.invokevirtual 191, 3) := by decide +kernel
theorem dX11_makesRoll_70 : decode cX11_makesRoll 70 = .ok (.iastore, 1) := by decide +kernel
theorem dX11_makesRoll_71 : decode cX11_makesRoll 71 = .ok (.aload_n 0, 1) := by decide +kernel
theorem dX11_makesRoll_72 : decode cX11_makesRoll 72 = .ok (.getfield 51, 3) := by decide +kernel
theorem dX11_makesRoll_75 : decode cX11_makesRoll 75 = .ok (.aload_n 0, 1) := by decide +kernel
theorem dX11_makesRoll_76 : decode cX11_makesRoll 76 = .ok (.getfield 48, 3) := by decide +kernel
theorem dX11_makesRoll_79 : decode cX11_makesRoll 79 = .ok (.iload_n 1, 1) := by decide +kernel
theorem dX11_makesRoll_80 : decode cX11_makesRoll 80 = .ok (.iaload, 1) := by decide +kernel
theorem dX11_makesRoll_81 : decode cX11_makesRoll 81 = .ok (.dup2, 1) := by decide +kernel
theorem dX11_makesRoll_82 : decode cX11_makesRoll 82 = .ok (.iaload, 1) := by decide +kernel
theorem dX11_makesRoll_83 : decode cX11_makesRoll 83 = .ok (.iconst 1, 1) := by decide +kernel
theorem dX11_makesRoll_84 : decode cX11_makesRoll 84 = .ok (.iadd, 1) := by decide +kernel
theorem dX11_makesRoll_85 : decode cX11_makesRoll 85 = .ok (.iastore, 1) := by decide +kernel
theorem dX11_makesRoll_86 : decode cX11_makesRoll 86 = .ok (.iinc 1 1, 3) := by decide +kernel
theorem dX11_makesRoll_89 : decode cX11_makesRoll 89 = .ok (.goto (-74), 3) := by decide +kernel
theorem dX11_makesRoll_92 : decode cX11_makesRoll 92 = .ok (.return_, 1) := by decide +kernel
theorem dX11_casts_0 : decode cX11_casts 0 = .ok (.aload_n 0, 1) := by decide +kernel
theorem dX11_casts_1 : decode cX11_casts 1 = .ok (.getfield 48, 3) := by decide +kernel
theorem dX11_casts_4 : decode cX11_casts 4 = .ok (.iload_n 1, 1) := by decide +kernel
theorem dX11_casts_5 : decode cX11_casts 5 = .ok (.iaload, 1) := by decide +kernel
theorem dX11_casts_6 : decode cX11_casts 6 = .ok (.istore_n 3, 1) := by decide +kernel
theorem dX11_casts_7 : decode cX11_casts 7 = .ok (.aload_n 0, 1) := by decide +kernel
theorem dX11_casts_8 : decode cX11_casts 8 = .ok (.getfield 66, 3) := by decide +kernel
theorem dX11_casts_11 : decode cX11_casts 11 = .ok (.bipush 20, 2) := by decide +kernel
theorem dX11_casts_13 : decode cX11_casts 13 = .ok (.iload_n 3, 1) := by decide +kernel
theorem dX11_casts_14 : decode cX11_casts 14 = .ok (.imul, 1) := by decide +kernel
theorem dX11_casts_15 : decode cX11_casts 15 = .ok (.aload_n 0, 1) := by decide +kernel
theorem dX11_casts_16 : decode cX11_casts 16 = .ok (.getfield 69, 3) := by decide +kernel
theorem dX11_casts_19 : decode cX11_casts 19 = .ok (.iload_n 3, 1) := by decide +kernel
theorem dX11_casts_20 : decode cX11_casts 20 = .ok (.iaload, 1) := by decide +kernel
theorem dX11_casts_21 : decode cX11_casts 21 = .ok (.iadd, 1) := by decide +kernel
theorem dX11_casts_22 : decode cX11_casts 22 = .ok (.iload_n 2, 1) := by decide +kernel
theorem dX11_casts_23 : decode cX11_casts 23 = .ok (.iastore, 1) := by decide +kernel
theorem dX11_casts_24 : decode cX11_casts 24 = .ok (.aload_n 0, 1) := by decide +kernel
theorem dX11_casts_25 : decode cX11_casts 25 = .ok (.getfield 69, 3) := by decide +kernel
theorem dX11_casts_28 : decode cX11_casts 28 = .ok (.iload_n 3, 1) := by decide +kernel
theorem dX11_casts_29 : decode cX11_casts 29 = .ok (.dup2, 1) := by decide +kernel
theorem dX11_casts_30 : decode cX11_casts 30 = .ok (.iaload, 1) := by decide +kernel
theorem dX11_casts_31 : decode cX11_casts 31 = .ok (.iconst 1, 1) := by decide +kernel
theorem dX11_casts_32 : decode cX11_casts 32 = .ok (.iadd, 1) := by decide +kernel
theorem dX11_casts_33 : decode cX11_casts 33 = .ok (.iastore, 1) := by decide +kernel
theorem dX11_casts_34 : decode cX11_casts 34 = .ok (.aload_n 0, 1) := by decide +kernel
theorem dX11_casts_35 : decode cX11_casts 35 = .ok (.getfield 54, 3) := by decide +kernel
theorem dX11_casts_38 : decode cX11_casts 38 = .ok (.iload_n 1, 1) := by decide +kernel
theorem dX11_casts_39 : decode cX11_casts 39 = .ok (.iconst 1, 1) := by decide +kernel
theorem dX11_casts_40 : decode cX11_casts 40 = .ok (.bastore, 1) := by decide +kernel
theorem dX11_casts_41 : decode cX11_casts 41 = .ok (.aload_n 0, 1) := by decide +kernel
theorem dX11_casts_42 : decode cX11_casts 42 = .ok (.getfield 69, 3) := by decide +kernel
theorem dX11_casts_45 : decode cX11_casts 45 = .ok (.iload_n 3, 1) := by decide +kernel
theorem dX11_casts_46 : decode cX11_casts 46 = .ok (.iaload, 1) := by decide +kernel
theorem dX11_casts_47 : decode cX11_casts 47 = .ok (.ireturn, 1) := by decide +kernel
set_option maxRecDepth 20000 in
theorem ggX11_closes_X11_casts : GoodIn wsX11_closes wsX11_casts := goodIn_ca (goodIn_r _ [11, 12, 13, 14, 15, 24, 25, 26, 27, 28, 29, 30, 31, 32, 33, 34, 35, 36, 37, 38, 39, 40, 41, 42, 43, 44, 45, 46, 47, 48, 49, 50, 51, 52, 53, 54, 55, 56, 57, 58, 59, 60, 61, 62, 63, 64, 65, 66, 67] (by decide +kernel) (by decide +kernel)) (goodIn_sub (fun _ h => List.mem_cons_of_mem _ (List.mem_append_right _ h)) (by decide +kernel))
set_option maxRecDepth 20000 in
theorem gX11_closes_X11_casts : GoodIn wsX11_closes (wsV RX11 195 RX11 yX11_casts wsX11_casts) := goodIn_app (goodIn_of _ (by decide +kernel)) ggX11_closes_X11_casts
set_option maxRecDepth 20000 in
theorem ggX11_closes_X11_notes : GoodIn wsX11_closes wsX11_notes := goodIn_ca (goodIn_r _ [19, 20, 21, 22, 23, 24, 25, 26, 27, 28, 29, 30, 31, 32, 33, 34, 35, 36, 37, 38, 39, 40, 41, 42, 43, 44, 45, 46, 47, 48, 49, 50, 51, 52, 53, 54, 55, 56, 57, 58, 59, 60, 61, 62, 63, 64, 65, 66, 67] (by decide +kernel) (by decide +kernel)) (goodIn_sub (fun _ h => List.mem_cons_of_mem _ (List.mem_append_right _ h)) (by decide +kernel))
set_option maxRecDepth 20000 in
theorem gX11_closes_X11_notes : GoodIn wsX11_closes (wsV RX11 172 RX11 yX11_notes wsX11_notes) := goodIn_app (goodIn_of _ (by decide +kernel)) ggX11_closes_X11_notes
theorem dX11_closes_0 : decode cX11_closes 0 = .ok (.aload_n 0, 1) := by decide +kernel
theorem dX11_closes_1 : decode cX11_closes 1 = .ok (.iconst 4, 1) := by decide +kernel
theorem dX11_closes_2 : decode cX11_closes 2 = .ok (.putfield 41, 3) := by decide +kernel
theorem dX11_closes_5 : decode cX11_closes 5 = .ok (.iconst 0, 1) := by decide +kernel
theorem dX11_closes_6 : decode cX11_closes 6 = .ok (.istore_n 1, 1) := by decide +kernel
theorem dX11_closes_7 : decode cX11_closes 7 = .ok (.iload_n 1, 1) := by decide +kernel
theorem dX11_closes_8 : decode cX11_closes 8 = .ok (.aload_n 0, 1) := by decide +kernel
theorem dX11_closes_9 : decode cX11_closes 9 = .ok (.getfield 165, 3) := by decide +kernel
theorem dX11_closes_12 : decode cX11_closes 12 = .ok (.if_icmp .ge 58, 3) := by decide +kernel
theorem dX11_closes_15 : decode cX11_closes 15 = .ok (.aload_n 0, 1) := by decide +kernel
theorem dX11_closes_16 : decode cX11_closes 16 = .ok (.getfield 63, 3) := by decide +kernel
theorem dX11_closes_19 : decode cX11_closes 19 = .ok (.iload_n 1, 1) := by decide +kernel
theorem dX11_closes_20 : decode cX11_closes 20 = .ok (.iaload, 1) := by decide +kernel
theorem dX11_closes_21 : decode cX11_closes 21 = .ok (.ifCond .ne 43, 3) := by decide +kernel
theorem dX11_closes_24 : decode cX11_closes 24 = .ok (.aload_n 0, 1) := by decide +kernel
theorem dX11_closes_25 : decode cX11_closes 25 = .ok (.getfield 63, 3) := by decide +kernel
theorem dX11_closes_28 : decode cX11_closes 28 = .ok (.iload_n 1, 1) := by decide +kernel
theorem dX11_closes_29 : decode cX11_closes 29 = .ok (.iconst 2, 1) := by decide +kernel
theorem dX11_closes_30 : decode cX11_closes 30 = .ok (.iastore, 1) := by decide +kernel
theorem dX11_closes_31 : decode cX11_closes 31 = .ok (.aload_n 0, 1) := by decide +kernel
theorem dX11_closes_32 : decode cX11_closes 32 = .ok (.aload_n 0, 1) := by decide +kernel
theorem dX11_closes_33 : decode cX11_closes 33 = .ok (.getfield 57, 3) := by decide +kernel
theorem dX11_closes_36 : decode cX11_closes 36 = .ok (.iload_n 1, 1) := by decide +kernel
theorem dX11_closes_37 : decode cX11_closes 37 = .ok (.iaload, 1) := by decide +kernel
theorem dX11_closes_38 : decode cX11_closes 38 = .ok (.aload_n 0, 1) := by decide +kernel
theorem dX11_closes_39 : decode cX11_closes 39 = .ok (.getfield 60, 3) := by decide +kernel
theorem dX11_closes_42 : decode cX11_closes 42 = .ok (.iload_n 1, 1) := by decide +kernel
theorem dX11_closes_43 : decode cX11_closes 43 = .ok (.iaload, 1) := by decide +kernel
theorem dX11_closes_44 : decode cX11_closes 44 = .ok (.invokevirtual 195, 3) := by decide +kernel
theorem dX11_closes_47 : decode cX11_closes 47 = .ok (.pop, 1) := by decide +kernel
theorem dX11_closes_48 : decode cX11_closes 48 = .ok (.aload_n 0, 1) := by decide +kernel
theorem dX11_closes_49 : decode cX11_closes 49 = .ok (.aload_n 0, 1) := by decide +kernel
theorem dX11_closes_50 : decode cX11_closes 50 = .ok (.getfield 181, 3) := by decide +kernel
theorem dX11_closes_53 : decode cX11_closes 53 = .ok (.bipush 115, 2) := by decide +kernel
theorem dX11_closes_55 : decode cX11_closes 55 = .ok (.aload_n 0, 1) := by decide +kernel
theorem dX11_closes_56 : decode cX11_closes 56 = .ok (.getfield 57, 3) := by decide +kernel
theorem dX11_closes_59 : decode cX11_closes 59 = .ok (.iload_n 1, 1) := by decide +kernel
theorem dX11_closes_60 : decode cX11_closes 60 = .ok (.iaload, 1) := by decide +kernel
theorem dX11_closes_61 : decode cX11_closes 61 = .ok (.invokevirtual 172, 3) := by decide +kernel
theorem dX11_closes_64 : decode cX11_closes 64 = .ok (.iinc 1 1, 3) := by decide +kernel
theorem dX11_closes_67 : decode cX11_closes 67 = .ok (.goto (-60), 3) := by decide +kernel
theorem dX11_closes_70 : decode cX11_closes 70 = .ok (.return_, 1) := by decide +kernel
set_option maxRecDepth 20000 in
theorem ggX11_advance_X11_in : GoodIn wsX11_advance wsX11_in := goodIn_r _ [7] (by decide +kernel) (by decide +kernel)
set_option maxRecDepth 20000 in
theorem gX11_advance_X11_in : GoodIn wsX11_advance (va_wsS RX11 111 yX11_in wsX11_in) := goodIn_app (goodIn_of _ (by decide +kernel)) ggX11_advance_X11_in
set_option maxRecDepth 20000 in
theorem ggX11_advance_X11_asked_ : GoodIn wsX11_advance wsX11_asked_ := goodIn_r _ [11, 12, 71, 72, 73, 74, 75, 76, 77, 78, 79, 80, 81, 82, 83, 84, 85, 86, 87, 88, 89, 90, 91, 92, 93, 94, 95, 96, 97, 98, 99, 100, 101, 102, 103, 104, 105, 106, 107, 108, 109, 110, 111, 112, 113, 114] (by decide +kernel) (by decide +kernel)
set_option maxRecDepth 20000 in
theorem gX11_advance_X11_asked_ : GoodIn wsX11_advance (wsV RX11 129 RX11 yX11_asked_ wsX11_asked_) := goodIn_app (goodIn_of _ (by decide +kernel)) ggX11_advance_X11_asked_
set_option maxRecDepth 20000 in
theorem ggX11_advance_X11_makesRoll : GoodIn wsX11_advance wsX11_makesRoll := goodIn_ca (goodIn_r _ [16, 2, 17, 18, 19, 20, 21, 3, 22, 23, 24, 25, 26, 6, 27, 28, 29, 30, 31, 32, 33, 34, 35, 36, 37, 38, 39, 40, 41, 42, 43, 44, 45, 46, 47, 71, 72, 73, 74, 75, 76, 77, 78, 79, 80, 81, 82, 83, 84, 85, 86, 87, 88, 89, 90, 91, 92, 93, 94, 95, 96, 97, 98, 99, 100, 101, 102, 103, 104, 105, 106, 107, 108, 109, 110, 111, 112, 113, 114] (by decide +kernel) (by decide +kernel)) (goodIn_sub (fun _ h => List.mem_cons_of_mem _ (List.mem_append_right _ h)) (by decide +kernel))
set_option maxRecDepth 20000 in
theorem gX11_advance_X11_makesRoll : GoodIn wsX11_advance (wsV RX11 198 RX11 yX11_makesRoll wsX11_makesRoll) := goodIn_app (goodIn_of _ (by decide +kernel)) ggX11_advance_X11_makesRoll
set_option maxRecDepth 20000 in
theorem ggX11_advance_X11_closes : GoodIn wsX11_advance wsX11_closes := goodIn_ca (goodIn_r _ [51, 2, 52, 53, 54, 55, 3, 56, 57, 58, 6, 59, 22, 60, 61, 62, 63, 64, 65, 66, 67, 68, 69, 70, 71, 72, 73, 74, 75, 76, 77, 78, 79, 80, 81, 82, 83, 84, 85, 86, 87, 88, 89, 90, 91, 92, 93, 94, 95, 96, 97, 98, 99, 100, 101, 102, 103, 104, 105, 106, 107, 108, 109, 110, 111, 112, 113, 114] (by decide +kernel) (by decide +kernel)) (goodIn_sub (fun _ h => List.mem_cons_of_mem _ (List.mem_append_right _ h)) (by decide +kernel))
set_option maxRecDepth 20000 in
theorem gX11_advance_X11_closes : GoodIn wsX11_advance (wsV RX11 201 RX11 yX11_closes wsX11_closes) := goodIn_app (goodIn_of _ (by decide +kernel)) ggX11_advance_X11_closes
theorem dX11_advance_0 : decode cX11_advance 0 = .ok (.iload_n 1, 1) := by decide +kernel
theorem dX11_advance_1 : decode cX11_advance 1 = .ok (.iconst 1, 1) := by decide +kernel
theorem dX11_advance_2 : decode cX11_advance 2 = .ok (.bipush 100, 2) := by decide +kernel
theorem dX11_advance_4 : decode cX11_advance 4 = .ok (.invokestatic 111, 3) := by decide +kernel
theorem dX11_advance_7 : decode cX11_advance 7 = .ok (.istore_n 2, 1) := by decide +kernel
theorem dX11_advance_8 : decode cX11_advance 8 = .ok (.aload_n 0, 1) := by decide +kernel
theorem dX11_advance_9 : decode cX11_advance 9 = .ok (.iload_n 2, 1) := by decide +kernel
theorem dX11_advance_10 : decode cX11_advance 10 = .ok (.iload_n 2, 1) := by decide +kernel
theorem dX11_advance_11 : decode cX11_advance 11 = .ok (.ifCond .eq 19, 3) := by decide +kernel
theorem dX11_advance_14 : decode cX11_advance 14 = .ok (.aload_n 0, 1) := by decide +kernel
theorem dX11_advance_15 : decode cX11_advance 15 = .ok (.getfield 149, 3) := by decide +kernel
theorem dX11_advance_18 : decode cX11_advance 18 = .ok (.iload_n 1, 1) := by decide +kernel
theorem dX11_advance_19 : decode cX11_advance 19 = .ok (.iadd, 1) := by decide +kernel
theorem dX11_advance_20 : decode cX11_advance 20 = .ok (.sipush 2100, 3) := by decide +kernel
theorem dX11_advance_23 : decode cX11_advance 23 = .ok (.if_icmp .gt 7, 3) := by decide +kernel
theorem dX11_advance_26 : decode cX11_advance 26 = .ok (.iconst 1, 1) := by decide +kernel
theorem dX11_advance_27 : decode cX11_advance 27 = .ok (.goto 4, 3) := by decide +kernel
theorem dX11_advance_30 : decode cX11_advance 30 = .ok (.iconst 0, 1) := by decide +kernel
theorem dX11_advance_31 : decode cX11_advance 31 = .ok (.invokevirtual 129, 3) := by decide +kernel
theorem dX11_advance_34 : decode cX11_advance 34 = .ok (.ifCond .ne 5, 3) := by decide +kernel
theorem dX11_advance_37 : decode cX11_advance 37 = .ok (.iconst 0, 1) := by decide +kernel
theorem dX11_advance_38 : decode cX11_advance 38 = .ok (.ireturn, 1) := by decide +kernel
theorem dX11_advance_39 : decode cX11_advance 39 = .ok (.iconst 0, 1) := by decide +kernel
theorem dX11_advance_40 : decode cX11_advance 40 = .ok (.istore_n 3, 1) := by decide +kernel
theorem dX11_advance_41 : decode cX11_advance 41 = .ok (.iload_n 3, 1) := by decide +kernel
theorem dX11_advance_42 : decode cX11_advance 42 = .ok (.iload_n 1, 1) := by decide +kernel
theorem dX11_advance_43 : decode cX11_advance 43 = .ok (.if_icmp .ge 87, 3) := by decide +kernel
theorem dX11_advance_46 : decode cX11_advance 46 = .ok (.aload_n 0, 1) := by decide +kernel
theorem dX11_advance_47 : decode cX11_advance 47 = .ok (.dup, 1) := by decide +kernel
theorem dX11_advance_48 : decode cX11_advance 48 = .ok (.getfield 149, 3) := by decide +kernel
theorem dX11_advance_51 : decode cX11_advance 51 = .ok (.iconst 1, 1) := by decide +kernel
theorem dX11_advance_52 : decode cX11_advance 52 = .ok (.iadd, 1) := by decide +kernel
theorem dX11_advance_53 : decode cX11_advance 53 = .ok (.putfield 149, 3) := by decide +kernel
theorem dX11_advance_56 : decode cX11_advance 56 = .ok (.aload_n 0, 1) := by decide +kernel
theorem dX11_advance_57 : decode cX11_advance 57 = .ok (.getfield 41, 3) := by decide +kernel
theorem dX11_advance_60 : decode cX11_advance 60 = .ok (.iconst 1, 1) := by decide +kernel
theorem dX11_advance_61 : decode cX11_advance 61 = .ok (.if_icmp .ne 24, 3) := by decide +kernel
theorem dX11_advance_64 : decode cX11_advance 64 = .ok (.aload_n 0, 1) := by decide +kernel
theorem dX11_advance_65 : decode cX11_advance 65 = .ok (.getfield 149, 3) := by decide +kernel
theorem dX11_advance_68 : decode cX11_advance 68 = .ok (.aload_n 0, 1) := by decide +kernel
theorem dX11_advance_69 : decode cX11_advance 69 = .ok (.getfield 181, 3) := by decide +kernel
theorem dX11_advance_72 : decode cX11_advance 72 = .ok (.bipush 6, 2) := by decide +kernel
theorem dX11_advance_74 : decode cX11_advance 74 = .ok (.isub, 1) := by decide +kernel
theorem dX11_advance_75 : decode cX11_advance 75 = .ok (.if_icmp .ne 10, 3) := by decide +kernel
theorem dX11_advance_78 : decode cX11_advance 78 = .ok (.aload_n 0, 1) := by decide +kernel
theorem dX11_advance_79 : decode cX11_advance 79 = .ok (.invokevirtual 198, 3) := by decide +kernel
theorem dX11_advance_82 : decode cX11_advance 82 = .ok (.goto 42, 3) := by decide +kernel
theorem dX11_advance_85 : decode cX11_advance 85 = .ok (.aload_n 0, 1) := by decide +kernel
theorem dX11_advance_86 : decode cX11_advance 86 = .ok (.getfield 41, 3) := by decide +kernel
theorem dX11_advance_89 : decode cX11_advance 89 = .ok (.iconst 2, 1) := by decide +kernel
theorem dX11_advance_90 : decode cX11_advance 90 = .ok (.if_icmp .ne 22, 3) := by decide +kernel
theorem dX11_advance_93 : decode cX11_advance 93 = .ok (.aload_n 0, 1) := by decide +kernel
theorem dX11_advance_94 : decode cX11_advance 94 = .ok (.getfield 149, 3) := by decide +kernel
theorem dX11_advance_97 : decode cX11_advance 97 = .ok (.aload_n 0, 1) := by decide +kernel
theorem dX11_advance_98 : decode cX11_advance 98 = .ok (.getfield 181, 3) := by decide +kernel
theorem dX11_advance_101 : decode cX11_advance 101 = .ok (.if_icmp .ne 11, 3) := by decide +kernel
theorem dX11_advance_104 : decode cX11_advance 104 = .ok (.aload_n 0, 1) := by decide +kernel
theorem dX11_advance_105 : decode cX11_advance 105 = .ok (.iconst 3, 1) := by decide +kernel
theorem dX11_advance_106 : decode cX11_advance 106 = .ok (.putfield 41, 3) := by decide +kernel
theorem dX11_advance_109 : decode cX11_advance 109 = .ok (.goto 15, 3) := by decide +kernel
