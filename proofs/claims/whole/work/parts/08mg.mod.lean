theorem dX11_digits_2 : decode cX11_digits 2 = .ok (.iload_n 0, 1) := by decide +kernel
theorem dX11_digits_3 : decode cX11_digits 3 = .ok (.bipush 10, 2) := by decide +kernel
theorem dX11_digits_5 : decode cX11_digits 5 = .ok (.idiv, 1) := by decide +kernel
theorem dX11_digits_6 : decode cX11_digits 6 = .ok (.istore_n 2, 1) := by decide +kernel
theorem dX11_digits_7 : decode cX11_digits 7 = .ok (.iload_n 2, 1) := by decide +kernel
theorem dX11_digits_8 : decode cX11_digits 8 = .ok (.ifCond .le 14, 3) := by decide +kernel
theorem dX11_digits_11 : decode cX11_digits 11 = .ok (.iinc 1 1, 3) := by decide +kernel
theorem dX11_digits_14 : decode cX11_digits 14 = .ok (.iload_n 2, 1) := by decide +kernel
theorem dX11_digits_15 : decode cX11_digits 15 = .ok (.bipush 10, 2) := by decide +kernel
theorem dX11_digits_17 : decode cX11_digits 17 = .ok (.idiv, 1) := by decide +kernel
theorem dX11_digits_18 : decode cX11_digits 18 = .ok (.istore_n 2, 1) := by decide +kernel
theorem dX11_digits_19 : decode cX11_digits 19 = .ok (.goto (-12), 3) := by decide +kernel
theorem dX11_digits_22 : decode cX11_digits 22 = .ok (.iload_n 1, 1) := by decide +kernel
theorem dX11_digits_23 : decode cX11_digits 23 = .ok (.ireturn, 1) := by decide +kernel
set_option maxRecDepth 20000 in
theorem ggX11_digitAt_X11_digits : GoodIn wsX11_digitAt wsX11_digits := goodIn_r _ [4] (by decide +kernel) (by decide +kernel)
set_option maxRecDepth 20000 in
theorem gX11_digitAt_X11_digits : GoodIn wsX11_digitAt (va_wsS RX11 241 yX11_digits wsX11_digits) := goodIn_app (goodIn_of _ (by decide +kernel)) ggX11_digitAt_X11_digits
theorem dX11_digitAt_0 : decode cX11_digitAt 0 = .ok (.iload_n 0, 1) := by decide +kernel
theorem dX11_digitAt_1 : decode cX11_digitAt 1 = .ok (.istore_n 2, 1) := by decide +kernel
theorem dX11_digitAt_2 : decode cX11_digitAt 2 = .ok (.iload_n 0, 1) := by decide +kernel
theorem dX11_digitAt_3 : decode cX11_digitAt 3 = .ok (.invokestatic 241, 3) := by decide +kernel
theorem dX11_digitAt_6 : decode cX11_digitAt 6 = .ok (.iconst 1, 1) := by decide +kernel
theorem dX11_digitAt_7 : decode cX11_digitAt 7 = .ok (.isub, 1) := by decide +kernel
theorem dX11_digitAt_8 : decode cX11_digitAt 8 = .ok (.istore_n 3, 1) := by decide +kernel
theorem dX11_digitAt_9 : decode cX11_digitAt 9 = .ok (.iload_n 3, 1) := by decide +kernel
theorem dX11_digitAt_10 : decode cX11_digitAt 10 = .ok (.iload_n 1, 1) := by decide +kernel
theorem dX11_digitAt_11 : decode cX11_digitAt 11 = .ok (.if_icmp .le 14, 3) := by decide +kernel
theorem dX11_digitAt_14 : decode cX11_digitAt 14 = .ok (.iload_n 2, 1) := by decide +kernel
theorem dX11_digitAt_15 : decode cX11_digitAt 15 = .ok (.bipush 10, 2) := by decide +kernel
theorem dX11_digitAt_17 : decode cX11_digitAt 17 = .ok (.idiv, 1) := by decide +kernel
theorem dX11_digitAt_18 : decode cX11_digitAt 18 = .ok (.istore_n 2, 1) := by decide +kernel
theorem dX11_digitAt_19 : decode cX11_digitAt 19 = .ok (.iinc 3 (-1), 3) := by decide +kernel
theorem dX11_digitAt_22 : decode cX11_digitAt 22 = .ok (.goto (-13), 3) := by decide +kernel
theorem dX11_digitAt_25 : decode cX11_digitAt 25 = .ok (.bipush 48, 2) := by decide +kernel
theorem dX11_digitAt_27 : decode cX11_digitAt 27 = .ok (.iload_n 2, 1) := by decide +kernel
theorem dX11_digitAt_28 : decode cX11_digitAt 28 = .ok (.bipush 10, 2) := by decide +kernel
theorem dX11_digitAt_30 : decode cX11_digitAt 30 = .ok (.irem, 1) := by decide +kernel
theorem dX11_digitAt_31 : decode cX11_digitAt 31 = .ok (.iadd, 1) := by decide +kernel
theorem dX11_digitAt_32 : decode cX11_digitAt 32 = .ok (.ireturn, 1) := by decide +kernel
set_option maxRecDepth 20000 in
theorem ggX11_signAt_X11_in : GoodIn wsX11_signAt wsX11_in := goodIn_r _ [8] (by decide +kernel) (by decide +kernel)
set_option maxRecDepth 20000 in
theorem gX11_signAt_X11_in : GoodIn wsX11_signAt (va_wsS RX11 111 yX11_in wsX11_in) := goodIn_app (goodIn_of _ (by decide +kernel)) ggX11_signAt_X11_in
set_option maxRecDepth 20000 in
theorem ggX11_signAt_X11_asked : GoodIn wsX11_signAt wsX11_asked := goodIn_r _ [12, 13, 20, 21, 22, 23, 24, 25, 26, 27, 28, 29, 30, 31, 32, 33, 34, 35, 36, 37, 38, 39, 40, 41, 42, 43, 44, 45, 46, 47, 48, 49, 50, 51, 52, 53, 54, 55, 56, 57, 58, 59, 60, 61, 62, 63] (by decide +kernel) (by decide +kernel)
set_option maxRecDepth 20000 in
theorem gX11_signAt_X11_asked : GoodIn wsX11_signAt (wsV RX11 133 RX11 yX11_asked wsX11_asked) := goodIn_app (goodIn_of _ (by decide +kernel)) ggX11_signAt_X11_asked
set_option maxRecDepth 20000 in
theorem ggX11_signAt_X11_digits : GoodIn wsX11_signAt wsX11_digits := goodIn_r _ [16] (by decide +kernel) (by decide +kernel)
set_option maxRecDepth 20000 in
theorem gX11_signAt_X11_digits : GoodIn wsX11_signAt (va_wsS RX11 241 yX11_digits wsX11_digits) := goodIn_app (goodIn_of _ (by decide +kernel)) ggX11_signAt_X11_digits
set_option maxRecDepth 20000 in
theorem ggX11_signAt_X11_digitAt : GoodIn wsX11_signAt wsX11_digitAt := goodIn_r _ [19, 14, 15, 7, 16] (by decide +kernel) (by decide +kernel)
set_option maxRecDepth 20000 in
theorem gX11_signAt_X11_digitAt : GoodIn wsX11_signAt (va_wsS RX11 244 yX11_digitAt wsX11_digitAt) := goodIn_app (goodIn_of _ (by decide +kernel)) ggX11_signAt_X11_digitAt
theorem dX11_signAt_0 : decode cX11_signAt 0 = .ok (.aload_n 0, 1) := by decide +kernel
theorem dX11_signAt_1 : decode cX11_signAt 1 = .ok (.iload_n 1, 1) := by decide +kernel
theorem dX11_signAt_2 : decode cX11_signAt 2 = .ok (.iconst 0, 1) := by decide +kernel
theorem dX11_signAt_3 : decode cX11_signAt 3 = .ok (.aload_n 0, 1) := by decide +kernel
theorem dX11_signAt_4 : decode cX11_signAt 4 = .ok (.getfield 162, 3) := by decide +kernel
theorem dX11_signAt_7 : decode cX11_signAt 7 = .ok (.iconst 1, 1) := by decide +kernel
theorem dX11_signAt_8 : decode cX11_signAt 8 = .ok (.isub, 1) := by decide +kernel
theorem dX11_signAt_9 : decode cX11_signAt 9 = .ok (.invokestatic 111, 3) := by decide +kernel
theorem dX11_signAt_12 : decode cX11_signAt 12 = .ok (.ifCond .eq 11, 3) := by decide +kernel
theorem dX11_signAt_15 : decode cX11_signAt 15 = .ok (.iload_n 2, 1) := by decide +kernel
theorem dX11_signAt_16 : decode cX11_signAt 16 = .ok (.ifCond .lt 7, 3) := by decide +kernel
theorem dX11_signAt_19 : decode cX11_signAt 19 = .ok (.iconst 1, 1) := by decide +kernel
theorem dX11_signAt_20 : decode cX11_signAt 20 = .ok (.goto 4, 3) := by decide +kernel
theorem dX11_signAt_23 : decode cX11_signAt 23 = .ok (.iconst 0, 1) := by decide +kernel
theorem dX11_signAt_24 : decode cX11_signAt 24 = .ok (.invokevirtual 133, 3) := by decide +kernel
theorem dX11_signAt_27 : decode cX11_signAt 27 = .ok (.ifCond .ne 5, 3) := by decide +kernel
theorem dX11_signAt_30 : decode cX11_signAt 30 = .ok (.iconst 0, 1) := by decide +kernel
theorem dX11_signAt_31 : decode cX11_signAt 31 = .ok (.ireturn, 1) := by decide +kernel
theorem dX11_signAt_32 : decode cX11_signAt 32 = .ok (.aload_n 0, 1) := by decide +kernel
theorem dX11_signAt_33 : decode cX11_signAt 33 = .ok (.getfield 96, 3) := by decide +kernel
theorem dX11_signAt_36 : decode cX11_signAt 36 = .ok (.iload_n 1, 1) := by decide +kernel
theorem dX11_signAt_37 : decode cX11_signAt 37 = .ok (.iaload, 1) := by decide +kernel
theorem dX11_signAt_38 : decode cX11_signAt 38 = .ok (.invokestatic 241, 3) := by decide +kernel
theorem dX11_signAt_41 : decode cX11_signAt 41 = .ok (.istore_n 3, 1) := by decide +kernel
theorem dX11_signAt_42 : decode cX11_signAt 42 = .ok (.iload_n 2, 1) := by decide +kernel
theorem dX11_signAt_43 : decode cX11_signAt 43 = .ok (.iload_n 3, 1) := by decide +kernel
theorem dX11_signAt_44 : decode cX11_signAt 44 = .ok (.if_icmp .ge 14, 3) := by decide +kernel
theorem dX11_signAt_47 : decode cX11_signAt 47 = .ok (.aload_n 0, 1) := by decide +kernel
theorem dX11_signAt_48 : decode cX11_signAt 48 = .ok (.getfield 96, 3) := by decide +kernel
theorem dX11_signAt_51 : decode cX11_signAt 51 = .ok (.iload_n 1, 1) := by decide +kernel
theorem dX11_signAt_52 : decode cX11_signAt 52 = .ok (.iaload, 1) := by decide +kernel
theorem dX11_signAt_53 : decode cX11_signAt 53 = .ok (.iload_n 2, 1) := by decide +kernel
theorem dX11_signAt_54 : decode cX11_signAt 54 = .ok (.invokestatic 244, 3) := by decide +kernel
theorem dX11_signAt_57 : decode cX11_signAt 57 = .ok (.ireturn, 1) := by decide +kernel
theorem dX11_signAt_58 : decode cX11_signAt 58 = .ok (.iload_n 2, 1) := by decide +kernel
theorem dX11_signAt_59 : decode cX11_signAt 59 = .ok (.iload_n 3, 1) := by decide +kernel
theorem dX11_signAt_60 : decode cX11_signAt 60 = .ok (.if_icmp .ne 10, 3) := by decide +kernel
theorem dX11_signAt_63 : decode cX11_signAt 63 = .ok (.aload_n 0, 1) := by decide +kernel
theorem dX11_signAt_64 : decode cX11_signAt 64 = .ok (.getfield 99, 3) := by decide +kernel
theorem dX11_signAt_67 : decode cX11_signAt 67 = .ok (.iload_n 1, 1) := by decide +kernel
theorem dX11_signAt_68 : decode cX11_signAt 68 = .ok (.iaload, 1) := by decide +kernel
theorem dX11_signAt_69 : decode cX11_signAt 69 = .ok (.ireturn, 1) := by decide +kernel
theorem dX11_signAt_70 : decode cX11_signAt 70 = .ok (.iload_n 2, 1) := by decide +kernel
theorem dX11_signAt_71 : decode cX11_signAt 71 = .ok (.iload_n 3, 1) := by decide +kernel
theorem dX11_signAt_72 : decode cX11_signAt 72 = .ok (.isub, 1) := by decide +kernel
theorem dX11_signAt_73 : decode cX11_signAt 73 = .ok (.iconst 1, 1) := by decide +kernel
theorem dX11_signAt_74 : decode cX11_signAt 74 = .ok (.isub, 1) := by decide +kernel
theorem dX11_signAt_75 : decode cX11_signAt 75 = .ok (.aload_n 0, 1) := by decide +kernel
theorem dX11_signAt_76 : decode cX11_signAt 76 = .ok (.getfield 102, 3) := by decide +kernel
theorem dX11_signAt_79 : decode cX11_signAt 79 = .ok (.iload_n 1, 1) := by decide +kernel
theorem dX11_signAt_80 : decode cX11_signAt 80 = .ok (.iaload, 1) := by decide +kernel
theorem dX11_signAt_81 : decode cX11_signAt 81 = .ok (.invokestatic 241, 3) := by decide +kernel
theorem dX11_signAt_84 : decode cX11_signAt 84 = .ok (.if_icmp .ge 20, 3) := by decide +kernel
theorem dX11_signAt_87 : decode cX11_signAt 87 = .ok (.aload_n 0, 1) := by decide +kernel
theorem dX11_signAt_88 : decode cX11_signAt 88 = .ok (.getfield 102, 3) := by decide +kernel
theorem dX11_signAt_91 : decode cX11_signAt 91 = .ok (.iload_n 1, 1) := by decide +kernel
theorem dX11_signAt_92 : decode cX11_signAt 92 = .ok (.iaload, 1) := by decide +kernel
theorem dX11_signAt_93 : decode cX11_signAt 93 = .ok (.iload_n 2, 1) := by decide +kernel
theorem dX11_signAt_94 : decode cX11_signAt 94 = .ok (.iload_n 3, 1) := by decide +kernel
theorem dX11_signAt_95 : decode cX11_signAt 95 = .ok (.isub, 1) := by decide +kernel
theorem dX11_signAt_96 : decode cX11_signAt 96 = .ok (.iconst 1, 1) := by decide +kernel
theorem dX11_signAt_97 : decode cX11_signAt 97 = .ok (.isub, 1) := by decide +kernel
theorem dX11_signAt_98 : decode cX11_signAt 98 = .ok (.invokestatic 244, 3) := by decide +kernel
theorem dX11_signAt_101 : decode cX11_signAt 101 = .ok (.goto 4, 3) := by decide +kernel
theorem dX11_signAt_104 : decode cX11_signAt 104 = .ok (.iconst (-1), 1) := by decide +kernel
theorem dX11_signAt_105 : decode cX11_signAt 105 = .ok (.ireturn, 1) := by decide +kernel
