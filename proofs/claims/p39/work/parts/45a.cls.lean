set_option maxRecDepth 20000 in
theorem ggX0_init_J4_init_da8c8 : GoodIn wsX0_init wsJ4_init_da8c8 := goodIn_r _ [16, 17, 18, 19, 20, 21, 2, 3, 22, 23, 24, 25, 26, 27, 28, 29, 30, 31, 32, 33, 39, 40, 41, 42] (by decide +kernel) (by decide +kernel)
set_option maxRecDepth 20000 in
theorem gX0_init_J4_init_da8c8 : GoodIn wsX0_init (wsJ4_init_da8c8) := ggX0_init_J4_init_da8c8
theorem dX0_init_0 : decode cX0_init 0 = .ok (.aload_n 0, 1) := by decide +kernel
theorem dX0_init_1 : decode cX0_init 1 = .ok (.invokespecial 3, 3) := by decide +kernel
theorem dX0_init_4 : decode cX0_init 4 = .ok (.aload_n 0, 1) := by decide +kernel
theorem dX0_init_5 : decode cX0_init 5 = .ok (.sipush 572, 3) := by decide +kernel
theorem dX0_init_8 : decode cX0_init 8 = .ok (.newarray .int, 2) := by decide +kernel
theorem dX0_init_10 : decode cX0_init 10 = .ok (.putfield 9, 3) := by decide +kernel
theorem dX0_init_13 : decode cX0_init 13 = .ok (.aload_n 0, 1) := by decide +kernel
theorem dX0_init_14 : decode cX0_init 14 = .ok (.sipush 572, 3) := by decide +kernel
theorem dX0_init_17 : decode cX0_init 17 = .ok (.newarray .char, 2) := by decide +kernel
theorem dX0_init_19 : decode cX0_init 19 = .ok (.putfield 15, 3) := by decide +kernel
theorem dX0_init_22 : decode cX0_init 22 = .ok (.aload_n 0, 1) := by decide +kernel
theorem dX0_init_23 : decode cX0_init 23 = .ok (.sipush 572, 3) := by decide +kernel
theorem dX0_init_26 : decode cX0_init 26 = .ok (.newarray .int, 2) := by decide +kernel
theorem dX0_init_28 : decode cX0_init 28 = .ok (.putfield 19, 3) := by decide +kernel
theorem dX0_init_31 : decode cX0_init 31 = .ok (.aload_n 0, 1) := by decide +kernel
theorem dX0_init_32 : decode cX0_init 32 = .ok (.new 22, 3) := by decide +kernel
theorem dX0_init_35 : decode cX0_init 35 = .ok (.dup, 1) := by decide +kernel
theorem dX0_init_36 : decode cX0_init 36 = .ok (.invokespecial 24, 3) := by decide +kernel
theorem dX0_init_39 : decode cX0_init 39 = .ok (.putfield 25, 3) := by decide +kernel
theorem dX0_init_42 : decode cX0_init 42 = .ok (.aload_n 0, 1) := by decide +kernel
theorem dX0_init_43 : decode cX0_init 43 = .ok (.iconst 0, 1) := by decide +kernel
theorem dX0_init_44 : decode cX0_init 44 = .ok (.putfield 29, 3) := by decide +kernel
theorem dX0_init_47 : decode cX0_init 47 = .ok (.return_, 1) := by decide +kernel
theorem dX0_write_0 : decode cX0_write 0 = .ok (.aload_n 0, 1) := by decide +kernel
theorem dX0_write_1 : decode cX0_write 1 = .ok (.getfield 29, 3) := by decide +kernel
theorem dX0_write_4 : decode cX0_write 4 = .ok (.sipush 572, 3) := by decide +kernel
theorem dX0_write_7 : decode cX0_write 7 = .ok (.if_icmp .lt 4, 3) := by decide +kernel
theorem dX0_write_10 : decode cX0_write 10 = .ok (.return_, 1) := by decide +kernel
theorem dX0_write_11 : decode cX0_write 11 = .ok (.aload_n 0, 1) := by decide +kernel
theorem dX0_write_12 : decode cX0_write 12 = .ok (.getfield 9, 3) := by decide +kernel
theorem dX0_write_15 : decode cX0_write 15 = .ok (.aload_n 0, 1) := by decide +kernel
theorem dX0_write_16 : decode cX0_write 16 = .ok (.getfield 29, 3) := by decide +kernel
theorem dX0_write_19 : decode cX0_write 19 = .ok (.iload_n 1, 1) := by decide +kernel
theorem dX0_write_20 : decode cX0_write 20 = .ok (.iastore, 1) := by decide +kernel
theorem dX0_write_21 : decode cX0_write 21 = .ok (.aload_n 0, 1) := by decide +kernel
theorem dX0_write_22 : decode cX0_write 22 = .ok (.getfield 15, 3) := by decide +kernel
theorem dX0_write_25 : decode cX0_write 25 = .ok (.aload_n 0, 1) := by decide +kernel
theorem dX0_write_26 : decode cX0_write 26 = .ok (.getfield 29, 3) := by decide +kernel
theorem dX0_write_29 : decode cX0_write 29 = .ok (.iload_n 2, 1) := by decide +kernel
theorem dX0_write_30 : decode cX0_write 30 = .ok (.castore, 1) := by decide +kernel
theorem dX0_write_31 : decode cX0_write 31 = .ok (.aload_n 0, 1) := by decide +kernel
theorem dX0_write_32 : decode cX0_write 32 = .ok (.getfield 19, 3) := by decide +kernel
theorem dX0_write_35 : decode cX0_write 35 = .ok (.aload_n 0, 1) := by decide +kernel
theorem dX0_write_36 : decode cX0_write 36 = .ok (.getfield 29, 3) := by decide +kernel
theorem dX0_write_39 : decode cX0_write 39 = .ok (.iload_n 3, 1) := by decide +kernel
theorem dX0_write_40 : decode cX0_write 40 = .ok (.iastore, 1) := by decide +kernel
theorem dX0_write_41 : decode cX0_write 41 = .ok (.aload_n 0, 1) := by decide +kernel
theorem dX0_write_42 : decode cX0_write 42 = .ok (.dup, 1) := by decide +kernel
theorem dX0_write_43 : decode cX0_write 43 = .ok (.getfield 29, 3) := by decide +kernel
theorem dX0_write_46 : decode cX0_write 46 = .ok (.iconst 1, 1) := by decide +kernel
theorem dX0_write_47 : decode cX0_write 47 = .ok (.iadd, 1) := by decide +kernel
theorem dX0_write_48 : decode cX0_write 48 = .ok (.putfield 29, 3) := by decide +kernel
theorem dX0_write_51 : decode cX0_write 51 = .ok (.return_, 1) := by decide +kernel
set_option maxRecDepth 20000 in
theorem ggX0_characterAt_J4_setLength_d00df : GoodIn wsX0_characterAt wsJ4_setLength_d00df := goodIn_r _ [10, 11, 12, 13, 14, 15, 16, 17, 18, 19, 20, 21, 22, 23, 24, 25, 26, 27, 28, 29, 30, 31, 32, 33, 34, 35, 36, 37, 38, 39, 40, 41, 42, 43, 44, 45, 46, 47, 48, 49, 50, 51, 52, 53, 54, 55, 56, 57, 58, 59, 60, 61, 62, 63, 64, 65, 66, 67, 68, 69, 70, 71, 72, 73, 74, 75, 76, 77, 78, 79, 80, 81, 82, 9, 83, 84, 85, 86, 87, 88, 89, 90, 213, 214, 215, 216, 217, 218, 219, 220, 221, 222, 223, 224, 225, 226, 227, 228] (by decide +kernel) (by decide +kernel)
set_option maxRecDepth 20000 in
theorem gX0_characterAt_J4_setLength_d00df : GoodIn wsX0_characterAt (wsV RX0 33 RJ4 yJ4_setLength_d00df wsJ4_setLength_d00df) := goodIn_app (goodIn_of _ (by decide +kernel)) ggX0_characterAt_J4_setLength_d00df
set_option maxRecDepth 20000 in
theorem ggX0_characterAt_J4_append_bf812 : GoodIn wsX0_characterAt wsJ4_append_bf812 := goodIn_r _ [94, 95, 96, 13, 97, 15, 98, 20, 21, 99, 100, 101, 102, 23, 24, 25, 26, 27, 28, 29, 30, 31, 32, 33, 34, 35, 36, 37, 38, 39, 40, 41, 42, 43, 44, 45, 46, 47, 48, 49, 50, 51, 52, 53, 54, 55, 56, 57, 58, 59, 60, 61, 62, 63, 64, 65, 66, 67, 68, 69, 70, 103, 104, 105, 106, 107, 108, 109, 88, 110, 111, 112, 113, 114, 115, 116, 117, 118, 119, 120, 121, 122, 123, 124, 125, 126, 127, 128, 129, 130, 131, 132, 133, 134, 135, 136, 219, 220, 221, 222] (by decide +kernel) (by decide +kernel)
set_option maxRecDepth 20000 in
theorem gX0_characterAt_J4_append_bf812 : GoodIn wsX0_characterAt (wsV RX0 37 RJ4 yJ4_append_bf812 wsJ4_append_bf812) := goodIn_app (goodIn_of _ (by decide +kernel)) ggX0_characterAt_J4_append_bf812
set_option maxRecDepth 20000 in
theorem ggX0_characterAt_J4_append_cf468 : GoodIn wsX0_characterAt wsJ4_append_cf468 := goodIn_r _ [140, 141, 142, 13, 143, 15, 144, 20, 21, 23, 24, 25, 26, 27, 28, 29, 30, 31, 32, 33, 34, 35, 36, 37, 38, 39, 40, 41, 42, 43, 44, 45, 46, 47, 48, 49, 50, 51, 52, 53, 54, 55, 56, 57, 58, 59, 60, 61, 62, 63, 64, 65, 66, 67, 68, 69, 70, 145, 146, 73, 147, 148, 149, 150, 151, 152, 153, 154, 88, 155, 156, 157, 158, 159, 160, 161, 162, 163, 164, 165, 166, 167, 168, 115, 116, 117, 169, 170, 120, 171, 122, 172, 173, 125, 174, 132, 133, 134, 111, 135, 136, 175, 176, 177, 178, 179, 180, 181, 182, 183, 184, 185, 186, 219, 220, 221, 222] (by decide +kernel) (by decide +kernel)
set_option maxRecDepth 20000 in
theorem gX0_characterAt_J4_append_cf468 : GoodIn wsX0_characterAt (wsV RX0 41 RJ4 yJ4_append_cf468 wsJ4_append_cf468) := goodIn_app (goodIn_of _ (by decide +kernel)) ggX0_characterAt_J4_append_cf468
set_option maxRecDepth 20000 in
theorem ggX0_characterAt_J4_length_8abf5 : GoodIn wsX0_characterAt wsJ4_length_8abf5 := goodIn_r _ [190, 191, 192, 13, 193, 15, 194, 20, 219, 220, 221, 222] (by decide +kernel) (by decide +kernel)
set_option maxRecDepth 20000 in
theorem gX0_characterAt_J4_length_8abf5 : GoodIn wsX0_characterAt (wsV RX0 44 RJ4 yJ4_length_8abf5 wsJ4_length_8abf5) := goodIn_app (goodIn_of _ (by decide +kernel)) ggX0_characterAt_J4_length_8abf5
set_option maxRecDepth 20000 in
theorem ggX0_characterAt_J4_charAt_5068e : GoodIn wsX0_characterAt wsJ4_charAt_5068e := goodIn_r _ [198, 199, 200, 13, 201, 15, 202, 28, 21, 20, 203, 59, 41, 60, 204, 182, 120, 183, 122, 184, 185, 125, 186, 205, 206, 88, 207, 111, 135, 136, 115, 116, 117, 219, 220, 221, 222] (by decide +kernel) (by decide +kernel)
set_option maxRecDepth 20000 in
theorem gX0_characterAt_J4_charAt_5068e : GoodIn wsX0_characterAt (wsV RX0 48 RJ4 yJ4_charAt_5068e wsJ4_charAt_5068e) := goodIn_app (goodIn_of _ (by decide +kernel)) ggX0_characterAt_J4_charAt_5068e
theorem dX0_characterAt_0 : decode cX0_characterAt 0 = .ok (.iload_n 1, 1) := by decide +kernel
theorem dX0_characterAt_1 : decode cX0_characterAt 1 = .ok (.ifCond .lt 11, 3) := by decide +kernel
theorem dX0_characterAt_4 : decode cX0_characterAt 4 = .ok (.iload_n 1, 1) := by decide +kernel
theorem dX0_characterAt_5 : decode cX0_characterAt 5 = .ok (.aload_n 0, 1) := by decide +kernel
theorem dX0_characterAt_6 : decode cX0_characterAt 6 = .ok (.getfield 29, 3) := by decide +kernel
theorem dX0_characterAt_9 : decode cX0_characterAt 9 = .ok (.if_icmp .lt 5, 3) := by decide +kernel
theorem dX0_characterAt_12 : decode cX0_characterAt 12 = .ok (.iconst (-1), 1) := by decide +kernel
theorem dX0_characterAt_13 : decode cX0_characterAt 13 = .ok (.ireturn, 1) := by decide +kernel
theorem dX0_characterAt_14 : decode cX0_characterAt 14 = .ok (.aload_n 0, 1) := by decide +kernel
theorem dX0_characterAt_15 : decode cX0_characterAt 15 = .ok (.getfield 25, 3) := by decide +kernel
theorem dX0_characterAt_18 : decode cX0_characterAt 18 = .ok (.iconst 0, 1) := by decide +kernel
theorem dX0_characterAt_19 : decode cX0_characterAt 19 = .ok (.invokevirtual 33, 3) := by decide +kernel
theorem dX0_characterAt_22 : decode cX0_characterAt 22 = .ok (.aload_n 0, 1) := by decide +kernel
theorem dX0_characterAt_23 : decode cX0_characterAt 23 = .ok (.getfield 25, 3) := by decide +kernel
theorem dX0_characterAt_26 : decode cX0_characterAt 26 = .ok (.aload_n 0, 1) := by decide +kernel
theorem dX0_characterAt_27 : decode cX0_characterAt 27 = .ok (.getfield 9, 3) := by decide +kernel
theorem dX0_characterAt_30 : decode cX0_characterAt 30 = .ok (.iload_n 1, 1) := by decide +kernel
theorem dX0_characterAt_31 : decode cX0_characterAt 31 = .ok (.iaload, 1) := by decide +kernel
theorem dX0_characterAt_32 : decode cX0_characterAt 32 = .ok (.invokevirtual 37, 3) := by decide +kernel
theorem dX0_characterAt_35 : decode cX0_characterAt 35 = .ok (.pop, 1) := by decide +kernel
theorem dX0_characterAt_36 : decode cX0_characterAt 36 = .ok (.aload_n 0, 1) := by decide +kernel
theorem dX0_characterAt_37 : decode cX0_characterAt 37 = .ok (.getfield 25, 3) := by decide +kernel
theorem dX0_characterAt_40 : decode cX0_characterAt 40 = .ok (.aload_n 0, 1) := by decide +kernel
theorem dX0_characterAt_41 : decode cX0_characterAt 41 = .ok (.getfield 15, 3) := by decide +kernel
theorem dX0_characterAt_44 : decode cX0_characterAt 44 = .ok (.iload_n 1, 1) := by decide +kernel
theorem dX0_characterAt_45 : decode cX0_characterAt 45 = .ok (.caload, 1) := by decide +kernel
theorem dX0_characterAt_46 : decode cX0_characterAt 46 = .ok (.invokevirtual 41, 3) := by decide +kernel
theorem dX0_characterAt_49 : decode cX0_characterAt 49 = .ok (.pop, 1) := by decide +kernel
theorem dX0_characterAt_50 : decode cX0_characterAt 50 = .ok (.aload_n 0, 1) := by decide +kernel
theorem dX0_characterAt_51 : decode cX0_characterAt 51 = .ok (.getfield 25, 3) := by decide +kernel
theorem dX0_characterAt_54 : decode cX0_characterAt 54 = .ok (.aload_n 0, 1) := by decide +kernel
theorem dX0_characterAt_55 : decode cX0_characterAt 55 = .ok (.getfield 19, 3) := by decide +kernel
theorem dX0_characterAt_58 : decode cX0_characterAt 58 = .ok (.iload_n 1, 1) := by decide +kernel
theorem dX0_characterAt_59 : decode cX0_characterAt 59 = .ok (.iaload, 1) := by decide +kernel
theorem dX0_characterAt_60 : decode cX0_characterAt 60 = .ok (.invokevirtual 37, 3) := by decide +kernel
theorem dX0_characterAt_63 : decode cX0_characterAt 63 = .ok (.pop, 1) := by decide +kernel
theorem dX0_characterAt_64 : decode cX0_characterAt 64 = .ok (.iload_n 2, 1) := by decide +kernel
theorem dX0_characterAt_65 : decode cX0_characterAt 65 = .ok (.ifCond .lt 14, 3) := by decide +kernel
theorem dX0_characterAt_68 : decode cX0_characterAt 68 = .ok (.iload_n 2, 1) := by decide +kernel
theorem dX0_characterAt_69 : decode cX0_characterAt 69 = .ok (.aload_n 0, 1) := by decide +kernel
theorem dX0_characterAt_70 : decode cX0_characterAt 70 = .ok (.getfield 25, 3) := by decide +kernel
theorem dX0_characterAt_73 : decode cX0_characterAt 73 = .ok (.invokevirtual 44, 3) := by decide +kernel
theorem dX0_characterAt_76 : decode cX0_characterAt 76 = .ok (.if_icmp .lt 5, 3) := by decide +kernel
theorem dX0_characterAt_79 : decode cX0_characterAt 79 = .ok (.iconst (-1), 1) := by decide +kernel
theorem dX0_characterAt_80 : decode cX0_characterAt 80 = .ok (.ireturn, 1) := by decide +kernel
theorem dX0_characterAt_81 : decode cX0_characterAt 81 = .ok (.aload_n 0, 1) := by decide +kernel
theorem dX0_characterAt_82 : decode cX0_characterAt 82 = .ok (.getfield 25, 3) := by decide +kernel
theorem dX0_characterAt_85 : decode cX0_characterAt 85 = .ok (.iload_n 2, 1) := by decide +kernel
theorem dX0_characterAt_86 : decode cX0_characterAt 86 = .ok (.invokevirtual 48, 3) := by decide +kernel
theorem dX0_characterAt_89 : decode cX0_characterAt 89 = .ok (.ireturn, 1) := by decide +kernel
theorem dX1_init_0 : decode cX1_init 0 = .ok (.aload_n 0, 1) := by decide +kernel
theorem dX1_init_1 : decode cX1_init 1 = .ok (.invokespecial 3, 3) := by decide +kernel
theorem dX1_init_4 : decode cX1_init 4 = .ok (.aload_n 0, 1) := by decide +kernel
theorem dX1_init_5 : decode cX1_init 5 = .ok (.bipush 20, 2) := by decide +kernel
theorem dX1_init_7 : decode cX1_init 7 = .ok (.newarray .int, 2) := by decide +kernel
theorem dX1_init_9 : decode cX1_init 9 = .ok (.putfield 9, 3) := by decide +kernel
theorem dX1_init_12 : decode cX1_init 12 = .ok (.aload_n 0, 1) := by decide +kernel
theorem dX1_init_13 : decode cX1_init 13 = .ok (.iconst 0, 1) := by decide +kernel
theorem dX1_init_14 : decode cX1_init 14 = .ok (.putfield 15, 3) := by decide +kernel
theorem dX1_init_17 : decode cX1_init 17 = .ok (.aload_n 0, 1) := by decide +kernel
theorem dX1_init_18 : decode cX1_init 18 = .ok (.bipush 8, 2) := by decide +kernel
theorem dX1_init_20 : decode cX1_init 20 = .ok (.newarray .int, 2) := by decide +kernel
theorem dX1_init_22 : decode cX1_init 22 = .ok (.putfield 19, 3) := by decide +kernel
theorem dX1_init_25 : decode cX1_init 25 = .ok (.aload_n 0, 1) := by decide +kernel
theorem dX1_init_26 : decode cX1_init 26 = .ok (.bipush 8, 2) := by decide +kernel
theorem dX1_init_28 : decode cX1_init 28 = .ok (.bipush 6, 2) := by decide +kernel
theorem dX1_init_30 : decode cX1_init 30 = .ok (.multianewarray 22 2, 4) := by decide +kernel
theorem dX1_init_34 : decode cX1_init 34 = .ok (.putfield 24, 3) := by decide +kernel
theorem dX1_init_37 : decode cX1_init 37 = .ok (.aload_n 0, 1) := by decide +kernel
theorem dX1_init_38 : decode cX1_init 38 = .ok (.iconst 0, 1) := by decide +kernel
theorem dX1_init_39 : decode cX1_init 39 = .ok (.putfield 27, 3) := by decide +kernel
theorem dX1_init_42 : decode cX1_init 42 = .ok (.aload_n 0, 1) := by decide +kernel
theorem dX1_init_43 : decode cX1_init 43 = .ok (.iconst (-1), 1) := by decide +kernel
theorem dX1_init_44 : decode cX1_init 44 = .ok (.putfield 30, 3) := by decide +kernel
theorem dX1_init_47 : decode cX1_init 47 = .ok (.return_, 1) := by decide +kernel
theorem dX1_clear_0 : decode cX1_clear 0 = .ok (.aload_n 0, 1) := by decide +kernel
theorem dX1_clear_1 : decode cX1_clear 1 = .ok (.iconst 0, 1) := by decide +kernel
theorem dX1_clear_2 : decode cX1_clear 2 = .ok (.putfield 15, 3) := by decide +kernel
theorem dX1_clear_5 : decode cX1_clear 5 = .ok (.aload_n 0, 1) := by decide +kernel
theorem dX1_clear_6 : decode cX1_clear 6 = .ok (.iconst 0, 1) := by decide +kernel
theorem dX1_clear_7 : decode cX1_clear 7 = .ok (.putfield 27, 3) := by decide +kernel
theorem dX1_clear_10 : decode cX1_clear 10 = .ok (.aload_n 0, 1) := by decide +kernel
theorem dX1_clear_11 : decode cX1_clear 11 = .ok (.iconst (-1), 1) := by decide +kernel
theorem dX1_clear_12 : decode cX1_clear 12 = .ok (.putfield 30, 3) := by decide +kernel
theorem dX1_clear_15 : decode cX1_clear 15 = .ok (.return_, 1) := by decide +kernel
theorem dX1_put_0 : decode cX1_put 0 = .ok (.aload_n 0, 1) := by decide +kernel
theorem dX1_put_1 : decode cX1_put 1 = .ok (.getfield 15, 3) := by decide +kernel
theorem dX1_put_4 : decode cX1_put 4 = .ok (.bipush 20, 2) := by decide +kernel
theorem dX1_put_6 : decode cX1_put 6 = .ok (.if_icmp .ge 23, 3) := by decide +kernel
theorem dX1_put_9 : decode cX1_put 9 = .ok (.aload_n 0, 1) := by decide +kernel
theorem dX1_put_10 : decode cX1_put 10 = .ok (.getfield 9, 3) := by decide +kernel
theorem dX1_put_13 : decode cX1_put 13 = .ok (.aload_n 0, 1) := by decide +kernel
theorem dX1_put_14 : decode cX1_put 14 = .ok (.getfield 15, 3) := by decide +kernel
theorem dX1_put_17 : decode cX1_put 17 = .ok (.iload_n 1, 1) := by decide +kernel
theorem dX1_put_18 : decode cX1_put 18 = .ok (.iastore, 1) := by decide +kernel
theorem dX1_put_19 : decode cX1_put 19 = .ok (.aload_n 0, 1) := by decide +kernel
theorem dX1_put_20 : decode cX1_put 20 = .ok (.dup, 1) := by decide +kernel
theorem dX1_put_21 : decode cX1_put 21 = .ok (.getfield 15, 3) := by decide +kernel
theorem dX1_put_24 : decode cX1_put 24 = .ok (.iconst 1, 1) := by decide +kernel
theorem dX1_put_25 : decode cX1_put 25 = .ok (.iadd, 1) := by decide +kernel
theorem dX1_put_26 : decode cX1_put 26 = .ok (.putfield 15, 3) := by decide +kernel
theorem dX1_put_29 : decode cX1_put 29 = .ok (.return_, 1) := by decide +kernel
set_option maxRecDepth 20000 in
theorem ggX1_countBy_X1_readBallots : GoodIn wsX1_countBy wsX1_readBallots := goodIn_ca (goodIn_r _ [9, 10, 11, 12, 13, 14, 15, 19, 20, 21, 22, 23, 24] (by decide +kernel) (by decide +kernel)) (goodIn_sub (fun _ h => List.mem_cons_of_mem _ (List.mem_append_right _ h)) (by decide +kernel))
set_option maxRecDepth 20000 in
theorem gX1_countBy_X1_readBallots : GoodIn wsX1_countBy (wsV RX1 33 RX1 yX1_readBallots wsX1_readBallots) := goodIn_app (goodIn_of _ (by decide +kernel)) ggX1_countBy_X1_readBallots
set_option maxRecDepth 20000 in
theorem ggX1_countBy_X1_isAlike : GoodIn wsX1_countBy wsX1_isAlike := goodIn_ca (goodIn_r _ [18] (by decide +kernel) (by decide +kernel)) (goodIn_sub (fun _ h => List.mem_cons_of_mem _ (List.mem_append_right _ h)) (by decide +kernel))
set_option maxRecDepth 20000 in
theorem gX1_countBy_X1_isAlike : GoodIn wsX1_countBy (va_wsS RX1 37 yX1_isAlike wsX1_isAlike) := goodIn_app (goodIn_of _ (by decide +kernel)) ggX1_countBy_X1_isAlike
theorem dX1_countBy_0 : decode cX1_countBy 0 = .ok (.aload_n 0, 1) := by decide +kernel
theorem dX1_countBy_1 : decode cX1_countBy 1 = .ok (.getfield 27, 3) := by decide +kernel
theorem dX1_countBy_4 : decode cX1_countBy 4 = .ok (.bipush 8, 2) := by decide +kernel
theorem dX1_countBy_6 : decode cX1_countBy 6 = .ok (.if_icmp .lt 4, 3) := by decide +kernel
theorem dX1_countBy_9 : decode cX1_countBy 9 = .ok (.return_, 1) := by decide +kernel
theorem dX1_countBy_10 : decode cX1_countBy 10 = .ok (.aload_n 0, 1) := by decide +kernel
theorem dX1_countBy_11 : decode cX1_countBy 11 = .ok (.getfield 19, 3) := by decide +kernel
theorem dX1_countBy_14 : decode cX1_countBy 14 = .ok (.aload_n 0, 1) := by decide +kernel
theorem dX1_countBy_15 : decode cX1_countBy 15 = .ok (.getfield 27, 3) := by decide +kernel
theorem dX1_countBy_18 : decode cX1_countBy 18 = .ok (.iload_n 1, 1) := by decide +kernel
theorem dX1_countBy_19 : decode cX1_countBy 19 = .ok (.iastore, 1) := by decide +kernel
theorem dX1_countBy_20 : decode cX1_countBy 20 = .ok (.aload_n 0, 1) := by decide +kernel
theorem dX1_countBy_21 : decode cX1_countBy 21 = .ok (.aload_n 0, 1) := by decide +kernel
theorem dX1_countBy_22 : decode cX1_countBy 22 = .ok (.getfield 24, 3) := by decide +kernel
theorem dX1_countBy_25 : decode cX1_countBy 25 = .ok (.aload_n 0, 1) := by decide +kernel
theorem dX1_countBy_26 : decode cX1_countBy 26 = .ok (.getfield 27, 3) := by decide +kernel
theorem dX1_countBy_29 : decode cX1_countBy 29 = .ok (.aaload, 1) := by decide +kernel
theorem dX1_countBy_30 : decode cX1_countBy 30 = .ok (.iload_n 2, 1) := by decide +kernel
theorem dX1_countBy_31 : decode cX1_countBy 31 = .ok (.invokevirtual 33, 3) := by decide +kernel
theorem dX1_countBy_34 : decode cX1_countBy 34 = .ok (.iconst 0, 1) := by decide +kernel
theorem dX1_countBy_35 : decode cX1_countBy 35 = .ok (.istore_n 3, 1) := by decide +kernel
theorem dX1_countBy_36 : decode cX1_countBy 36 = .ok (.iload_n 3, 1) := by decide +kernel
theorem dX1_countBy_37 : decode cX1_countBy 37 = .ok (.aload_n 0, 1) := by decide +kernel
theorem dX1_countBy_38 : decode cX1_countBy 38 = .ok (.getfield 27, 3) := by decide +kernel
theorem dX1_countBy_41 : decode cX1_countBy 41 = .ok (.if_icmp .ge 48, 3) := by decide +kernel
theorem dX1_countBy_44 : decode cX1_countBy 44 = .ok (.aload_n 0, 1) := by decide +kernel
theorem dX1_countBy_45 : decode cX1_countBy 45 = .ok (.getfield 19, 3) := by decide +kernel
theorem dX1_countBy_48 : decode cX1_countBy 48 = .ok (.iload_n 3, 1) := by decide +kernel
theorem dX1_countBy_49 : decode cX1_countBy 49 = .ok (.iaload, 1) := by decide +kernel
theorem dX1_countBy_50 : decode cX1_countBy 50 = .ok (.iload_n 1, 1) := by decide +kernel
theorem dX1_countBy_51 : decode cX1_countBy 51 = .ok (.if_icmp .eq 32, 3) := by decide +kernel
theorem dX1_countBy_54 : decode cX1_countBy 54 = .ok (.aload_n 0, 1) := by decide +kernel
theorem dX1_countBy_55 : decode cX1_countBy 55 = .ok (.getfield 24, 3) := by decide +kernel
theorem dX1_countBy_58 : decode cX1_countBy 58 = .ok (.iload_n 3, 1) := by decide +kernel
theorem dX1_countBy_59 : decode cX1_countBy 59 = .ok (.aaload, 1) := by decide +kernel
theorem dX1_countBy_60 : decode cX1_countBy 60 = .ok (.aload_n 0, 1) := by decide +kernel
theorem dX1_countBy_61 : decode cX1_countBy 61 = .ok (.getfield 24, 3) := by decide +kernel
theorem dX1_countBy_64 : decode cX1_countBy 64 = .ok (.aload_n 0, 1) := by decide +kernel
theorem dX1_countBy_65 : decode cX1_countBy 65 = .ok (.getfield 27, 3) := by decide +kernel
theorem dX1_countBy_68 : decode cX1_countBy 68 = .ok (.aaload, 1) := by decide +kernel
theorem dX1_countBy_69 : decode cX1_countBy 69 = .ok (.invokestatic 37, 3) := by decide +kernel
theorem dX1_countBy_72 : decode cX1_countBy 72 = .ok (.ifCond .eq 11, 3) := by decide +kernel
theorem dX1_countBy_75 : decode cX1_countBy 75 = .ok (.aload_n 0, 1) := by decide +kernel
theorem dX1_countBy_76 : decode cX1_countBy 76 = .ok (.aload_n 0, 1) := by decide +kernel
theorem dX1_countBy_77 : decode cX1_countBy 77 = .ok (.getfield 27, 3) := by decide +kernel
theorem dX1_countBy_80 : decode cX1_countBy 80 = .ok (.putfield 30, 3) := by decide +kernel
theorem dX1_countBy_83 : decode cX1_countBy 83 = .ok (.iinc 3 1, 3) := by decide +kernel
theorem dX1_countBy_86 : decode cX1_countBy 86 = .ok (.goto (-50), 3) := by decide +kernel
theorem dX1_countBy_89 : decode cX1_countBy 89 = .ok (.aload_n 0, 1) := by decide +kernel
theorem dX1_countBy_90 : decode cX1_countBy 90 = .ok (.dup, 1) := by decide +kernel
theorem dX1_countBy_91 : decode cX1_countBy 91 = .ok (.getfield 27, 3) := by decide +kernel
theorem dX1_countBy_94 : decode cX1_countBy 94 = .ok (.iconst 1, 1) := by decide +kernel
theorem dX1_countBy_95 : decode cX1_countBy 95 = .ok (.iadd, 1) := by decide +kernel
theorem dX1_countBy_96 : decode cX1_countBy 96 = .ok (.putfield 27, 3) := by decide +kernel
theorem dX1_countBy_99 : decode cX1_countBy 99 = .ok (.return_, 1) := by decide +kernel
set_option maxRecDepth 20000 in
theorem ggX1_readBallots_J7_fill_53178 : GoodIn wsX1_readBallots wsJ7_fill_53178 := goodIn_r _ [6] (by decide +kernel) (by decide +kernel)
set_option maxRecDepth 20000 in
theorem gX1_readBallots_J7_fill_53178 : GoodIn wsX1_readBallots (va_wsS RX1 41 yJ7_fill_53178 wsJ7_fill_53178) := goodIn_app (goodIn_of _ (by decide +kernel)) ggX1_readBallots_J7_fill_53178
theorem dX1_readBallots_0 : decode cX1_readBallots 0 = .ok (.aload_n 1, 1) := by decide +kernel
theorem dX1_readBallots_1 : decode cX1_readBallots 1 = .ok (.iconst 0, 1) := by decide +kernel
theorem dX1_readBallots_2 : decode cX1_readBallots 2 = .ok (.invokestatic 41, 3) := by decide +kernel
theorem dX1_readBallots_5 : decode cX1_readBallots 5 = .ok (.iconst 0, 1) := by decide +kernel
theorem dX1_readBallots_6 : decode cX1_readBallots 6 = .ok (.istore_n 3, 1) := by decide +kernel
theorem dX1_readBallots_7 : decode cX1_readBallots 7 = .ok (.iload_n 3, 1) := by decide +kernel
theorem dX1_readBallots_8 : decode cX1_readBallots 8 = .ok (.aload_n 0, 1) := by decide +kernel
theorem dX1_readBallots_9 : decode cX1_readBallots 9 = .ok (.getfield 15, 3) := by decide +kernel
theorem dX1_readBallots_12 : decode cX1_readBallots 12 = .ok (.if_icmp .ge 75, 3) := by decide +kernel
theorem dX1_readBallots_15 : decode cX1_readBallots 15 = .ok (.iload_n 2, 1) := by decide +kernel
theorem dX1_readBallots_16 : decode cX1_readBallots 16 = .ok (.ifCond .le 15, 3) := by decide +kernel
theorem dX1_readBallots_19 : decode cX1_readBallots 19 = .ok (.iload_n 3, 1) := by decide +kernel
theorem dX1_readBallots_20 : decode cX1_readBallots 20 = .ok (.iconst 1, 1) := by decide +kernel
theorem dX1_readBallots_21 : decode cX1_readBallots 21 = .ok (.iadd, 1) := by decide +kernel
theorem dX1_readBallots_22 : decode cX1_readBallots 22 = .ok (.iload_n 2, 1) := by decide +kernel
theorem dX1_readBallots_23 : decode cX1_readBallots 23 = .ok (.irem, 1) := by decide +kernel
theorem dX1_readBallots_24 : decode cX1_readBallots 24 = .ok (.ifCond .ne 7, 3) := by decide +kernel
theorem dX1_readBallots_27 : decode cX1_readBallots 27 = .ok (.iconst 1, 1) := by decide +kernel
theorem dX1_readBallots_28 : decode cX1_readBallots 28 = .ok (.goto 4, 3) := by decide +kernel
theorem dX1_readBallots_31 : decode cX1_readBallots 31 = .ok (.iconst 0, 1) := by decide +kernel
theorem dX1_readBallots_32 : decode cX1_readBallots 32 = .ok (.istore 4, 2) := by decide +kernel
theorem dX1_readBallots_34 : decode cX1_readBallots 34 = .ok (.iload 4, 2) := by decide +kernel
theorem dX1_readBallots_36 : decode cX1_readBallots 36 = .ok (.ifCond .eq 17, 3) := by decide +kernel
theorem dX1_readBallots_39 : decode cX1_readBallots 39 = .ok (.aload_n 0, 1) := by decide +kernel
theorem dX1_readBallots_40 : decode cX1_readBallots 40 = .ok (.getfield 9, 3) := by decide +kernel
theorem dX1_readBallots_43 : decode cX1_readBallots 43 = .ok (.iload_n 3, 1) := by decide +kernel
theorem dX1_readBallots_44 : decode cX1_readBallots 44 = .ok (.iaload, 1) := by decide +kernel
theorem dX1_readBallots_45 : decode cX1_readBallots 45 = .ok (.iconst 1, 1) := by decide +kernel
theorem dX1_readBallots_46 : decode cX1_readBallots 46 = .ok (.iadd, 1) := by decide +kernel
theorem dX1_readBallots_47 : decode cX1_readBallots 47 = .ok (.bipush 6, 2) := by decide +kernel
theorem dX1_readBallots_49 : decode cX1_readBallots 49 = .ok (.irem, 1) := by decide +kernel
theorem dX1_readBallots_50 : decode cX1_readBallots 50 = .ok (.goto 9, 3) := by decide +kernel
theorem dX1_readBallots_53 : decode cX1_readBallots 53 = .ok (.aload_n 0, 1) := by decide +kernel
theorem dX1_readBallots_54 : decode cX1_readBallots 54 = .ok (.getfield 9, 3) := by decide +kernel
theorem dX1_readBallots_57 : decode cX1_readBallots 57 = .ok (.iload_n 3, 1) := by decide +kernel
theorem dX1_readBallots_58 : decode cX1_readBallots 58 = .ok (.iaload, 1) := by decide +kernel
theorem dX1_readBallots_59 : decode cX1_readBallots 59 = .ok (.istore 5, 2) := by decide +kernel
theorem dX1_readBallots_61 : decode cX1_readBallots 61 = .ok (.iload 5, 2) := by decide +kernel
theorem dX1_readBallots_63 : decode cX1_readBallots 63 = .ok (.ifCond .lt 18, 3) := by decide +kernel
theorem dX1_readBallots_66 : decode cX1_readBallots 66 = .ok (.iload 5, 2) := by decide +kernel
theorem dX1_readBallots_68 : decode cX1_readBallots 68 = .ok (.aload_n 1, 1) := by decide +kernel
theorem dX1_readBallots_69 : decode cX1_readBallots 69 = .ok (.arraylength, 1) := by decide +kernel
theorem dX1_readBallots_70 : decode cX1_readBallots 70 = .ok (.if_icmp .ge 11, 3) := by decide +kernel
theorem dX1_readBallots_73 : decode cX1_readBallots 73 = .ok (.aload_n 1, 1) := by decide +kernel
theorem dX1_readBallots_74 : decode cX1_readBallots 74 = .ok (.iload 5, 2) := by decide +kernel
theorem dX1_readBallots_76 : decode cX1_readBallots 76 = .ok (.dup2, 1) := by decide +kernel
theorem dX1_readBallots_77 : decode cX1_readBallots 77 = .ok (.iaload, 1) := by decide +kernel
theorem dX1_readBallots_78 : decode cX1_readBallots 78 = .ok (.iconst 1, 1) := by decide +kernel
theorem dX1_readBallots_79 : decode cX1_readBallots 79 = .ok (.iadd, 1) := by decide +kernel
theorem dX1_readBallots_80 : decode cX1_readBallots 80 = .ok (.iastore, 1) := by decide +kernel
theorem dX1_readBallots_81 : decode cX1_readBallots 81 = .ok (.iinc 3 1, 3) := by decide +kernel
theorem dX1_readBallots_84 : decode cX1_readBallots 84 = .ok (.goto (-77), 3) := by decide +kernel
theorem dX1_readBallots_87 : decode cX1_readBallots 87 = .ok (.return_, 1) := by decide +kernel
theorem dX1_isAlike_0 : decode cX1_isAlike 0 = .ok (.iconst 0, 1) := by decide +kernel
theorem dX1_isAlike_1 : decode cX1_isAlike 1 = .ok (.istore_n 2, 1) := by decide +kernel
theorem dX1_isAlike_2 : decode cX1_isAlike 2 = .ok (.iload_n 2, 1) := by decide +kernel
theorem dX1_isAlike_3 : decode cX1_isAlike 3 = .ok (.aload_n 0, 1) := by decide +kernel
theorem dX1_isAlike_4 : decode cX1_isAlike 4 = .ok (.arraylength, 1) := by decide +kernel
theorem dX1_isAlike_5 : decode cX1_isAlike 5 = .ok (.if_icmp .ge 26, 3) := by decide +kernel
theorem dX1_isAlike_8 : decode cX1_isAlike 8 = .ok (.iload_n 2, 1) := by decide +kernel
theorem dX1_isAlike_9 : decode cX1_isAlike 9 = .ok (.aload_n 1, 1) := by decide +kernel
theorem dX1_isAlike_10 : decode cX1_isAlike 10 = .ok (.arraylength, 1) := by decide +kernel
theorem dX1_isAlike_11 : decode cX1_isAlike 11 = .ok (.if_icmp .ge 20, 3) := by decide +kernel
theorem dX1_isAlike_14 : decode cX1_isAlike 14 = .ok (.aload_n 0, 1) := by decide +kernel
theorem dX1_isAlike_15 : decode cX1_isAlike 15 = .ok (.iload_n 2, 1) := by decide +kernel
theorem dX1_isAlike_16 : decode cX1_isAlike 16 = .ok (.iaload, 1) := by decide +kernel
theorem dX1_isAlike_17 : decode cX1_isAlike 17 = .ok (.aload_n 1, 1) := by decide +kernel
theorem dX1_isAlike_18 : decode cX1_isAlike 18 = .ok (.iload_n 2, 1) := by decide +kernel
theorem dX1_isAlike_19 : decode cX1_isAlike 19 = .ok (.iaload, 1) := by decide +kernel
theorem dX1_isAlike_20 : decode cX1_isAlike 20 = .ok (.if_icmp .eq 5, 3) := by decide +kernel
theorem dX1_isAlike_23 : decode cX1_isAlike 23 = .ok (.iconst 0, 1) := by decide +kernel
theorem dX1_isAlike_24 : decode cX1_isAlike 24 = .ok (.ireturn, 1) := by decide +kernel
theorem dX1_isAlike_25 : decode cX1_isAlike 25 = .ok (.iinc 2 1, 3) := by decide +kernel
theorem dX1_isAlike_28 : decode cX1_isAlike 28 = .ok (.goto (-26), 3) := by decide +kernel
theorem dX1_isAlike_31 : decode cX1_isAlike 31 = .ok (.iconst 1, 1) := by decide +kernel
theorem dX1_isAlike_32 : decode cX1_isAlike 32 = .ok (.ireturn, 1) := by decide +kernel
theorem dX1_dropCounts_0 : decode cX1_dropCounts 0 = .ok (.aload_n 0, 1) := by decide +kernel
theorem dX1_dropCounts_1 : decode cX1_dropCounts 1 = .ok (.getfield 27, 3) := by decide +kernel
theorem dX1_dropCounts_4 : decode cX1_dropCounts 4 = .ok (.istore_n 1, 1) := by decide +kernel
theorem dX1_dropCounts_5 : decode cX1_dropCounts 5 = .ok (.aload_n 0, 1) := by decide +kernel
theorem dX1_dropCounts_6 : decode cX1_dropCounts 6 = .ok (.iconst 0, 1) := by decide +kernel
theorem dX1_dropCounts_7 : decode cX1_dropCounts 7 = .ok (.putfield 27, 3) := by decide +kernel
theorem dX1_dropCounts_10 : decode cX1_dropCounts 10 = .ok (.aload_n 0, 1) := by decide +kernel
theorem dX1_dropCounts_11 : decode cX1_dropCounts 11 = .ok (.iconst (-1), 1) := by decide +kernel
theorem dX1_dropCounts_12 : decode cX1_dropCounts 12 = .ok (.putfield 30, 3) := by decide +kernel
theorem dX1_dropCounts_15 : decode cX1_dropCounts 15 = .ok (.iload_n 1, 1) := by decide +kernel
theorem dX1_dropCounts_16 : decode cX1_dropCounts 16 = .ok (.ireturn, 1) := by decide +kernel
theorem dX1_hasNumbers_0 : decode cX1_hasNumbers 0 = .ok (.aload_n 0, 1) := by decide +kernel
theorem dX1_hasNumbers_1 : decode cX1_hasNumbers 1 = .ok (.getfield 30, 3) := by decide +kernel
theorem dX1_hasNumbers_4 : decode cX1_hasNumbers 4 = .ok (.iconst (-1), 1) := by decide +kernel
theorem dX1_hasNumbers_5 : decode cX1_hasNumbers 5 = .ok (.if_icmp .eq 7, 3) := by decide +kernel
theorem dX1_hasNumbers_8 : decode cX1_hasNumbers 8 = .ok (.iconst 1, 1) := by decide +kernel
theorem dX1_hasNumbers_9 : decode cX1_hasNumbers 9 = .ok (.goto 4, 3) := by decide +kernel
theorem dX1_hasNumbers_12 : decode cX1_hasNumbers 12 = .ok (.iconst 0, 1) := by decide +kernel
theorem dX1_hasNumbers_13 : decode cX1_hasNumbers 13 = .ok (.ireturn, 1) := by decide +kernel
theorem dX1_settledNumber_0 : decode cX1_settledNumber 0 = .ok (.aload_n 0, 1) := by decide +kernel
theorem dX1_settledNumber_1 : decode cX1_settledNumber 1 = .ok (.getfield 30, 3) := by decide +kernel
theorem dX1_settledNumber_4 : decode cX1_settledNumber 4 = .ok (.ifCond .lt 22, 3) := by decide +kernel
theorem dX1_settledNumber_7 : decode cX1_settledNumber 7 = .ok (.aload_n 0, 1) := by decide +kernel
theorem dX1_settledNumber_8 : decode cX1_settledNumber 8 = .ok (.getfield 30, 3) := by decide +kernel
theorem dX1_settledNumber_11 : decode cX1_settledNumber 11 = .ok (.bipush 8, 2) := by decide +kernel
theorem dX1_settledNumber_13 : decode cX1_settledNumber 13 = .ok (.if_icmp .ge 13, 3) := by decide +kernel
