set_option maxRecDepth 20000 in
theorem gX10_seatAt_X10_giveByNumbers : GoodIn wsX10_seatAt (wsV RX10 281 RX10 yX10_giveByNumbers wsX10_giveByNumbers) := goodIn_app (goodIn_of _ (by decide +kernel)) ggX10_seatAt_X10_giveByNumbers
set_option maxRecDepth 20000 in
theorem ggX10_seatAt_X6_partyAt : GoodIn wsX10_seatAt wsX6_partyAt := goodIn_ca (goodIn_r _ [73, 35, 38, 92, 93, 94, 95, 96, 97, 98] (by decide +kernel) (by decide +kernel)) (goodIn_sub (fun _ h => List.mem_cons_of_mem _ (List.mem_append_right _ h)) (by decide +kernel))
set_option maxRecDepth 20000 in
theorem gX10_seatAt_X6_partyAt : GoodIn wsX10_seatAt (wsV RX10 290 RX6 yX6_partyAt wsX6_partyAt) := goodIn_app (goodIn_of _ (by decide +kernel)) ggX10_seatAt_X6_partyAt
theorem dX10_seatAt_0 : decode cX10_seatAt 0 = .ok (.iload_n 1, 1) := by decide +kernel
theorem dX10_seatAt_1 : decode cX10_seatAt 1 = .ok (.ifCond .ge 14, 3) := by decide +kernel
theorem dX10_seatAt_4 : decode cX10_seatAt 4 = .ok (.new 285, 3) := by decide +kernel
theorem dX10_seatAt_7 : decode cX10_seatAt 7 = .ok (.dup, 1) := by decide +kernel
theorem dX10_seatAt_8 : decode cX10_seatAt 8 = .ok (.ldc_w 287, 3) := by decide +kernel
theorem dX10_seatAt_11 : decode cX10_seatAt 11 = .ok (.invokespecial 289, 3) := by decide +kernel
theorem dX10_seatAt_14 : decode cX10_seatAt 14 = .ok (.athrow, 1) := by decide +kernel
theorem dX10_seatAt_15 : decode cX10_seatAt 15 = .ok (.aload_n 0, 1) := by decide +kernel
theorem dX10_seatAt_16 : decode cX10_seatAt 16 = .ok (.getfield 43, 3) := by decide +kernel
theorem dX10_seatAt_19 : decode cX10_seatAt 19 = .ok (.getfield 135, 3) := by decide +kernel
theorem dX10_seatAt_22 : decode cX10_seatAt 22 = .ok (.iconst 5, 1) := by decide +kernel
theorem dX10_seatAt_23 : decode cX10_seatAt 23 = .ok (.if_icmp .eq 5, 3) := by decide +kernel
theorem dX10_seatAt_26 : decode cX10_seatAt 26 = .ok (.iconst (-1), 1) := by decide +kernel
theorem dX10_seatAt_27 : decode cX10_seatAt 27 = .ok (.ireturn, 1) := by decide +kernel
theorem dX10_seatAt_28 : decode cX10_seatAt 28 = .ok (.aload_n 0, 1) := by decide +kernel
theorem dX10_seatAt_29 : decode cX10_seatAt 29 = .ok (.invokevirtual 281, 3) := by decide +kernel
theorem dX10_seatAt_32 : decode cX10_seatAt 32 = .ok (.aload_n 0, 1) := by decide +kernel
theorem dX10_seatAt_33 : decode cX10_seatAt 33 = .ok (.getfield 50, 3) := by decide +kernel
theorem dX10_seatAt_36 : decode cX10_seatAt 36 = .ok (.iload_n 1, 1) := by decide +kernel
theorem dX10_seatAt_37 : decode cX10_seatAt 37 = .ok (.invokevirtual 290, 3) := by decide +kernel
theorem dX10_seatAt_40 : decode cX10_seatAt 40 = .ok (.ireturn, 1) := by decide +kernel
set_option maxRecDepth 20000 in
theorem ggX10_lots_X10_giveByNumbers : GoodIn wsX10_lots wsX10_giveByNumbers := goodIn_ca (goodIn_r _ [7, 2, 1, 8, 9, 10, 11, 12, 13, 14, 15, 16, 17, 18, 19, 20, 21, 22, 23, 24, 25, 26, 27, 28, 29, 30, 31, 32, 33, 34, 35, 36, 37, 38, 39, 40, 41, 42, 43, 44, 45, 46, 47, 48, 49, 50, 51, 52, 53, 54, 55, 56, 57, 58, 59, 60, 61, 62, 63, 64, 65, 66, 67, 68, 69, 70, 71, 72, 73, 74, 75, 86, 87, 88, 89, 90, 91, 92, 76, 77, 78, 79, 80, 81, 82, 83, 84, 85, 93, 94, 95, 96, 97, 98] (by decide +kernel) (by decide +kernel)) (goodIn_sub (fun _ h => List.mem_cons_of_mem _ (List.mem_append_right _ h)) (by decide +kernel))
set_option maxRecDepth 20000 in
theorem gX10_lots_X10_giveByNumbers : GoodIn wsX10_lots (wsV RX10 281 RX10 yX10_giveByNumbers wsX10_giveByNumbers) := goodIn_app (goodIn_of _ (by decide +kernel)) ggX10_lots_X10_giveByNumbers
theorem dX10_lots_0 : decode cX10_lots 0 = .ok (.aload_n 0, 1) := by decide +kernel
theorem dX10_lots_1 : decode cX10_lots 1 = .ok (.getfield 43, 3) := by decide +kernel
theorem dX10_lots_4 : decode cX10_lots 4 = .ok (.getfield 135, 3) := by decide +kernel
theorem dX10_lots_7 : decode cX10_lots 7 = .ok (.iconst 5, 1) := by decide +kernel
theorem dX10_lots_8 : decode cX10_lots 8 = .ok (.if_icmp .eq 5, 3) := by decide +kernel
theorem dX10_lots_11 : decode cX10_lots 11 = .ok (.iconst (-1), 1) := by decide +kernel
theorem dX10_lots_12 : decode cX10_lots 12 = .ok (.ireturn, 1) := by decide +kernel
theorem dX10_lots_13 : decode cX10_lots 13 = .ok (.aload_n 0, 1) := by decide +kernel
theorem dX10_lots_14 : decode cX10_lots 14 = .ok (.invokevirtual 281, 3) := by decide +kernel
theorem dX10_lots_17 : decode cX10_lots 17 = .ok (.aload_n 0, 1) := by decide +kernel
theorem dX10_lots_18 : decode cX10_lots 18 = .ok (.getfield 50, 3) := by decide +kernel
theorem dX10_lots_21 : decode cX10_lots 21 = .ok (.getfield 293, 3) := by decide +kernel
theorem dX10_lots_24 : decode cX10_lots 24 = .ok (.ireturn, 1) := by decide +kernel
set_option maxRecDepth 20000 in
theorem ggX10_seatsByBallots_X10_needParty : GoodIn wsX10_seatsByBallots wsX10_needParty := goodIn_ca (goodIn_r _ [6, 7, 8] (by decide +kernel) (by decide +kernel)) (goodIn_sub (fun _ h => List.mem_cons_of_mem _ (List.mem_append_right _ h)) (by decide +kernel))
set_option maxRecDepth 20000 in
theorem gX10_seatsByBallots_X10_needParty : GoodIn wsX10_seatsByBallots (va_wsS RX10 151 yX10_needParty wsX10_needParty) := goodIn_app (goodIn_of _ (by decide +kernel)) ggX10_seatsByBallots_X10_needParty
set_option maxRecDepth 20000 in
theorem ggX10_seatsByBallots_X10_giveByBallots : GoodIn wsX10_seatsByBallots wsX10_giveByBallots := goodIn_ca (goodIn_r _ [12, 2, 1, 13, 14, 15, 16, 17, 18, 19, 20, 21, 22, 23, 24, 25, 26, 27, 28, 29, 30, 31, 32, 33, 34, 35, 36, 37, 38, 39, 40, 41, 42, 43, 44, 45, 46, 47, 48, 49, 50, 51, 52, 53, 54, 55, 56, 57, 58, 59, 60, 61, 62, 63, 64, 65, 66, 67, 68, 69, 70, 71, 72, 73, 74, 75, 76, 77, 78, 79, 80, 91, 92, 93, 94, 95, 96, 97, 81, 82, 83, 84, 85, 86, 87, 88, 89, 90, 98, 99, 100, 101, 102, 103] (by decide +kernel) (by decide +kernel)) (goodIn_sub (fun _ h => List.mem_cons_of_mem _ (List.mem_append_left _ (List.mem_append_right _ h))) (by decide +kernel))
set_option maxRecDepth 20000 in
theorem gX10_seatsByBallots_X10_giveByBallots : GoodIn wsX10_seatsByBallots (wsV RX10 296 RX10 yX10_giveByBallots wsX10_giveByBallots) := goodIn_app (goodIn_of _ (by decide +kernel)) ggX10_seatsByBallots_X10_giveByBallots
theorem dX10_seatsByBallots_0 : decode cX10_seatsByBallots 0 = .ok (.iload_n 1, 1) := by decide +kernel
theorem dX10_seatsByBallots_1 : decode cX10_seatsByBallots 1 = .ok (.invokestatic 151, 3) := by decide +kernel
theorem dX10_seatsByBallots_4 : decode cX10_seatsByBallots 4 = .ok (.aload_n 0, 1) := by decide +kernel
theorem dX10_seatsByBallots_5 : decode cX10_seatsByBallots 5 = .ok (.getfield 43, 3) := by decide +kernel
theorem dX10_seatsByBallots_8 : decode cX10_seatsByBallots 8 = .ok (.getfield 135, 3) := by decide +kernel
theorem dX10_seatsByBallots_11 : decode cX10_seatsByBallots 11 = .ok (.iconst 4, 1) := by decide +kernel
theorem dX10_seatsByBallots_12 : decode cX10_seatsByBallots 12 = .ok (.if_icmp .eq 16, 3) := by decide +kernel
theorem dX10_seatsByBallots_15 : decode cX10_seatsByBallots 15 = .ok (.aload_n 0, 1) := by decide +kernel
theorem dX10_seatsByBallots_16 : decode cX10_seatsByBallots 16 = .ok (.getfield 43, 3) := by decide +kernel
theorem dX10_seatsByBallots_19 : decode cX10_seatsByBallots 19 = .ok (.getfield 135, 3) := by decide +kernel
theorem dX10_seatsByBallots_22 : decode cX10_seatsByBallots 22 = .ok (.iconst 5, 1) := by decide +kernel
theorem dX10_seatsByBallots_23 : decode cX10_seatsByBallots 23 = .ok (.if_icmp .eq 5, 3) := by decide +kernel
theorem dX10_seatsByBallots_26 : decode cX10_seatsByBallots 26 = .ok (.iconst (-1), 1) := by decide +kernel
theorem dX10_seatsByBallots_27 : decode cX10_seatsByBallots 27 = .ok (.ireturn, 1) := by decide +kernel
theorem dX10_seatsByBallots_28 : decode cX10_seatsByBallots 28 = .ok (.aload_n 0, 1) := by decide +kernel
theorem dX10_seatsByBallots_29 : decode cX10_seatsByBallots 29 = .ok (.invokevirtual 296, 3) := by decide +kernel
theorem dX10_seatsByBallots_32 : decode cX10_seatsByBallots 32 = .ok (.aload_n 0, 1) := by decide +kernel
theorem dX10_seatsByBallots_33 : decode cX10_seatsByBallots 33 = .ok (.getfield 50, 3) := by decide +kernel
theorem dX10_seatsByBallots_36 : decode cX10_seatsByBallots 36 = .ok (.getfield 284, 3) := by decide +kernel
theorem dX10_seatsByBallots_39 : decode cX10_seatsByBallots 39 = .ok (.iload_n 1, 1) := by decide +kernel
theorem dX10_seatsByBallots_40 : decode cX10_seatsByBallots 40 = .ok (.iaload, 1) := by decide +kernel
theorem dX10_seatsByBallots_41 : decode cX10_seatsByBallots 41 = .ok (.ireturn, 1) := by decide +kernel
theorem dX10_notes_0 : decode cX10_notes 0 = .ok (.aload_n 0, 1) := by decide +kernel
theorem dX10_notes_1 : decode cX10_notes 1 = .ok (.getfield 43, 3) := by decide +kernel
theorem dX10_notes_4 : decode cX10_notes 4 = .ok (.getfield 194, 3) := by decide +kernel
theorem dX10_notes_7 : decode cX10_notes 7 = .ok (.getfield 299, 3) := by decide +kernel
theorem dX10_notes_10 : decode cX10_notes 10 = .ok (.ireturn, 1) := by decide +kernel
set_option maxRecDepth 20000 in
theorem ggX10_signAt_X0_characterAt : GoodIn wsX10_signAt wsX0_characterAt := goodIn_ca (goodIn_r _ [8, 9, 10, 11, 12, 13, 14, 15, 16, 17, 18, 19, 20, 21, 22, 23, 24, 25, 26, 27, 28, 29, 30, 31, 32, 33, 34, 35, 36, 37, 38, 39, 40, 41, 42, 43, 44, 45, 46, 47, 48, 49, 50, 51, 52, 53, 54, 55, 56, 57, 58, 59, 60, 61, 62, 63, 64, 65, 66, 67, 68, 69, 70, 71, 72, 73, 74, 75, 76, 77, 78, 79, 80, 81, 82, 83, 84, 85, 86, 87, 88, 89, 90, 91, 92, 93, 94, 95, 96, 97, 98, 99, 100, 101, 102, 103, 104, 105, 106, 107, 108, 109, 110, 111, 112, 113, 114, 115, 116, 117, 118, 119, 120, 121, 122, 123, 124, 125, 126, 127, 128, 129, 130, 131, 132, 133, 134, 135, 136, 137, 138, 139, 140, 141, 142, 143, 144, 145, 146, 147, 148, 149, 150, 151, 152, 153, 154, 155, 156, 157, 158, 159, 160, 161, 162, 163, 164, 165, 166, 167, 168, 169, 170, 171, 172, 173, 174, 175, 176, 177, 178, 179, 180, 181, 182, 183, 184, 185, 186, 187, 188, 189, 190, 191, 192, 193, 194, 195, 196, 197, 198, 199, 200, 201, 202, 203, 204, 205, 206, 207, 208, 209, 210, 211, 212, 213, 214, 215, 234, 235, 236, 237, 238, 239, 240, 241, 242, 243, 244, 245, 246, 247, 248, 249, 250, 251, 252, 253, 254] (by decide +kernel) (by decide +kernel)) (goodIn_sub (fun _ h => List.mem_cons_of_mem _ (List.mem_append_right _ h)) (by decide +kernel))
set_option maxRecDepth 20000 in
theorem gX10_signAt_X0_characterAt : GoodIn wsX10_signAt (wsV RX10 302 RX0 yX0_characterAt wsX0_characterAt) := goodIn_app (goodIn_of _ (by decide +kernel)) ggX10_signAt_X0_characterAt
theorem dX10_signAt_0 : decode cX10_signAt 0 = .ok (.iload_n 1, 1) := by decide +kernel
theorem dX10_signAt_1 : decode cX10_signAt 1 = .ok (.ifCond .lt 17, 3) := by decide +kernel
theorem dX10_signAt_4 : decode cX10_signAt 4 = .ok (.iload_n 1, 1) := by decide +kernel
theorem dX10_signAt_5 : decode cX10_signAt 5 = .ok (.aload_n 0, 1) := by decide +kernel
theorem dX10_signAt_6 : decode cX10_signAt 6 = .ok (.getfield 43, 3) := by decide +kernel
theorem dX10_signAt_9 : decode cX10_signAt 9 = .ok (.getfield 194, 3) := by decide +kernel
theorem dX10_signAt_12 : decode cX10_signAt 12 = .ok (.getfield 299, 3) := by decide +kernel
theorem dX10_signAt_15 : decode cX10_signAt 15 = .ok (.if_icmp .lt 14, 3) := by decide +kernel
theorem dX10_signAt_18 : decode cX10_signAt 18 = .ok (.new 285, 3) := by decide +kernel
theorem dX10_signAt_21 : decode cX10_signAt 21 = .ok (.dup, 1) := by decide +kernel
theorem dX10_signAt_22 : decode cX10_signAt 22 = .ok (.ldc_w 300, 3) := by decide +kernel
theorem dX10_signAt_25 : decode cX10_signAt 25 = .ok (.invokespecial 289, 3) := by decide +kernel
theorem dX10_signAt_28 : decode cX10_signAt 28 = .ok (.athrow, 1) := by decide +kernel
theorem dX10_signAt_29 : decode cX10_signAt 29 = .ok (.iload_n 2, 1) := by decide +kernel
theorem dX10_signAt_30 : decode cX10_signAt 30 = .ok (.ifCond .ge 14, 3) := by decide +kernel
theorem dX10_signAt_33 : decode cX10_signAt 33 = .ok (.new 285, 3) := by decide +kernel
theorem dX10_signAt_36 : decode cX10_signAt 36 = .ok (.dup, 1) := by decide +kernel
theorem dX10_signAt_37 : decode cX10_signAt 37 = .ok (.ldc_w 287, 3) := by decide +kernel
theorem dX10_signAt_40 : decode cX10_signAt 40 = .ok (.invokespecial 289, 3) := by decide +kernel
theorem dX10_signAt_43 : decode cX10_signAt 43 = .ok (.athrow, 1) := by decide +kernel
theorem dX10_signAt_44 : decode cX10_signAt 44 = .ok (.aload_n 0, 1) := by decide +kernel
theorem dX10_signAt_45 : decode cX10_signAt 45 = .ok (.getfield 43, 3) := by decide +kernel
theorem dX10_signAt_48 : decode cX10_signAt 48 = .ok (.getfield 194, 3) := by decide +kernel
theorem dX10_signAt_51 : decode cX10_signAt 51 = .ok (.iload_n 1, 1) := by decide +kernel
theorem dX10_signAt_52 : decode cX10_signAt 52 = .ok (.iload_n 2, 1) := by decide +kernel
theorem dX10_signAt_53 : decode cX10_signAt 53 = .ok (.invokevirtual 302, 3) := by decide +kernel
theorem dX10_signAt_56 : decode cX10_signAt 56 = .ok (.ireturn, 1) := by decide +kernel
theorem dX10_needCrossing_0 : decode cX10_needCrossing 0 = .ok (.iload_n 0, 1) := by decide +kernel
theorem dX10_needCrossing_1 : decode cX10_needCrossing 1 = .ok (.ifCond .lt 9, 3) := by decide +kernel
theorem dX10_needCrossing_4 : decode cX10_needCrossing 4 = .ok (.iload_n 0, 1) := by decide +kernel
theorem dX10_needCrossing_5 : decode cX10_needCrossing 5 = .ok (.bipush 36, 2) := by decide +kernel
theorem dX10_needCrossing_7 : decode cX10_needCrossing 7 = .ok (.if_icmp .lt 14, 3) := by decide +kernel
theorem dX10_needCrossing_10 : decode cX10_needCrossing 10 = .ok (.new 285, 3) := by decide +kernel
theorem dX10_needCrossing_13 : decode cX10_needCrossing 13 = .ok (.dup, 1) := by decide +kernel
theorem dX10_needCrossing_14 : decode cX10_needCrossing 14 = .ok (.ldc_w 305, 3) := by decide +kernel
theorem dX10_needCrossing_17 : decode cX10_needCrossing 17 = .ok (.invokespecial 289, 3) := by decide +kernel
theorem dX10_needCrossing_20 : decode cX10_needCrossing 20 = .ok (.athrow, 1) := by decide +kernel
theorem dX10_needCrossing_21 : decode cX10_needCrossing 21 = .ok (.return_, 1) := by decide +kernel
theorem dX10_needStation_0 : decode cX10_needStation 0 = .ok (.iload_n 1, 1) := by decide +kernel
theorem dX10_needStation_1 : decode cX10_needStation 1 = .ok (.ifCond .lt 14, 3) := by decide +kernel
theorem dX10_needStation_4 : decode cX10_needStation 4 = .ok (.iload_n 1, 1) := by decide +kernel
theorem dX10_needStation_5 : decode cX10_needStation 5 = .ok (.aload_n 0, 1) := by decide +kernel
theorem dX10_needStation_6 : decode cX10_needStation 6 = .ok (.getfield 29, 3) := by decide +kernel
theorem dX10_needStation_9 : decode cX10_needStation 9 = .ok (.getfield 85, 3) := by decide +kernel
theorem dX10_needStation_12 : decode cX10_needStation 12 = .ok (.if_icmp .lt 14, 3) := by decide +kernel
theorem dX10_needStation_15 : decode cX10_needStation 15 = .ok (.new 285, 3) := by decide +kernel
theorem dX10_needStation_18 : decode cX10_needStation 18 = .ok (.dup, 1) := by decide +kernel
theorem dX10_needStation_19 : decode cX10_needStation 19 = .ok (.ldc_w 307, 3) := by decide +kernel
theorem dX10_needStation_22 : decode cX10_needStation 22 = .ok (.invokespecial 289, 3) := by decide +kernel
theorem dX10_needStation_25 : decode cX10_needStation 25 = .ok (.athrow, 1) := by decide +kernel
theorem dX10_needStation_26 : decode cX10_needStation 26 = .ok (.return_, 1) := by decide +kernel
theorem dX10_needPerson_0 : decode cX10_needPerson 0 = .ok (.iload_n 1, 1) := by decide +kernel
theorem dX10_needPerson_1 : decode cX10_needPerson 1 = .ok (.ifCond .lt 11, 3) := by decide +kernel
theorem dX10_needPerson_4 : decode cX10_needPerson 4 = .ok (.iload_n 1, 1) := by decide +kernel
theorem dX10_needPerson_5 : decode cX10_needPerson 5 = .ok (.aload_n 0, 1) := by decide +kernel
theorem dX10_needPerson_6 : decode cX10_needPerson 6 = .ok (.getfield 22, 3) := by decide +kernel
theorem dX10_needPerson_9 : decode cX10_needPerson 9 = .ok (.if_icmp .lt 14, 3) := by decide +kernel
theorem dX10_needPerson_12 : decode cX10_needPerson 12 = .ok (.new 285, 3) := by decide +kernel
theorem dX10_needPerson_15 : decode cX10_needPerson 15 = .ok (.dup, 1) := by decide +kernel
theorem dX10_needPerson_16 : decode cX10_needPerson 16 = .ok (.ldc_w 309, 3) := by decide +kernel
theorem dX10_needPerson_19 : decode cX10_needPerson 19 = .ok (.invokespecial 289, 3) := by decide +kernel
theorem dX10_needPerson_22 : decode cX10_needPerson 22 = .ok (.athrow, 1) := by decide +kernel
theorem dX10_needPerson_23 : decode cX10_needPerson 23 = .ok (.return_, 1) := by decide +kernel
set_option maxRecDepth 20000 in
theorem ggX10_personAt_X10_needPerson : GoodIn wsX10_personAt wsX10_needPerson := goodIn_ca (goodIn_r _ [6, 7, 8, 9, 10, 11, 12, 13, 14, 15, 16, 17] (by decide +kernel) (by decide +kernel)) (goodIn_sub (fun _ h => List.mem_cons_of_mem _ (List.mem_append_right _ h)) (by decide +kernel))
set_option maxRecDepth 20000 in
theorem gX10_personAt_X10_needPerson : GoodIn wsX10_personAt (wsV RX10 164 RX10 yX10_needPerson wsX10_needPerson) := goodIn_app (goodIn_of _ (by decide +kernel)) ggX10_personAt_X10_needPerson
theorem dX10_personAt_0 : decode cX10_personAt 0 = .ok (.aload_n 0, 1) := by decide +kernel
theorem dX10_personAt_1 : decode cX10_personAt 1 = .ok (.iload_n 1, 1) := by decide +kernel
theorem dX10_personAt_2 : decode cX10_personAt 2 = .ok (.invokevirtual 164, 3) := by decide +kernel
theorem dX10_personAt_5 : decode cX10_personAt 5 = .ok (.aload_n 0, 1) := by decide +kernel
theorem dX10_personAt_6 : decode cX10_personAt 6 = .ok (.getfield 18, 3) := by decide +kernel
theorem dX10_personAt_9 : decode cX10_personAt 9 = .ok (.iload_n 1, 1) := by decide +kernel
theorem dX10_personAt_10 : decode cX10_personAt 10 = .ok (.aaload, 1) := by decide +kernel
theorem dX10_personAt_11 : decode cX10_personAt 11 = .ok (.areturn, 1) := by decide +kernel
theorem dX10_needParty_0 : decode cX10_needParty 0 = .ok (.iload_n 0, 1) := by decide +kernel
theorem dX10_needParty_1 : decode cX10_needParty 1 = .ok (.ifCond .lt 8, 3) := by decide +kernel
theorem dX10_needParty_4 : decode cX10_needParty 4 = .ok (.iload_n 0, 1) := by decide +kernel
theorem dX10_needParty_5 : decode cX10_needParty 5 = .ok (.iconst 5, 1) := by decide +kernel
theorem dX10_needParty_6 : decode cX10_needParty 6 = .ok (.if_icmp .lt 14, 3) := by decide +kernel
theorem dX10_needParty_9 : decode cX10_needParty 9 = .ok (.new 285, 3) := by decide +kernel
theorem dX10_needParty_12 : decode cX10_needParty 12 = .ok (.dup, 1) := by decide +kernel
theorem dX10_needParty_13 : decode cX10_needParty 13 = .ok (.ldc_w 311, 3) := by decide +kernel
theorem dX10_needParty_16 : decode cX10_needParty 16 = .ok (.invokespecial 289, 3) := by decide +kernel
theorem dX10_needParty_19 : decode cX10_needParty 19 = .ok (.athrow, 1) := by decide +kernel
theorem dX10_needParty_20 : decode cX10_needParty 20 = .ok (.return_, 1) := by decide +kernel
theorem dX10_needClerk_0 : decode cX10_needClerk 0 = .ok (.iload_n 0, 1) := by decide +kernel
theorem dX10_needClerk_1 : decode cX10_needClerk 1 = .ok (.ifCond .lt 8, 3) := by decide +kernel
theorem dX10_needClerk_4 : decode cX10_needClerk 4 = .ok (.iload_n 0, 1) := by decide +kernel
theorem dX10_needClerk_5 : decode cX10_needClerk 5 = .ok (.iconst 4, 1) := by decide +kernel
theorem dX10_needClerk_6 : decode cX10_needClerk 6 = .ok (.if_icmp .lt 14, 3) := by decide +kernel
theorem dX10_needClerk_9 : decode cX10_needClerk 9 = .ok (.new 285, 3) := by decide +kernel
theorem dX10_needClerk_12 : decode cX10_needClerk 12 = .ok (.dup, 1) := by decide +kernel
theorem dX10_needClerk_13 : decode cX10_needClerk 13 = .ok (.ldc_w 313, 3) := by decide +kernel
theorem dX10_needClerk_16 : decode cX10_needClerk 16 = .ok (.invokespecial 289, 3) := by decide +kernel
theorem dX10_needClerk_19 : decode cX10_needClerk 19 = .ok (.athrow, 1) := by decide +kernel
theorem dX10_needClerk_20 : decode cX10_needClerk 20 = .ok (.return_, 1) := by decide +kernel
theorem dX10_needEnvelope_0 : decode cX10_needEnvelope 0 = .ok (.iload_n 1, 1) := by decide +kernel
theorem dX10_needEnvelope_1 : decode cX10_needEnvelope 1 = .ok (.ifCond .lt 17, 3) := by decide +kernel
theorem dX10_needEnvelope_4 : decode cX10_needEnvelope 4 = .ok (.iload_n 1, 1) := by decide +kernel
theorem dX10_needEnvelope_5 : decode cX10_needEnvelope 5 = .ok (.aload_n 0, 1) := by decide +kernel
theorem dX10_needEnvelope_6 : decode cX10_needEnvelope 6 = .ok (.getfield 43, 3) := by decide +kernel
theorem dX10_needEnvelope_9 : decode cX10_needEnvelope 9 = .ok (.getfield 185, 3) := by decide +kernel
theorem dX10_needEnvelope_12 : decode cX10_needEnvelope 12 = .ok (.getfield 189, 3) := by decide +kernel
theorem dX10_needEnvelope_15 : decode cX10_needEnvelope 15 = .ok (.if_icmp .lt 14, 3) := by decide +kernel
theorem dX10_needEnvelope_18 : decode cX10_needEnvelope 18 = .ok (.new 285, 3) := by decide +kernel
theorem dX10_needEnvelope_21 : decode cX10_needEnvelope 21 = .ok (.dup, 1) := by decide +kernel
theorem dX10_needEnvelope_22 : decode cX10_needEnvelope 22 = .ok (.ldc_w 315, 3) := by decide +kernel
theorem dX10_needEnvelope_25 : decode cX10_needEnvelope 25 = .ok (.invokespecial 289, 3) := by decide +kernel
theorem dX10_needEnvelope_28 : decode cX10_needEnvelope 28 = .ok (.athrow, 1) := by decide +kernel
theorem dX10_needEnvelope_29 : decode cX10_needEnvelope 29 = .ok (.return_, 1) := by decide +kernel
theorem dX10_needRange_0 : decode cX10_needRange 0 = .ok (.iload_n 0, 1) := by decide +kernel
theorem dX10_needRange_1 : decode cX10_needRange 1 = .ok (.iload_n 1, 1) := by decide +kernel
theorem dX10_needRange_2 : decode cX10_needRange 2 = .ok (.if_icmp .lt 8, 3) := by decide +kernel
theorem dX10_needRange_5 : decode cX10_needRange 5 = .ok (.iload_n 0, 1) := by decide +kernel
theorem dX10_needRange_6 : decode cX10_needRange 6 = .ok (.iload_n 2, 1) := by decide +kernel
theorem dX10_needRange_7 : decode cX10_needRange 7 = .ok (.if_icmp .le 14, 3) := by decide +kernel
theorem dX10_needRange_10 : decode cX10_needRange 10 = .ok (.new 63, 3) := by decide +kernel
theorem dX10_needRange_13 : decode cX10_needRange 13 = .ok (.dup, 1) := by decide +kernel
theorem dX10_needRange_14 : decode cX10_needRange 14 = .ok (.ldc_w 317, 3) := by decide +kernel
theorem dX10_needRange_17 : decode cX10_needRange 17 = .ok (.invokespecial 67, 3) := by decide +kernel
theorem dX10_needRange_20 : decode cX10_needRange 20 = .ok (.athrow, 1) := by decide +kernel
theorem dX10_needRange_21 : decode cX10_needRange 21 = .ok (.return_, 1) := by decide +kernel
theorem dX10_needStage_0 : decode cX10_needStage 0 = .ok (.aload_n 0, 1) := by decide +kernel
theorem dX10_needStage_1 : decode cX10_needStage 1 = .ok (.getfield 43, 3) := by decide +kernel
theorem dX10_needStage_4 : decode cX10_needStage 4 = .ok (.getfield 135, 3) := by decide +kernel
theorem dX10_needStage_7 : decode cX10_needStage 7 = .ok (.iload_n 1, 1) := by decide +kernel
theorem dX10_needStage_8 : decode cX10_needStage 8 = .ok (.if_icmp .eq 14, 3) := by decide +kernel
theorem dX10_needStage_11 : decode cX10_needStage 11 = .ok (.new 88, 3) := by decide +kernel
theorem dX10_needStage_14 : decode cX10_needStage 14 = .ok (.dup, 1) := by decide +kernel
theorem dX10_needStage_15 : decode cX10_needStage 15 = .ok (.ldc_w 319, 3) := by decide +kernel
theorem dX10_needStage_18 : decode cX10_needStage 18 = .ok (.invokespecial 92, 3) := by decide +kernel
theorem dX10_needStage_21 : decode cX10_needStage 21 = .ok (.athrow, 1) := by decide +kernel
theorem dX10_needStage_22 : decode cX10_needStage 22 = .ok (.return_, 1) := by decide +kernel
theorem dX10_needAlive_0 : decode cX10_needAlive 0 = .ok (.aload_n 0, 1) := by decide +kernel
theorem dX10_needAlive_1 : decode cX10_needAlive 1 = .ok (.getfield 127, 3) := by decide +kernel
theorem dX10_needAlive_4 : decode cX10_needAlive 4 = .ok (.ifCond .eq 14, 3) := by decide +kernel
theorem dX10_needAlive_7 : decode cX10_needAlive 7 = .ok (.new 88, 3) := by decide +kernel
theorem dX10_needAlive_10 : decode cX10_needAlive 10 = .ok (.dup, 1) := by decide +kernel
theorem dX10_needAlive_11 : decode cX10_needAlive 11 = .ok (.ldc_w 321, 3) := by decide +kernel
theorem dX10_needAlive_14 : decode cX10_needAlive 14 = .ok (.invokespecial 92, 3) := by decide +kernel
theorem dX10_needAlive_17 : decode cX10_needAlive 17 = .ok (.athrow, 1) := by decide +kernel
theorem dX10_needAlive_18 : decode cX10_needAlive 18 = .ok (.return_, 1) := by decide +kernel
set_option maxRecDepth 20000 in
theorem ggX10_needOnRoll_X5_stationFor : GoodIn wsX10_needOnRoll wsX5_stationFor := goodIn_ca (goodIn_r _ [8, 9, 28, 29, 30] (by decide +kernel) (by decide +kernel)) (goodIn_sub (fun _ h => List.mem_cons_of_mem _ (List.mem_append_right _ h)) (by decide +kernel))
set_option maxRecDepth 20000 in
theorem gX10_needOnRoll_X5_stationFor : GoodIn wsX10_needOnRoll (wsV RX10 171 RX5 yX5_stationFor wsX5_stationFor) := goodIn_app (goodIn_of _ (by decide +kernel)) ggX10_needOnRoll_X5_stationFor
theorem dX10_needOnRoll_0 : decode cX10_needOnRoll 0 = .ok (.aload_n 0, 1) := by decide +kernel
theorem dX10_needOnRoll_1 : decode cX10_needOnRoll 1 = .ok (.getfield 43, 3) := by decide +kernel
theorem dX10_needOnRoll_4 : decode cX10_needOnRoll 4 = .ok (.getfield 167, 3) := by decide +kernel
theorem dX10_needOnRoll_7 : decode cX10_needOnRoll 7 = .ok (.iload_n 1, 1) := by decide +kernel
theorem dX10_needOnRoll_8 : decode cX10_needOnRoll 8 = .ok (.invokevirtual 171, 3) := by decide +kernel
theorem dX10_needOnRoll_11 : decode cX10_needOnRoll 11 = .ok (.iconst (-1), 1) := by decide +kernel
theorem dX10_needOnRoll_12 : decode cX10_needOnRoll 12 = .ok (.if_icmp .ne 14, 3) := by decide +kernel
theorem dX10_needOnRoll_15 : decode cX10_needOnRoll 15 = .ok (.new 88, 3) := by decide +kernel
theorem dX10_needOnRoll_18 : decode cX10_needOnRoll 18 = .ok (.dup, 1) := by decide +kernel
theorem dX10_needOnRoll_19 : decode cX10_needOnRoll 19 = .ok (.ldc_w 323, 3) := by decide +kernel
theorem dX10_needOnRoll_22 : decode cX10_needOnRoll 22 = .ok (.invokespecial 92, 3) := by decide +kernel
theorem dX10_needOnRoll_25 : decode cX10_needOnRoll 25 = .ok (.athrow, 1) := by decide +kernel
theorem dX10_needOnRoll_26 : decode cX10_needOnRoll 26 = .ok (.return_, 1) := by decide +kernel
set_option maxRecDepth 20000 in
theorem ggX10_beginDay_X10_makeRoll : GoodIn wsX10_beginDay wsX10_makeRoll := goodIn_ca (goodIn_r _ [7, 1, 8, 9, 10, 11, 12, 13, 14, 15, 16, 17, 18, 19, 20, 21, 22, 23, 24, 25, 26, 27, 28, 29, 30, 31, 32, 33, 34, 35, 36, 37, 38, 39, 6, 40, 41, 42, 43, 44, 45, 46, 47, 48, 49, 50, 51, 52, 53, 54, 55, 56, 57, 58, 59, 60, 61, 62, 63, 102, 103, 104, 105, 106, 107, 108, 109, 120, 121, 122, 110, 111, 112, 113, 114, 115, 116, 117, 118, 119, 123, 124, 125, 126, 127, 128, 129, 130, 131, 132, 133, 134] (by decide +kernel) (by decide +kernel)) (goodIn_sub (fun _ h => List.mem_cons_of_mem _ (List.mem_append_right _ h)) (by decide +kernel))
set_option maxRecDepth 20000 in
theorem gX10_beginDay_X10_makeRoll : GoodIn wsX10_beginDay (wsV RX10 325 RX10 yX10_makeRoll wsX10_makeRoll) := goodIn_app (goodIn_of _ (by decide +kernel)) ggX10_beginDay_X10_makeRoll
set_option maxRecDepth 20000 in
theorem ggX10_beginDay_X2_openAllSealed : GoodIn wsX10_beginDay wsX2_openAllSealed := goodIn_ca (goodIn_r _ [68, 69, 70, 71, 72, 67, 73, 74, 75, 76, 77, 78, 79, 80, 81, 82, 83, 84, 85, 86, 87, 88, 89, 90, 91, 92, 93, 52, 94, 63, 95, 96, 97, 98, 99, 100, 101, 110, 111, 112, 113, 114, 115, 116, 117, 118, 119, 135, 136, 137, 138, 139, 140, 141, 142, 143, 132, 133, 134, 144, 145, 146, 147, 148, 149] (by decide +kernel) (by decide +kernel)) (goodIn_sub (fun _ h => List.mem_cons_of_mem _ (List.mem_append_right _ h)) (by decide +kernel))
set_option maxRecDepth 20000 in
theorem gX10_beginDay_X2_openAllSealed : GoodIn wsX10_beginDay (wsV RX10 328 RX2 yX2_openAllSealed wsX2_openAllSealed) := goodIn_app (goodIn_of _ (by decide +kernel)) ggX10_beginDay_X2_openAllSealed
theorem dX10_beginDay_0 : decode cX10_beginDay 0 = .ok (.aload_n 0, 1) := by decide +kernel
theorem dX10_beginDay_1 : decode cX10_beginDay 1 = .ok (.getfield 43, 3) := by decide +kernel
theorem dX10_beginDay_4 : decode cX10_beginDay 4 = .ok (.getfield 135, 3) := by decide +kernel
theorem dX10_beginDay_7 : decode cX10_beginDay 7 = .ok (.iconst 1, 1) := by decide +kernel
theorem dX10_beginDay_8 : decode cX10_beginDay 8 = .ok (.if_icmp .ne 37, 3) := by decide +kernel
theorem dX10_beginDay_11 : decode cX10_beginDay 11 = .ok (.aload_n 0, 1) := by decide +kernel
theorem dX10_beginDay_12 : decode cX10_beginDay 12 = .ok (.getfield 37, 3) := by decide +kernel
theorem dX10_beginDay_15 : decode cX10_beginDay 15 = .ok (.aload_n 0, 1) := by decide +kernel
theorem dX10_beginDay_16 : decode cX10_beginDay 16 = .ok (.getfield 43, 3) := by decide +kernel
theorem dX10_beginDay_19 : decode cX10_beginDay 19 = .ok (.getfield 148, 3) := by decide +kernel
theorem dX10_beginDay_22 : decode cX10_beginDay 22 = .ok (.bipush 7, 2) := by decide +kernel
theorem dX10_beginDay_24 : decode cX10_beginDay 24 = .ok (.isub, 1) := by decide +kernel
theorem dX10_beginDay_25 : decode cX10_beginDay 25 = .ok (.iconst 1, 1) := by decide +kernel
theorem dX10_beginDay_26 : decode cX10_beginDay 26 = .ok (.iadd, 1) := by decide +kernel
theorem dX10_beginDay_27 : decode cX10_beginDay 27 = .ok (.if_icmp .ne 18, 3) := by decide +kernel
theorem dX10_beginDay_30 : decode cX10_beginDay 30 = .ok (.aload_n 0, 1) := by decide +kernel
theorem dX10_beginDay_31 : decode cX10_beginDay 31 = .ok (.invokevirtual 325, 3) := by decide +kernel
theorem dX10_beginDay_34 : decode cX10_beginDay 34 = .ok (.aload_n 0, 1) := by decide +kernel
theorem dX10_beginDay_35 : decode cX10_beginDay 35 = .ok (.getfield 43, 3) := by decide +kernel
theorem dX10_beginDay_38 : decode cX10_beginDay 38 = .ok (.iconst 2, 1) := by decide +kernel
theorem dX10_beginDay_39 : decode cX10_beginDay 39 = .ok (.putfield 135, 3) := by decide +kernel
theorem dX10_beginDay_42 : decode cX10_beginDay 42 = .ok (.goto 81, 3) := by decide +kernel
theorem dX10_beginDay_45 : decode cX10_beginDay 45 = .ok (.aload_n 0, 1) := by decide +kernel
theorem dX10_beginDay_46 : decode cX10_beginDay 46 = .ok (.getfield 43, 3) := by decide +kernel
theorem dX10_beginDay_49 : decode cX10_beginDay 49 = .ok (.getfield 135, 3) := by decide +kernel
theorem dX10_beginDay_52 : decode cX10_beginDay 52 = .ok (.iconst 2, 1) := by decide +kernel
theorem dX10_beginDay_53 : decode cX10_beginDay 53 = .ok (.if_icmp .ne 28, 3) := by decide +kernel
theorem dX10_beginDay_56 : decode cX10_beginDay 56 = .ok (.aload_n 0, 1) := by decide +kernel
theorem dX10_beginDay_57 : decode cX10_beginDay 57 = .ok (.getfield 37, 3) := by decide +kernel
theorem dX10_beginDay_60 : decode cX10_beginDay 60 = .ok (.aload_n 0, 1) := by decide +kernel
theorem dX10_beginDay_61 : decode cX10_beginDay 61 = .ok (.getfield 43, 3) := by decide +kernel
theorem dX10_beginDay_64 : decode cX10_beginDay 64 = .ok (.getfield 148, 3) := by decide +kernel
theorem dX10_beginDay_67 : decode cX10_beginDay 67 = .ok (.if_icmp .ne 14, 3) := by decide +kernel
theorem dX10_beginDay_70 : decode cX10_beginDay 70 = .ok (.aload_n 0, 1) := by decide +kernel
theorem dX10_beginDay_71 : decode cX10_beginDay 71 = .ok (.getfield 43, 3) := by decide +kernel
theorem dX10_beginDay_74 : decode cX10_beginDay 74 = .ok (.iconst 3, 1) := by decide +kernel
theorem dX10_beginDay_75 : decode cX10_beginDay 75 = .ok (.putfield 135, 3) := by decide +kernel
theorem dX10_beginDay_78 : decode cX10_beginDay 78 = .ok (.goto 45, 3) := by decide +kernel
theorem dX10_beginDay_81 : decode cX10_beginDay 81 = .ok (.aload_n 0, 1) := by decide +kernel
theorem dX10_beginDay_82 : decode cX10_beginDay 82 = .ok (.getfield 43, 3) := by decide +kernel
theorem dX10_beginDay_85 : decode cX10_beginDay 85 = .ok (.getfield 135, 3) := by decide +kernel
theorem dX10_beginDay_88 : decode cX10_beginDay 88 = .ok (.iconst 3, 1) := by decide +kernel
theorem dX10_beginDay_89 : decode cX10_beginDay 89 = .ok (.if_icmp .ne 34, 3) := by decide +kernel
theorem dX10_beginDay_92 : decode cX10_beginDay 92 = .ok (.aload_n 0, 1) := by decide +kernel
theorem dX10_beginDay_93 : decode cX10_beginDay 93 = .ok (.getfield 37, 3) := by decide +kernel
theorem dX10_beginDay_96 : decode cX10_beginDay 96 = .ok (.aload_n 0, 1) := by decide +kernel
theorem dX10_beginDay_97 : decode cX10_beginDay 97 = .ok (.getfield 43, 3) := by decide +kernel
theorem dX10_beginDay_100 : decode cX10_beginDay 100 = .ok (.getfield 148, 3) := by decide +kernel
theorem dX10_beginDay_103 : decode cX10_beginDay 103 = .ok (.iconst 1, 1) := by decide +kernel
theorem dX10_beginDay_104 : decode cX10_beginDay 104 = .ok (.iadd, 1) := by decide +kernel
theorem dX10_beginDay_105 : decode cX10_beginDay 105 = .ok (.if_icmp .ne 18, 3) := by decide +kernel
theorem dX10_beginDay_108 : decode cX10_beginDay 108 = .ok (.aload_n 0, 1) := by decide +kernel
theorem dX10_beginDay_109 : decode cX10_beginDay 109 = .ok (.getfield 43, 3) := by decide +kernel
theorem dX10_beginDay_112 : decode cX10_beginDay 112 = .ok (.invokevirtual 328, 3) := by decide +kernel
theorem dX10_beginDay_115 : decode cX10_beginDay 115 = .ok (.aload_n 0, 1) := by decide +kernel
theorem dX10_beginDay_116 : decode cX10_beginDay 116 = .ok (.getfield 43, 3) := by decide +kernel
theorem dX10_beginDay_119 : decode cX10_beginDay 119 = .ok (.iconst 4, 1) := by decide +kernel
theorem dX10_beginDay_120 : decode cX10_beginDay 120 = .ok (.putfield 135, 3) := by decide +kernel
theorem dX10_beginDay_123 : decode cX10_beginDay 123 = .ok (.return_, 1) := by decide +kernel
set_option maxRecDepth 20000 in
theorem ggX10_makeRoll_X4_crossingOn : GoodIn wsX10_makeRoll wsX4_crossingOn := goodIn_r _ [10, 11, 80, 81, 82, 83, 84, 85] (by decide +kernel) (by decide +kernel)
set_option maxRecDepth 20000 in
theorem gX10_makeRoll_X4_crossingOn : GoodIn wsX10_makeRoll (wsV RX10 124 RX4 yX4_crossingOn wsX4_crossingOn) := goodIn_app (goodIn_of _ (by decide +kernel)) ggX10_makeRoll_X4_crossingOn
set_option maxRecDepth 20000 in
theorem ggX10_makeRoll_X9_measureFrom : GoodIn wsX10_makeRoll wsX9_measureFrom := goodIn_ca (goodIn_r _ [16, 17, 18, 19, 20, 21, 22, 23, 24, 25, 15, 26, 27, 28, 29, 30, 86, 87, 88] (by decide +kernel) (by decide +kernel)) (goodIn_sub (fun _ h => List.mem_cons_of_mem _ (List.mem_append_right _ h)) (by decide +kernel))
set_option maxRecDepth 20000 in
theorem gX10_makeRoll_X9_measureFrom : GoodIn wsX10_makeRoll (wsV RX10 74 RX9 yX9_measureFrom wsX9_measureFrom) := goodIn_app (goodIn_of _ (by decide +kernel)) ggX10_makeRoll_X9_measureFrom
set_option maxRecDepth 20000 in
theorem ggX10_makeRoll_X10_chooseStation : GoodIn wsX10_makeRoll wsX10_chooseStation := goodIn_ca (goodIn_r _ [35, 36, 37, 38, 34, 39, 2, 5, 1, 40, 41, 42, 15, 43, 17, 44, 45, 46, 47, 48, 49, 50, 51, 52, 53, 59, 60, 61, 62, 63, 64, 65, 66, 67, 68, 69, 70, 71, 72, 73, 74, 75, 76, 77, 78, 79, 86, 87, 88, 89, 90, 91] (by decide +kernel) (by decide +kernel)) (goodIn_sub (fun _ h => List.mem_cons_of_mem _ (List.mem_append_right _ h)) (by decide +kernel))
set_option maxRecDepth 20000 in
theorem gX10_makeRoll_X10_chooseStation : GoodIn wsX10_makeRoll (wsV RX10 331 RX10 yX10_chooseStation wsX10_chooseStation) := goodIn_app (goodIn_of _ (by decide +kernel)) ggX10_makeRoll_X10_chooseStation
set_option maxRecDepth 20000 in
theorem ggX10_makeRoll_X5_enter : GoodIn wsX10_makeRoll wsX5_enter := goodIn_ca (goodIn_r _ [57, 58, 49, 89, 90, 91] (by decide +kernel) (by decide +kernel)) (goodIn_sub (fun _ h => List.mem_cons_of_mem _ (List.mem_append_right _ h)) (by decide +kernel))
set_option maxRecDepth 20000 in
theorem gX10_makeRoll_X5_enter : GoodIn wsX10_makeRoll (wsV RX10 334 RX5 yX5_enter wsX5_enter) := goodIn_app (goodIn_of _ (by decide +kernel)) ggX10_makeRoll_X5_enter
theorem dX10_makeRoll_0 : decode cX10_makeRoll 0 = .ok (.aload_n 0, 1) := by decide +kernel
theorem dX10_makeRoll_1 : decode cX10_makeRoll 1 = .ok (.getfield 43, 3) := by decide +kernel
theorem dX10_makeRoll_4 : decode cX10_makeRoll 4 = .ok (.aload_n 0, 1) := by decide +kernel
theorem dX10_makeRoll_5 : decode cX10_makeRoll 5 = .ok (.getfield 29, 3) := by decide +kernel
theorem dX10_makeRoll_8 : decode cX10_makeRoll 8 = .ok (.getfield 85, 3) := by decide +kernel
theorem dX10_makeRoll_11 : decode cX10_makeRoll 11 = .ok (.putfield 246, 3) := by decide +kernel
theorem dX10_makeRoll_14 : decode cX10_makeRoll 14 = .ok (.aload_n 0, 1) := by decide +kernel
theorem dX10_makeRoll_15 : decode cX10_makeRoll 15 = .ok (.getfield 43, 3) := by decide +kernel
theorem dX10_makeRoll_18 : decode cX10_makeRoll 18 = .ok (.getfield 148, 3) := by decide +kernel
theorem dX10_makeRoll_21 : decode cX10_makeRoll 21 = .ok (.bipush 7, 2) := by decide +kernel
theorem dX10_makeRoll_23 : decode cX10_makeRoll 23 = .ok (.isub, 1) := by decide +kernel
theorem dX10_makeRoll_24 : decode cX10_makeRoll 24 = .ok (.istore_n 1, 1) := by decide +kernel
theorem dX10_makeRoll_25 : decode cX10_makeRoll 25 = .ok (.iconst 0, 1) := by decide +kernel
theorem dX10_makeRoll_26 : decode cX10_makeRoll 26 = .ok (.istore_n 2, 1) := by decide +kernel
theorem dX10_makeRoll_27 : decode cX10_makeRoll 27 = .ok (.iload_n 2, 1) := by decide +kernel
theorem dX10_makeRoll_28 : decode cX10_makeRoll 28 = .ok (.aload_n 0, 1) := by decide +kernel
theorem dX10_makeRoll_29 : decode cX10_makeRoll 29 = .ok (.getfield 22, 3) := by decide +kernel
theorem dX10_makeRoll_32 : decode cX10_makeRoll 32 = .ok (.if_icmp .ge 64, 3) := by decide +kernel
theorem dX10_makeRoll_35 : decode cX10_makeRoll 35 = .ok (.aload_n 0, 1) := by decide +kernel
theorem dX10_makeRoll_36 : decode cX10_makeRoll 36 = .ok (.getfield 18, 3) := by decide +kernel
theorem dX10_makeRoll_39 : decode cX10_makeRoll 39 = .ok (.iload_n 2, 1) := by decide +kernel
theorem dX10_makeRoll_40 : decode cX10_makeRoll 40 = .ok (.aaload, 1) := by decide +kernel
theorem dX10_makeRoll_41 : decode cX10_makeRoll 41 = .ok (.astore_n 3, 1) := by decide +kernel
theorem dX10_makeRoll_42 : decode cX10_makeRoll 42 = .ok (.aload_n 3, 1) := by decide +kernel
theorem dX10_makeRoll_43 : decode cX10_makeRoll 43 = .ok (.getfield 127, 3) := by decide +kernel
theorem dX10_makeRoll_46 : decode cX10_makeRoll 46 = .ok (.ifCond .ne 44, 3) := by decide +kernel
theorem dX10_makeRoll_49 : decode cX10_makeRoll 49 = .ok (.aload_n 3, 1) := by decide +kernel
theorem dX10_makeRoll_50 : decode cX10_makeRoll 50 = .ok (.getfield 104, 3) := by decide +kernel
theorem dX10_makeRoll_53 : decode cX10_makeRoll 53 = .ok (.aload_n 0, 1) := by decide +kernel
theorem dX10_makeRoll_54 : decode cX10_makeRoll 54 = .ok (.getfield 43, 3) := by decide +kernel
theorem dX10_makeRoll_57 : decode cX10_makeRoll 57 = .ok (.getfield 148, 3) := by decide +kernel
