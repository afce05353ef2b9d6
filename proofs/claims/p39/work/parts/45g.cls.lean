theorem dX10_vote_59 : decode cX10_vote 59 = .ok (.getfield 43, 3) := by decide +kernel
theorem dX10_vote_62 : decode cX10_vote 62 = .ok (.getfield 167, 3) := by decide +kernel
theorem dX10_vote_65 : decode cX10_vote 65 = .ok (.iload_n 1, 1) := by decide +kernel
theorem dX10_vote_66 : decode cX10_vote 66 = .ok (.invokevirtual 171, 3) := by decide +kernel
theorem dX10_vote_69 : decode cX10_vote 69 = .ok (.iload_n 2, 1) := by decide +kernel
theorem dX10_vote_70 : decode cX10_vote 70 = .ok (.if_icmp .eq 13, 3) := by decide +kernel
theorem dX10_vote_73 : decode cX10_vote 73 = .ok (.new 88, 3) := by decide +kernel
theorem dX10_vote_76 : decode cX10_vote 76 = .ok (.dup, 1) := by decide +kernel
theorem dX10_vote_77 : decode cX10_vote 77 = .ok (.ldc 211, 2) := by decide +kernel
theorem dX10_vote_79 : decode cX10_vote 79 = .ok (.invokespecial 92, 3) := by decide +kernel
theorem dX10_vote_82 : decode cX10_vote 82 = .ok (.athrow, 1) := by decide +kernel
theorem dX10_vote_83 : decode cX10_vote 83 = .ok (.aload_n 0, 1) := by decide +kernel
theorem dX10_vote_84 : decode cX10_vote 84 = .ok (.iload_n 1, 1) := by decide +kernel
theorem dX10_vote_85 : decode cX10_vote 85 = .ok (.invokevirtual 131, 3) := by decide +kernel
theorem dX10_vote_88 : decode cX10_vote 88 = .ok (.pop, 1) := by decide +kernel
theorem dX10_vote_89 : decode cX10_vote 89 = .ok (.aload_n 0, 1) := by decide +kernel
theorem dX10_vote_90 : decode cX10_vote 90 = .ok (.getfield 43, 3) := by decide +kernel
theorem dX10_vote_93 : decode cX10_vote 93 = .ok (.getfield 194, 3) := by decide +kernel
theorem dX10_vote_96 : decode cX10_vote 96 = .ok (.aload_n 0, 1) := by decide +kernel
theorem dX10_vote_97 : decode cX10_vote 97 = .ok (.getfield 37, 3) := by decide +kernel
theorem dX10_vote_100 : decode cX10_vote 100 = .ok (.bipush 118, 2) := by decide +kernel
theorem dX10_vote_102 : decode cX10_vote 102 = .ok (.iload_n 1, 1) := by decide +kernel
theorem dX10_vote_103 : decode cX10_vote 103 = .ok (.invokevirtual 198, 3) := by decide +kernel
theorem dX10_vote_106 : decode cX10_vote 106 = .ok (.aload_n 0, 1) := by decide +kernel
theorem dX10_vote_107 : decode cX10_vote 107 = .ok (.getfield 43, 3) := by decide +kernel
theorem dX10_vote_110 : decode cX10_vote 110 = .ok (.iload_n 1, 1) := by decide +kernel
theorem dX10_vote_111 : decode cX10_vote 111 = .ok (.iload_n 3, 1) := by decide +kernel
theorem dX10_vote_112 : decode cX10_vote 112 = .ok (.invokevirtual 213, 3) := by decide +kernel
theorem dX10_vote_115 : decode cX10_vote 115 = .ok (.aload_n 0, 1) := by decide +kernel
theorem dX10_vote_116 : decode cX10_vote 116 = .ok (.getfield 43, 3) := by decide +kernel
theorem dX10_vote_119 : decode cX10_vote 119 = .ok (.getfield 217, 3) := by decide +kernel
theorem dX10_vote_122 : decode cX10_vote 122 = .ok (.iload_n 2, 1) := by decide +kernel
theorem dX10_vote_123 : decode cX10_vote 123 = .ok (.aaload, 1) := by decide +kernel
theorem dX10_vote_124 : decode cX10_vote 124 = .ok (.getfield 221, 3) := by decide +kernel
theorem dX10_vote_127 : decode cX10_vote 127 = .ok (.ireturn, 1) := by decide +kernel
set_option maxRecDepth 20000 in
theorem ggX10_open_X10_needPerson : GoodIn wsX10_open wsX10_needPerson := goodIn_ca (goodIn_r _ [8, 9, 10, 11, 60, 61, 62, 63, 64, 65, 66, 67] (by decide +kernel) (by decide +kernel)) (goodIn_sub (fun _ h => List.mem_cons_of_mem _ (List.mem_append_left _ (List.mem_append_right _ h))) (by decide +kernel))
set_option maxRecDepth 20000 in
theorem gX10_open_X10_needPerson : GoodIn wsX10_open (wsV RX10 164 RX10 yX10_needPerson wsX10_needPerson) := goodIn_app (goodIn_of _ (by decide +kernel)) ggX10_open_X10_needPerson
set_option maxRecDepth 20000 in
theorem ggX10_open_X10_needStage : GoodIn wsX10_open wsX10_needStage := goodIn_ca (goodIn_r _ [15, 1, 2, 3, 60, 61, 62, 63, 64, 65, 66, 67, 68, 69, 70, 71, 72, 73, 74, 75, 76, 77] (by decide +kernel) (by decide +kernel)) (goodIn_sub (fun _ h => List.mem_cons_of_mem _ (List.mem_append_left _ (List.mem_append_left _ (List.mem_append_right _ h)))) (by decide +kernel))
set_option maxRecDepth 20000 in
theorem gX10_open_X10_needStage : GoodIn wsX10_open (wsV RX10 179 RX10 yX10_needStage wsX10_needStage) := goodIn_app (goodIn_of _ (by decide +kernel)) ggX10_open_X10_needStage
set_option maxRecDepth 20000 in
theorem ggX10_open_X3_sealedOf : GoodIn wsX10_open wsX3_sealedOf := goodIn_ca (goodIn_r _ [20, 21, 22, 23, 78, 79, 80, 81] (by decide +kernel) (by decide +kernel)) (goodIn_sub (fun _ h => List.mem_cons_of_mem _ (List.mem_append_right _ h)) (by decide +kernel))
set_option maxRecDepth 20000 in
theorem gX10_open_X3_sealedOf : GoodIn wsX10_open (wsV RX10 224 RX3 yX3_sealedOf wsX3_sealedOf) := goodIn_app (goodIn_of _ (by decide +kernel)) ggX10_open_X3_sealedOf
set_option maxRecDepth 20000 in
theorem ggX10_open_X2_openEnvelope : GoodIn wsX10_open wsX2_openEnvelope := goodIn_ca (goodIn_r _ [28, 29, 30, 31, 32, 33, 34, 35, 36, 37, 38, 39, 40, 41, 42, 43, 27, 44, 45, 46, 47, 48, 49, 50, 51, 52, 53, 54, 55, 56, 57, 58, 59, 68, 69, 70, 71, 72, 73, 74, 75, 76, 77, 78, 79, 80, 81, 82, 83, 84, 85, 86, 87, 88, 89, 90, 91, 92, 93, 94, 95] (by decide +kernel) (by decide +kernel)) (goodIn_sub (fun _ h => List.mem_cons_of_mem _ (List.mem_append_right _ h)) (by decide +kernel))
set_option maxRecDepth 20000 in
theorem gX10_open_X2_openEnvelope : GoodIn wsX10_open (wsV RX10 229 RX2 yX2_openEnvelope wsX2_openEnvelope) := goodIn_app (goodIn_of _ (by decide +kernel)) ggX10_open_X2_openEnvelope
theorem dX10_open_0 : decode cX10_open 0 = .ok (.aload_n 0, 1) := by decide +kernel
theorem dX10_open_1 : decode cX10_open 1 = .ok (.iload_n 1, 1) := by decide +kernel
theorem dX10_open_2 : decode cX10_open 2 = .ok (.invokevirtual 164, 3) := by decide +kernel
theorem dX10_open_5 : decode cX10_open 5 = .ok (.aload_n 0, 1) := by decide +kernel
theorem dX10_open_6 : decode cX10_open 6 = .ok (.iconst 3, 1) := by decide +kernel
theorem dX10_open_7 : decode cX10_open 7 = .ok (.invokevirtual 179, 3) := by decide +kernel
theorem dX10_open_10 : decode cX10_open 10 = .ok (.aload_n 0, 1) := by decide +kernel
theorem dX10_open_11 : decode cX10_open 11 = .ok (.getfield 43, 3) := by decide +kernel
theorem dX10_open_14 : decode cX10_open 14 = .ok (.getfield 185, 3) := by decide +kernel
theorem dX10_open_17 : decode cX10_open 17 = .ok (.iload_n 1, 1) := by decide +kernel
theorem dX10_open_18 : decode cX10_open 18 = .ok (.invokevirtual 224, 3) := by decide +kernel
theorem dX10_open_21 : decode cX10_open 21 = .ok (.istore_n 2, 1) := by decide +kernel
theorem dX10_open_22 : decode cX10_open 22 = .ok (.iload_n 2, 1) := by decide +kernel
theorem dX10_open_23 : decode cX10_open 23 = .ok (.iconst (-1), 1) := by decide +kernel
theorem dX10_open_24 : decode cX10_open 24 = .ok (.if_icmp .ne 13, 3) := by decide +kernel
theorem dX10_open_27 : decode cX10_open 27 = .ok (.new 88, 3) := by decide +kernel
theorem dX10_open_30 : decode cX10_open 30 = .ok (.dup, 1) := by decide +kernel
theorem dX10_open_31 : decode cX10_open 31 = .ok (.ldc 227, 2) := by decide +kernel
theorem dX10_open_33 : decode cX10_open 33 = .ok (.invokespecial 92, 3) := by decide +kernel
theorem dX10_open_36 : decode cX10_open 36 = .ok (.athrow, 1) := by decide +kernel
theorem dX10_open_37 : decode cX10_open 37 = .ok (.aload_n 0, 1) := by decide +kernel
theorem dX10_open_38 : decode cX10_open 38 = .ok (.getfield 43, 3) := by decide +kernel
theorem dX10_open_41 : decode cX10_open 41 = .ok (.iload_n 2, 1) := by decide +kernel
theorem dX10_open_42 : decode cX10_open 42 = .ok (.bipush 111, 2) := by decide +kernel
theorem dX10_open_44 : decode cX10_open 44 = .ok (.invokevirtual 229, 3) := by decide +kernel
theorem dX10_open_47 : decode cX10_open 47 = .ok (.iload_n 2, 1) := by decide +kernel
theorem dX10_open_48 : decode cX10_open 48 = .ok (.ireturn, 1) := by decide +kernel
theorem dX10_envelopes_0 : decode cX10_envelopes 0 = .ok (.aload_n 0, 1) := by decide +kernel
theorem dX10_envelopes_1 : decode cX10_envelopes 1 = .ok (.getfield 43, 3) := by decide +kernel
theorem dX10_envelopes_4 : decode cX10_envelopes 4 = .ok (.getfield 185, 3) := by decide +kernel
theorem dX10_envelopes_7 : decode cX10_envelopes 7 = .ok (.getfield 189, 3) := by decide +kernel
theorem dX10_envelopes_10 : decode cX10_envelopes 10 = .ok (.ireturn, 1) := by decide +kernel
set_option maxRecDepth 20000 in
theorem ggX10_stateOf_X10_needEnvelope : GoodIn wsX10_stateOf wsX10_needEnvelope := goodIn_ca (goodIn_r _ [6, 7, 8, 1, 9, 10, 11, 12, 13, 14, 15, 16, 17, 18, 19, 20, 21, 22, 23, 24, 25, 26, 27, 28, 29, 30] (by decide +kernel) (by decide +kernel)) (goodIn_sub (fun _ h => List.mem_cons_of_mem _ (List.mem_append_right _ h)) (by decide +kernel))
set_option maxRecDepth 20000 in
theorem gX10_stateOf_X10_needEnvelope : GoodIn wsX10_stateOf (wsV RX10 233 RX10 yX10_needEnvelope wsX10_needEnvelope) := goodIn_app (goodIn_of _ (by decide +kernel)) ggX10_stateOf_X10_needEnvelope
theorem dX10_stateOf_0 : decode cX10_stateOf 0 = .ok (.aload_n 0, 1) := by decide +kernel
theorem dX10_stateOf_1 : decode cX10_stateOf 1 = .ok (.iload_n 1, 1) := by decide +kernel
theorem dX10_stateOf_2 : decode cX10_stateOf 2 = .ok (.invokevirtual 233, 3) := by decide +kernel
theorem dX10_stateOf_5 : decode cX10_stateOf 5 = .ok (.aload_n 0, 1) := by decide +kernel
theorem dX10_stateOf_6 : decode cX10_stateOf 6 = .ok (.getfield 43, 3) := by decide +kernel
theorem dX10_stateOf_9 : decode cX10_stateOf 9 = .ok (.getfield 185, 3) := by decide +kernel
theorem dX10_stateOf_12 : decode cX10_stateOf 12 = .ok (.getfield 236, 3) := by decide +kernel
theorem dX10_stateOf_15 : decode cX10_stateOf 15 = .ok (.iload_n 1, 1) := by decide +kernel
theorem dX10_stateOf_16 : decode cX10_stateOf 16 = .ok (.iaload, 1) := by decide +kernel
theorem dX10_stateOf_17 : decode cX10_stateOf 17 = .ok (.ireturn, 1) := by decide +kernel
set_option maxRecDepth 20000 in
theorem ggX10_personOf_X10_needEnvelope : GoodIn wsX10_personOf wsX10_needEnvelope := goodIn_ca (goodIn_r _ [6, 7, 8, 1, 9, 10, 11, 12, 13, 14, 15, 16, 17, 18, 19, 20, 21, 22, 23, 24, 25, 26, 27, 28, 29, 30] (by decide +kernel) (by decide +kernel)) (goodIn_sub (fun _ h => List.mem_cons_of_mem _ (List.mem_append_right _ h)) (by decide +kernel))
set_option maxRecDepth 20000 in
theorem gX10_personOf_X10_needEnvelope : GoodIn wsX10_personOf (wsV RX10 233 RX10 yX10_needEnvelope wsX10_needEnvelope) := goodIn_app (goodIn_of _ (by decide +kernel)) ggX10_personOf_X10_needEnvelope
theorem dX10_personOf_0 : decode cX10_personOf 0 = .ok (.aload_n 0, 1) := by decide +kernel
theorem dX10_personOf_1 : decode cX10_personOf 1 = .ok (.iload_n 1, 1) := by decide +kernel
theorem dX10_personOf_2 : decode cX10_personOf 2 = .ok (.invokevirtual 233, 3) := by decide +kernel
theorem dX10_personOf_5 : decode cX10_personOf 5 = .ok (.aload_n 0, 1) := by decide +kernel
theorem dX10_personOf_6 : decode cX10_personOf 6 = .ok (.getfield 43, 3) := by decide +kernel
theorem dX10_personOf_9 : decode cX10_personOf 9 = .ok (.getfield 185, 3) := by decide +kernel
theorem dX10_personOf_12 : decode cX10_personOf 12 = .ok (.getfield 239, 3) := by decide +kernel
theorem dX10_personOf_15 : decode cX10_personOf 15 = .ok (.iload_n 1, 1) := by decide +kernel
theorem dX10_personOf_16 : decode cX10_personOf 16 = .ok (.iaload, 1) := by decide +kernel
theorem dX10_personOf_17 : decode cX10_personOf 17 = .ok (.ireturn, 1) := by decide +kernel
set_option maxRecDepth 20000 in
theorem ggX10_ballots_X10_needStation : GoodIn wsX10_ballots wsX10_needStation := goodIn_ca (goodIn_r _ [6, 7, 8, 9, 10, 11, 12, 13, 14, 15, 16, 17, 34, 35, 36] (by decide +kernel) (by decide +kernel)) (goodIn_sub (fun _ h => List.mem_cons_of_mem _ (List.mem_append_right _ h)) (by decide +kernel))
set_option maxRecDepth 20000 in
theorem gX10_ballots_X10_needStation : GoodIn wsX10_ballots (wsV RX10 96 RX10 yX10_needStation wsX10_needStation) := goodIn_app (goodIn_of _ (by decide +kernel)) ggX10_ballots_X10_needStation
theorem dX10_ballots_0 : decode cX10_ballots 0 = .ok (.aload_n 0, 1) := by decide +kernel
theorem dX10_ballots_1 : decode cX10_ballots 1 = .ok (.iload_n 1, 1) := by decide +kernel
theorem dX10_ballots_2 : decode cX10_ballots 2 = .ok (.invokevirtual 96, 3) := by decide +kernel
theorem dX10_ballots_5 : decode cX10_ballots 5 = .ok (.aload_n 0, 1) := by decide +kernel
theorem dX10_ballots_6 : decode cX10_ballots 6 = .ok (.getfield 43, 3) := by decide +kernel
theorem dX10_ballots_9 : decode cX10_ballots 9 = .ok (.getfield 217, 3) := by decide +kernel
theorem dX10_ballots_12 : decode cX10_ballots 12 = .ok (.iload_n 1, 1) := by decide +kernel
theorem dX10_ballots_13 : decode cX10_ballots 13 = .ok (.aaload, 1) := by decide +kernel
theorem dX10_ballots_14 : decode cX10_ballots 14 = .ok (.getfield 221, 3) := by decide +kernel
theorem dX10_ballots_17 : decode cX10_ballots 17 = .ok (.ireturn, 1) := by decide +kernel
set_option maxRecDepth 20000 in
theorem ggX10_setSlip_X10_needClerk : GoodIn wsX10_setSlip wsX10_needClerk := goodIn_ca (goodIn_r _ [7, 8, 9] (by decide +kernel) (by decide +kernel)) (goodIn_sub (fun _ h => List.mem_cons_of_mem _ (List.mem_append_right _ h)) (by decide +kernel))
set_option maxRecDepth 20000 in
theorem gX10_setSlip_X10_needClerk : GoodIn wsX10_setSlip (va_wsS RX10 241 yX10_needClerk wsX10_needClerk) := goodIn_app (goodIn_of _ (by decide +kernel)) ggX10_setSlip_X10_needClerk
set_option maxRecDepth 20000 in
theorem ggX10_setSlip_X10_needRange : GoodIn wsX10_setSlip wsX10_needRange := goodIn_ca (goodIn_r _ [12, 1, 2] (by decide +kernel) (by decide +kernel)) (goodIn_sub (fun _ h => List.mem_cons_of_mem _ (List.mem_append_left _ (List.mem_append_left _ (List.mem_append_right _ h)))) (by decide +kernel))
set_option maxRecDepth 20000 in
theorem gX10_setSlip_X10_needRange : GoodIn wsX10_setSlip (va_wsS RX10 81 yX10_needRange wsX10_needRange) := goodIn_app (goodIn_of _ (by decide +kernel)) ggX10_setSlip_X10_needRange
theorem dX10_setSlip_0 : decode cX10_setSlip 0 = .ok (.iload_n 1, 1) := by decide +kernel
theorem dX10_setSlip_1 : decode cX10_setSlip 1 = .ok (.invokestatic 241, 3) := by decide +kernel
theorem dX10_setSlip_4 : decode cX10_setSlip 4 = .ok (.iload_n 2, 1) := by decide +kernel
theorem dX10_setSlip_5 : decode cX10_setSlip 5 = .ok (.iconst 0, 1) := by decide +kernel
theorem dX10_setSlip_6 : decode cX10_setSlip 6 = .ok (.bipush 20, 2) := by decide +kernel
theorem dX10_setSlip_8 : decode cX10_setSlip 8 = .ok (.invokestatic 81, 3) := by decide +kernel
theorem dX10_setSlip_11 : decode cX10_setSlip 11 = .ok (.iload_n 2, 1) := by decide +kernel
theorem dX10_setSlip_12 : decode cX10_setSlip 12 = .ok (.iconst 1, 1) := by decide +kernel
theorem dX10_setSlip_13 : decode cX10_setSlip 13 = .ok (.if_icmp .ne 13, 3) := by decide +kernel
theorem dX10_setSlip_16 : decode cX10_setSlip 16 = .ok (.new 63, 3) := by decide +kernel
theorem dX10_setSlip_19 : decode cX10_setSlip 19 = .ok (.dup, 1) := by decide +kernel
theorem dX10_setSlip_20 : decode cX10_setSlip 20 = .ok (.ldc 244, 2) := by decide +kernel
theorem dX10_setSlip_22 : decode cX10_setSlip 22 = .ok (.invokespecial 67, 3) := by decide +kernel
theorem dX10_setSlip_25 : decode cX10_setSlip 25 = .ok (.athrow, 1) := by decide +kernel
theorem dX10_setSlip_26 : decode cX10_setSlip 26 = .ok (.aload_n 0, 1) := by decide +kernel
theorem dX10_setSlip_27 : decode cX10_setSlip 27 = .ok (.getfield 33, 3) := by decide +kernel
theorem dX10_setSlip_30 : decode cX10_setSlip 30 = .ok (.iload_n 1, 1) := by decide +kernel
theorem dX10_setSlip_31 : decode cX10_setSlip 31 = .ok (.iaload, 1) := by decide +kernel
theorem dX10_setSlip_32 : decode cX10_setSlip 32 = .ok (.istore_n 3, 1) := by decide +kernel
theorem dX10_setSlip_33 : decode cX10_setSlip 33 = .ok (.aload_n 0, 1) := by decide +kernel
theorem dX10_setSlip_34 : decode cX10_setSlip 34 = .ok (.getfield 33, 3) := by decide +kernel
theorem dX10_setSlip_37 : decode cX10_setSlip 37 = .ok (.iload_n 1, 1) := by decide +kernel
theorem dX10_setSlip_38 : decode cX10_setSlip 38 = .ok (.iload_n 2, 1) := by decide +kernel
theorem dX10_setSlip_39 : decode cX10_setSlip 39 = .ok (.iastore, 1) := by decide +kernel
theorem dX10_setSlip_40 : decode cX10_setSlip 40 = .ok (.iload_n 3, 1) := by decide +kernel
theorem dX10_setSlip_41 : decode cX10_setSlip 41 = .ok (.ireturn, 1) := by decide +kernel
set_option maxRecDepth 20000 in
theorem ggX10_count_X10_needStation : GoodIn wsX10_count wsX10_needStation := goodIn_ca (goodIn_r _ [10, 11, 12, 13, 64, 65, 66, 67, 68, 69, 70, 71, 88, 89, 90] (by decide +kernel) (by decide +kernel)) (goodIn_sub (fun _ h => List.mem_cons_of_mem _ (List.mem_append_right _ h)) (by decide +kernel))
set_option maxRecDepth 20000 in
theorem gX10_count_X10_needStation : GoodIn wsX10_count (wsV RX10 96 RX10 yX10_needStation wsX10_needStation) := goodIn_app (goodIn_of _ (by decide +kernel)) ggX10_count_X10_needStation
set_option maxRecDepth 20000 in
theorem ggX10_count_X10_needClerk : GoodIn wsX10_count wsX10_needClerk := goodIn_ca (goodIn_r _ [16, 11, 12] (by decide +kernel) (by decide +kernel)) (goodIn_sub (fun _ h => List.mem_cons_of_mem _ (List.mem_append_right _ h)) (by decide +kernel))
set_option maxRecDepth 20000 in
theorem gX10_count_X10_needClerk : GoodIn wsX10_count (va_wsS RX10 241 yX10_needClerk wsX10_needClerk) := goodIn_app (goodIn_of _ (by decide +kernel)) ggX10_count_X10_needClerk
set_option maxRecDepth 20000 in
theorem ggX10_count_X10_needStage : GoodIn wsX10_count wsX10_needStage := goodIn_ca (goodIn_r _ [20, 1, 2, 3, 64, 65, 66, 67, 68, 69, 70, 71, 72, 73, 74, 75, 76, 77, 78, 79, 80, 81] (by decide +kernel) (by decide +kernel)) (goodIn_sub (fun _ h => List.mem_cons_of_mem _ (List.mem_append_left _ (List.mem_append_left _ (List.mem_append_right _ h)))) (by decide +kernel))
set_option maxRecDepth 20000 in
theorem gX10_count_X10_needStage : GoodIn wsX10_count (wsV RX10 179 RX10 yX10_needStage wsX10_needStage) := goodIn_app (goodIn_of _ (by decide +kernel)) ggX10_count_X10_needStage
set_option maxRecDepth 20000 in
theorem ggX10_count_X1_hasNumbers : GoodIn wsX10_count wsX1_hasNumbers := goodIn_r _ [25, 26, 82, 83, 84, 85, 86, 87] (by decide +kernel) (by decide +kernel)
set_option maxRecDepth 20000 in
theorem gX10_count_X1_hasNumbers : GoodIn wsX10_count (wsV RX10 251 RX1 yX1_hasNumbers wsX1_hasNumbers) := goodIn_app (goodIn_of _ (by decide +kernel)) ggX10_count_X1_hasNumbers
set_option maxRecDepth 20000 in
theorem ggX10_count_X0_write : GoodIn wsX10_count wsX0_write := goodIn_ca (goodIn_r _ [31, 32, 33, 34, 35, 91, 92, 93, 94, 95] (by decide +kernel) (by decide +kernel)) (goodIn_sub (fun _ h => List.mem_cons_of_mem _ (List.mem_append_left _ (List.mem_append_right _ h))) (by decide +kernel))
set_option maxRecDepth 20000 in
theorem gX10_count_X0_write : GoodIn wsX10_count (wsV RX10 198 RX0 yX0_write wsX0_write) := goodIn_app (goodIn_of _ (by decide +kernel)) ggX10_count_X0_write
set_option maxRecDepth 20000 in
theorem ggX10_count_X1_countBy : GoodIn wsX10_count wsX1_countBy := goodIn_ca (goodIn_r _ [39, 40, 41, 42, 26, 43, 44, 45, 24, 46, 47, 48, 49, 50, 51, 52, 53, 54, 55, 82, 83, 84, 85, 86, 87] (by decide +kernel) (by decide +kernel)) (goodIn_sub (fun _ h => List.mem_cons_of_mem _ (List.mem_append_left _ (List.mem_append_right _ h))) (by decide +kernel))
set_option maxRecDepth 20000 in
theorem gX10_count_X1_countBy : GoodIn wsX10_count (wsV RX10 262 RX1 yX1_countBy wsX1_countBy) := goodIn_app (goodIn_of _ (by decide +kernel)) ggX10_count_X1_countBy
set_option maxRecDepth 20000 in
theorem ggX10_count_X2_isAllSettled : GoodIn wsX10_count wsX2_isAllSettled := goodIn_r _ [60, 61, 62, 63, 22, 23, 24, 25, 26, 72, 73, 74, 75, 76, 77, 78, 79, 80, 81, 82, 83, 84, 85, 86, 87] (by decide +kernel) (by decide +kernel)
set_option maxRecDepth 20000 in
theorem gX10_count_X2_isAllSettled : GoodIn wsX10_count (wsV RX10 265 RX2 yX2_isAllSettled wsX2_isAllSettled) := goodIn_app (goodIn_of _ (by decide +kernel)) ggX10_count_X2_isAllSettled
theorem dX10_count_0 : decode cX10_count 0 = .ok (.aload_n 0, 1) := by decide +kernel
theorem dX10_count_1 : decode cX10_count 1 = .ok (.iload_n 1, 1) := by decide +kernel
theorem dX10_count_2 : decode cX10_count 2 = .ok (.invokevirtual 96, 3) := by decide +kernel
theorem dX10_count_5 : decode cX10_count 5 = .ok (.iload_n 2, 1) := by decide +kernel
theorem dX10_count_6 : decode cX10_count 6 = .ok (.invokestatic 241, 3) := by decide +kernel
theorem dX10_count_9 : decode cX10_count 9 = .ok (.aload_n 0, 1) := by decide +kernel
theorem dX10_count_10 : decode cX10_count 10 = .ok (.iconst 4, 1) := by decide +kernel
theorem dX10_count_11 : decode cX10_count 11 = .ok (.invokevirtual 179, 3) := by decide +kernel
theorem dX10_count_14 : decode cX10_count 14 = .ok (.aload_n 0, 1) := by decide +kernel
theorem dX10_count_15 : decode cX10_count 15 = .ok (.getfield 43, 3) := by decide +kernel
theorem dX10_count_18 : decode cX10_count 18 = .ok (.getfield 217, 3) := by decide +kernel
theorem dX10_count_21 : decode cX10_count 21 = .ok (.iload_n 1, 1) := by decide +kernel
theorem dX10_count_22 : decode cX10_count 22 = .ok (.aaload, 1) := by decide +kernel
theorem dX10_count_23 : decode cX10_count 23 = .ok (.astore_n 3, 1) := by decide +kernel
theorem dX10_count_24 : decode cX10_count 24 = .ok (.iload_n 1, 1) := by decide +kernel
theorem dX10_count_25 : decode cX10_count 25 = .ok (.aload_n 0, 1) := by decide +kernel
theorem dX10_count_26 : decode cX10_count 26 = .ok (.getfield 43, 3) := by decide +kernel
theorem dX10_count_29 : decode cX10_count 29 = .ok (.getfield 246, 3) := by decide +kernel
theorem dX10_count_32 : decode cX10_count 32 = .ok (.if_icmp .lt 13, 3) := by decide +kernel
theorem dX10_count_35 : decode cX10_count 35 = .ok (.new 88, 3) := by decide +kernel
theorem dX10_count_38 : decode cX10_count 38 = .ok (.dup, 1) := by decide +kernel
theorem dX10_count_39 : decode cX10_count 39 = .ok (.ldc 249, 2) := by decide +kernel
theorem dX10_count_41 : decode cX10_count 41 = .ok (.invokespecial 92, 3) := by decide +kernel
theorem dX10_count_44 : decode cX10_count 44 = .ok (.athrow, 1) := by decide +kernel
theorem dX10_count_45 : decode cX10_count 45 = .ok (.aload_n 3, 1) := by decide +kernel
theorem dX10_count_46 : decode cX10_count 46 = .ok (.invokevirtual 251, 3) := by decide +kernel
theorem dX10_count_49 : decode cX10_count 49 = .ok (.ifCond .eq 13, 3) := by decide +kernel
theorem dX10_count_52 : decode cX10_count 52 = .ok (.new 88, 3) := by decide +kernel
theorem dX10_count_55 : decode cX10_count 55 = .ok (.dup, 1) := by decide +kernel
theorem dX10_count_56 : decode cX10_count 56 = .ok (.ldc 255, 2) := by decide +kernel
theorem dX10_count_58 : decode cX10_count 58 = .ok (.invokespecial 92, 3) := by decide +kernel
theorem dX10_count_61 : decode cX10_count 61 = .ok (.athrow, 1) := by decide +kernel
theorem dX10_count_62 : decode cX10_count 62 = .ok (.aload_n 3, 1) := by decide +kernel
theorem dX10_count_63 : decode cX10_count 63 = .ok (.getfield 257, 3) := by decide +kernel
theorem dX10_count_66 : decode cX10_count 66 = .ok (.bipush 8, 2) := by decide +kernel
theorem dX10_count_68 : decode cX10_count 68 = .ok (.if_icmp .lt 14, 3) := by decide +kernel
theorem dX10_count_71 : decode cX10_count 71 = .ok (.new 88, 3) := by decide +kernel
theorem dX10_count_74 : decode cX10_count 74 = .ok (.dup, 1) := by decide +kernel
theorem dX10_count_75 : decode cX10_count 75 = .ok (.ldc_w 260, 3) := by decide +kernel
theorem dX10_count_78 : decode cX10_count 78 = .ok (.invokespecial 92, 3) := by decide +kernel
theorem dX10_count_81 : decode cX10_count 81 = .ok (.athrow, 1) := by decide +kernel
theorem dX10_count_82 : decode cX10_count 82 = .ok (.aload_n 0, 1) := by decide +kernel
theorem dX10_count_83 : decode cX10_count 83 = .ok (.getfield 43, 3) := by decide +kernel
theorem dX10_count_86 : decode cX10_count 86 = .ok (.getfield 194, 3) := by decide +kernel
theorem dX10_count_89 : decode cX10_count 89 = .ok (.aload_n 0, 1) := by decide +kernel
theorem dX10_count_90 : decode cX10_count 90 = .ok (.getfield 37, 3) := by decide +kernel
theorem dX10_count_93 : decode cX10_count 93 = .ok (.bipush 99, 2) := by decide +kernel
theorem dX10_count_95 : decode cX10_count 95 = .ok (.iload_n 1, 1) := by decide +kernel
theorem dX10_count_96 : decode cX10_count 96 = .ok (.invokevirtual 198, 3) := by decide +kernel
theorem dX10_count_99 : decode cX10_count 99 = .ok (.aload_n 3, 1) := by decide +kernel
theorem dX10_count_100 : decode cX10_count 100 = .ok (.iload_n 2, 1) := by decide +kernel
theorem dX10_count_101 : decode cX10_count 101 = .ok (.aload_n 0, 1) := by decide +kernel
theorem dX10_count_102 : decode cX10_count 102 = .ok (.getfield 33, 3) := by decide +kernel
theorem dX10_count_105 : decode cX10_count 105 = .ok (.iload_n 2, 1) := by decide +kernel
theorem dX10_count_106 : decode cX10_count 106 = .ok (.iaload, 1) := by decide +kernel
theorem dX10_count_107 : decode cX10_count 107 = .ok (.invokevirtual 262, 3) := by decide +kernel
theorem dX10_count_110 : decode cX10_count 110 = .ok (.aload_n 0, 1) := by decide +kernel
theorem dX10_count_111 : decode cX10_count 111 = .ok (.getfield 43, 3) := by decide +kernel
theorem dX10_count_114 : decode cX10_count 114 = .ok (.invokevirtual 265, 3) := by decide +kernel
theorem dX10_count_117 : decode cX10_count 117 = .ok (.ifCond .eq 11, 3) := by decide +kernel
theorem dX10_count_120 : decode cX10_count 120 = .ok (.aload_n 0, 1) := by decide +kernel
theorem dX10_count_121 : decode cX10_count 121 = .ok (.getfield 43, 3) := by decide +kernel
theorem dX10_count_124 : decode cX10_count 124 = .ok (.iconst 5, 1) := by decide +kernel
theorem dX10_count_125 : decode cX10_count 125 = .ok (.putfield 135, 3) := by decide +kernel
theorem dX10_count_128 : decode cX10_count 128 = .ok (.aload_n 3, 1) := by decide +kernel
theorem dX10_count_129 : decode cX10_count 129 = .ok (.invokevirtual 251, 3) := by decide +kernel
theorem dX10_count_132 : decode cX10_count 132 = .ok (.ireturn, 1) := by decide +kernel
set_option maxRecDepth 20000 in
theorem ggX10_recount_X10_needStation : GoodIn wsX10_recount wsX10_needStation := goodIn_ca (goodIn_r _ [6, 7, 8, 9, 23, 24, 25, 26, 27, 28, 29, 30, 41, 42, 43] (by decide +kernel) (by decide +kernel)) (goodIn_sub (fun _ h => List.mem_cons_of_mem _ (List.mem_append_left _ (List.mem_append_right _ h))) (by decide +kernel))
set_option maxRecDepth 20000 in
theorem gX10_recount_X10_needStation : GoodIn wsX10_recount (wsV RX10 96 RX10 yX10_needStation wsX10_needStation) := goodIn_app (goodIn_of _ (by decide +kernel)) ggX10_recount_X10_needStation
set_option maxRecDepth 20000 in
theorem ggX10_recount_X10_needStage : GoodIn wsX10_recount wsX10_needStage := goodIn_ca (goodIn_r _ [13, 14, 15, 1, 23, 24, 25, 26, 27, 28, 29, 30, 31, 32, 33, 34, 35, 36, 37, 38, 39, 40] (by decide +kernel) (by decide +kernel)) (goodIn_sub (fun _ h => List.mem_cons_of_mem _ (List.mem_append_right _ h)) (by decide +kernel))
set_option maxRecDepth 20000 in
theorem gX10_recount_X10_needStage : GoodIn wsX10_recount (wsV RX10 179 RX10 yX10_needStage wsX10_needStage) := goodIn_app (goodIn_of _ (by decide +kernel)) ggX10_recount_X10_needStage
set_option maxRecDepth 20000 in
theorem ggX10_recount_X1_dropCounts : GoodIn wsX10_recount wsX1_dropCounts := goodIn_r _ [20, 21, 22, 44, 45, 46, 47, 48, 49] (by decide +kernel) (by decide +kernel)
set_option maxRecDepth 20000 in
theorem gX10_recount_X1_dropCounts : GoodIn wsX10_recount (wsV RX10 268 RX1 yX1_dropCounts wsX1_dropCounts) := goodIn_app (goodIn_of _ (by decide +kernel)) ggX10_recount_X1_dropCounts
theorem dX10_recount_0 : decode cX10_recount 0 = .ok (.aload_n 0, 1) := by decide +kernel
theorem dX10_recount_1 : decode cX10_recount 1 = .ok (.iload_n 1, 1) := by decide +kernel
theorem dX10_recount_2 : decode cX10_recount 2 = .ok (.invokevirtual 96, 3) := by decide +kernel
theorem dX10_recount_5 : decode cX10_recount 5 = .ok (.aload_n 0, 1) := by decide +kernel
theorem dX10_recount_6 : decode cX10_recount 6 = .ok (.iconst 4, 1) := by decide +kernel
theorem dX10_recount_7 : decode cX10_recount 7 = .ok (.invokevirtual 179, 3) := by decide +kernel
theorem dX10_recount_10 : decode cX10_recount 10 = .ok (.aload_n 0, 1) := by decide +kernel
theorem dX10_recount_11 : decode cX10_recount 11 = .ok (.getfield 43, 3) := by decide +kernel
theorem dX10_recount_14 : decode cX10_recount 14 = .ok (.getfield 217, 3) := by decide +kernel
theorem dX10_recount_17 : decode cX10_recount 17 = .ok (.iload_n 1, 1) := by decide +kernel
theorem dX10_recount_18 : decode cX10_recount 18 = .ok (.aaload, 1) := by decide +kernel
theorem dX10_recount_19 : decode cX10_recount 19 = .ok (.invokevirtual 268, 3) := by decide +kernel
theorem dX10_recount_22 : decode cX10_recount 22 = .ok (.ireturn, 1) := by decide +kernel
set_option maxRecDepth 20000 in
theorem ggX10_isSettled_X10_needStation : GoodIn wsX10_isSettled wsX10_needStation := goodIn_ca (goodIn_r _ [6, 7, 8, 9, 16, 17, 18, 19, 20, 21, 22, 23, 34, 35, 36] (by decide +kernel) (by decide +kernel)) (goodIn_sub (fun _ h => List.mem_cons_of_mem _ (List.mem_append_right _ h)) (by decide +kernel))
set_option maxRecDepth 20000 in
theorem gX10_isSettled_X10_needStation : GoodIn wsX10_isSettled (wsV RX10 96 RX10 yX10_needStation wsX10_needStation) := goodIn_app (goodIn_of _ (by decide +kernel)) ggX10_isSettled_X10_needStation
set_option maxRecDepth 20000 in
theorem ggX10_isSettled_X1_hasNumbers : GoodIn wsX10_isSettled wsX1_hasNumbers := goodIn_r _ [14, 15, 37, 38, 39, 40, 41, 42] (by decide +kernel) (by decide +kernel)
set_option maxRecDepth 20000 in
theorem gX10_isSettled_X1_hasNumbers : GoodIn wsX10_isSettled (wsV RX10 251 RX1 yX1_hasNumbers wsX1_hasNumbers) := goodIn_app (goodIn_of _ (by decide +kernel)) ggX10_isSettled_X1_hasNumbers
theorem dX10_isSettled_0 : decode cX10_isSettled 0 = .ok (.aload_n 0, 1) := by decide +kernel
theorem dX10_isSettled_1 : decode cX10_isSettled 1 = .ok (.iload_n 1, 1) := by decide +kernel
theorem dX10_isSettled_2 : decode cX10_isSettled 2 = .ok (.invokevirtual 96, 3) := by decide +kernel
theorem dX10_isSettled_5 : decode cX10_isSettled 5 = .ok (.aload_n 0, 1) := by decide +kernel
theorem dX10_isSettled_6 : decode cX10_isSettled 6 = .ok (.getfield 43, 3) := by decide +kernel
theorem dX10_isSettled_9 : decode cX10_isSettled 9 = .ok (.getfield 217, 3) := by decide +kernel
theorem dX10_isSettled_12 : decode cX10_isSettled 12 = .ok (.iload_n 1, 1) := by decide +kernel
theorem dX10_isSettled_13 : decode cX10_isSettled 13 = .ok (.aaload, 1) := by decide +kernel
theorem dX10_isSettled_14 : decode cX10_isSettled 14 = .ok (.invokevirtual 251, 3) := by decide +kernel
theorem dX10_isSettled_17 : decode cX10_isSettled 17 = .ok (.ireturn, 1) := by decide +kernel
set_option maxRecDepth 20000 in
theorem ggX10_numberOf_X10_needStation : GoodIn wsX10_numberOf wsX10_needStation := goodIn_ca (goodIn_r _ [6, 7, 8, 9, 22, 23, 24, 25, 26, 27, 28, 29, 40, 41, 42] (by decide +kernel) (by decide +kernel)) (goodIn_sub (fun _ h => List.mem_cons_of_mem _ (List.mem_append_left _ (List.mem_append_left _ (List.mem_append_right _ h)))) (by decide +kernel))
set_option maxRecDepth 20000 in
theorem gX10_numberOf_X10_needStation : GoodIn wsX10_numberOf (wsV RX10 96 RX10 yX10_needStation wsX10_needStation) := goodIn_app (goodIn_of _ (by decide +kernel)) ggX10_numberOf_X10_needStation
set_option maxRecDepth 20000 in
theorem ggX10_numberOf_X10_needRange : GoodIn wsX10_numberOf wsX10_needRange := goodIn_ca (goodIn_r _ [12, 13, 14] (by decide +kernel) (by decide +kernel)) (goodIn_sub (fun _ h => List.mem_cons_of_mem _ (List.mem_append_left _ (List.mem_append_right _ h))) (by decide +kernel))
set_option maxRecDepth 20000 in
theorem gX10_numberOf_X10_needRange : GoodIn wsX10_numberOf (va_wsS RX10 81 yX10_needRange wsX10_needRange) := goodIn_app (goodIn_of _ (by decide +kernel)) ggX10_numberOf_X10_needRange
set_option maxRecDepth 20000 in
theorem ggX10_numberOf_X1_settledNumber : GoodIn wsX10_numberOf wsX1_settledNumber := goodIn_ca (goodIn_r _ [19, 20, 21, 43, 44, 45, 46, 47, 48] (by decide +kernel) (by decide +kernel)) (goodIn_sub (fun _ h => List.mem_cons_of_mem _ (List.mem_append_right _ h)) (by decide +kernel))
set_option maxRecDepth 20000 in
theorem gX10_numberOf_X1_settledNumber : GoodIn wsX10_numberOf (wsV RX10 272 RX1 yX1_settledNumber wsX1_settledNumber) := goodIn_app (goodIn_of _ (by decide +kernel)) ggX10_numberOf_X1_settledNumber
theorem dX10_numberOf_0 : decode cX10_numberOf 0 = .ok (.aload_n 0, 1) := by decide +kernel
theorem dX10_numberOf_1 : decode cX10_numberOf 1 = .ok (.iload_n 1, 1) := by decide +kernel
theorem dX10_numberOf_2 : decode cX10_numberOf 2 = .ok (.invokevirtual 96, 3) := by decide +kernel
theorem dX10_numberOf_5 : decode cX10_numberOf 5 = .ok (.iload_n 2, 1) := by decide +kernel
theorem dX10_numberOf_6 : decode cX10_numberOf 6 = .ok (.iconst 0, 1) := by decide +kernel
theorem dX10_numberOf_7 : decode cX10_numberOf 7 = .ok (.iconst 5, 1) := by decide +kernel
theorem dX10_numberOf_8 : decode cX10_numberOf 8 = .ok (.invokestatic 81, 3) := by decide +kernel
theorem dX10_numberOf_11 : decode cX10_numberOf 11 = .ok (.aload_n 0, 1) := by decide +kernel
theorem dX10_numberOf_12 : decode cX10_numberOf 12 = .ok (.getfield 43, 3) := by decide +kernel
theorem dX10_numberOf_15 : decode cX10_numberOf 15 = .ok (.getfield 217, 3) := by decide +kernel
theorem dX10_numberOf_18 : decode cX10_numberOf 18 = .ok (.iload_n 1, 1) := by decide +kernel
theorem dX10_numberOf_19 : decode cX10_numberOf 19 = .ok (.aaload, 1) := by decide +kernel
theorem dX10_numberOf_20 : decode cX10_numberOf 20 = .ok (.iload_n 2, 1) := by decide +kernel
theorem dX10_numberOf_21 : decode cX10_numberOf 21 = .ok (.invokevirtual 272, 3) := by decide +kernel
theorem dX10_numberOf_24 : decode cX10_numberOf 24 = .ok (.ireturn, 1) := by decide +kernel
set_option maxRecDepth 20000 in
theorem ggX10_misread_X10_needStation : GoodIn wsX10_misread wsX10_needStation := goodIn_ca (goodIn_r _ [6, 7, 8, 9, 35, 36, 37, 38, 39, 40, 41, 42, 53, 54, 55] (by decide +kernel) (by decide +kernel)) (goodIn_sub (fun _ h => List.mem_cons_of_mem _ (List.mem_append_left _ (List.mem_append_right _ h))) (by decide +kernel))
set_option maxRecDepth 20000 in
theorem gX10_misread_X10_needStation : GoodIn wsX10_misread (wsV RX10 96 RX10 yX10_needStation wsX10_needStation) := goodIn_app (goodIn_of _ (by decide +kernel)) ggX10_misread_X10_needStation
set_option maxRecDepth 20000 in
theorem ggX10_misread_X1_lostByReading : GoodIn wsX10_misread wsX1_lostByReading := goodIn_ca (goodIn_r _ [14, 15, 16, 17, 18, 19, 20, 21, 13, 22, 23, 24, 25, 26, 27, 28, 29, 30, 31, 32, 33, 34, 56, 57, 58, 59, 60, 61] (by decide +kernel) (by decide +kernel)) (goodIn_sub (fun _ h => List.mem_cons_of_mem _ (List.mem_append_right _ h)) (by decide +kernel))
set_option maxRecDepth 20000 in
theorem gX10_misread_X1_lostByReading : GoodIn wsX10_misread (wsV RX10 275 RX1 yX1_lostByReading wsX1_lostByReading) := goodIn_app (goodIn_of _ (by decide +kernel)) ggX10_misread_X1_lostByReading
theorem dX10_misread_0 : decode cX10_misread 0 = .ok (.aload_n 0, 1) := by decide +kernel
theorem dX10_misread_1 : decode cX10_misread 1 = .ok (.iload_n 1, 1) := by decide +kernel
theorem dX10_misread_2 : decode cX10_misread 2 = .ok (.invokevirtual 96, 3) := by decide +kernel
theorem dX10_misread_5 : decode cX10_misread 5 = .ok (.aload_n 0, 1) := by decide +kernel
theorem dX10_misread_6 : decode cX10_misread 6 = .ok (.getfield 43, 3) := by decide +kernel
theorem dX10_misread_9 : decode cX10_misread 9 = .ok (.getfield 217, 3) := by decide +kernel
theorem dX10_misread_12 : decode cX10_misread 12 = .ok (.iload_n 1, 1) := by decide +kernel
theorem dX10_misread_13 : decode cX10_misread 13 = .ok (.aaload, 1) := by decide +kernel
theorem dX10_misread_14 : decode cX10_misread 14 = .ok (.invokevirtual 275, 3) := by decide +kernel
theorem dX10_misread_17 : decode cX10_misread 17 = .ok (.ireturn, 1) := by decide +kernel
set_option maxRecDepth 20000 in
theorem ggX10_votes_X10_needParty : GoodIn wsX10_votes wsX10_needParty := goodIn_ca (goodIn_r _ [5, 6, 7] (by decide +kernel) (by decide +kernel)) (goodIn_sub (fun _ h => List.mem_cons_of_mem _ (List.mem_append_left _ (List.mem_append_right _ h))) (by decide +kernel))
set_option maxRecDepth 20000 in
theorem gX10_votes_X10_needParty : GoodIn wsX10_votes (va_wsS RX10 151 yX10_needParty wsX10_needParty) := goodIn_app (goodIn_of _ (by decide +kernel)) ggX10_votes_X10_needParty
set_option maxRecDepth 20000 in
theorem ggX10_votes_X2_numbersFor : GoodIn wsX10_votes wsX2_numbersFor := goodIn_ca (goodIn_r _ [12, 13, 14, 15, 16, 17, 18, 19, 20, 21, 30, 31, 32, 33, 34, 35, 36, 37, 38, 39, 40, 41, 42, 43, 44, 45] (by decide +kernel) (by decide +kernel)) (goodIn_sub (fun _ h => List.mem_cons_of_mem _ (List.mem_append_right _ h)) (by decide +kernel))
set_option maxRecDepth 20000 in
theorem gX10_votes_X2_numbersFor : GoodIn wsX10_votes (wsV RX10 278 RX2 yX2_numbersFor wsX2_numbersFor) := goodIn_app (goodIn_of _ (by decide +kernel)) ggX10_votes_X2_numbersFor
theorem dX10_votes_0 : decode cX10_votes 0 = .ok (.iload_n 1, 1) := by decide +kernel
theorem dX10_votes_1 : decode cX10_votes 1 = .ok (.invokestatic 151, 3) := by decide +kernel
theorem dX10_votes_4 : decode cX10_votes 4 = .ok (.aload_n 0, 1) := by decide +kernel
theorem dX10_votes_5 : decode cX10_votes 5 = .ok (.getfield 43, 3) := by decide +kernel
theorem dX10_votes_8 : decode cX10_votes 8 = .ok (.getfield 135, 3) := by decide +kernel
theorem dX10_votes_11 : decode cX10_votes 11 = .ok (.iconst 5, 1) := by decide +kernel
theorem dX10_votes_12 : decode cX10_votes 12 = .ok (.if_icmp .eq 5, 3) := by decide +kernel
theorem dX10_votes_15 : decode cX10_votes 15 = .ok (.iconst (-1), 1) := by decide +kernel
theorem dX10_votes_16 : decode cX10_votes 16 = .ok (.ireturn, 1) := by decide +kernel
theorem dX10_votes_17 : decode cX10_votes 17 = .ok (.aload_n 0, 1) := by decide +kernel
theorem dX10_votes_18 : decode cX10_votes 18 = .ok (.getfield 43, 3) := by decide +kernel
theorem dX10_votes_21 : decode cX10_votes 21 = .ok (.iload_n 1, 1) := by decide +kernel
theorem dX10_votes_22 : decode cX10_votes 22 = .ok (.invokevirtual 278, 3) := by decide +kernel
theorem dX10_votes_25 : decode cX10_votes 25 = .ok (.ireturn, 1) := by decide +kernel
set_option maxRecDepth 20000 in
theorem ggX10_seats_X10_needParty : GoodIn wsX10_seats wsX10_needParty := goodIn_ca (goodIn_r _ [6, 7, 8] (by decide +kernel) (by decide +kernel)) (goodIn_sub (fun _ h => List.mem_cons_of_mem _ (List.mem_append_right _ h)) (by decide +kernel))
set_option maxRecDepth 20000 in
theorem gX10_seats_X10_needParty : GoodIn wsX10_seats (va_wsS RX10 151 yX10_needParty wsX10_needParty) := goodIn_app (goodIn_of _ (by decide +kernel)) ggX10_seats_X10_needParty
set_option maxRecDepth 20000 in
theorem ggX10_seats_X10_giveByNumbers : GoodIn wsX10_seats wsX10_giveByNumbers := goodIn_ca (goodIn_r _ [12, 2, 1, 13, 14, 15, 16, 17, 18, 19, 20, 21, 22, 23, 24, 25, 26, 27, 28, 29, 30, 31, 32, 33, 34, 35, 36, 37, 38, 39, 40, 41, 42, 43, 44, 45, 46, 47, 48, 49, 50, 51, 52, 53, 54, 55, 56, 57, 58, 59, 60, 61, 62, 63, 64, 65, 66, 67, 68, 69, 70, 71, 72, 73, 74, 75, 76, 77, 78, 79, 80, 91, 92, 93, 94, 95, 96, 97, 81, 82, 83, 84, 85, 86, 87, 88, 89, 90, 98, 99, 100, 101, 102, 103] (by decide +kernel) (by decide +kernel)) (goodIn_sub (fun _ h => List.mem_cons_of_mem _ (List.mem_append_left _ (List.mem_append_right _ h))) (by decide +kernel))
set_option maxRecDepth 20000 in
theorem gX10_seats_X10_giveByNumbers : GoodIn wsX10_seats (wsV RX10 281 RX10 yX10_giveByNumbers wsX10_giveByNumbers) := goodIn_app (goodIn_of _ (by decide +kernel)) ggX10_seats_X10_giveByNumbers
theorem dX10_seats_0 : decode cX10_seats 0 = .ok (.iload_n 1, 1) := by decide +kernel
theorem dX10_seats_1 : decode cX10_seats 1 = .ok (.invokestatic 151, 3) := by decide +kernel
theorem dX10_seats_4 : decode cX10_seats 4 = .ok (.aload_n 0, 1) := by decide +kernel
theorem dX10_seats_5 : decode cX10_seats 5 = .ok (.getfield 43, 3) := by decide +kernel
theorem dX10_seats_8 : decode cX10_seats 8 = .ok (.getfield 135, 3) := by decide +kernel
theorem dX10_seats_11 : decode cX10_seats 11 = .ok (.iconst 5, 1) := by decide +kernel
theorem dX10_seats_12 : decode cX10_seats 12 = .ok (.if_icmp .eq 5, 3) := by decide +kernel
theorem dX10_seats_15 : decode cX10_seats 15 = .ok (.iconst (-1), 1) := by decide +kernel
theorem dX10_seats_16 : decode cX10_seats 16 = .ok (.ireturn, 1) := by decide +kernel
theorem dX10_seats_17 : decode cX10_seats 17 = .ok (.aload_n 0, 1) := by decide +kernel
theorem dX10_seats_18 : decode cX10_seats 18 = .ok (.invokevirtual 281, 3) := by decide +kernel
theorem dX10_seats_21 : decode cX10_seats 21 = .ok (.aload_n 0, 1) := by decide +kernel
theorem dX10_seats_22 : decode cX10_seats 22 = .ok (.getfield 50, 3) := by decide +kernel
theorem dX10_seats_25 : decode cX10_seats 25 = .ok (.getfield 284, 3) := by decide +kernel
theorem dX10_seats_28 : decode cX10_seats 28 = .ok (.iload_n 1, 1) := by decide +kernel
theorem dX10_seats_29 : decode cX10_seats 29 = .ok (.iaload, 1) := by decide +kernel
theorem dX10_seats_30 : decode cX10_seats 30 = .ok (.ireturn, 1) := by decide +kernel
set_option maxRecDepth 20000 in
theorem ggX10_seatAt_X10_giveByNumbers : GoodIn wsX10_seatAt wsX10_giveByNumbers := goodIn_ca (goodIn_r _ [9, 4, 3, 10, 11, 12, 13, 14, 15, 16, 17, 18, 19, 20, 21, 22, 23, 24, 25, 26, 27, 28, 29, 30, 31, 32, 33, 34, 35, 36, 37, 38, 39, 40, 41, 42, 43, 44, 45, 46, 47, 48, 49, 50, 51, 52, 53, 54, 55, 56, 57, 58, 59, 60, 61, 62, 63, 64, 65, 66, 67, 68, 69, 74, 75, 76, 77, 78, 79, 80, 81, 92, 93, 94, 95, 96, 97, 98, 82, 83, 84, 85, 86, 87, 88, 89, 90, 91, 99, 100, 101, 102, 103, 104] (by decide +kernel) (by decide +kernel)) (goodIn_sub (fun _ h => List.mem_cons_of_mem _ (List.mem_append_right _ h)) (by decide +kernel))
