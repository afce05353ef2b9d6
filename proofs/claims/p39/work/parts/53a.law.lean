theorem dL_drawn_0 : decode cL_drawn 0 = .ok (.iload_n 1, 1) := by decide +kernel
theorem dL_drawn_1 : decode cL_drawn 1 = .ok (.aload_n 0, 1) := by decide +kernel
theorem dL_drawn_2 : decode cL_drawn 2 = .ok (.arraylength, 1) := by decide +kernel
theorem dL_drawn_3 : decode cL_drawn 3 = .ok (.if_icmp .ge 9, 3) := by decide +kernel
theorem dL_drawn_6 : decode cL_drawn 6 = .ok (.aload_n 0, 1) := by decide +kernel
theorem dL_drawn_7 : decode cL_drawn 7 = .ok (.iload_n 1, 1) := by decide +kernel
theorem dL_drawn_8 : decode cL_drawn 8 = .ok (.iaload, 1) := by decide +kernel
theorem dL_drawn_9 : decode cL_drawn 9 = .ok (.goto 12, 3) := by decide +kernel
theorem dL_drawn_12 : decode cL_drawn 12 = .ok (.sipush 12409, 3) := by decide +kernel
theorem dL_drawn_15 : decode cL_drawn 15 = .ok (.iload_n 1, 1) := by decide +kernel
theorem dL_drawn_16 : decode cL_drawn 16 = .ok (.imul, 1) := by decide +kernel
theorem dL_drawn_17 : decode cL_drawn 17 = .ok (.sipush 7013, 3) := by decide +kernel
theorem dL_drawn_20 : decode cL_drawn 20 = .ok (.iadd, 1) := by decide +kernel
theorem dL_drawn_21 : decode cL_drawn 21 = .ok (.istore_n 2, 1) := by decide +kernel
theorem dL_drawn_22 : decode cL_drawn 22 = .ok (.iload_n 2, 1) := by decide +kernel
theorem dL_drawn_23 : decode cL_drawn 23 = .ok (.ldc 7, 2) := by decide +kernel
theorem dL_drawn_25 : decode cL_drawn 25 = .ok (.iand, 1) := by decide +kernel
theorem dL_drawn_26 : decode cL_drawn 26 = .ok (.ireturn, 1) := by decide +kernel
theorem dL_does_0 : decode cL_does 0 = .ok (.iload_n 1, 1) := by decide +kernel
theorem dL_does_1 : decode cL_does 1 = .ok (.ifCond .ne 12, 3) := by decide +kernel
theorem dL_does_4 : decode cL_does 4 = .ok (.aload_n 0, 1) := by decide +kernel
theorem dL_does_5 : decode cL_does 5 = .ok (.iload_n 2, 1) := by decide +kernel
theorem dL_does_6 : decode cL_does 6 = .ok (.iload_n 3, 1) := by decide +kernel
theorem dL_does_7 : decode cL_does 7 = .ok (.invokevirtual 8, 3) := by decide +kernel
theorem dL_does_10 : decode cL_does 10 = .ok (.goto 79, 3) := by decide +kernel
theorem dL_does_13 : decode cL_does 13 = .ok (.iload_n 1, 1) := by decide +kernel
theorem dL_does_14 : decode cL_does 14 = .ok (.iconst 1, 1) := by decide +kernel
theorem dL_does_15 : decode cL_does 15 = .ok (.if_icmp .ne 12, 3) := by decide +kernel
theorem dL_does_18 : decode cL_does 18 = .ok (.aload_n 0, 1) := by decide +kernel
theorem dL_does_19 : decode cL_does 19 = .ok (.iload_n 2, 1) := by decide +kernel
theorem dL_does_20 : decode cL_does 20 = .ok (.iload_n 3, 1) := by decide +kernel
theorem dL_does_21 : decode cL_does 21 = .ok (.invokevirtual 14, 3) := by decide +kernel
theorem dL_does_24 : decode cL_does 24 = .ok (.goto 65, 3) := by decide +kernel
theorem dL_does_27 : decode cL_does 27 = .ok (.iload_n 1, 1) := by decide +kernel
theorem dL_does_28 : decode cL_does 28 = .ok (.iconst 2, 1) := by decide +kernel
theorem dL_does_29 : decode cL_does 29 = .ok (.if_icmp .ne 12, 3) := by decide +kernel
theorem dL_does_32 : decode cL_does 32 = .ok (.aload_n 0, 1) := by decide +kernel
theorem dL_does_33 : decode cL_does 33 = .ok (.iload_n 2, 1) := by decide +kernel
theorem dL_does_34 : decode cL_does 34 = .ok (.iload_n 3, 1) := by decide +kernel
theorem dL_does_35 : decode cL_does 35 = .ok (.invokevirtual 17, 3) := by decide +kernel
theorem dL_does_38 : decode cL_does 38 = .ok (.goto 51, 3) := by decide +kernel
theorem dL_does_41 : decode cL_does 41 = .ok (.iload_n 1, 1) := by decide +kernel
theorem dL_does_42 : decode cL_does 42 = .ok (.iconst 3, 1) := by decide +kernel
theorem dL_does_43 : decode cL_does 43 = .ok (.if_icmp .ne 12, 3) := by decide +kernel
theorem dL_does_46 : decode cL_does 46 = .ok (.aload_n 0, 1) := by decide +kernel
theorem dL_does_47 : decode cL_does 47 = .ok (.iload_n 2, 1) := by decide +kernel
theorem dL_does_48 : decode cL_does 48 = .ok (.iload_n 3, 1) := by decide +kernel
theorem dL_does_49 : decode cL_does 49 = .ok (.invokevirtual 20, 3) := by decide +kernel
theorem dL_does_52 : decode cL_does 52 = .ok (.goto 37, 3) := by decide +kernel
theorem dL_does_55 : decode cL_does 55 = .ok (.iload_n 1, 1) := by decide +kernel
theorem dL_does_56 : decode cL_does 56 = .ok (.iconst 4, 1) := by decide +kernel
theorem dL_does_57 : decode cL_does 57 = .ok (.if_icmp .ne 12, 3) := by decide +kernel
theorem dL_does_60 : decode cL_does 60 = .ok (.aload_n 0, 1) := by decide +kernel
theorem dL_does_61 : decode cL_does 61 = .ok (.iload_n 2, 1) := by decide +kernel
theorem dL_does_62 : decode cL_does 62 = .ok (.iload_n 3, 1) := by decide +kernel
theorem dL_does_63 : decode cL_does 63 = .ok (.invokevirtual 23, 3) := by decide +kernel
theorem dL_does_66 : decode cL_does 66 = .ok (.goto 23, 3) := by decide +kernel
theorem dL_does_69 : decode cL_does 69 = .ok (.iload_n 1, 1) := by decide +kernel
theorem dL_does_70 : decode cL_does 70 = .ok (.iconst 5, 1) := by decide +kernel
theorem dL_does_71 : decode cL_does 71 = .ok (.if_icmp .ne 12, 3) := by decide +kernel
theorem dL_does_74 : decode cL_does 74 = .ok (.aload_n 0, 1) := by decide +kernel
theorem dL_does_75 : decode cL_does 75 = .ok (.iload_n 2, 1) := by decide +kernel
theorem dL_does_76 : decode cL_does 76 = .ok (.iload_n 3, 1) := by decide +kernel
theorem dL_does_77 : decode cL_does 77 = .ok (.invokevirtual 26, 3) := by decide +kernel
theorem dL_does_80 : decode cL_does 80 = .ok (.goto 9, 3) := by decide +kernel
theorem dL_does_83 : decode cL_does 83 = .ok (.aload_n 0, 1) := by decide +kernel
theorem dL_does_84 : decode cL_does 84 = .ok (.iload_n 2, 1) := by decide +kernel
theorem dL_does_85 : decode cL_does 85 = .ok (.iload_n 3, 1) := by decide +kernel
theorem dL_does_86 : decode cL_does 86 = .ok (.invokevirtual 29, 3) := by decide +kernel
theorem dL_does_89 : decode cL_does 89 = .ok (.ireturn, 1) := by decide +kernel
theorem dL_does_90 : decode cL_does 90 = .ok (.astore 4, 2) := by decide +kernel
theorem dL_does_92 : decode cL_does 92 = .ok (.bipush (-8), 2) := by decide +kernel
theorem dL_does_94 : decode cL_does 94 = .ok (.ireturn, 1) := by decide +kernel
theorem dL_does_95 : decode cL_does 95 = .ok (.astore 4, 2) := by decide +kernel
theorem dL_does_97 : decode cL_does 97 = .ok (.bipush (-8), 2) := by decide +kernel
theorem dL_does_99 : decode cL_does 99 = .ok (.ireturn, 1) := by decide +kernel
theorem dL_does_100 : decode cL_does 100 = .ok (.astore 4, 2) := by decide +kernel
theorem dL_does_102 : decode cL_does 102 = .ok (.bipush (-8), 2) := by decide +kernel
theorem dL_does_104 : decode cL_does 104 = .ok (.ireturn, 1) := by decide +kernel
theorem dL_act_0 : decode cL_act 0 = .ok (.iload_n 1, 1) := by decide +kernel
theorem dL_act_1 : decode cL_act 1 = .ok (.ifCond .ne 19, 3) := by decide +kernel
theorem dL_act_4 : decode cL_act 4 = .ok (.aload_n 0, 1) := by decide +kernel
theorem dL_act_5 : decode cL_act 5 = .ok (.iload_n 2, 1) := by decide +kernel
theorem dL_act_6 : decode cL_act 6 = .ok (.invokevirtual 38, 3) := by decide +kernel
theorem dL_act_9 : decode cL_act 9 = .ok (.ifCond .eq 7, 3) := by decide +kernel
theorem dL_act_12 : decode cL_act 12 = .ok (.iconst 1, 1) := by decide +kernel
theorem dL_act_13 : decode cL_act 13 = .ok (.goto 38, 3) := by decide +kernel
theorem dL_act_16 : decode cL_act 16 = .ok (.iconst 0, 1) := by decide +kernel
theorem dL_act_17 : decode cL_act 17 = .ok (.goto 34, 3) := by decide +kernel
theorem dL_act_20 : decode cL_act 20 = .ok (.iload_n 1, 1) := by decide +kernel
theorem dL_act_21 : decode cL_act 21 = .ok (.iconst 1, 1) := by decide +kernel
theorem dL_act_22 : decode cL_act 22 = .ok (.if_icmp .ne 11, 3) := by decide +kernel
theorem dL_act_25 : decode cL_act 25 = .ok (.aload_n 0, 1) := by decide +kernel
theorem dL_act_26 : decode cL_act 26 = .ok (.iload_n 2, 1) := by decide +kernel
theorem dL_act_27 : decode cL_act 27 = .ok (.invokevirtual 42, 3) := by decide +kernel
theorem dL_act_30 : decode cL_act 30 = .ok (.goto 21, 3) := by decide +kernel
theorem dL_act_33 : decode cL_act 33 = .ok (.iload_n 1, 1) := by decide +kernel
theorem dL_act_34 : decode cL_act 34 = .ok (.iconst 2, 1) := by decide +kernel
theorem dL_act_35 : decode cL_act 35 = .ok (.if_icmp .ne 11, 3) := by decide +kernel
theorem dL_act_38 : decode cL_act 38 = .ok (.aload_n 0, 1) := by decide +kernel
theorem dL_act_39 : decode cL_act 39 = .ok (.iload_n 2, 1) := by decide +kernel
theorem dL_act_40 : decode cL_act 40 = .ok (.invokevirtual 46, 3) := by decide +kernel
theorem dL_act_43 : decode cL_act 43 = .ok (.goto 8, 3) := by decide +kernel
theorem dL_act_46 : decode cL_act 46 = .ok (.aload_n 0, 1) := by decide +kernel
theorem dL_act_47 : decode cL_act 47 = .ok (.iload_n 2, 1) := by decide +kernel
theorem dL_act_48 : decode cL_act 48 = .ok (.invokevirtual 49, 3) := by decide +kernel
theorem dL_act_51 : decode cL_act 51 = .ok (.ireturn, 1) := by decide +kernel
theorem dL_act_52 : decode cL_act 52 = .ok (.astore_n 3, 1) := by decide +kernel
theorem dL_act_53 : decode cL_act 53 = .ok (.bipush (-8), 2) := by decide +kernel
theorem dL_act_55 : decode cL_act 55 = .ok (.ireturn, 1) := by decide +kernel
theorem dL_act_56 : decode cL_act 56 = .ok (.astore_n 3, 1) := by decide +kernel
theorem dL_act_57 : decode cL_act 57 = .ok (.bipush (-8), 2) := by decide +kernel
theorem dL_act_59 : decode cL_act 59 = .ok (.ireturn, 1) := by decide +kernel
theorem dL_act_60 : decode cL_act 60 = .ok (.astore_n 3, 1) := by decide +kernel
theorem dL_act_61 : decode cL_act 61 = .ok (.bipush (-8), 2) := by decide +kernel
theorem dL_act_63 : decode cL_act 63 = .ok (.ireturn, 1) := by decide +kernel
theorem dL_bar_0 : decode cL_bar 0 = .ok (.aload_n 0, 1) := by decide +kernel
theorem dL_bar_1 : decode cL_bar 1 = .ok (.iload_n 1, 1) := by decide +kernel
theorem dL_bar_2 : decode cL_bar 2 = .ok (.iload_n 2, 1) := by decide +kernel
theorem dL_bar_3 : decode cL_bar 3 = .ok (.iload_n 3, 1) := by decide +kernel
theorem dL_bar_4 : decode cL_bar 4 = .ok (.invokevirtual 52, 3) := by decide +kernel
theorem dL_bar_7 : decode cL_bar 7 = .ok (.ifCond .eq 7, 3) := by decide +kernel
theorem dL_bar_10 : decode cL_bar 10 = .ok (.iconst 1, 1) := by decide +kernel
theorem dL_bar_11 : decode cL_bar 11 = .ok (.goto 4, 3) := by decide +kernel
theorem dL_bar_14 : decode cL_bar 14 = .ok (.iconst 0, 1) := by decide +kernel
theorem dL_bar_15 : decode cL_bar 15 = .ok (.ireturn, 1) := by decide +kernel
theorem dL_bar_16 : decode cL_bar 16 = .ok (.astore 4, 2) := by decide +kernel
theorem dL_bar_18 : decode cL_bar 18 = .ok (.bipush (-8), 2) := by decide +kernel
theorem dL_bar_20 : decode cL_bar 20 = .ok (.ireturn, 1) := by decide +kernel
theorem dL_bar_21 : decode cL_bar 21 = .ok (.astore 4, 2) := by decide +kernel
theorem dL_bar_23 : decode cL_bar 23 = .ok (.bipush (-8), 2) := by decide +kernel
theorem dL_bar_25 : decode cL_bar 25 = .ok (.ireturn, 1) := by decide +kernel
theorem dL_call_0 : decode cL_call 0 = .ok (.aload_n 0, 1) := by decide +kernel
theorem dL_call_1 : decode cL_call 1 = .ok (.iload_n 1, 1) := by decide +kernel
theorem dL_call_2 : decode cL_call 2 = .ok (.iload_n 2, 1) := by decide +kernel
theorem dL_call_3 : decode cL_call 3 = .ok (.iload_n 3, 1) := by decide +kernel
theorem dL_call_4 : decode cL_call 4 = .ok (.invokevirtual 56, 3) := by decide +kernel
theorem dL_call_7 : decode cL_call 7 = .ok (.ireturn, 1) := by decide +kernel
theorem dL_call_8 : decode cL_call 8 = .ok (.astore 4, 2) := by decide +kernel
theorem dL_call_10 : decode cL_call 10 = .ok (.bipush (-8), 2) := by decide +kernel
theorem dL_call_12 : decode cL_call 12 = .ok (.ireturn, 1) := by decide +kernel
theorem dL_call_13 : decode cL_call 13 = .ok (.astore 4, 2) := by decide +kernel
theorem dL_call_15 : decode cL_call 15 = .ok (.bipush (-8), 2) := by decide +kernel
theorem dL_call_17 : decode cL_call 17 = .ok (.ireturn, 1) := by decide +kernel
theorem dL_vote_0 : decode cL_vote 0 = .ok (.aload_n 0, 1) := by decide +kernel
theorem dL_vote_1 : decode cL_vote 1 = .ok (.iload_n 1, 1) := by decide +kernel
theorem dL_vote_2 : decode cL_vote 2 = .ok (.iload_n 2, 1) := by decide +kernel
theorem dL_vote_3 : decode cL_vote 3 = .ok (.iload_n 3, 1) := by decide +kernel
theorem dL_vote_4 : decode cL_vote 4 = .ok (.invokevirtual 60, 3) := by decide +kernel
theorem dL_vote_7 : decode cL_vote 7 = .ok (.ireturn, 1) := by decide +kernel
theorem dL_vote_8 : decode cL_vote 8 = .ok (.astore 4, 2) := by decide +kernel
theorem dL_vote_10 : decode cL_vote 10 = .ok (.bipush (-8), 2) := by decide +kernel
theorem dL_vote_12 : decode cL_vote 12 = .ok (.ireturn, 1) := by decide +kernel
theorem dL_vote_13 : decode cL_vote 13 = .ok (.astore 4, 2) := by decide +kernel
theorem dL_vote_15 : decode cL_vote 15 = .ok (.bipush (-8), 2) := by decide +kernel
theorem dL_vote_17 : decode cL_vote 17 = .ok (.ireturn, 1) := by decide +kernel
theorem dL_vote_18 : decode cL_vote 18 = .ok (.astore 4, 2) := by decide +kernel
theorem dL_vote_20 : decode cL_vote 20 = .ok (.bipush (-8), 2) := by decide +kernel
theorem dL_vote_22 : decode cL_vote 22 = .ok (.ireturn, 1) := by decide +kernel
theorem dL_count_0 : decode cL_count 0 = .ok (.aload_n 0, 1) := by decide +kernel
theorem dL_count_1 : decode cL_count 1 = .ok (.iload_n 1, 1) := by decide +kernel
theorem dL_count_2 : decode cL_count 2 = .ok (.iload_n 2, 1) := by decide +kernel
theorem dL_count_3 : decode cL_count 3 = .ok (.invokevirtual 64, 3) := by decide +kernel
theorem dL_count_6 : decode cL_count 6 = .ok (.ifCond .eq 7, 3) := by decide +kernel
theorem dL_count_9 : decode cL_count 9 = .ok (.iconst 1, 1) := by decide +kernel
theorem dL_count_10 : decode cL_count 10 = .ok (.goto 4, 3) := by decide +kernel
theorem dL_count_13 : decode cL_count 13 = .ok (.iconst 0, 1) := by decide +kernel
theorem dL_count_14 : decode cL_count 14 = .ok (.ireturn, 1) := by decide +kernel
theorem dL_count_15 : decode cL_count 15 = .ok (.astore_n 3, 1) := by decide +kernel
theorem dL_count_16 : decode cL_count 16 = .ok (.bipush (-8), 2) := by decide +kernel
theorem dL_count_18 : decode cL_count 18 = .ok (.ireturn, 1) := by decide +kernel
theorem dL_count_19 : decode cL_count 19 = .ok (.astore_n 3, 1) := by decide +kernel
theorem dL_count_20 : decode cL_count 20 = .ok (.bipush (-8), 2) := by decide +kernel
theorem dL_count_22 : decode cL_count 22 = .ok (.ireturn, 1) := by decide +kernel
theorem dL_of_0 : decode cL_of 0 = .ok (.iload_n 1, 1) := by decide +kernel
theorem dL_of_1 : decode cL_of 1 = .ok (.ifCond .ne 19, 3) := by decide +kernel
theorem dL_of_4 : decode cL_of 4 = .ok (.aload_n 0, 1) := by decide +kernel
theorem dL_of_5 : decode cL_of 5 = .ok (.iload_n 2, 1) := by decide +kernel
theorem dL_of_6 : decode cL_of 6 = .ok (.invokevirtual 68, 3) := by decide +kernel
theorem dL_of_9 : decode cL_of 9 = .ok (.ifCond .eq 7, 3) := by decide +kernel
theorem dL_of_12 : decode cL_of 12 = .ok (.iconst 1, 1) := by decide +kernel
theorem dL_of_13 : decode cL_of 13 = .ok (.goto 155, 3) := by decide +kernel
theorem dL_of_16 : decode cL_of 16 = .ok (.iconst 0, 1) := by decide +kernel
theorem dL_of_17 : decode cL_of 17 = .ok (.goto 151, 3) := by decide +kernel
theorem dL_of_20 : decode cL_of 20 = .ok (.iload_n 1, 1) := by decide +kernel
theorem dL_of_21 : decode cL_of 21 = .ok (.iconst 1, 1) := by decide +kernel
theorem dL_of_22 : decode cL_of 22 = .ok (.if_icmp .ne 11, 3) := by decide +kernel
theorem dL_of_25 : decode cL_of 25 = .ok (.aload_n 0, 1) := by decide +kernel
theorem dL_of_26 : decode cL_of 26 = .ok (.iload_n 2, 1) := by decide +kernel
theorem dL_of_27 : decode cL_of 27 = .ok (.invokevirtual 71, 3) := by decide +kernel
theorem dL_of_30 : decode cL_of 30 = .ok (.goto 138, 3) := by decide +kernel
theorem dL_of_33 : decode cL_of 33 = .ok (.iload_n 1, 1) := by decide +kernel
theorem dL_of_34 : decode cL_of 34 = .ok (.iconst 2, 1) := by decide +kernel
theorem dL_of_35 : decode cL_of 35 = .ok (.if_icmp .ne 11, 3) := by decide +kernel
theorem dL_of_38 : decode cL_of 38 = .ok (.aload_n 0, 1) := by decide +kernel
theorem dL_of_39 : decode cL_of 39 = .ok (.iload_n 2, 1) := by decide +kernel
theorem dL_of_40 : decode cL_of 40 = .ok (.invokevirtual 74, 3) := by decide +kernel
theorem dL_of_43 : decode cL_of 43 = .ok (.goto 125, 3) := by decide +kernel
theorem dL_of_46 : decode cL_of 46 = .ok (.iload_n 1, 1) := by decide +kernel
theorem dL_of_47 : decode cL_of 47 = .ok (.iconst 3, 1) := by decide +kernel
theorem dL_of_48 : decode cL_of 48 = .ok (.if_icmp .ne 11, 3) := by decide +kernel
theorem dL_of_51 : decode cL_of 51 = .ok (.aload_n 0, 1) := by decide +kernel
theorem dL_of_52 : decode cL_of 52 = .ok (.iload_n 2, 1) := by decide +kernel
theorem dL_of_53 : decode cL_of 53 = .ok (.invokevirtual 77, 3) := by decide +kernel
theorem dL_of_56 : decode cL_of 56 = .ok (.goto 112, 3) := by decide +kernel
theorem dL_of_59 : decode cL_of 59 = .ok (.iload_n 1, 1) := by decide +kernel
theorem dL_of_60 : decode cL_of 60 = .ok (.iconst 4, 1) := by decide +kernel
theorem dL_of_61 : decode cL_of 61 = .ok (.if_icmp .ne 19, 3) := by decide +kernel
theorem dL_of_64 : decode cL_of 64 = .ok (.aload_n 0, 1) := by decide +kernel
theorem dL_of_65 : decode cL_of 65 = .ok (.iload_n 2, 1) := by decide +kernel
theorem dL_of_66 : decode cL_of 66 = .ok (.invokevirtual 80, 3) := by decide +kernel
theorem dL_of_69 : decode cL_of 69 = .ok (.ifCond .eq 7, 3) := by decide +kernel
theorem dL_of_72 : decode cL_of 72 = .ok (.iconst 1, 1) := by decide +kernel
theorem dL_of_73 : decode cL_of 73 = .ok (.goto 95, 3) := by decide +kernel
theorem dL_of_76 : decode cL_of 76 = .ok (.iconst 0, 1) := by decide +kernel
theorem dL_of_77 : decode cL_of 77 = .ok (.goto 91, 3) := by decide +kernel
theorem dL_of_80 : decode cL_of 80 = .ok (.iload_n 1, 1) := by decide +kernel
theorem dL_of_81 : decode cL_of 81 = .ok (.iconst 5, 1) := by decide +kernel
theorem dL_of_82 : decode cL_of 82 = .ok (.if_icmp .ne 11, 3) := by decide +kernel
theorem dL_of_85 : decode cL_of 85 = .ok (.aload_n 0, 1) := by decide +kernel
theorem dL_of_86 : decode cL_of 86 = .ok (.iload_n 2, 1) := by decide +kernel
theorem dL_of_87 : decode cL_of 87 = .ok (.invokevirtual 83, 3) := by decide +kernel
theorem dL_of_90 : decode cL_of 90 = .ok (.goto 78, 3) := by decide +kernel
theorem dL_of_93 : decode cL_of 93 = .ok (.iload_n 1, 1) := by decide +kernel
theorem dL_of_94 : decode cL_of 94 = .ok (.bipush 6, 2) := by decide +kernel
theorem dL_of_96 : decode cL_of 96 = .ok (.if_icmp .ne 11, 3) := by decide +kernel
theorem dL_of_99 : decode cL_of 99 = .ok (.aload_n 0, 1) := by decide +kernel
theorem dL_of_100 : decode cL_of 100 = .ok (.iload_n 2, 1) := by decide +kernel
theorem dL_of_101 : decode cL_of 101 = .ok (.invokevirtual 86, 3) := by decide +kernel
theorem dL_of_104 : decode cL_of 104 = .ok (.goto 64, 3) := by decide +kernel
theorem dL_of_107 : decode cL_of 107 = .ok (.iload_n 1, 1) := by decide +kernel
theorem dL_of_108 : decode cL_of 108 = .ok (.bipush 7, 2) := by decide +kernel
theorem dL_of_110 : decode cL_of 110 = .ok (.if_icmp .ne 11, 3) := by decide +kernel
theorem dL_of_113 : decode cL_of 113 = .ok (.aload_n 0, 1) := by decide +kernel
theorem dL_of_114 : decode cL_of 114 = .ok (.iload_n 2, 1) := by decide +kernel
theorem dL_of_115 : decode cL_of 115 = .ok (.invokevirtual 89, 3) := by decide +kernel
theorem dL_of_118 : decode cL_of 118 = .ok (.goto 50, 3) := by decide +kernel
theorem dL_of_121 : decode cL_of 121 = .ok (.iload_n 1, 1) := by decide +kernel
theorem dL_of_122 : decode cL_of 122 = .ok (.bipush 8, 2) := by decide +kernel
theorem dL_of_124 : decode cL_of 124 = .ok (.if_icmp .ne 11, 3) := by decide +kernel
theorem dL_of_127 : decode cL_of 127 = .ok (.aload_n 0, 1) := by decide +kernel
theorem dL_of_128 : decode cL_of 128 = .ok (.iload_n 2, 1) := by decide +kernel
theorem dL_of_129 : decode cL_of 129 = .ok (.invokevirtual 92, 3) := by decide +kernel
theorem dL_of_132 : decode cL_of 132 = .ok (.goto 36, 3) := by decide +kernel
theorem dL_of_135 : decode cL_of 135 = .ok (.iload_n 1, 1) := by decide +kernel
theorem dL_of_136 : decode cL_of 136 = .ok (.bipush 9, 2) := by decide +kernel
theorem dL_of_138 : decode cL_of 138 = .ok (.if_icmp .ne 11, 3) := by decide +kernel
theorem dL_of_141 : decode cL_of 141 = .ok (.aload_n 0, 1) := by decide +kernel
theorem dL_of_142 : decode cL_of 142 = .ok (.iload_n 2, 1) := by decide +kernel
theorem dL_of_143 : decode cL_of 143 = .ok (.invokevirtual 95, 3) := by decide +kernel
theorem dL_of_146 : decode cL_of 146 = .ok (.goto 22, 3) := by decide +kernel
theorem dL_of_149 : decode cL_of 149 = .ok (.iload_n 1, 1) := by decide +kernel
theorem dL_of_150 : decode cL_of 150 = .ok (.bipush 10, 2) := by decide +kernel
theorem dL_of_152 : decode cL_of 152 = .ok (.if_icmp .ne 11, 3) := by decide +kernel
theorem dL_of_155 : decode cL_of 155 = .ok (.aload_n 0, 1) := by decide +kernel
theorem dL_of_156 : decode cL_of 156 = .ok (.iload_n 2, 1) := by decide +kernel
theorem dL_of_157 : decode cL_of 157 = .ok (.invokevirtual 98, 3) := by decide +kernel
theorem dL_of_160 : decode cL_of 160 = .ok (.goto 8, 3) := by decide +kernel
theorem dL_of_163 : decode cL_of 163 = .ok (.aload_n 0, 1) := by decide +kernel
theorem dL_of_164 : decode cL_of 164 = .ok (.iload_n 2, 1) := by decide +kernel
theorem dL_of_165 : decode cL_of 165 = .ok (.invokevirtual 101, 3) := by decide +kernel
theorem dL_of_168 : decode cL_of 168 = .ok (.ireturn, 1) := by decide +kernel
theorem dL_of_169 : decode cL_of 169 = .ok (.astore_n 3, 1) := by decide +kernel
theorem dL_of_170 : decode cL_of 170 = .ok (.bipush (-8), 2) := by decide +kernel
theorem dL_of_172 : decode cL_of 172 = .ok (.ireturn, 1) := by decide +kernel
theorem dL_at_0 : decode cL_at 0 = .ok (.iload_n 1, 1) := by decide +kernel
theorem dL_at_1 : decode cL_at 1 = .ok (.ifCond .ne 12, 3) := by decide +kernel
theorem dL_at_4 : decode cL_at 4 = .ok (.aload_n 0, 1) := by decide +kernel
theorem dL_at_5 : decode cL_at 5 = .ok (.iload_n 2, 1) := by decide +kernel
theorem dL_at_6 : decode cL_at 6 = .ok (.iload_n 3, 1) := by decide +kernel
theorem dL_at_7 : decode cL_at 7 = .ok (.invokevirtual 104, 3) := by decide +kernel
theorem dL_at_10 : decode cL_at 10 = .ok (.goto 37, 3) := by decide +kernel
theorem dL_at_13 : decode cL_at 13 = .ok (.iload_n 1, 1) := by decide +kernel
theorem dL_at_14 : decode cL_at 14 = .ok (.iconst 1, 1) := by decide +kernel
theorem dL_at_15 : decode cL_at 15 = .ok (.if_icmp .ne 12, 3) := by decide +kernel
theorem dL_at_18 : decode cL_at 18 = .ok (.aload_n 0, 1) := by decide +kernel
theorem dL_at_19 : decode cL_at 19 = .ok (.iload_n 2, 1) := by decide +kernel
theorem dL_at_20 : decode cL_at 20 = .ok (.iload_n 3, 1) := by decide +kernel
theorem dL_at_21 : decode cL_at 21 = .ok (.invokevirtual 107, 3) := by decide +kernel
theorem dL_at_24 : decode cL_at 24 = .ok (.goto 23, 3) := by decide +kernel
theorem dL_at_27 : decode cL_at 27 = .ok (.iload_n 1, 1) := by decide +kernel
theorem dL_at_28 : decode cL_at 28 = .ok (.iconst 2, 1) := by decide +kernel
theorem dL_at_29 : decode cL_at 29 = .ok (.if_icmp .ne 12, 3) := by decide +kernel
theorem dL_at_32 : decode cL_at 32 = .ok (.aload_n 0, 1) := by decide +kernel
theorem dL_at_33 : decode cL_at 33 = .ok (.iload_n 2, 1) := by decide +kernel
theorem dL_at_34 : decode cL_at 34 = .ok (.iload_n 3, 1) := by decide +kernel
theorem dL_at_35 : decode cL_at 35 = .ok (.invokevirtual 110, 3) := by decide +kernel
theorem dL_at_38 : decode cL_at 38 = .ok (.goto 9, 3) := by decide +kernel
theorem dL_at_41 : decode cL_at 41 = .ok (.aload_n 0, 1) := by decide +kernel
theorem dL_at_42 : decode cL_at 42 = .ok (.iload_n 2, 1) := by decide +kernel
theorem dL_at_43 : decode cL_at 43 = .ok (.iload_n 3, 1) := by decide +kernel
theorem dL_at_44 : decode cL_at 44 = .ok (.invokevirtual 113, 3) := by decide +kernel
theorem dL_at_47 : decode cL_at 47 = .ok (.ireturn, 1) := by decide +kernel
theorem dL_at_48 : decode cL_at 48 = .ok (.astore 4, 2) := by decide +kernel
theorem dL_at_50 : decode cL_at 50 = .ok (.bipush (-8), 2) := by decide +kernel
theorem dL_at_52 : decode cL_at 52 = .ok (.ireturn, 1) := by decide +kernel
theorem dL_at_53 : decode cL_at 53 = .ok (.astore 4, 2) := by decide +kernel
theorem dL_at_55 : decode cL_at 55 = .ok (.bipush (-8), 2) := by decide +kernel
theorem dL_at_57 : decode cL_at 57 = .ok (.ireturn, 1) := by decide +kernel
theorem dL_over_0 : decode cL_over 0 = .ok (.iload_n 0, 1) := by decide +kernel
theorem dL_over_1 : decode cL_over 1 = .ok (.ifCond .ge 7, 3) := by decide +kernel
theorem dL_over_4 : decode cL_over 4 = .ok (.iload_n 0, 1) := by decide +kernel
theorem dL_over_5 : decode cL_over 5 = .ok (.goto 16, 3) := by decide +kernel
theorem dL_over_8 : decode cL_over 8 = .ok (.iload_n 0, 1) := by decide +kernel
theorem dL_over_9 : decode cL_over 9 = .ok (.iload_n 0, 1) := by decide +kernel
theorem dL_over_10 : decode cL_over 10 = .ok (.bipush 6, 2) := by decide +kernel
theorem dL_over_12 : decode cL_over 12 = .ok (.irem, 1) := by decide +kernel
theorem dL_over_13 : decode cL_over 13 = .ok (.isub, 1) := by decide +kernel
theorem dL_over_14 : decode cL_over 14 = .ok (.iconst 5, 1) := by decide +kernel
theorem dL_over_15 : decode cL_over 15 = .ok (.iadd, 1) := by decide +kernel
theorem dL_over_16 : decode cL_over 16 = .ok (.iload_n 0, 1) := by decide +kernel
theorem dL_over_17 : decode cL_over 17 = .ok (.bipush 6, 2) := by decide +kernel
theorem dL_over_19 : decode cL_over 19 = .ok (.irem, 1) := by decide +kernel
theorem dL_over_20 : decode cL_over 20 = .ok (.isub, 1) := by decide +kernel
theorem dL_over_21 : decode cL_over 21 = .ok (.ireturn, 1) := by decide +kernel
theorem dL_town_0 : decode cL_town 0 = .ok (.iload 4, 2) := by decide +kernel
theorem dL_town_2 : decode cL_town 2 = .ok (.bipush 36, 2) := by decide +kernel
theorem dL_town_4 : decode cL_town 4 = .ok (.irem, 1) := by decide +kernel
theorem dL_town_5 : decode cL_town 5 = .ok (.istore 5, 2) := by decide +kernel
theorem dL_town_7 : decode cL_town 7 = .ok (.aload_n 2, 1) := by decide +kernel
theorem dL_town_8 : decode cL_town 8 = .ok (.iconst 0, 1) := by decide +kernel
theorem dL_town_9 : decode cL_town 9 = .ok (.iaload, 1) := by decide +kernel
theorem dL_town_10 : decode cL_town 10 = .ok (.ifCond .ne 7, 3) := by decide +kernel
theorem dL_town_13 : decode cL_town 13 = .ok (.iconst 0, 1) := by decide +kernel
theorem dL_town_14 : decode cL_town 14 = .ok (.goto 12, 3) := by decide +kernel
theorem dL_town_17 : decode cL_town 17 = .ok (.iload 4, 2) := by decide +kernel
theorem dL_town_19 : decode cL_town 19 = .ok (.bipush 36, 2) := by decide +kernel
theorem dL_town_21 : decode cL_town 21 = .ok (.idiv, 1) := by decide +kernel
theorem dL_town_22 : decode cL_town 22 = .ok (.aload_n 2, 1) := by decide +kernel
theorem dL_town_23 : decode cL_town 23 = .ok (.iconst 0, 1) := by decide +kernel
theorem dL_town_24 : decode cL_town 24 = .ok (.iaload, 1) := by decide +kernel
theorem dL_town_25 : decode cL_town 25 = .ok (.irem, 1) := by decide +kernel
theorem dL_town_26 : decode cL_town 26 = .ok (.istore 6, 2) := by decide +kernel
theorem dL_town_28 : decode cL_town 28 = .ok (.iload_n 3, 1) := by decide +kernel
theorem dL_town_29 : decode cL_town 29 = .ok (.iconst 3, 1) := by decide +kernel
theorem dL_town_30 : decode cL_town 30 = .ok (.if_icmp .ge 119, 3) := by decide +kernel
theorem dL_town_33 : decode cL_town 33 = .ok (.iload 4, 2) := by decide +kernel
theorem dL_town_35 : decode cL_town 35 = .ok (.bipush 36, 2) := by decide +kernel
theorem dL_town_37 : decode cL_town 37 = .ok (.idiv, 1) := by decide +kernel
theorem dL_town_38 : decode cL_town 38 = .ok (.iconst 2, 1) := by decide +kernel
theorem dL_town_39 : decode cL_town 39 = .ok (.irem, 1) := by decide +kernel
theorem dL_town_40 : decode cL_town 40 = .ok (.ifCond .ne 26, 3) := by decide +kernel
theorem dL_town_43 : decode cL_town 43 = .ok (.iload 5, 2) := by decide +kernel
theorem dL_town_45 : decode cL_town 45 = .ok (.bipush 6, 2) := by decide +kernel
theorem dL_town_47 : decode cL_town 47 = .ok (.irem, 1) := by decide +kernel
theorem dL_town_48 : decode cL_town 48 = .ok (.iconst 5, 1) := by decide +kernel
theorem dL_town_49 : decode cL_town 49 = .ok (.if_icmp .ne 10, 3) := by decide +kernel
theorem dL_town_52 : decode cL_town 52 = .ok (.iload 5, 2) := by decide +kernel
theorem dL_town_54 : decode cL_town 54 = .ok (.iconst 1, 1) := by decide +kernel
theorem dL_town_55 : decode cL_town 55 = .ok (.isub, 1) := by decide +kernel
theorem dL_town_56 : decode cL_town 56 = .ok (.goto 30, 3) := by decide +kernel
theorem dL_town_59 : decode cL_town 59 = .ok (.iload 5, 2) := by decide +kernel
theorem dL_town_61 : decode cL_town 61 = .ok (.iconst 1, 1) := by decide +kernel
theorem dL_town_62 : decode cL_town 62 = .ok (.iadd, 1) := by decide +kernel
theorem dL_town_63 : decode cL_town 63 = .ok (.goto 23, 3) := by decide +kernel
theorem dL_town_66 : decode cL_town 66 = .ok (.iload 5, 2) := by decide +kernel
theorem dL_town_68 : decode cL_town 68 = .ok (.bipush 29, 2) := by decide +kernel
theorem dL_town_70 : decode cL_town 70 = .ok (.if_icmp .le 11, 3) := by decide +kernel
theorem dL_town_73 : decode cL_town 73 = .ok (.iload 5, 2) := by decide +kernel
theorem dL_town_75 : decode cL_town 75 = .ok (.bipush 6, 2) := by decide +kernel
