theorem dX11_misread_50 : decode cX11_misread 50 = .ok (.getfield 72, 3) := by decide +kernel
theorem dX11_misread_53 : decode cX11_misread 53 = .ok (.bipush 6, 2) := by decide +kernel
theorem dX11_misread_55 : decode cX11_misread 55 = .ok (.aload_n 0, 1) := by decide +kernel
theorem dX11_misread_56 : decode cX11_misread 56 = .ok (.getfield 81, 3) := by decide +kernel
theorem dX11_misread_59 : decode cX11_misread 59 = .ok (.iload_n 1, 1) := by decide +kernel
theorem dX11_misread_60 : decode cX11_misread 60 = .ok (.iaload, 1) := by decide +kernel
theorem dX11_misread_61 : decode cX11_misread 61 = .ok (.imul, 1) := by decide +kernel
theorem dX11_misread_62 : decode cX11_misread 62 = .ok (.iload_n 3, 1) := by decide +kernel
theorem dX11_misread_63 : decode cX11_misread 63 = .ok (.iadd, 1) := by decide +kernel
theorem dX11_misread_64 : decode cX11_misread 64 = .ok (.iaload, 1) := by decide +kernel
theorem dX11_misread_65 : decode cX11_misread 65 = .ok (.isub, 1) := by decide +kernel
theorem dX11_misread_66 : decode cX11_misread 66 = .ok (.istore 4, 2) := by decide +kernel
theorem dX11_misread_68 : decode cX11_misread 68 = .ok (.iload_n 2, 1) := by decide +kernel
theorem dX11_misread_69 : decode cX11_misread 69 = .ok (.iload 4, 2) := by decide +kernel
theorem dX11_misread_71 : decode cX11_misread 71 = .ok (.ifCond .le 8, 3) := by decide +kernel
theorem dX11_misread_74 : decode cX11_misread 74 = .ok (.iload 4, 2) := by decide +kernel
theorem dX11_misread_76 : decode cX11_misread 76 = .ok (.goto 4, 3) := by decide +kernel
theorem dX11_misread_79 : decode cX11_misread 79 = .ok (.iconst 0, 1) := by decide +kernel
theorem dX11_misread_80 : decode cX11_misread 80 = .ok (.iadd, 1) := by decide +kernel
theorem dX11_misread_81 : decode cX11_misread 81 = .ok (.istore_n 2, 1) := by decide +kernel
theorem dX11_misread_82 : decode cX11_misread 82 = .ok (.iinc 3 1, 3) := by decide +kernel
theorem dX11_misread_85 : decode cX11_misread 85 = .ok (.goto (-53), 3) := by decide +kernel
theorem dX11_misread_88 : decode cX11_misread 88 = .ok (.iload_n 2, 1) := by decide +kernel
theorem dX11_misread_89 : decode cX11_misread 89 = .ok (.ireturn, 1) := by decide +kernel
theorem dX11_divisor_0 : decode cX11_divisor 0 = .ok (.aload_n 0, 1) := by decide +kernel
theorem dX11_divisor_1 : decode cX11_divisor 1 = .ok (.getfield 187, 3) := by decide +kernel
theorem dX11_divisor_4 : decode cX11_divisor 4 = .ok (.ifCond .eq 16, 3) := by decide +kernel
theorem dX11_divisor_7 : decode cX11_divisor 7 = .ok (.iconst 2, 1) := by decide +kernel
theorem dX11_divisor_8 : decode cX11_divisor 8 = .ok (.aload_n 0, 1) := by decide +kernel
theorem dX11_divisor_9 : decode cX11_divisor 9 = .ok (.getfield 90, 3) := by decide +kernel
theorem dX11_divisor_12 : decode cX11_divisor 12 = .ok (.iload_n 1, 1) := by decide +kernel
theorem dX11_divisor_13 : decode cX11_divisor 13 = .ok (.iaload, 1) := by decide +kernel
theorem dX11_divisor_14 : decode cX11_divisor 14 = .ok (.imul, 1) := by decide +kernel
theorem dX11_divisor_15 : decode cX11_divisor 15 = .ok (.iconst 1, 1) := by decide +kernel
theorem dX11_divisor_16 : decode cX11_divisor 16 = .ok (.iadd, 1) := by decide +kernel
theorem dX11_divisor_17 : decode cX11_divisor 17 = .ok (.goto 11, 3) := by decide +kernel
theorem dX11_divisor_20 : decode cX11_divisor 20 = .ok (.aload_n 0, 1) := by decide +kernel
theorem dX11_divisor_21 : decode cX11_divisor 21 = .ok (.getfield 90, 3) := by decide +kernel
theorem dX11_divisor_24 : decode cX11_divisor 24 = .ok (.iload_n 1, 1) := by decide +kernel
theorem dX11_divisor_25 : decode cX11_divisor 25 = .ok (.iaload, 1) := by decide +kernel
theorem dX11_divisor_26 : decode cX11_divisor 26 = .ok (.iconst 1, 1) := by decide +kernel
theorem dX11_divisor_27 : decode cX11_divisor 27 = .ok (.iadd, 1) := by decide +kernel
theorem dX11_divisor_28 : decode cX11_divisor 28 = .ok (.ireturn, 1) := by decide +kernel
set_option maxRecDepth 20000 in
theorem ggX11_beyond_X11_divisor : GoodIn wsX11_beyond wsX11_divisor := goodIn_ca (goodIn_r _ [6, 7, 8, 9, 10, 11, 12, 13, 14, 15, 16, 17, 18, 19, 20, 21, 22, 23, 24, 25, 26, 27, 28, 29, 30, 31, 32, 33, 34, 35, 36, 37, 38, 39, 40, 41, 42, 43, 44, 45, 46, 47, 48, 49, 50, 51, 52] (by decide +kernel) (by decide +kernel)) (goodIn_sub (fun _ h => List.mem_cons_of_mem _ (List.mem_append_right _ h)) (by decide +kernel))
set_option maxRecDepth 20000 in
theorem gX11_beyond_X11_divisor : GoodIn wsX11_beyond (wsV RX11 217 RX11 yX11_divisor wsX11_divisor) := goodIn_app (goodIn_of _ (by decide +kernel)) ggX11_beyond_X11_divisor
theorem dX11_beyond_0 : decode cX11_beyond 0 = .ok (.aload_n 0, 1) := by decide +kernel
theorem dX11_beyond_1 : decode cX11_beyond 1 = .ok (.getfield 87, 3) := by decide +kernel
theorem dX11_beyond_4 : decode cX11_beyond 4 = .ok (.iload_n 1, 1) := by decide +kernel
theorem dX11_beyond_5 : decode cX11_beyond 5 = .ok (.iaload, 1) := by decide +kernel
theorem dX11_beyond_6 : decode cX11_beyond 6 = .ok (.aload_n 0, 1) := by decide +kernel
theorem dX11_beyond_7 : decode cX11_beyond 7 = .ok (.iload_n 2, 1) := by decide +kernel
theorem dX11_beyond_8 : decode cX11_beyond 8 = .ok (.invokevirtual 217, 3) := by decide +kernel
theorem dX11_beyond_11 : decode cX11_beyond 11 = .ok (.imul, 1) := by decide +kernel
theorem dX11_beyond_12 : decode cX11_beyond 12 = .ok (.aload_n 0, 1) := by decide +kernel
theorem dX11_beyond_13 : decode cX11_beyond 13 = .ok (.getfield 87, 3) := by decide +kernel
theorem dX11_beyond_16 : decode cX11_beyond 16 = .ok (.iload_n 2, 1) := by decide +kernel
theorem dX11_beyond_17 : decode cX11_beyond 17 = .ok (.iaload, 1) := by decide +kernel
theorem dX11_beyond_18 : decode cX11_beyond 18 = .ok (.aload_n 0, 1) := by decide +kernel
theorem dX11_beyond_19 : decode cX11_beyond 19 = .ok (.iload_n 1, 1) := by decide +kernel
theorem dX11_beyond_20 : decode cX11_beyond 20 = .ok (.invokevirtual 217, 3) := by decide +kernel
theorem dX11_beyond_23 : decode cX11_beyond 23 = .ok (.imul, 1) := by decide +kernel
theorem dX11_beyond_24 : decode cX11_beyond 24 = .ok (.isub, 1) := by decide +kernel
theorem dX11_beyond_25 : decode cX11_beyond 25 = .ok (.ireturn, 1) := by decide +kernel
set_option maxRecDepth 20000 in
theorem ggX11_gives_X11_inBox : GoodIn wsX11_gives wsX11_inBox := goodIn_ca (goodIn_r _ [16, 17, 18, 28, 29, 30, 31, 32, 33, 34, 35, 36, 37, 38, 39, 40, 41, 42, 43, 44, 45, 46, 47, 48, 49, 50, 51, 52, 53, 54, 55, 56, 57, 58, 59, 60, 61, 62, 63, 64, 65, 66, 67, 68, 69, 70, 71] (by decide +kernel) (by decide +kernel)) (goodIn_sub (fun _ h => List.mem_cons_of_mem _ (List.mem_append_right _ h)) (by decide +kernel))
set_option maxRecDepth 20000 in
theorem gX11_gives_X11_inBox : GoodIn wsX11_gives (wsV RX11 214 RX11 yX11_inBox wsX11_inBox) := goodIn_app (goodIn_of _ (by decide +kernel)) ggX11_gives_X11_inBox
set_option maxRecDepth 20000 in
theorem ggX11_gives_X11_beyond : GoodIn wsX11_gives wsX11_beyond := goodIn_ca (goodIn_r _ [22, 1, 23, 24, 25, 15, 26, 27, 2, 28, 29, 30, 31, 32, 33, 34, 35, 36, 37, 38, 39, 40, 41, 42, 43, 44, 45, 46, 47, 48, 49, 50, 51, 52, 53, 54, 55, 56, 57, 58, 59, 60, 61, 62, 63, 64, 65, 66, 67, 68, 69, 70, 71] (by decide +kernel) (by decide +kernel)) (goodIn_sub (fun _ h => List.mem_cons_of_mem _ (List.mem_append_right _ h)) (by decide +kernel))
set_option maxRecDepth 20000 in
theorem gX11_gives_X11_beyond : GoodIn wsX11_gives (wsV RX11 226 RX11 yX11_beyond wsX11_beyond) := goodIn_app (goodIn_of _ (by decide +kernel)) ggX11_gives_X11_beyond
theorem dX11_gives_0 : decode cX11_gives 0 = .ok (.iconst 0, 1) := by decide +kernel
theorem dX11_gives_1 : decode cX11_gives 1 = .ok (.istore_n 2, 1) := by decide +kernel
theorem dX11_gives_2 : decode cX11_gives 2 = .ok (.iconst 0, 1) := by decide +kernel
theorem dX11_gives_3 : decode cX11_gives 3 = .ok (.istore_n 3, 1) := by decide +kernel
theorem dX11_gives_4 : decode cX11_gives 4 = .ok (.iload_n 3, 1) := by decide +kernel
theorem dX11_gives_5 : decode cX11_gives 5 = .ok (.iconst 5, 1) := by decide +kernel
theorem dX11_gives_6 : decode cX11_gives 6 = .ok (.if_icmp .ge 90, 3) := by decide +kernel
theorem dX11_gives_9 : decode cX11_gives 9 = .ok (.aload_n 0, 1) := by decide +kernel
theorem dX11_gives_10 : decode cX11_gives 10 = .ok (.getfield 87, 3) := by decide +kernel
theorem dX11_gives_13 : decode cX11_gives 13 = .ok (.iload_n 3, 1) := by decide +kernel
theorem dX11_gives_14 : decode cX11_gives 14 = .ok (.iconst 0, 1) := by decide +kernel
theorem dX11_gives_15 : decode cX11_gives 15 = .ok (.iastore, 1) := by decide +kernel
theorem dX11_gives_16 : decode cX11_gives 16 = .ok (.aload_n 0, 1) := by decide +kernel
theorem dX11_gives_17 : decode cX11_gives 17 = .ok (.getfield 90, 3) := by decide +kernel
theorem dX11_gives_20 : decode cX11_gives 20 = .ok (.iload_n 3, 1) := by decide +kernel
theorem dX11_gives_21 : decode cX11_gives 21 = .ok (.iconst 0, 1) := by decide +kernel
theorem dX11_gives_22 : decode cX11_gives 22 = .ok (.iastore, 1) := by decide +kernel
theorem dX11_gives_23 : decode cX11_gives 23 = .ok (.iload_n 2, 1) := by decide +kernel
theorem dX11_gives_24 : decode cX11_gives 24 = .ok (.aload_n 0, 1) := by decide +kernel
theorem dX11_gives_25 : decode cX11_gives 25 = .ok (.getfield 45, 3) := by decide +kernel
theorem dX11_gives_28 : decode cX11_gives 28 = .ok (.iload_n 3, 1) := by decide +kernel
theorem dX11_gives_29 : decode cX11_gives 29 = .ok (.iaload, 1) := by decide +kernel
theorem dX11_gives_30 : decode cX11_gives 30 = .ok (.iadd, 1) := by decide +kernel
theorem dX11_gives_31 : decode cX11_gives 31 = .ok (.istore_n 2, 1) := by decide +kernel
theorem dX11_gives_32 : decode cX11_gives 32 = .ok (.iconst 0, 1) := by decide +kernel
theorem dX11_gives_33 : decode cX11_gives 33 = .ok (.istore 4, 2) := by decide +kernel
theorem dX11_gives_35 : decode cX11_gives 35 = .ok (.iload 4, 2) := by decide +kernel
theorem dX11_gives_37 : decode cX11_gives 37 = .ok (.aload_n 0, 1) := by decide +kernel
theorem dX11_gives_38 : decode cX11_gives 38 = .ok (.getfield 178, 3) := by decide +kernel
theorem dX11_gives_41 : decode cX11_gives 41 = .ok (.if_icmp .ge 49, 3) := by decide +kernel
theorem dX11_gives_44 : decode cX11_gives 44 = .ok (.aload_n 0, 1) := by decide +kernel
theorem dX11_gives_45 : decode cX11_gives 45 = .ok (.getfield 87, 3) := by decide +kernel
theorem dX11_gives_48 : decode cX11_gives 48 = .ok (.iload_n 3, 1) := by decide +kernel
theorem dX11_gives_49 : decode cX11_gives 49 = .ok (.dup2, 1) := by decide +kernel
theorem dX11_gives_50 : decode cX11_gives 50 = .ok (.iaload, 1) := by decide +kernel
theorem dX11_gives_51 : decode cX11_gives 51 = .ok (.iload_n 1, 1) := by decide +kernel
theorem dX11_gives_52 : decode cX11_gives 52 = .ok (.ifCond .eq 13, 3) := by decide +kernel
theorem dX11_gives_55 : decode cX11_gives 55 = .ok (.aload_n 0, 1) := by decide +kernel
theorem dX11_gives_56 : decode cX11_gives 56 = .ok (.iload 4, 2) := by decide +kernel
theorem dX11_gives_58 : decode cX11_gives 58 = .ok (.iload_n 3, 1) := by decide +kernel
theorem dX11_gives_59 : decode cX11_gives 59 = .ok (.invokevirtual 214, 3) := by decide +kernel
theorem dX11_gives_62 : decode cX11_gives 62 = .ok (.goto 20, 3) := by decide +kernel
theorem dX11_gives_65 : decode cX11_gives 65 = .ok (.aload_n 0, 1) := by decide +kernel
theorem dX11_gives_66 : decode cX11_gives 66 = .ok (.getfield 72, 3) := by decide +kernel
theorem dX11_gives_69 : decode cX11_gives 69 = .ok (.bipush 6, 2) := by decide +kernel
theorem dX11_gives_71 : decode cX11_gives 71 = .ok (.aload_n 0, 1) := by decide +kernel
theorem dX11_gives_72 : decode cX11_gives 72 = .ok (.getfield 81, 3) := by decide +kernel
theorem dX11_gives_75 : decode cX11_gives 75 = .ok (.iload 4, 2) := by decide +kernel
theorem dX11_gives_77 : decode cX11_gives 77 = .ok (.iaload, 1) := by decide +kernel
theorem dX11_gives_78 : decode cX11_gives 78 = .ok (.imul, 1) := by decide +kernel
theorem dX11_gives_79 : decode cX11_gives 79 = .ok (.iload_n 3, 1) := by decide +kernel
theorem dX11_gives_80 : decode cX11_gives 80 = .ok (.iadd, 1) := by decide +kernel
theorem dX11_gives_81 : decode cX11_gives 81 = .ok (.iaload, 1) := by decide +kernel
theorem dX11_gives_82 : decode cX11_gives 82 = .ok (.iadd, 1) := by decide +kernel
theorem dX11_gives_83 : decode cX11_gives 83 = .ok (.iastore, 1) := by decide +kernel
theorem dX11_gives_84 : decode cX11_gives 84 = .ok (.iinc 4 1, 3) := by decide +kernel
theorem dX11_gives_87 : decode cX11_gives 87 = .ok (.goto (-52), 3) := by decide +kernel
theorem dX11_gives_90 : decode cX11_gives 90 = .ok (.iinc 3 1, 3) := by decide +kernel
theorem dX11_gives_93 : decode cX11_gives 93 = .ok (.goto (-89), 3) := by decide +kernel
theorem dX11_gives_96 : decode cX11_gives 96 = .ok (.aload_n 0, 1) := by decide +kernel
theorem dX11_gives_97 : decode cX11_gives 97 = .ok (.iconst 0, 1) := by decide +kernel
theorem dX11_gives_98 : decode cX11_gives 98 = .ok (.putfield 220, 3) := by decide +kernel
theorem dX11_gives_101 : decode cX11_gives 101 = .ok (.aload_n 0, 1) := by decide +kernel
theorem dX11_gives_102 : decode cX11_gives 102 = .ok (.iconst 0, 1) := by decide +kernel
theorem dX11_gives_103 : decode cX11_gives 103 = .ok (.putfield 223, 3) := by decide +kernel
theorem dX11_gives_106 : decode cX11_gives 106 = .ok (.aload_n 0, 1) := by decide +kernel
theorem dX11_gives_107 : decode cX11_gives 107 = .ok (.getfield 87, 3) := by decide +kernel
theorem dX11_gives_110 : decode cX11_gives 110 = .ok (.iconst 0, 1) := by decide +kernel
theorem dX11_gives_111 : decode cX11_gives 111 = .ok (.iaload, 1) := by decide +kernel
theorem dX11_gives_112 : decode cX11_gives 112 = .ok (.aload_n 0, 1) := by decide +kernel
theorem dX11_gives_113 : decode cX11_gives 113 = .ok (.getfield 87, 3) := by decide +kernel
theorem dX11_gives_116 : decode cX11_gives 116 = .ok (.iconst 1, 1) := by decide +kernel
theorem dX11_gives_117 : decode cX11_gives 117 = .ok (.iaload, 1) := by decide +kernel
theorem dX11_gives_118 : decode cX11_gives 118 = .ok (.iadd, 1) := by decide +kernel
theorem dX11_gives_119 : decode cX11_gives 119 = .ok (.aload_n 0, 1) := by decide +kernel
theorem dX11_gives_120 : decode cX11_gives 120 = .ok (.getfield 87, 3) := by decide +kernel
theorem dX11_gives_123 : decode cX11_gives 123 = .ok (.iconst 2, 1) := by decide +kernel
theorem dX11_gives_124 : decode cX11_gives 124 = .ok (.iaload, 1) := by decide +kernel
theorem dX11_gives_125 : decode cX11_gives 125 = .ok (.iadd, 1) := by decide +kernel
theorem dX11_gives_126 : decode cX11_gives 126 = .ok (.aload_n 0, 1) := by decide +kernel
theorem dX11_gives_127 : decode cX11_gives 127 = .ok (.getfield 87, 3) := by decide +kernel
theorem dX11_gives_130 : decode cX11_gives 130 = .ok (.iconst 3, 1) := by decide +kernel
theorem dX11_gives_131 : decode cX11_gives 131 = .ok (.iaload, 1) := by decide +kernel
theorem dX11_gives_132 : decode cX11_gives 132 = .ok (.iadd, 1) := by decide +kernel
theorem dX11_gives_133 : decode cX11_gives 133 = .ok (.aload_n 0, 1) := by decide +kernel
theorem dX11_gives_134 : decode cX11_gives 134 = .ok (.getfield 87, 3) := by decide +kernel
theorem dX11_gives_137 : decode cX11_gives 137 = .ok (.iconst 4, 1) := by decide +kernel
theorem dX11_gives_138 : decode cX11_gives 138 = .ok (.iaload, 1) := by decide +kernel
theorem dX11_gives_139 : decode cX11_gives 139 = .ok (.iadd, 1) := by decide +kernel
theorem dX11_gives_140 : decode cX11_gives 140 = .ok (.ifCond .le 7, 3) := by decide +kernel
theorem dX11_gives_143 : decode cX11_gives 143 = .ok (.iconst 1, 1) := by decide +kernel
theorem dX11_gives_144 : decode cX11_gives 144 = .ok (.goto 4, 3) := by decide +kernel
theorem dX11_gives_147 : decode cX11_gives 147 = .ok (.iconst 0, 1) := by decide +kernel
theorem dX11_gives_148 : decode cX11_gives 148 = .ok (.istore_n 3, 1) := by decide +kernel
theorem dX11_gives_149 : decode cX11_gives 149 = .ok (.iload_n 3, 1) := by decide +kernel
theorem dX11_gives_150 : decode cX11_gives 150 = .ok (.ifCond .eq 212, 3) := by decide +kernel
theorem dX11_gives_153 : decode cX11_gives 153 = .ok (.aload_n 0, 1) := by decide +kernel
theorem dX11_gives_154 : decode cX11_gives 154 = .ok (.getfield 220, 3) := by decide +kernel
theorem dX11_gives_157 : decode cX11_gives 157 = .ok (.aload_n 0, 1) := by decide +kernel
theorem dX11_gives_158 : decode cX11_gives 158 = .ok (.getfield 184, 3) := by decide +kernel
theorem dX11_gives_161 : decode cX11_gives 161 = .ok (.if_icmp .ge 201, 3) := by decide +kernel
theorem dX11_gives_164 : decode cX11_gives 164 = .ok (.iconst 0, 1) := by decide +kernel
theorem dX11_gives_165 : decode cX11_gives 165 = .ok (.istore 4, 2) := by decide +kernel
theorem dX11_gives_167 : decode cX11_gives 167 = .ok (.iconst 0, 1) := by decide +kernel
theorem dX11_gives_168 : decode cX11_gives 168 = .ok (.istore 5, 2) := by decide +kernel
theorem dX11_gives_170 : decode cX11_gives 170 = .ok (.iconst 0, 1) := by decide +kernel
theorem dX11_gives_171 : decode cX11_gives 171 = .ok (.istore 6, 2) := by decide +kernel
theorem dX11_gives_173 : decode cX11_gives 173 = .ok (.iload 6, 2) := by decide +kernel
theorem dX11_gives_175 : decode cX11_gives 175 = .ok (.iconst 5, 1) := by decide +kernel
theorem dX11_gives_176 : decode cX11_gives 176 = .ok (.if_icmp .ge 66, 3) := by decide +kernel
theorem dX11_gives_179 : decode cX11_gives 179 = .ok (.aload_n 0, 1) := by decide +kernel
theorem dX11_gives_180 : decode cX11_gives 180 = .ok (.iload 6, 2) := by decide +kernel
theorem dX11_gives_182 : decode cX11_gives 182 = .ok (.iload 4, 2) := by decide +kernel
theorem dX11_gives_184 : decode cX11_gives 184 = .ok (.invokevirtual 226, 3) := by decide +kernel
theorem dX11_gives_187 : decode cX11_gives 187 = .ok (.ifCond .le 7, 3) := by decide +kernel
theorem dX11_gives_190 : decode cX11_gives 190 = .ok (.iconst 1, 1) := by decide +kernel
theorem dX11_gives_191 : decode cX11_gives 191 = .ok (.goto 23, 3) := by decide +kernel
theorem dX11_gives_194 : decode cX11_gives 194 = .ok (.aload_n 0, 1) := by decide +kernel
theorem dX11_gives_195 : decode cX11_gives 195 = .ok (.iload 6, 2) := by decide +kernel
theorem dX11_gives_197 : decode cX11_gives 197 = .ok (.iload 4, 2) := by decide +kernel
theorem dX11_gives_199 : decode cX11_gives 199 = .ok (.invokevirtual 226, 3) := by decide +kernel
theorem dX11_gives_202 : decode cX11_gives 202 = .ok (.ifCond .ne 10, 3) := by decide +kernel
theorem dX11_gives_205 : decode cX11_gives 205 = .ok (.iload 5, 2) := by decide +kernel
theorem dX11_gives_207 : decode cX11_gives 207 = .ok (.iconst 1, 1) := by decide +kernel
theorem dX11_gives_208 : decode cX11_gives 208 = .ok (.iadd, 1) := by decide +kernel
theorem dX11_gives_209 : decode cX11_gives 209 = .ok (.goto 5, 3) := by decide +kernel
theorem dX11_gives_212 : decode cX11_gives 212 = .ok (.iload 5, 2) := by decide +kernel
theorem dX11_gives_214 : decode cX11_gives 214 = .ok (.istore 5, 2) := by decide +kernel
theorem dX11_gives_216 : decode cX11_gives 216 = .ok (.aload_n 0, 1) := by decide +kernel
theorem dX11_gives_217 : decode cX11_gives 217 = .ok (.iload 6, 2) := by decide +kernel
theorem dX11_gives_219 : decode cX11_gives 219 = .ok (.iload 4, 2) := by decide +kernel
theorem dX11_gives_221 : decode cX11_gives 221 = .ok (.invokevirtual 226, 3) := by decide +kernel
theorem dX11_gives_224 : decode cX11_gives 224 = .ok (.ifCond .le 8, 3) := by decide +kernel
theorem dX11_gives_227 : decode cX11_gives 227 = .ok (.iload 6, 2) := by decide +kernel
theorem dX11_gives_229 : decode cX11_gives 229 = .ok (.goto 5, 3) := by decide +kernel
theorem dX11_gives_232 : decode cX11_gives 232 = .ok (.iload 4, 2) := by decide +kernel
theorem dX11_gives_234 : decode cX11_gives 234 = .ok (.istore 4, 2) := by decide +kernel
theorem dX11_gives_236 : decode cX11_gives 236 = .ok (.iinc 6 1, 3) := by decide +kernel
theorem dX11_gives_239 : decode cX11_gives 239 = .ok (.goto (-66), 3) := by decide +kernel
theorem dX11_gives_242 : decode cX11_gives 242 = .ok (.iconst 0, 1) := by decide +kernel
theorem dX11_gives_243 : decode cX11_gives 243 = .ok (.istore 6, 2) := by decide +kernel
theorem dX11_gives_245 : decode cX11_gives 245 = .ok (.iload 5, 2) := by decide +kernel
theorem dX11_gives_247 : decode cX11_gives 247 = .ok (.iconst 1, 1) := by decide +kernel
theorem dX11_gives_248 : decode cX11_gives 248 = .ok (.if_icmp .le 32, 3) := by decide +kernel
theorem dX11_gives_251 : decode cX11_gives 251 = .ok (.iload_n 2, 1) := by decide +kernel
theorem dX11_gives_252 : decode cX11_gives 252 = .ok (.sipush 1103, 3) := by decide +kernel
theorem dX11_gives_255 : decode cX11_gives 255 = .ok (.imul, 1) := by decide +kernel
theorem dX11_gives_256 : decode cX11_gives 256 = .ok (.sipush 12345, 3) := by decide +kernel
theorem dX11_gives_259 : decode cX11_gives 259 = .ok (.iadd, 1) := by decide +kernel
theorem dX11_gives_260 : decode cX11_gives 260 = .ok (.ldc 229, 2) := by decide +kernel
theorem dX11_gives_262 : decode cX11_gives 262 = .ok (.irem, 1) := by decide +kernel
theorem dX11_gives_263 : decode cX11_gives 263 = .ok (.istore_n 2, 1) := by decide +kernel
theorem dX11_gives_264 : decode cX11_gives 264 = .ok (.iload_n 2, 1) := by decide +kernel
theorem dX11_gives_265 : decode cX11_gives 265 = .ok (.iload 5, 2) := by decide +kernel
theorem dX11_gives_267 : decode cX11_gives 267 = .ok (.irem, 1) := by decide +kernel
theorem dX11_gives_268 : decode cX11_gives 268 = .ok (.istore 6, 2) := by decide +kernel
theorem dX11_gives_270 : decode cX11_gives 270 = .ok (.aload_n 0, 1) := by decide +kernel
theorem dX11_gives_271 : decode cX11_gives 271 = .ok (.dup, 1) := by decide +kernel
theorem dX11_gives_272 : decode cX11_gives 272 = .ok (.getfield 223, 3) := by decide +kernel
theorem dX11_gives_275 : decode cX11_gives 275 = .ok (.iconst 1, 1) := by decide +kernel
theorem dX11_gives_276 : decode cX11_gives 276 = .ok (.iadd, 1) := by decide +kernel
theorem dX11_gives_277 : decode cX11_gives 277 = .ok (.putfield 223, 3) := by decide +kernel
theorem dX11_gives_280 : decode cX11_gives 280 = .ok (.iload 4, 2) := by decide +kernel
theorem dX11_gives_282 : decode cX11_gives 282 = .ok (.istore 7, 2) := by decide +kernel
theorem dX11_gives_284 : decode cX11_gives 284 = .ok (.iload 6, 2) := by decide +kernel
theorem dX11_gives_286 : decode cX11_gives 286 = .ok (.ifCond .gt 14, 3) := by decide +kernel
theorem dX11_gives_289 : decode cX11_gives 289 = .ok (.aload_n 0, 1) := by decide +kernel
theorem dX11_gives_290 : decode cX11_gives 290 = .ok (.iload 7, 2) := by decide +kernel
theorem dX11_gives_292 : decode cX11_gives 292 = .ok (.iload 4, 2) := by decide +kernel
theorem dX11_gives_294 : decode cX11_gives 294 = .ok (.invokevirtual 226, 3) := by decide +kernel
theorem dX11_gives_297 : decode cX11_gives 297 = .ok (.ifCond .eq 30, 3) := by decide +kernel
theorem dX11_gives_300 : decode cX11_gives 300 = .ok (.iload 6, 2) := by decide +kernel
theorem dX11_gives_302 : decode cX11_gives 302 = .ok (.aload_n 0, 1) := by decide +kernel
theorem dX11_gives_303 : decode cX11_gives 303 = .ok (.iload 7, 2) := by decide +kernel
theorem dX11_gives_305 : decode cX11_gives 305 = .ok (.iload 4, 2) := by decide +kernel
theorem dX11_gives_307 : decode cX11_gives 307 = .ok (.invokevirtual 226, 3) := by decide +kernel
theorem dX11_gives_310 : decode cX11_gives 310 = .ok (.ifCond .ne 7, 3) := by decide +kernel
theorem dX11_gives_313 : decode cX11_gives 313 = .ok (.iconst 1, 1) := by decide +kernel
theorem dX11_gives_314 : decode cX11_gives 314 = .ok (.goto 4, 3) := by decide +kernel
theorem dX11_gives_317 : decode cX11_gives 317 = .ok (.iconst 0, 1) := by decide +kernel
theorem dX11_gives_318 : decode cX11_gives 318 = .ok (.isub, 1) := by decide +kernel
theorem dX11_gives_319 : decode cX11_gives 319 = .ok (.istore 6, 2) := by decide +kernel
theorem dX11_gives_321 : decode cX11_gives 321 = .ok (.iinc 7 1, 3) := by decide +kernel
theorem dX11_gives_324 : decode cX11_gives 324 = .ok (.goto (-40), 3) := by decide +kernel
theorem dX11_gives_327 : decode cX11_gives 327 = .ok (.aload_n 0, 1) := by decide +kernel
theorem dX11_gives_328 : decode cX11_gives 328 = .ok (.getfield 90, 3) := by decide +kernel
theorem dX11_gives_331 : decode cX11_gives 331 = .ok (.iload 7, 2) := by decide +kernel
theorem dX11_gives_333 : decode cX11_gives 333 = .ok (.dup2, 1) := by decide +kernel
theorem dX11_gives_334 : decode cX11_gives 334 = .ok (.iaload, 1) := by decide +kernel
theorem dX11_gives_335 : decode cX11_gives 335 = .ok (.iconst 1, 1) := by decide +kernel
theorem dX11_gives_336 : decode cX11_gives 336 = .ok (.iadd, 1) := by decide +kernel
theorem dX11_gives_337 : decode cX11_gives 337 = .ok (.iastore, 1) := by decide +kernel
theorem dX11_gives_338 : decode cX11_gives 338 = .ok (.aload_n 0, 1) := by decide +kernel
theorem dX11_gives_339 : decode cX11_gives 339 = .ok (.getfield 93, 3) := by decide +kernel
theorem dX11_gives_342 : decode cX11_gives 342 = .ok (.aload_n 0, 1) := by decide +kernel
theorem dX11_gives_343 : decode cX11_gives 343 = .ok (.getfield 220, 3) := by decide +kernel
theorem dX11_gives_346 : decode cX11_gives 346 = .ok (.iload 7, 2) := by decide +kernel
theorem dX11_gives_348 : decode cX11_gives 348 = .ok (.iastore, 1) := by decide +kernel
theorem dX11_gives_349 : decode cX11_gives 349 = .ok (.aload_n 0, 1) := by decide +kernel
theorem dX11_gives_350 : decode cX11_gives 350 = .ok (.dup, 1) := by decide +kernel
theorem dX11_gives_351 : decode cX11_gives 351 = .ok (.getfield 220, 3) := by decide +kernel
theorem dX11_gives_354 : decode cX11_gives 354 = .ok (.iconst 1, 1) := by decide +kernel
theorem dX11_gives_355 : decode cX11_gives 355 = .ok (.iadd, 1) := by decide +kernel
theorem dX11_gives_356 : decode cX11_gives 356 = .ok (.putfield 220, 3) := by decide +kernel
theorem dX11_gives_359 : decode cX11_gives 359 = .ok (.goto (-210), 3) := by decide +kernel
theorem dX11_gives_362 : decode cX11_gives 362 = .ok (.return_, 1) := by decide +kernel
set_option maxRecDepth 20000 in
theorem ggX11_done_X11_gives : GoodIn wsX11_done wsX11_gives := goodIn_ca (goodIn_r _ [6, 7, 8, 9, 10, 11, 12, 13, 14, 15, 16, 17, 18, 19, 20, 5, 21, 22, 23, 24, 25, 26, 27, 28, 29, 30, 31, 32, 33, 34, 35, 36, 37, 38, 39, 40, 41, 42, 43, 44, 45, 46, 47, 48, 49, 50, 51, 52, 53, 54, 55, 56, 57, 58, 59, 60, 61, 62, 63, 64, 65, 66, 67, 68, 69, 70, 71, 72, 73, 74, 75, 76] (by decide +kernel) (by decide +kernel)) (goodIn_sub (fun _ h => List.mem_cons_of_mem _ (List.mem_append_right _ h)) (by decide +kernel))
set_option maxRecDepth 20000 in
theorem gX11_done_X11_gives : GoodIn wsX11_done (wsV RX11 230 RX11 yX11_gives wsX11_gives) := goodIn_app (goodIn_of _ (by decide +kernel)) ggX11_done_X11_gives
theorem dX11_done_0 : decode cX11_done 0 = .ok (.aload_n 0, 1) := by decide +kernel
theorem dX11_done_1 : decode cX11_done 1 = .ok (.getfield 41, 3) := by decide +kernel
theorem dX11_done_4 : decode cX11_done 4 = .ok (.iconst 5, 1) := by decide +kernel
theorem dX11_done_5 : decode cX11_done 5 = .ok (.if_icmp .ne 8, 3) := by decide +kernel
theorem dX11_done_8 : decode cX11_done 8 = .ok (.aload_n 0, 1) := by decide +kernel
theorem dX11_done_9 : decode cX11_done 9 = .ok (.iconst 0, 1) := by decide +kernel
theorem dX11_done_10 : decode cX11_done 10 = .ok (.invokevirtual 230, 3) := by decide +kernel
theorem dX11_done_13 : decode cX11_done 13 = .ok (.aload_n 0, 1) := by decide +kernel
theorem dX11_done_14 : decode cX11_done 14 = .ok (.getfield 41, 3) := by decide +kernel
theorem dX11_done_17 : decode cX11_done 17 = .ok (.iconst 5, 1) := by decide +kernel
theorem dX11_done_18 : decode cX11_done 18 = .ok (.if_icmp .ne 7, 3) := by decide +kernel
theorem dX11_done_21 : decode cX11_done 21 = .ok (.iconst 1, 1) := by decide +kernel
theorem dX11_done_22 : decode cX11_done 22 = .ok (.goto 4, 3) := by decide +kernel
theorem dX11_done_25 : decode cX11_done 25 = .ok (.iconst 0, 1) := by decide +kernel
theorem dX11_done_26 : decode cX11_done 26 = .ok (.ireturn, 1) := by decide +kernel
set_option maxRecDepth 20000 in
theorem ggX11_isParty_X11_in : GoodIn wsX11_isParty wsX11_in := goodIn_r _ [4] (by decide +kernel) (by decide +kernel)
set_option maxRecDepth 20000 in
theorem gX11_isParty_X11_in : GoodIn wsX11_isParty (va_wsS RX11 111 yX11_in wsX11_in) := goodIn_app (goodIn_of _ (by decide +kernel)) ggX11_isParty_X11_in
theorem dX11_isParty_0 : decode cX11_isParty 0 = .ok (.iload_n 0, 1) := by decide +kernel
theorem dX11_isParty_1 : decode cX11_isParty 1 = .ok (.iconst 0, 1) := by decide +kernel
theorem dX11_isParty_2 : decode cX11_isParty 2 = .ok (.iconst 4, 1) := by decide +kernel
theorem dX11_isParty_3 : decode cX11_isParty 3 = .ok (.invokestatic 111, 3) := by decide +kernel
theorem dX11_isParty_6 : decode cX11_isParty 6 = .ok (.ireturn, 1) := by decide +kernel
set_option maxRecDepth 20000 in
theorem ggX11_votes_X11_isParty : GoodIn wsX11_votes wsX11_isParty := goodIn_r _ [5, 6, 7, 4, 8] (by decide +kernel) (by decide +kernel)
set_option maxRecDepth 20000 in
theorem gX11_votes_X11_isParty : GoodIn wsX11_votes (va_wsS RX11 234 yX11_isParty wsX11_isParty) := goodIn_app (goodIn_of _ (by decide +kernel)) ggX11_votes_X11_isParty
set_option maxRecDepth 20000 in
theorem ggX11_votes_X11_asked : GoodIn wsX11_votes wsX11_asked := goodIn_r _ [12, 13, 48, 49, 50, 51, 52, 53, 54, 55, 56, 57, 58, 59, 60, 61, 62, 63, 64, 65, 66, 67, 68, 69, 70, 71, 72, 73, 74, 75, 76, 77, 78, 79, 80, 81, 82, 83, 84, 85, 86, 87, 88, 89, 90, 91] (by decide +kernel) (by decide +kernel)
set_option maxRecDepth 20000 in
theorem gX11_votes_X11_asked : GoodIn wsX11_votes (wsV RX11 133 RX11 yX11_asked wsX11_asked) := goodIn_app (goodIn_of _ (by decide +kernel)) ggX11_votes_X11_asked
set_option maxRecDepth 20000 in
theorem ggX11_votes_X11_done : GoodIn wsX11_votes wsX11_done := goodIn_ca (goodIn_r _ [17, 18, 19, 20, 21, 4, 22, 1, 23, 24, 25, 26, 27, 28, 29, 30, 31, 32, 33, 34, 35, 36, 37, 38, 39, 40, 41, 42, 43, 44, 45, 46, 47, 48, 49, 50, 51, 52, 53, 54, 55, 56, 57, 58, 59, 60, 61, 62, 63, 64, 65, 66, 67, 68, 69, 70, 71, 72, 73, 74, 75, 76, 77, 78, 79, 80, 81, 82, 83, 84, 85, 86, 87, 88, 89, 90, 91] (by decide +kernel) (by decide +kernel)) (goodIn_sub (fun _ h => List.mem_cons_of_mem _ (List.mem_append_right _ h)) (by decide +kernel))
set_option maxRecDepth 20000 in
theorem gX11_votes_X11_done : GoodIn wsX11_votes (wsV RX11 237 RX11 yX11_done wsX11_done) := goodIn_app (goodIn_of _ (by decide +kernel)) ggX11_votes_X11_done
theorem dX11_votes_0 : decode cX11_votes 0 = .ok (.aload_n 0, 1) := by decide +kernel
theorem dX11_votes_1 : decode cX11_votes 1 = .ok (.iload_n 1, 1) := by decide +kernel
theorem dX11_votes_2 : decode cX11_votes 2 = .ok (.invokestatic 234, 3) := by decide +kernel
theorem dX11_votes_5 : decode cX11_votes 5 = .ok (.invokevirtual 133, 3) := by decide +kernel
theorem dX11_votes_8 : decode cX11_votes 8 = .ok (.ifCond .ne 5, 3) := by decide +kernel
theorem dX11_votes_11 : decode cX11_votes 11 = .ok (.iconst 0, 1) := by decide +kernel
theorem dX11_votes_12 : decode cX11_votes 12 = .ok (.ireturn, 1) := by decide +kernel
theorem dX11_votes_13 : decode cX11_votes 13 = .ok (.aload_n 0, 1) := by decide +kernel
theorem dX11_votes_14 : decode cX11_votes 14 = .ok (.invokevirtual 237, 3) := by decide +kernel
theorem dX11_votes_17 : decode cX11_votes 17 = .ok (.ifCond .eq 12, 3) := by decide +kernel
theorem dX11_votes_20 : decode cX11_votes 20 = .ok (.aload_n 0, 1) := by decide +kernel
theorem dX11_votes_21 : decode cX11_votes 21 = .ok (.getfield 87, 3) := by decide +kernel
theorem dX11_votes_24 : decode cX11_votes 24 = .ok (.iload_n 1, 1) := by decide +kernel
theorem dX11_votes_25 : decode cX11_votes 25 = .ok (.iaload, 1) := by decide +kernel
theorem dX11_votes_26 : decode cX11_votes 26 = .ok (.goto 4, 3) := by decide +kernel
theorem dX11_votes_29 : decode cX11_votes 29 = .ok (.iconst (-1), 1) := by decide +kernel
theorem dX11_votes_30 : decode cX11_votes 30 = .ok (.ireturn, 1) := by decide +kernel
set_option maxRecDepth 20000 in
theorem ggX11_seats_X11_isParty : GoodIn wsX11_seats wsX11_isParty := goodIn_r _ [5, 6, 7, 4, 8] (by decide +kernel) (by decide +kernel)
set_option maxRecDepth 20000 in
theorem gX11_seats_X11_isParty : GoodIn wsX11_seats (va_wsS RX11 234 yX11_isParty wsX11_isParty) := goodIn_app (goodIn_of _ (by decide +kernel)) ggX11_seats_X11_isParty
set_option maxRecDepth 20000 in
theorem ggX11_seats_X11_asked : GoodIn wsX11_seats wsX11_asked := goodIn_r _ [12, 13, 48, 49, 50, 51, 52, 53, 54, 55, 56, 57, 58, 59, 60, 61, 62, 63, 64, 65, 66, 67, 68, 69, 70, 71, 72, 73, 74, 75, 76, 77, 78, 79, 80, 81, 82, 83, 84, 85, 86, 87, 88, 89, 90, 91] (by decide +kernel) (by decide +kernel)
set_option maxRecDepth 20000 in
theorem gX11_seats_X11_asked : GoodIn wsX11_seats (wsV RX11 133 RX11 yX11_asked wsX11_asked) := goodIn_app (goodIn_of _ (by decide +kernel)) ggX11_seats_X11_asked
set_option maxRecDepth 20000 in
theorem ggX11_seats_X11_done : GoodIn wsX11_seats wsX11_done := goodIn_ca (goodIn_r _ [17, 18, 19, 20, 21, 4, 22, 23, 1, 24, 25, 26, 27, 28, 29, 30, 31, 32, 33, 34, 35, 36, 37, 38, 39, 40, 41, 42, 43, 44, 45, 46, 47, 48, 49, 50, 51, 52, 53, 54, 55, 56, 57, 58, 59, 60, 61, 62, 63, 64, 65, 66, 67, 68, 69, 70, 71, 72, 73, 74, 75, 76, 77, 78, 79, 80, 81, 82, 83, 84, 85, 86, 87, 88, 89, 90, 91] (by decide +kernel) (by decide +kernel)) (goodIn_sub (fun _ h => List.mem_cons_of_mem _ (List.mem_append_right _ h)) (by decide +kernel))
set_option maxRecDepth 20000 in
theorem gX11_seats_X11_done : GoodIn wsX11_seats (wsV RX11 237 RX11 yX11_done wsX11_done) := goodIn_app (goodIn_of _ (by decide +kernel)) ggX11_seats_X11_done
theorem dX11_seats_0 : decode cX11_seats 0 = .ok (.aload_n 0, 1) := by decide +kernel
theorem dX11_seats_1 : decode cX11_seats 1 = .ok (.iload_n 1, 1) := by decide +kernel
theorem dX11_seats_2 : decode cX11_seats 2 = .ok (.invokestatic 234, 3) := by decide +kernel
theorem dX11_seats_5 : decode cX11_seats 5 = .ok (.invokevirtual 133, 3) := by decide +kernel
theorem dX11_seats_8 : decode cX11_seats 8 = .ok (.ifCond .ne 5, 3) := by decide +kernel
theorem dX11_seats_11 : decode cX11_seats 11 = .ok (.iconst 0, 1) := by decide +kernel
theorem dX11_seats_12 : decode cX11_seats 12 = .ok (.ireturn, 1) := by decide +kernel
theorem dX11_seats_13 : decode cX11_seats 13 = .ok (.aload_n 0, 1) := by decide +kernel
theorem dX11_seats_14 : decode cX11_seats 14 = .ok (.invokevirtual 237, 3) := by decide +kernel
theorem dX11_seats_17 : decode cX11_seats 17 = .ok (.ifCond .eq 12, 3) := by decide +kernel
theorem dX11_seats_20 : decode cX11_seats 20 = .ok (.aload_n 0, 1) := by decide +kernel
theorem dX11_seats_21 : decode cX11_seats 21 = .ok (.getfield 90, 3) := by decide +kernel
theorem dX11_seats_24 : decode cX11_seats 24 = .ok (.iload_n 1, 1) := by decide +kernel
theorem dX11_seats_25 : decode cX11_seats 25 = .ok (.iaload, 1) := by decide +kernel
theorem dX11_seats_26 : decode cX11_seats 26 = .ok (.goto 4, 3) := by decide +kernel
theorem dX11_seats_29 : decode cX11_seats 29 = .ok (.iconst (-1), 1) := by decide +kernel
theorem dX11_seats_30 : decode cX11_seats 30 = .ok (.ireturn, 1) := by decide +kernel
set_option maxRecDepth 20000 in
theorem ggX11_seatAt_X11_asked : GoodIn wsX11_seatAt wsX11_asked := goodIn_r _ [7, 8, 42, 43, 44, 45, 46, 47, 48, 49, 50, 51, 52, 53, 54, 55, 56, 57, 58, 59, 60, 61, 62, 63, 64, 65, 66, 67, 68, 69, 70, 71, 72, 73, 74, 75, 76, 77, 78, 79, 80, 81, 82, 83, 84, 85] (by decide +kernel) (by decide +kernel)
set_option maxRecDepth 20000 in
theorem gX11_seatAt_X11_asked : GoodIn wsX11_seatAt (wsV RX11 133 RX11 yX11_asked wsX11_asked) := goodIn_app (goodIn_of _ (by decide +kernel)) ggX11_seatAt_X11_asked
set_option maxRecDepth 20000 in
theorem ggX11_seatAt_X11_done : GoodIn wsX11_seatAt wsX11_done := goodIn_ca (goodIn_r _ [12, 13, 14, 15, 16, 6, 17, 18, 19, 20, 21, 22, 23, 1, 24, 25, 26, 2, 27, 28, 29, 30, 31, 32, 33, 34, 35, 36, 37, 38, 39, 40, 41, 42, 43, 44, 45, 46, 47, 48, 49, 50, 51, 52, 53, 54, 55, 56, 57, 58, 59, 60, 61, 62, 63, 64, 65, 66, 67, 68, 69, 70, 71, 72, 73, 74, 75, 76, 77, 78, 79, 80, 81, 82, 83, 84, 85] (by decide +kernel) (by decide +kernel)) (goodIn_sub (fun _ h => List.mem_cons_of_mem _ (List.mem_append_right _ h)) (by decide +kernel))
set_option maxRecDepth 20000 in
theorem gX11_seatAt_X11_done : GoodIn wsX11_seatAt (wsV RX11 237 RX11 yX11_done wsX11_done) := goodIn_app (goodIn_of _ (by decide +kernel)) ggX11_seatAt_X11_done
theorem dX11_seatAt_0 : decode cX11_seatAt 0 = .ok (.aload_n 0, 1) := by decide +kernel
theorem dX11_seatAt_1 : decode cX11_seatAt 1 = .ok (.iload_n 1, 1) := by decide +kernel
theorem dX11_seatAt_2 : decode cX11_seatAt 2 = .ok (.ifCond .lt 7, 3) := by decide +kernel
theorem dX11_seatAt_5 : decode cX11_seatAt 5 = .ok (.iconst 1, 1) := by decide +kernel
theorem dX11_seatAt_6 : decode cX11_seatAt 6 = .ok (.goto 4, 3) := by decide +kernel
theorem dX11_seatAt_9 : decode cX11_seatAt 9 = .ok (.iconst 0, 1) := by decide +kernel
theorem dX11_seatAt_10 : decode cX11_seatAt 10 = .ok (.invokevirtual 133, 3) := by decide +kernel
theorem dX11_seatAt_13 : decode cX11_seatAt 13 = .ok (.ifCond .ne 5, 3) := by decide +kernel
theorem dX11_seatAt_16 : decode cX11_seatAt 16 = .ok (.iconst 0, 1) := by decide +kernel
theorem dX11_seatAt_17 : decode cX11_seatAt 17 = .ok (.ireturn, 1) := by decide +kernel
theorem dX11_seatAt_18 : decode cX11_seatAt 18 = .ok (.aload_n 0, 1) := by decide +kernel
theorem dX11_seatAt_19 : decode cX11_seatAt 19 = .ok (.invokevirtual 237, 3) := by decide +kernel
theorem dX11_seatAt_22 : decode cX11_seatAt 22 = .ok (.ifCond .eq 20, 3) := by decide +kernel
theorem dX11_seatAt_25 : decode cX11_seatAt 25 = .ok (.iload_n 1, 1) := by decide +kernel
theorem dX11_seatAt_26 : decode cX11_seatAt 26 = .ok (.aload_n 0, 1) := by decide +kernel
theorem dX11_seatAt_27 : decode cX11_seatAt 27 = .ok (.getfield 220, 3) := by decide +kernel
theorem dX11_seatAt_30 : decode cX11_seatAt 30 = .ok (.if_icmp .ge 12, 3) := by decide +kernel
theorem dX11_seatAt_33 : decode cX11_seatAt 33 = .ok (.aload_n 0, 1) := by decide +kernel
theorem dX11_seatAt_34 : decode cX11_seatAt 34 = .ok (.getfield 93, 3) := by decide +kernel
theorem dX11_seatAt_37 : decode cX11_seatAt 37 = .ok (.iload_n 1, 1) := by decide +kernel
theorem dX11_seatAt_38 : decode cX11_seatAt 38 = .ok (.iaload, 1) := by decide +kernel
theorem dX11_seatAt_39 : decode cX11_seatAt 39 = .ok (.goto 4, 3) := by decide +kernel
theorem dX11_seatAt_42 : decode cX11_seatAt 42 = .ok (.iconst (-1), 1) := by decide +kernel
theorem dX11_seatAt_43 : decode cX11_seatAt 43 = .ok (.ireturn, 1) := by decide +kernel
set_option maxRecDepth 20000 in
theorem ggX11_lots_X11_done : GoodIn wsX11_lots wsX11_done := goodIn_ca (goodIn_r _ [7, 8, 9, 10, 11, 6, 12, 13, 14, 15, 16, 17, 18, 19, 2, 20, 21, 22, 23, 24, 25, 26, 27, 28, 29, 30, 31, 32, 33, 34, 35, 36, 37, 38, 39, 40, 41, 42, 43, 44, 45, 46, 47, 48, 49, 50, 51, 52, 53, 54, 55, 56, 57, 58, 59, 60, 61, 62, 63, 64, 65, 66, 67, 68, 69, 70, 71, 72, 73, 74, 75, 76, 77, 78, 79, 80, 81] (by decide +kernel) (by decide +kernel)) (goodIn_sub (fun _ h => List.mem_cons_of_mem _ (List.mem_append_right _ h)) (by decide +kernel))
set_option maxRecDepth 20000 in
theorem gX11_lots_X11_done : GoodIn wsX11_lots (wsV RX11 237 RX11 yX11_done wsX11_done) := goodIn_app (goodIn_of _ (by decide +kernel)) ggX11_lots_X11_done
theorem dX11_lots_0 : decode cX11_lots 0 = .ok (.aload_n 0, 1) := by decide +kernel
theorem dX11_lots_1 : decode cX11_lots 1 = .ok (.iconst 0, 1) := by decide +kernel
theorem dX11_lots_2 : decode cX11_lots 2 = .ok (.putfield 108, 3) := by decide +kernel
theorem dX11_lots_5 : decode cX11_lots 5 = .ok (.aload_n 0, 1) := by decide +kernel
theorem dX11_lots_6 : decode cX11_lots 6 = .ok (.invokevirtual 237, 3) := by decide +kernel
theorem dX11_lots_9 : decode cX11_lots 9 = .ok (.ifCond .eq 10, 3) := by decide +kernel
theorem dX11_lots_12 : decode cX11_lots 12 = .ok (.aload_n 0, 1) := by decide +kernel
theorem dX11_lots_13 : decode cX11_lots 13 = .ok (.getfield 223, 3) := by decide +kernel
theorem dX11_lots_16 : decode cX11_lots 16 = .ok (.goto 4, 3) := by decide +kernel
theorem dX11_lots_19 : decode cX11_lots 19 = .ok (.iconst (-1), 1) := by decide +kernel
theorem dX11_lots_20 : decode cX11_lots 20 = .ok (.ireturn, 1) := by decide +kernel
set_option maxRecDepth 20000 in
theorem ggX11_seatsByBallots_X11_isParty : GoodIn wsX11_seatsByBallots wsX11_isParty := goodIn_r _ [6, 7, 8, 5, 9] (by decide +kernel) (by decide +kernel)
set_option maxRecDepth 20000 in
theorem gX11_seatsByBallots_X11_isParty : GoodIn wsX11_seatsByBallots (va_wsS RX11 234 yX11_isParty wsX11_isParty) := goodIn_app (goodIn_of _ (by decide +kernel)) ggX11_seatsByBallots_X11_isParty
set_option maxRecDepth 20000 in
theorem ggX11_seatsByBallots_X11_asked : GoodIn wsX11_seatsByBallots wsX11_asked := goodIn_r _ [13, 14, 44, 45, 46, 47, 48, 49, 50, 51, 52, 53, 54, 55, 56, 57, 58, 59, 60, 61, 62, 63, 64, 65, 66, 67, 68, 69, 70, 71, 72, 73, 74, 75, 76, 77, 78, 79, 80, 81, 82, 83, 84, 85, 86, 87] (by decide +kernel) (by decide +kernel)
set_option maxRecDepth 20000 in
theorem gX11_seatsByBallots_X11_asked : GoodIn wsX11_seatsByBallots (wsV RX11 133 RX11 yX11_asked wsX11_asked) := goodIn_app (goodIn_of _ (by decide +kernel)) ggX11_seatsByBallots_X11_asked
set_option maxRecDepth 20000 in
theorem ggX11_seatsByBallots_X11_gives : GoodIn wsX11_seatsByBallots wsX11_gives := goodIn_ca (goodIn_r _ [18, 19, 2, 20, 21, 22, 23, 24, 25, 26, 27, 28, 29, 30, 31, 5, 32, 33, 34, 35, 36, 37, 38, 39, 40, 41, 42, 43, 44, 45, 46, 47, 48, 49, 50, 51, 52, 53, 54, 55, 56, 57, 58, 59, 60, 61, 62, 63, 64, 65, 66, 67, 68, 69, 70, 71, 72, 73, 74, 75, 76, 77, 78, 79, 80, 81, 82, 83, 84, 85, 86, 87] (by decide +kernel) (by decide +kernel)) (goodIn_sub (fun _ h => List.mem_cons_of_mem _ (List.mem_append_right _ h)) (by decide +kernel))
set_option maxRecDepth 20000 in
theorem gX11_seatsByBallots_X11_gives : GoodIn wsX11_seatsByBallots (wsV RX11 230 RX11 yX11_gives wsX11_gives) := goodIn_app (goodIn_of _ (by decide +kernel)) ggX11_seatsByBallots_X11_gives
theorem dX11_seatsByBallots_0 : decode cX11_seatsByBallots 0 = .ok (.aload_n 0, 1) := by decide +kernel
theorem dX11_seatsByBallots_1 : decode cX11_seatsByBallots 1 = .ok (.iload_n 1, 1) := by decide +kernel
theorem dX11_seatsByBallots_2 : decode cX11_seatsByBallots 2 = .ok (.invokestatic 234, 3) := by decide +kernel
theorem dX11_seatsByBallots_5 : decode cX11_seatsByBallots 5 = .ok (.invokevirtual 133, 3) := by decide +kernel
theorem dX11_seatsByBallots_8 : decode cX11_seatsByBallots 8 = .ok (.ifCond .ne 5, 3) := by decide +kernel
theorem dX11_seatsByBallots_11 : decode cX11_seatsByBallots 11 = .ok (.iconst 0, 1) := by decide +kernel
theorem dX11_seatsByBallots_12 : decode cX11_seatsByBallots 12 = .ok (.ireturn, 1) := by decide +kernel
theorem dX11_seatsByBallots_13 : decode cX11_seatsByBallots 13 = .ok (.aload_n 0, 1) := by decide +kernel
theorem dX11_seatsByBallots_14 : decode cX11_seatsByBallots 14 = .ok (.getfield 41, 3) := by decide +kernel
theorem dX11_seatsByBallots_17 : decode cX11_seatsByBallots 17 = .ok (.iconst 4, 1) := by decide +kernel
theorem dX11_seatsByBallots_18 : decode cX11_seatsByBallots 18 = .ok (.if_icmp .ge 5, 3) := by decide +kernel
theorem dX11_seatsByBallots_21 : decode cX11_seatsByBallots 21 = .ok (.iconst (-1), 1) := by decide +kernel
theorem dX11_seatsByBallots_22 : decode cX11_seatsByBallots 22 = .ok (.ireturn, 1) := by decide +kernel
theorem dX11_seatsByBallots_23 : decode cX11_seatsByBallots 23 = .ok (.aload_n 0, 1) := by decide +kernel
theorem dX11_seatsByBallots_24 : decode cX11_seatsByBallots 24 = .ok (.iconst 1, 1) := by decide +kernel
theorem dX11_seatsByBallots_25 : decode cX11_seatsByBallots 25 = .ok (.invokevirtual 230, 3) := by decide +kernel
theorem dX11_seatsByBallots_28 : decode cX11_seatsByBallots 28 = .ok (.aload_n 0, 1) := by decide +kernel
theorem dX11_seatsByBallots_29 : decode cX11_seatsByBallots 29 = .ok (.getfield 90, 3) := by decide +kernel
theorem dX11_seatsByBallots_32 : decode cX11_seatsByBallots 32 = .ok (.iload_n 1, 1) := by decide +kernel
theorem dX11_seatsByBallots_33 : decode cX11_seatsByBallots 33 = .ok (.iaload, 1) := by decide +kernel
theorem dX11_seatsByBallots_34 : decode cX11_seatsByBallots 34 = .ok (.ireturn, 1) := by decide +kernel
set_option maxRecDepth 20000 in
theorem ggX11_notes__X11_told : GoodIn wsX11_notes_ wsX11_told := goodIn_r _ [6, 7, 8, 9, 10, 11, 12, 13, 14, 15, 16, 17, 18, 19, 20, 21, 22, 23, 24, 25, 26, 27, 28, 29, 30, 31, 32, 33, 34, 35, 36, 37, 38, 39, 40, 41, 42, 43, 44, 45, 46, 47, 48, 49, 50, 51] (by decide +kernel) (by decide +kernel)
set_option maxRecDepth 20000 in
theorem gX11_notes__X11_told : GoodIn wsX11_notes_ (wsV RX11 204 RX11 yX11_told wsX11_told) := goodIn_app (goodIn_of _ (by decide +kernel)) ggX11_notes__X11_told
theorem dX11_notes__0 : decode cX11_notes_ 0 = .ok (.aload_n 0, 1) := by decide +kernel
theorem dX11_notes__1 : decode cX11_notes_ 1 = .ok (.aload_n 0, 1) := by decide +kernel
theorem dX11_notes__2 : decode cX11_notes_ 2 = .ok (.getfield 162, 3) := by decide +kernel
theorem dX11_notes__5 : decode cX11_notes_ 5 = .ok (.invokevirtual 204, 3) := by decide +kernel
theorem dX11_notes__8 : decode cX11_notes_ 8 = .ok (.ireturn, 1) := by decide +kernel
theorem dX11_digits_0 : decode cX11_digits 0 = .ok (.iconst 1, 1) := by decide +kernel
theorem dX11_digits_1 : decode cX11_digits 1 = .ok (.istore_n 1, 1) := by decide +kernel
