theorem dX11_areAlike_11 : decode cX11_areAlike 11 = .ok (.iaload, 1) := by decide +kernel
theorem dX11_areAlike_12 : decode cX11_areAlike 12 = .ok (.if_icmp .eq 7, 3) := by decide +kernel
theorem dX11_areAlike_15 : decode cX11_areAlike 15 = .ok (.iconst 1, 1) := by decide +kernel
theorem dX11_areAlike_16 : decode cX11_areAlike 16 = .ok (.goto 4, 3) := by decide +kernel
theorem dX11_areAlike_19 : decode cX11_areAlike 19 = .ok (.iconst 0, 1) := by decide +kernel
theorem dX11_areAlike_20 : decode cX11_areAlike 20 = .ok (.istore_n 3, 1) := by decide +kernel
theorem dX11_areAlike_21 : decode cX11_areAlike 21 = .ok (.iconst 0, 1) := by decide +kernel
theorem dX11_areAlike_22 : decode cX11_areAlike 22 = .ok (.istore 4, 2) := by decide +kernel
theorem dX11_areAlike_24 : decode cX11_areAlike 24 = .ok (.iload 4, 2) := by decide +kernel
theorem dX11_areAlike_26 : decode cX11_areAlike 26 = .ok (.bipush 6, 2) := by decide +kernel
theorem dX11_areAlike_28 : decode cX11_areAlike 28 = .ok (.if_icmp .ge 46, 3) := by decide +kernel
theorem dX11_areAlike_31 : decode cX11_areAlike 31 = .ok (.iload_n 3, 1) := by decide +kernel
theorem dX11_areAlike_32 : decode cX11_areAlike 32 = .ok (.ifCond .eq 34, 3) := by decide +kernel
theorem dX11_areAlike_35 : decode cX11_areAlike 35 = .ok (.aload_n 0, 1) := by decide +kernel
theorem dX11_areAlike_36 : decode cX11_areAlike 36 = .ok (.getfield 72, 3) := by decide +kernel
theorem dX11_areAlike_39 : decode cX11_areAlike 39 = .ok (.bipush 6, 2) := by decide +kernel
theorem dX11_areAlike_41 : decode cX11_areAlike 41 = .ok (.iload_n 1, 1) := by decide +kernel
theorem dX11_areAlike_42 : decode cX11_areAlike 42 = .ok (.imul, 1) := by decide +kernel
theorem dX11_areAlike_43 : decode cX11_areAlike 43 = .ok (.iload 4, 2) := by decide +kernel
theorem dX11_areAlike_45 : decode cX11_areAlike 45 = .ok (.iadd, 1) := by decide +kernel
theorem dX11_areAlike_46 : decode cX11_areAlike 46 = .ok (.iaload, 1) := by decide +kernel
theorem dX11_areAlike_47 : decode cX11_areAlike 47 = .ok (.aload_n 0, 1) := by decide +kernel
theorem dX11_areAlike_48 : decode cX11_areAlike 48 = .ok (.getfield 72, 3) := by decide +kernel
theorem dX11_areAlike_51 : decode cX11_areAlike 51 = .ok (.bipush 6, 2) := by decide +kernel
theorem dX11_areAlike_53 : decode cX11_areAlike 53 = .ok (.iload_n 2, 1) := by decide +kernel
theorem dX11_areAlike_54 : decode cX11_areAlike 54 = .ok (.imul, 1) := by decide +kernel
theorem dX11_areAlike_55 : decode cX11_areAlike 55 = .ok (.iload 4, 2) := by decide +kernel
theorem dX11_areAlike_57 : decode cX11_areAlike 57 = .ok (.iadd, 1) := by decide +kernel
theorem dX11_areAlike_58 : decode cX11_areAlike 58 = .ok (.iaload, 1) := by decide +kernel
theorem dX11_areAlike_59 : decode cX11_areAlike 59 = .ok (.if_icmp .ne 7, 3) := by decide +kernel
theorem dX11_areAlike_62 : decode cX11_areAlike 62 = .ok (.iconst 1, 1) := by decide +kernel
theorem dX11_areAlike_63 : decode cX11_areAlike 63 = .ok (.goto 4, 3) := by decide +kernel
theorem dX11_areAlike_66 : decode cX11_areAlike 66 = .ok (.iconst 0, 1) := by decide +kernel
theorem dX11_areAlike_67 : decode cX11_areAlike 67 = .ok (.istore_n 3, 1) := by decide +kernel
theorem dX11_areAlike_68 : decode cX11_areAlike 68 = .ok (.iinc 4 1, 3) := by decide +kernel
theorem dX11_areAlike_71 : decode cX11_areAlike 71 = .ok (.goto (-47), 3) := by decide +kernel
theorem dX11_areAlike_74 : decode cX11_areAlike 74 = .ok (.iload_n 3, 1) := by decide +kernel
theorem dX11_areAlike_75 : decode cX11_areAlike 75 = .ok (.ireturn, 1) := by decide +kernel
set_option maxRecDepth 20000 in
theorem ggX11_count_X11_isStation : GoodIn wsX11_count wsX11_isStation := goodIn_r _ [15, 16, 17, 18, 14, 19, 37, 38, 39, 40, 41, 42, 43, 44, 45, 46, 47, 48, 49, 50, 51, 52, 53, 54, 55, 56, 57, 58, 59, 60, 61, 62, 63, 64, 65, 66, 67, 68, 69, 70, 71, 72, 73, 74, 75, 76, 77, 78, 79, 80] (by decide +kernel) (by decide +kernel)
set_option maxRecDepth 20000 in
theorem gX11_count_X11_isStation : GoodIn wsX11_count (wsV RX11 143 RX11 yX11_isStation wsX11_isStation) := goodIn_app (goodIn_of _ (by decide +kernel)) ggX11_count_X11_isStation
set_option maxRecDepth 20000 in
theorem ggX11_count_X11_in : GoodIn wsX11_count wsX11_in := goodIn_r _ [19] (by decide +kernel) (by decide +kernel)
set_option maxRecDepth 20000 in
theorem gX11_count_X11_in : GoodIn wsX11_count (va_wsS RX11 111 yX11_in wsX11_in) := goodIn_app (goodIn_of _ (by decide +kernel)) ggX11_count_X11_in
set_option maxRecDepth 20000 in
theorem ggX11_count_X11_asked_ : GoodIn wsX11_count wsX11_asked_ := goodIn_r _ [23, 24, 37, 38, 39, 40, 41, 42, 43, 44, 45, 46, 47, 48, 49, 50, 51, 52, 53, 54, 55, 56, 57, 58, 59, 60, 61, 62, 63, 64, 65, 66, 67, 68, 69, 70, 71, 72, 73, 74, 75, 76, 77, 78, 79, 80] (by decide +kernel) (by decide +kernel)
set_option maxRecDepth 20000 in
theorem gX11_count_X11_asked_ : GoodIn wsX11_count (wsV RX11 129 RX11 yX11_asked_ wsX11_asked_) := goodIn_app (goodIn_of _ (by decide +kernel)) ggX11_count_X11_asked_
set_option maxRecDepth 20000 in
theorem ggX11_count_X11_areAlike : GoodIn wsX11_count wsX11_areAlike := goodIn_ca (goodIn_r _ [28, 5, 6, 37, 38, 39, 40, 41, 42, 43, 44, 45, 46, 47, 48, 49, 50, 51, 52, 53, 54, 55, 56, 57, 58, 59, 60, 61, 62, 63, 64, 65, 66, 67, 68, 69, 70, 71, 72, 73, 74, 75, 76, 77, 78, 79, 80] (by decide +kernel) (by decide +kernel)) (goodIn_sub (fun _ h => List.mem_cons_of_mem _ (List.mem_append_right _ h)) (by decide +kernel))
set_option maxRecDepth 20000 in
theorem gX11_count_X11_areAlike : GoodIn wsX11_count (wsV RX11 210 RX11 yX11_areAlike wsX11_areAlike) := goodIn_app (goodIn_of _ (by decide +kernel)) ggX11_count_X11_areAlike
set_option maxRecDepth 20000 in
theorem ggX11_count_X11_notes : GoodIn wsX11_count wsX11_notes := goodIn_ca (goodIn_r _ [32, 33, 34, 35, 36, 37, 38, 39, 40, 41, 42, 43, 44, 45, 46, 47, 48, 49, 50, 51, 52, 53, 54, 55, 56, 57, 58, 59, 60, 61, 62, 63, 64, 65, 66, 67, 68, 69, 70, 71, 72, 73, 74, 75, 76, 77, 78, 79, 80] (by decide +kernel) (by decide +kernel)) (goodIn_sub (fun _ h => List.mem_cons_of_mem _ (List.mem_append_right _ h)) (by decide +kernel))
set_option maxRecDepth 20000 in
theorem gX11_count_X11_notes : GoodIn wsX11_count (wsV RX11 172 RX11 yX11_notes wsX11_notes) := goodIn_app (goodIn_of _ (by decide +kernel)) ggX11_count_X11_notes
theorem dX11_count_0 : decode cX11_count 0 = .ok (.aload_n 0, 1) := by decide +kernel
theorem dX11_count_1 : decode cX11_count 1 = .ok (.iload_n 1, 1) := by decide +kernel
theorem dX11_count_2 : decode cX11_count 2 = .ok (.invokevirtual 143, 3) := by decide +kernel
theorem dX11_count_5 : decode cX11_count 5 = .ok (.ifCond .eq 16, 3) := by decide +kernel
theorem dX11_count_8 : decode cX11_count 8 = .ok (.iload_n 2, 1) := by decide +kernel
theorem dX11_count_9 : decode cX11_count 9 = .ok (.iconst 0, 1) := by decide +kernel
theorem dX11_count_10 : decode cX11_count 10 = .ok (.iconst 3, 1) := by decide +kernel
theorem dX11_count_11 : decode cX11_count 11 = .ok (.invokestatic 111, 3) := by decide +kernel
theorem dX11_count_14 : decode cX11_count 14 = .ok (.ifCond .eq 7, 3) := by decide +kernel
theorem dX11_count_17 : decode cX11_count 17 = .ok (.iconst 1, 1) := by decide +kernel
theorem dX11_count_18 : decode cX11_count 18 = .ok (.goto 4, 3) := by decide +kernel
theorem dX11_count_21 : decode cX11_count 21 = .ok (.iconst 0, 1) := by decide +kernel
theorem dX11_count_22 : decode cX11_count 22 = .ok (.istore_n 3, 1) := by decide +kernel
theorem dX11_count_23 : decode cX11_count 23 = .ok (.aload_n 0, 1) := by decide +kernel
theorem dX11_count_24 : decode cX11_count 24 = .ok (.iload_n 3, 1) := by decide +kernel
theorem dX11_count_25 : decode cX11_count 25 = .ok (.iload_n 3, 1) := by decide +kernel
theorem dX11_count_26 : decode cX11_count 26 = .ok (.ifCond .eq 44, 3) := by decide +kernel
theorem dX11_count_29 : decode cX11_count 29 = .ok (.aload_n 0, 1) := by decide +kernel
theorem dX11_count_30 : decode cX11_count 30 = .ok (.getfield 41, 3) := by decide +kernel
theorem dX11_count_33 : decode cX11_count 33 = .ok (.iconst 4, 1) := by decide +kernel
theorem dX11_count_34 : decode cX11_count 34 = .ok (.if_icmp .ne 36, 3) := by decide +kernel
theorem dX11_count_37 : decode cX11_count 37 = .ok (.iload_n 1, 1) := by decide +kernel
theorem dX11_count_38 : decode cX11_count 38 = .ok (.aload_n 0, 1) := by decide +kernel
theorem dX11_count_39 : decode cX11_count 39 = .ok (.getfield 178, 3) := by decide +kernel
theorem dX11_count_42 : decode cX11_count 42 = .ok (.if_icmp .ge 28, 3) := by decide +kernel
theorem dX11_count_45 : decode cX11_count 45 = .ok (.aload_n 0, 1) := by decide +kernel
theorem dX11_count_46 : decode cX11_count 46 = .ok (.getfield 81, 3) := by decide +kernel
theorem dX11_count_49 : decode cX11_count 49 = .ok (.iload_n 1, 1) := by decide +kernel
theorem dX11_count_50 : decode cX11_count 50 = .ok (.iaload, 1) := by decide +kernel
theorem dX11_count_51 : decode cX11_count 51 = .ok (.iconst (-1), 1) := by decide +kernel
theorem dX11_count_52 : decode cX11_count 52 = .ok (.if_icmp .ne 18, 3) := by decide +kernel
theorem dX11_count_55 : decode cX11_count 55 = .ok (.aload_n 0, 1) := by decide +kernel
theorem dX11_count_56 : decode cX11_count 56 = .ok (.getfield 78, 3) := by decide +kernel
theorem dX11_count_59 : decode cX11_count 59 = .ok (.iload_n 1, 1) := by decide +kernel
theorem dX11_count_60 : decode cX11_count 60 = .ok (.iaload, 1) := by decide +kernel
theorem dX11_count_61 : decode cX11_count 61 = .ok (.bipush 8, 2) := by decide +kernel
theorem dX11_count_63 : decode cX11_count 63 = .ok (.if_icmp .ge 7, 3) := by decide +kernel
theorem dX11_count_66 : decode cX11_count 66 = .ok (.iconst 1, 1) := by decide +kernel
theorem dX11_count_67 : decode cX11_count 67 = .ok (.goto 4, 3) := by decide +kernel
theorem dX11_count_70 : decode cX11_count 70 = .ok (.iconst 0, 1) := by decide +kernel
theorem dX11_count_71 : decode cX11_count 71 = .ok (.invokevirtual 129, 3) := by decide +kernel
theorem dX11_count_74 : decode cX11_count 74 = .ok (.ifCond .ne 5, 3) := by decide +kernel
theorem dX11_count_77 : decode cX11_count 77 = .ok (.iconst 0, 1) := by decide +kernel
theorem dX11_count_78 : decode cX11_count 78 = .ok (.ireturn, 1) := by decide +kernel
theorem dX11_count_79 : decode cX11_count 79 = .ok (.bipush 8, 2) := by decide +kernel
theorem dX11_count_81 : decode cX11_count 81 = .ok (.iload_n 1, 1) := by decide +kernel
theorem dX11_count_82 : decode cX11_count 82 = .ok (.imul, 1) := by decide +kernel
theorem dX11_count_83 : decode cX11_count 83 = .ok (.aload_n 0, 1) := by decide +kernel
theorem dX11_count_84 : decode cX11_count 84 = .ok (.getfield 78, 3) := by decide +kernel
theorem dX11_count_87 : decode cX11_count 87 = .ok (.iload_n 1, 1) := by decide +kernel
theorem dX11_count_88 : decode cX11_count 88 = .ok (.iaload, 1) := by decide +kernel
theorem dX11_count_89 : decode cX11_count 89 = .ok (.iadd, 1) := by decide +kernel
theorem dX11_count_90 : decode cX11_count 90 = .ok (.istore 4, 2) := by decide +kernel
theorem dX11_count_92 : decode cX11_count 92 = .ok (.aload_n 0, 1) := by decide +kernel
theorem dX11_count_93 : decode cX11_count 93 = .ok (.getfield 75, 3) := by decide +kernel
theorem dX11_count_96 : decode cX11_count 96 = .ok (.iload 4, 2) := by decide +kernel
theorem dX11_count_98 : decode cX11_count 98 = .ok (.iload_n 2, 1) := by decide +kernel
theorem dX11_count_99 : decode cX11_count 99 = .ok (.iastore, 1) := by decide +kernel
theorem dX11_count_100 : decode cX11_count 100 = .ok (.iconst 0, 1) := by decide +kernel
theorem dX11_count_101 : decode cX11_count 101 = .ok (.istore 5, 2) := by decide +kernel
theorem dX11_count_103 : decode cX11_count 103 = .ok (.iload 5, 2) := by decide +kernel
theorem dX11_count_105 : decode cX11_count 105 = .ok (.bipush 6, 2) := by decide +kernel
theorem dX11_count_107 : decode cX11_count 107 = .ok (.if_icmp .ge 23, 3) := by decide +kernel
theorem dX11_count_110 : decode cX11_count 110 = .ok (.aload_n 0, 1) := by decide +kernel
theorem dX11_count_111 : decode cX11_count 111 = .ok (.getfield 72, 3) := by decide +kernel
theorem dX11_count_114 : decode cX11_count 114 = .ok (.bipush 6, 2) := by decide +kernel
theorem dX11_count_116 : decode cX11_count 116 = .ok (.iload 4, 2) := by decide +kernel
theorem dX11_count_118 : decode cX11_count 118 = .ok (.imul, 1) := by decide +kernel
theorem dX11_count_119 : decode cX11_count 119 = .ok (.iload 5, 2) := by decide +kernel
theorem dX11_count_121 : decode cX11_count 121 = .ok (.iadd, 1) := by decide +kernel
theorem dX11_count_122 : decode cX11_count 122 = .ok (.iconst 0, 1) := by decide +kernel
theorem dX11_count_123 : decode cX11_count 123 = .ok (.iastore, 1) := by decide +kernel
theorem dX11_count_124 : decode cX11_count 124 = .ok (.iinc 5 1, 3) := by decide +kernel
theorem dX11_count_127 : decode cX11_count 127 = .ok (.goto (-24), 3) := by decide +kernel
theorem dX11_count_130 : decode cX11_count 130 = .ok (.iconst 0, 1) := by decide +kernel
theorem dX11_count_131 : decode cX11_count 131 = .ok (.istore 5, 2) := by decide +kernel
theorem dX11_count_133 : decode cX11_count 133 = .ok (.iload 5, 2) := by decide +kernel
theorem dX11_count_135 : decode cX11_count 135 = .ok (.aload_n 0, 1) := by decide +kernel
theorem dX11_count_136 : decode cX11_count 136 = .ok (.getfield 69, 3) := by decide +kernel
theorem dX11_count_139 : decode cX11_count 139 = .ok (.iload_n 1, 1) := by decide +kernel
theorem dX11_count_140 : decode cX11_count 140 = .ok (.iaload, 1) := by decide +kernel
theorem dX11_count_141 : decode cX11_count 141 = .ok (.if_icmp .ge 80, 3) := by decide +kernel
theorem dX11_count_144 : decode cX11_count 144 = .ok (.aload_n 0, 1) := by decide +kernel
theorem dX11_count_145 : decode cX11_count 145 = .ok (.getfield 84, 3) := by decide +kernel
theorem dX11_count_148 : decode cX11_count 148 = .ok (.iload_n 2, 1) := by decide +kernel
theorem dX11_count_149 : decode cX11_count 149 = .ok (.iaload, 1) := by decide +kernel
theorem dX11_count_150 : decode cX11_count 150 = .ok (.ifCond .le 21, 3) := by decide +kernel
theorem dX11_count_153 : decode cX11_count 153 = .ok (.iload 5, 2) := by decide +kernel
theorem dX11_count_155 : decode cX11_count 155 = .ok (.iconst 1, 1) := by decide +kernel
theorem dX11_count_156 : decode cX11_count 156 = .ok (.iadd, 1) := by decide +kernel
theorem dX11_count_157 : decode cX11_count 157 = .ok (.aload_n 0, 1) := by decide +kernel
theorem dX11_count_158 : decode cX11_count 158 = .ok (.getfield 84, 3) := by decide +kernel
theorem dX11_count_161 : decode cX11_count 161 = .ok (.iload_n 2, 1) := by decide +kernel
theorem dX11_count_162 : decode cX11_count 162 = .ok (.iaload, 1) := by decide +kernel
theorem dX11_count_163 : decode cX11_count 163 = .ok (.irem, 1) := by decide +kernel
theorem dX11_count_164 : decode cX11_count 164 = .ok (.ifCond .ne 7, 3) := by decide +kernel
theorem dX11_count_167 : decode cX11_count 167 = .ok (.iconst 1, 1) := by decide +kernel
theorem dX11_count_168 : decode cX11_count 168 = .ok (.goto 4, 3) := by decide +kernel
theorem dX11_count_171 : decode cX11_count 171 = .ok (.iconst 0, 1) := by decide +kernel
theorem dX11_count_172 : decode cX11_count 172 = .ok (.istore 6, 2) := by decide +kernel
theorem dX11_count_174 : decode cX11_count 174 = .ok (.aload_n 0, 1) := by decide +kernel
theorem dX11_count_175 : decode cX11_count 175 = .ok (.getfield 72, 3) := by decide +kernel
theorem dX11_count_178 : decode cX11_count 178 = .ok (.bipush 6, 2) := by decide +kernel
theorem dX11_count_180 : decode cX11_count 180 = .ok (.iload 4, 2) := by decide +kernel
theorem dX11_count_182 : decode cX11_count 182 = .ok (.imul, 1) := by decide +kernel
theorem dX11_count_183 : decode cX11_count 183 = .ok (.aload_n 0, 1) := by decide +kernel
theorem dX11_count_184 : decode cX11_count 184 = .ok (.getfield 66, 3) := by decide +kernel
theorem dX11_count_187 : decode cX11_count 187 = .ok (.bipush 20, 2) := by decide +kernel
theorem dX11_count_189 : decode cX11_count 189 = .ok (.iload_n 1, 1) := by decide +kernel
theorem dX11_count_190 : decode cX11_count 190 = .ok (.imul, 1) := by decide +kernel
theorem dX11_count_191 : decode cX11_count 191 = .ok (.iload 5, 2) := by decide +kernel
theorem dX11_count_193 : decode cX11_count 193 = .ok (.iadd, 1) := by decide +kernel
theorem dX11_count_194 : decode cX11_count 194 = .ok (.iaload, 1) := by decide +kernel
theorem dX11_count_195 : decode cX11_count 195 = .ok (.iload 6, 2) := by decide +kernel
theorem dX11_count_197 : decode cX11_count 197 = .ok (.ifCond .eq 7, 3) := by decide +kernel
theorem dX11_count_200 : decode cX11_count 200 = .ok (.iconst 1, 1) := by decide +kernel
theorem dX11_count_201 : decode cX11_count 201 = .ok (.goto 4, 3) := by decide +kernel
theorem dX11_count_204 : decode cX11_count 204 = .ok (.iconst 0, 1) := by decide +kernel
theorem dX11_count_205 : decode cX11_count 205 = .ok (.iadd, 1) := by decide +kernel
theorem dX11_count_206 : decode cX11_count 206 = .ok (.bipush 6, 2) := by decide +kernel
theorem dX11_count_208 : decode cX11_count 208 = .ok (.irem, 1) := by decide +kernel
theorem dX11_count_209 : decode cX11_count 209 = .ok (.iadd, 1) := by decide +kernel
theorem dX11_count_210 : decode cX11_count 210 = .ok (.dup2, 1) := by decide +kernel
theorem dX11_count_211 : decode cX11_count 211 = .ok (.iaload, 1) := by decide +kernel
theorem dX11_count_212 : decode cX11_count 212 = .ok (.iconst 1, 1) := by decide +kernel
theorem dX11_count_213 : decode cX11_count 213 = .ok (.iadd, 1) := by decide +kernel
theorem dX11_count_214 : decode cX11_count 214 = .ok (.iastore, 1) := by decide +kernel
theorem dX11_count_215 : decode cX11_count 215 = .ok (.iinc 5 1, 3) := by decide +kernel
theorem dX11_count_218 : decode cX11_count 218 = .ok (.goto (-85), 3) := by decide +kernel
theorem dX11_count_221 : decode cX11_count 221 = .ok (.aload_n 0, 1) := by decide +kernel
theorem dX11_count_222 : decode cX11_count 222 = .ok (.getfield 78, 3) := by decide +kernel
theorem dX11_count_225 : decode cX11_count 225 = .ok (.iload_n 1, 1) := by decide +kernel
theorem dX11_count_226 : decode cX11_count 226 = .ok (.dup2, 1) := by decide +kernel
theorem dX11_count_227 : decode cX11_count 227 = .ok (.iaload, 1) := by decide +kernel
theorem dX11_count_228 : decode cX11_count 228 = .ok (.iconst 1, 1) := by decide +kernel
theorem dX11_count_229 : decode cX11_count 229 = .ok (.iadd, 1) := by decide +kernel
theorem dX11_count_230 : decode cX11_count 230 = .ok (.iastore, 1) := by decide +kernel
theorem dX11_count_231 : decode cX11_count 231 = .ok (.bipush 8, 2) := by decide +kernel
theorem dX11_count_233 : decode cX11_count 233 = .ok (.iload_n 1, 1) := by decide +kernel
theorem dX11_count_234 : decode cX11_count 234 = .ok (.imul, 1) := by decide +kernel
theorem dX11_count_235 : decode cX11_count 235 = .ok (.istore 5, 2) := by decide +kernel
theorem dX11_count_237 : decode cX11_count 237 = .ok (.iload 5, 2) := by decide +kernel
theorem dX11_count_239 : decode cX11_count 239 = .ok (.iload 4, 2) := by decide +kernel
theorem dX11_count_241 : decode cX11_count 241 = .ok (.if_icmp .ge 37, 3) := by decide +kernel
theorem dX11_count_244 : decode cX11_count 244 = .ok (.aload_n 0, 1) := by decide +kernel
theorem dX11_count_245 : decode cX11_count 245 = .ok (.getfield 81, 3) := by decide +kernel
theorem dX11_count_248 : decode cX11_count 248 = .ok (.iload_n 1, 1) := by decide +kernel
theorem dX11_count_249 : decode cX11_count 249 = .ok (.aload_n 0, 1) := by decide +kernel
theorem dX11_count_250 : decode cX11_count 250 = .ok (.iload 5, 2) := by decide +kernel
theorem dX11_count_252 : decode cX11_count 252 = .ok (.iload 4, 2) := by decide +kernel
theorem dX11_count_254 : decode cX11_count 254 = .ok (.invokevirtual 210, 3) := by decide +kernel
theorem dX11_count_257 : decode cX11_count 257 = .ok (.ifCond .eq 8, 3) := by decide +kernel
theorem dX11_count_260 : decode cX11_count 260 = .ok (.iload 4, 2) := by decide +kernel
theorem dX11_count_262 : decode cX11_count 262 = .ok (.goto 9, 3) := by decide +kernel
theorem dX11_count_265 : decode cX11_count 265 = .ok (.aload_n 0, 1) := by decide +kernel
theorem dX11_count_266 : decode cX11_count 266 = .ok (.getfield 81, 3) := by decide +kernel
theorem dX11_count_269 : decode cX11_count 269 = .ok (.iload_n 1, 1) := by decide +kernel
theorem dX11_count_270 : decode cX11_count 270 = .ok (.iaload, 1) := by decide +kernel
theorem dX11_count_271 : decode cX11_count 271 = .ok (.iastore, 1) := by decide +kernel
theorem dX11_count_272 : decode cX11_count 272 = .ok (.iinc 5 1, 3) := by decide +kernel
theorem dX11_count_275 : decode cX11_count 275 = .ok (.goto (-38), 3) := by decide +kernel
theorem dX11_count_278 : decode cX11_count 278 = .ok (.aload_n 0, 1) := by decide +kernel
theorem dX11_count_279 : decode cX11_count 279 = .ok (.aload_n 0, 1) := by decide +kernel
theorem dX11_count_280 : decode cX11_count 280 = .ok (.getfield 149, 3) := by decide +kernel
theorem dX11_count_283 : decode cX11_count 283 = .ok (.bipush 99, 2) := by decide +kernel
theorem dX11_count_285 : decode cX11_count 285 = .ok (.iload_n 1, 1) := by decide +kernel
theorem dX11_count_286 : decode cX11_count 286 = .ok (.invokevirtual 172, 3) := by decide +kernel
theorem dX11_count_289 : decode cX11_count 289 = .ok (.iconst 1, 1) := by decide +kernel
theorem dX11_count_290 : decode cX11_count 290 = .ok (.istore 5, 2) := by decide +kernel
theorem dX11_count_292 : decode cX11_count 292 = .ok (.iconst 0, 1) := by decide +kernel
theorem dX11_count_293 : decode cX11_count 293 = .ok (.istore 6, 2) := by decide +kernel
theorem dX11_count_295 : decode cX11_count 295 = .ok (.iload 6, 2) := by decide +kernel
theorem dX11_count_297 : decode cX11_count 297 = .ok (.aload_n 0, 1) := by decide +kernel
theorem dX11_count_298 : decode cX11_count 298 = .ok (.getfield 178, 3) := by decide +kernel
theorem dX11_count_301 : decode cX11_count 301 = .ok (.if_icmp .ge 32, 3) := by decide +kernel
theorem dX11_count_304 : decode cX11_count 304 = .ok (.iload 5, 2) := by decide +kernel
theorem dX11_count_306 : decode cX11_count 306 = .ok (.ifCond .eq 18, 3) := by decide +kernel
theorem dX11_count_309 : decode cX11_count 309 = .ok (.aload_n 0, 1) := by decide +kernel
theorem dX11_count_310 : decode cX11_count 310 = .ok (.getfield 81, 3) := by decide +kernel
theorem dX11_count_313 : decode cX11_count 313 = .ok (.iload 6, 2) := by decide +kernel
theorem dX11_count_315 : decode cX11_count 315 = .ok (.iaload, 1) := by decide +kernel
theorem dX11_count_316 : decode cX11_count 316 = .ok (.iconst (-1), 1) := by decide +kernel
theorem dX11_count_317 : decode cX11_count 317 = .ok (.if_icmp .eq 7, 3) := by decide +kernel
theorem dX11_count_320 : decode cX11_count 320 = .ok (.iconst 1, 1) := by decide +kernel
theorem dX11_count_321 : decode cX11_count 321 = .ok (.goto 4, 3) := by decide +kernel
theorem dX11_count_324 : decode cX11_count 324 = .ok (.iconst 0, 1) := by decide +kernel
theorem dX11_count_325 : decode cX11_count 325 = .ok (.istore 5, 2) := by decide +kernel
theorem dX11_count_327 : decode cX11_count 327 = .ok (.iinc 6 1, 3) := by decide +kernel
theorem dX11_count_330 : decode cX11_count 330 = .ok (.goto (-35), 3) := by decide +kernel
theorem dX11_count_333 : decode cX11_count 333 = .ok (.aload_n 0, 1) := by decide +kernel
theorem dX11_count_334 : decode cX11_count 334 = .ok (.iload 5, 2) := by decide +kernel
theorem dX11_count_336 : decode cX11_count 336 = .ok (.ifCond .eq 7, 3) := by decide +kernel
theorem dX11_count_339 : decode cX11_count 339 = .ok (.iconst 5, 1) := by decide +kernel
theorem dX11_count_340 : decode cX11_count 340 = .ok (.goto 7, 3) := by decide +kernel
theorem dX11_count_343 : decode cX11_count 343 = .ok (.aload_n 0, 1) := by decide +kernel
theorem dX11_count_344 : decode cX11_count 344 = .ok (.getfield 41, 3) := by decide +kernel
theorem dX11_count_347 : decode cX11_count 347 = .ok (.putfield 41, 3) := by decide +kernel
theorem dX11_count_350 : decode cX11_count 350 = .ok (.aload_n 0, 1) := by decide +kernel
theorem dX11_count_351 : decode cX11_count 351 = .ok (.getfield 81, 3) := by decide +kernel
theorem dX11_count_354 : decode cX11_count 354 = .ok (.iload_n 1, 1) := by decide +kernel
theorem dX11_count_355 : decode cX11_count 355 = .ok (.iaload, 1) := by decide +kernel
theorem dX11_count_356 : decode cX11_count 356 = .ok (.iconst (-1), 1) := by decide +kernel
theorem dX11_count_357 : decode cX11_count 357 = .ok (.if_icmp .eq 7, 3) := by decide +kernel
theorem dX11_count_360 : decode cX11_count 360 = .ok (.iconst 1, 1) := by decide +kernel
theorem dX11_count_361 : decode cX11_count 361 = .ok (.goto 4, 3) := by decide +kernel
theorem dX11_count_364 : decode cX11_count 364 = .ok (.iconst 0, 1) := by decide +kernel
theorem dX11_count_365 : decode cX11_count 365 = .ok (.ireturn, 1) := by decide +kernel
set_option maxRecDepth 20000 in
theorem ggX11_recount_X11_isStation : GoodIn wsX11_recount wsX11_isStation := goodIn_r _ [8, 9, 10, 11, 7, 12, 18, 19, 20, 21, 22, 23, 24, 25, 26, 27, 28, 29, 30, 31, 32, 33, 34, 35, 36, 37, 38, 39, 40, 41, 42, 43, 44, 45, 46, 47, 48, 49, 50, 51, 52, 53, 54, 55, 56, 57, 58, 59, 60, 61] (by decide +kernel) (by decide +kernel)
set_option maxRecDepth 20000 in
theorem gX11_recount_X11_isStation : GoodIn wsX11_recount (wsV RX11 143 RX11 yX11_isStation wsX11_isStation) := goodIn_app (goodIn_of _ (by decide +kernel)) ggX11_recount_X11_isStation
set_option maxRecDepth 20000 in
theorem ggX11_recount_X11_asked_ : GoodIn wsX11_recount wsX11_asked_ := goodIn_r _ [16, 17, 18, 19, 20, 21, 22, 23, 24, 25, 26, 27, 28, 29, 30, 31, 32, 33, 34, 35, 36, 37, 38, 39, 40, 41, 42, 43, 44, 45, 46, 47, 48, 49, 50, 51, 52, 53, 54, 55, 56, 57, 58, 59, 60, 61] (by decide +kernel) (by decide +kernel)
set_option maxRecDepth 20000 in
theorem gX11_recount_X11_asked_ : GoodIn wsX11_recount (wsV RX11 129 RX11 yX11_asked_ wsX11_asked_) := goodIn_app (goodIn_of _ (by decide +kernel)) ggX11_recount_X11_asked_
theorem dX11_recount_0 : decode cX11_recount 0 = .ok (.aload_n 0, 1) := by decide +kernel
theorem dX11_recount_1 : decode cX11_recount 1 = .ok (.iload_n 1, 1) := by decide +kernel
theorem dX11_recount_2 : decode cX11_recount 2 = .ok (.invokevirtual 143, 3) := by decide +kernel
theorem dX11_recount_5 : decode cX11_recount 5 = .ok (.istore_n 2, 1) := by decide +kernel
theorem dX11_recount_6 : decode cX11_recount 6 = .ok (.aload_n 0, 1) := by decide +kernel
theorem dX11_recount_7 : decode cX11_recount 7 = .ok (.iload_n 2, 1) := by decide +kernel
theorem dX11_recount_8 : decode cX11_recount 8 = .ok (.aload_n 0, 1) := by decide +kernel
theorem dX11_recount_9 : decode cX11_recount 9 = .ok (.getfield 41, 3) := by decide +kernel
theorem dX11_recount_12 : decode cX11_recount 12 = .ok (.iconst 4, 1) := by decide +kernel
theorem dX11_recount_13 : decode cX11_recount 13 = .ok (.if_icmp .ne 7, 3) := by decide +kernel
theorem dX11_recount_16 : decode cX11_recount 16 = .ok (.iconst 1, 1) := by decide +kernel
theorem dX11_recount_17 : decode cX11_recount 17 = .ok (.goto 4, 3) := by decide +kernel
theorem dX11_recount_20 : decode cX11_recount 20 = .ok (.iconst 0, 1) := by decide +kernel
theorem dX11_recount_21 : decode cX11_recount 21 = .ok (.invokevirtual 129, 3) := by decide +kernel
theorem dX11_recount_24 : decode cX11_recount 24 = .ok (.ifCond .ne 5, 3) := by decide +kernel
theorem dX11_recount_27 : decode cX11_recount 27 = .ok (.iconst 0, 1) := by decide +kernel
theorem dX11_recount_28 : decode cX11_recount 28 = .ok (.ireturn, 1) := by decide +kernel
theorem dX11_recount_29 : decode cX11_recount 29 = .ok (.aload_n 0, 1) := by decide +kernel
theorem dX11_recount_30 : decode cX11_recount 30 = .ok (.getfield 78, 3) := by decide +kernel
theorem dX11_recount_33 : decode cX11_recount 33 = .ok (.iload_n 1, 1) := by decide +kernel
theorem dX11_recount_34 : decode cX11_recount 34 = .ok (.iaload, 1) := by decide +kernel
theorem dX11_recount_35 : decode cX11_recount 35 = .ok (.istore_n 3, 1) := by decide +kernel
theorem dX11_recount_36 : decode cX11_recount 36 = .ok (.aload_n 0, 1) := by decide +kernel
theorem dX11_recount_37 : decode cX11_recount 37 = .ok (.getfield 78, 3) := by decide +kernel
theorem dX11_recount_40 : decode cX11_recount 40 = .ok (.iload_n 1, 1) := by decide +kernel
theorem dX11_recount_41 : decode cX11_recount 41 = .ok (.iconst 0, 1) := by decide +kernel
theorem dX11_recount_42 : decode cX11_recount 42 = .ok (.iastore, 1) := by decide +kernel
theorem dX11_recount_43 : decode cX11_recount 43 = .ok (.aload_n 0, 1) := by decide +kernel
theorem dX11_recount_44 : decode cX11_recount 44 = .ok (.getfield 81, 3) := by decide +kernel
theorem dX11_recount_47 : decode cX11_recount 47 = .ok (.iload_n 1, 1) := by decide +kernel
theorem dX11_recount_48 : decode cX11_recount 48 = .ok (.iconst (-1), 1) := by decide +kernel
theorem dX11_recount_49 : decode cX11_recount 49 = .ok (.iastore, 1) := by decide +kernel
theorem dX11_recount_50 : decode cX11_recount 50 = .ok (.iload_n 3, 1) := by decide +kernel
theorem dX11_recount_51 : decode cX11_recount 51 = .ok (.ireturn, 1) := by decide +kernel
set_option maxRecDepth 20000 in
theorem ggX11_isSettled_X11_isStation : GoodIn wsX11_isSettled wsX11_isStation := goodIn_r _ [6, 7, 8, 9, 5, 10, 16, 17, 18, 19, 20, 21, 22, 23, 24, 25, 26, 27, 28, 29, 30, 31, 32, 33, 34, 35, 36, 37, 38, 39, 40, 41, 42, 43, 44, 45, 46, 47, 48, 49, 50, 51, 52, 53, 54, 55, 56, 57, 58, 59] (by decide +kernel) (by decide +kernel)
set_option maxRecDepth 20000 in
theorem gX11_isSettled_X11_isStation : GoodIn wsX11_isSettled (wsV RX11 143 RX11 yX11_isStation wsX11_isStation) := goodIn_app (goodIn_of _ (by decide +kernel)) ggX11_isSettled_X11_isStation
set_option maxRecDepth 20000 in
theorem ggX11_isSettled_X11_asked : GoodIn wsX11_isSettled wsX11_asked := goodIn_r _ [14, 15, 16, 17, 18, 19, 20, 21, 22, 23, 24, 25, 26, 27, 28, 29, 30, 31, 32, 33, 34, 35, 36, 37, 38, 39, 40, 41, 42, 43, 44, 45, 46, 47, 48, 49, 50, 51, 52, 53, 54, 55, 56, 57, 58, 59] (by decide +kernel) (by decide +kernel)
set_option maxRecDepth 20000 in
theorem gX11_isSettled_X11_asked : GoodIn wsX11_isSettled (wsV RX11 133 RX11 yX11_asked wsX11_asked) := goodIn_app (goodIn_of _ (by decide +kernel)) ggX11_isSettled_X11_asked
theorem dX11_isSettled_0 : decode cX11_isSettled 0 = .ok (.aload_n 0, 1) := by decide +kernel
theorem dX11_isSettled_1 : decode cX11_isSettled 1 = .ok (.aload_n 0, 1) := by decide +kernel
theorem dX11_isSettled_2 : decode cX11_isSettled 2 = .ok (.iload_n 1, 1) := by decide +kernel
theorem dX11_isSettled_3 : decode cX11_isSettled 3 = .ok (.invokevirtual 143, 3) := by decide +kernel
theorem dX11_isSettled_6 : decode cX11_isSettled 6 = .ok (.invokevirtual 133, 3) := by decide +kernel
theorem dX11_isSettled_9 : decode cX11_isSettled 9 = .ok (.ifCond .eq 17, 3) := by decide +kernel
theorem dX11_isSettled_12 : decode cX11_isSettled 12 = .ok (.aload_n 0, 1) := by decide +kernel
theorem dX11_isSettled_13 : decode cX11_isSettled 13 = .ok (.getfield 81, 3) := by decide +kernel
theorem dX11_isSettled_16 : decode cX11_isSettled 16 = .ok (.iload_n 1, 1) := by decide +kernel
theorem dX11_isSettled_17 : decode cX11_isSettled 17 = .ok (.iaload, 1) := by decide +kernel
theorem dX11_isSettled_18 : decode cX11_isSettled 18 = .ok (.iconst (-1), 1) := by decide +kernel
theorem dX11_isSettled_19 : decode cX11_isSettled 19 = .ok (.if_icmp .eq 7, 3) := by decide +kernel
theorem dX11_isSettled_22 : decode cX11_isSettled 22 = .ok (.iconst 1, 1) := by decide +kernel
theorem dX11_isSettled_23 : decode cX11_isSettled 23 = .ok (.goto 4, 3) := by decide +kernel
theorem dX11_isSettled_26 : decode cX11_isSettled 26 = .ok (.iconst 0, 1) := by decide +kernel
theorem dX11_isSettled_27 : decode cX11_isSettled 27 = .ok (.ireturn, 1) := by decide +kernel
set_option maxRecDepth 20000 in
theorem ggX11_numberOf_X11_isStation : GoodIn wsX11_numberOf wsX11_isStation := goodIn_r _ [7, 8, 9, 10, 6, 11, 17, 18, 19, 20, 21, 22, 23, 24, 25, 26, 27, 28, 29, 30, 31, 32, 33, 34, 35, 36, 37, 38, 39, 40, 41, 42, 43, 44, 45, 46, 47, 48, 49, 50, 51, 52, 53, 54, 55, 56, 57, 58, 59, 60] (by decide +kernel) (by decide +kernel)
set_option maxRecDepth 20000 in
theorem gX11_numberOf_X11_isStation : GoodIn wsX11_numberOf (wsV RX11 143 RX11 yX11_isStation wsX11_isStation) := goodIn_app (goodIn_of _ (by decide +kernel)) ggX11_numberOf_X11_isStation
set_option maxRecDepth 20000 in
theorem ggX11_numberOf_X11_in : GoodIn wsX11_numberOf wsX11_in := goodIn_r _ [11] (by decide +kernel) (by decide +kernel)
set_option maxRecDepth 20000 in
theorem gX11_numberOf_X11_in : GoodIn wsX11_numberOf (va_wsS RX11 111 yX11_in wsX11_in) := goodIn_app (goodIn_of _ (by decide +kernel)) ggX11_numberOf_X11_in
set_option maxRecDepth 20000 in
theorem ggX11_numberOf_X11_asked_ : GoodIn wsX11_numberOf wsX11_asked_ := goodIn_r _ [15, 16, 17, 18, 19, 20, 21, 22, 23, 24, 25, 26, 27, 28, 29, 30, 31, 32, 33, 34, 35, 36, 37, 38, 39, 40, 41, 42, 43, 44, 45, 46, 47, 48, 49, 50, 51, 52, 53, 54, 55, 56, 57, 58, 59, 60] (by decide +kernel) (by decide +kernel)
set_option maxRecDepth 20000 in
theorem gX11_numberOf_X11_asked_ : GoodIn wsX11_numberOf (wsV RX11 129 RX11 yX11_asked_ wsX11_asked_) := goodIn_app (goodIn_of _ (by decide +kernel)) ggX11_numberOf_X11_asked_
theorem dX11_numberOf_0 : decode cX11_numberOf 0 = .ok (.aload_n 0, 1) := by decide +kernel
theorem dX11_numberOf_1 : decode cX11_numberOf 1 = .ok (.aload_n 0, 1) := by decide +kernel
theorem dX11_numberOf_2 : decode cX11_numberOf 2 = .ok (.iload_n 1, 1) := by decide +kernel
theorem dX11_numberOf_3 : decode cX11_numberOf 3 = .ok (.invokevirtual 143, 3) := by decide +kernel
theorem dX11_numberOf_6 : decode cX11_numberOf 6 = .ok (.iload_n 2, 1) := by decide +kernel
theorem dX11_numberOf_7 : decode cX11_numberOf 7 = .ok (.iconst 0, 1) := by decide +kernel
theorem dX11_numberOf_8 : decode cX11_numberOf 8 = .ok (.iconst 5, 1) := by decide +kernel
theorem dX11_numberOf_9 : decode cX11_numberOf 9 = .ok (.invokestatic 111, 3) := by decide +kernel
theorem dX11_numberOf_12 : decode cX11_numberOf 12 = .ok (.invokevirtual 129, 3) := by decide +kernel
theorem dX11_numberOf_15 : decode cX11_numberOf 15 = .ok (.ifCond .ne 5, 3) := by decide +kernel
theorem dX11_numberOf_18 : decode cX11_numberOf 18 = .ok (.iconst 0, 1) := by decide +kernel
theorem dX11_numberOf_19 : decode cX11_numberOf 19 = .ok (.ireturn, 1) := by decide +kernel
theorem dX11_numberOf_20 : decode cX11_numberOf 20 = .ok (.aload_n 0, 1) := by decide +kernel
theorem dX11_numberOf_21 : decode cX11_numberOf 21 = .ok (.getfield 81, 3) := by decide +kernel
theorem dX11_numberOf_24 : decode cX11_numberOf 24 = .ok (.iload_n 1, 1) := by decide +kernel
theorem dX11_numberOf_25 : decode cX11_numberOf 25 = .ok (.iaload, 1) := by decide +kernel
theorem dX11_numberOf_26 : decode cX11_numberOf 26 = .ok (.iconst (-1), 1) := by decide +kernel
theorem dX11_numberOf_27 : decode cX11_numberOf 27 = .ok (.if_icmp .ne 7, 3) := by decide +kernel
theorem dX11_numberOf_30 : decode cX11_numberOf 30 = .ok (.iconst (-1), 1) := by decide +kernel
theorem dX11_numberOf_31 : decode cX11_numberOf 31 = .ok (.goto 19, 3) := by decide +kernel
theorem dX11_numberOf_34 : decode cX11_numberOf 34 = .ok (.aload_n 0, 1) := by decide +kernel
theorem dX11_numberOf_35 : decode cX11_numberOf 35 = .ok (.getfield 72, 3) := by decide +kernel
theorem dX11_numberOf_38 : decode cX11_numberOf 38 = .ok (.bipush 6, 2) := by decide +kernel
theorem dX11_numberOf_40 : decode cX11_numberOf 40 = .ok (.aload_n 0, 1) := by decide +kernel
theorem dX11_numberOf_41 : decode cX11_numberOf 41 = .ok (.getfield 81, 3) := by decide +kernel
theorem dX11_numberOf_44 : decode cX11_numberOf 44 = .ok (.iload_n 1, 1) := by decide +kernel
theorem dX11_numberOf_45 : decode cX11_numberOf 45 = .ok (.iaload, 1) := by decide +kernel
theorem dX11_numberOf_46 : decode cX11_numberOf 46 = .ok (.imul, 1) := by decide +kernel
theorem dX11_numberOf_47 : decode cX11_numberOf 47 = .ok (.iload_n 2, 1) := by decide +kernel
theorem dX11_numberOf_48 : decode cX11_numberOf 48 = .ok (.iadd, 1) := by decide +kernel
theorem dX11_numberOf_49 : decode cX11_numberOf 49 = .ok (.iaload, 1) := by decide +kernel
theorem dX11_numberOf_50 : decode cX11_numberOf 50 = .ok (.ireturn, 1) := by decide +kernel
theorem dX11_inBox_0 : decode cX11_inBox 0 = .ok (.iconst 0, 1) := by decide +kernel
theorem dX11_inBox_1 : decode cX11_inBox 1 = .ok (.istore_n 3, 1) := by decide +kernel
theorem dX11_inBox_2 : decode cX11_inBox 2 = .ok (.bipush 20, 2) := by decide +kernel
theorem dX11_inBox_4 : decode cX11_inBox 4 = .ok (.iload_n 1, 1) := by decide +kernel
theorem dX11_inBox_5 : decode cX11_inBox 5 = .ok (.imul, 1) := by decide +kernel
theorem dX11_inBox_6 : decode cX11_inBox 6 = .ok (.istore 4, 2) := by decide +kernel
theorem dX11_inBox_8 : decode cX11_inBox 8 = .ok (.iload 4, 2) := by decide +kernel
theorem dX11_inBox_10 : decode cX11_inBox 10 = .ok (.bipush 20, 2) := by decide +kernel
theorem dX11_inBox_12 : decode cX11_inBox 12 = .ok (.iload_n 1, 1) := by decide +kernel
theorem dX11_inBox_13 : decode cX11_inBox 13 = .ok (.imul, 1) := by decide +kernel
theorem dX11_inBox_14 : decode cX11_inBox 14 = .ok (.aload_n 0, 1) := by decide +kernel
theorem dX11_inBox_15 : decode cX11_inBox 15 = .ok (.getfield 69, 3) := by decide +kernel
theorem dX11_inBox_18 : decode cX11_inBox 18 = .ok (.iload_n 1, 1) := by decide +kernel
theorem dX11_inBox_19 : decode cX11_inBox 19 = .ok (.iaload, 1) := by decide +kernel
theorem dX11_inBox_20 : decode cX11_inBox 20 = .ok (.iadd, 1) := by decide +kernel
theorem dX11_inBox_21 : decode cX11_inBox 21 = .ok (.if_icmp .ge 28, 3) := by decide +kernel
theorem dX11_inBox_24 : decode cX11_inBox 24 = .ok (.iload_n 3, 1) := by decide +kernel
theorem dX11_inBox_25 : decode cX11_inBox 25 = .ok (.aload_n 0, 1) := by decide +kernel
theorem dX11_inBox_26 : decode cX11_inBox 26 = .ok (.getfield 66, 3) := by decide +kernel
theorem dX11_inBox_29 : decode cX11_inBox 29 = .ok (.iload 4, 2) := by decide +kernel
theorem dX11_inBox_31 : decode cX11_inBox 31 = .ok (.iaload, 1) := by decide +kernel
theorem dX11_inBox_32 : decode cX11_inBox 32 = .ok (.iload_n 2, 1) := by decide +kernel
theorem dX11_inBox_33 : decode cX11_inBox 33 = .ok (.if_icmp .ne 7, 3) := by decide +kernel
theorem dX11_inBox_36 : decode cX11_inBox 36 = .ok (.iconst 1, 1) := by decide +kernel
theorem dX11_inBox_37 : decode cX11_inBox 37 = .ok (.goto 4, 3) := by decide +kernel
theorem dX11_inBox_40 : decode cX11_inBox 40 = .ok (.iconst 0, 1) := by decide +kernel
theorem dX11_inBox_41 : decode cX11_inBox 41 = .ok (.iadd, 1) := by decide +kernel
theorem dX11_inBox_42 : decode cX11_inBox 42 = .ok (.istore_n 3, 1) := by decide +kernel
theorem dX11_inBox_43 : decode cX11_inBox 43 = .ok (.iinc 4 1, 3) := by decide +kernel
theorem dX11_inBox_46 : decode cX11_inBox 46 = .ok (.goto (-38), 3) := by decide +kernel
theorem dX11_inBox_49 : decode cX11_inBox 49 = .ok (.iload_n 3, 1) := by decide +kernel
theorem dX11_inBox_50 : decode cX11_inBox 50 = .ok (.ireturn, 1) := by decide +kernel
set_option maxRecDepth 20000 in
theorem ggX11_misread_X11_isStation : GoodIn wsX11_misread wsX11_isStation := goodIn_r _ [7, 8, 9, 10, 6, 11, 23, 24, 25, 26, 27, 28, 29, 30, 31, 32, 33, 34, 35, 36, 37, 38, 39, 40, 41, 42, 43, 44, 45, 46, 47, 48, 49, 50, 51, 52, 53, 54, 55, 56, 57, 58, 59, 60, 61, 62, 63, 64, 65, 66] (by decide +kernel) (by decide +kernel)
set_option maxRecDepth 20000 in
theorem gX11_misread_X11_isStation : GoodIn wsX11_misread (wsV RX11 143 RX11 yX11_isStation wsX11_isStation) := goodIn_app (goodIn_of _ (by decide +kernel)) ggX11_misread_X11_isStation
set_option maxRecDepth 20000 in
theorem ggX11_misread_X11_asked : GoodIn wsX11_misread wsX11_asked := goodIn_r _ [15, 16, 23, 24, 25, 26, 27, 28, 29, 30, 31, 32, 33, 34, 35, 36, 37, 38, 39, 40, 41, 42, 43, 44, 45, 46, 47, 48, 49, 50, 51, 52, 53, 54, 55, 56, 57, 58, 59, 60, 61, 62, 63, 64, 65, 66] (by decide +kernel) (by decide +kernel)
set_option maxRecDepth 20000 in
theorem gX11_misread_X11_asked : GoodIn wsX11_misread (wsV RX11 133 RX11 yX11_asked wsX11_asked) := goodIn_app (goodIn_of _ (by decide +kernel)) ggX11_misread_X11_asked
set_option maxRecDepth 20000 in
theorem ggX11_misread_X11_inBox : GoodIn wsX11_misread wsX11_inBox := goodIn_ca (goodIn_r _ [20, 21, 22, 23, 24, 25, 26, 27, 28, 29, 30, 31, 32, 33, 34, 35, 36, 37, 38, 39, 40, 41, 42, 43, 44, 45, 46, 47, 48, 49, 50, 51, 52, 53, 54, 55, 56, 57, 58, 59, 60, 61, 62, 63, 64, 65, 66] (by decide +kernel) (by decide +kernel)) (goodIn_sub (fun _ h => List.mem_cons_of_mem _ (List.mem_append_right _ h)) (by decide +kernel))
set_option maxRecDepth 20000 in
theorem gX11_misread_X11_inBox : GoodIn wsX11_misread (wsV RX11 214 RX11 yX11_inBox wsX11_inBox) := goodIn_app (goodIn_of _ (by decide +kernel)) ggX11_misread_X11_inBox
theorem dX11_misread_0 : decode cX11_misread 0 = .ok (.aload_n 0, 1) := by decide +kernel
theorem dX11_misread_1 : decode cX11_misread 1 = .ok (.aload_n 0, 1) := by decide +kernel
theorem dX11_misread_2 : decode cX11_misread 2 = .ok (.iload_n 1, 1) := by decide +kernel
theorem dX11_misread_3 : decode cX11_misread 3 = .ok (.invokevirtual 143, 3) := by decide +kernel
theorem dX11_misread_6 : decode cX11_misread 6 = .ok (.invokevirtual 133, 3) := by decide +kernel
theorem dX11_misread_9 : decode cX11_misread 9 = .ok (.ifCond .ne 5, 3) := by decide +kernel
theorem dX11_misread_12 : decode cX11_misread 12 = .ok (.iconst 0, 1) := by decide +kernel
theorem dX11_misread_13 : decode cX11_misread 13 = .ok (.ireturn, 1) := by decide +kernel
theorem dX11_misread_14 : decode cX11_misread 14 = .ok (.aload_n 0, 1) := by decide +kernel
theorem dX11_misread_15 : decode cX11_misread 15 = .ok (.getfield 81, 3) := by decide +kernel
theorem dX11_misread_18 : decode cX11_misread 18 = .ok (.iload_n 1, 1) := by decide +kernel
theorem dX11_misread_19 : decode cX11_misread 19 = .ok (.iaload, 1) := by decide +kernel
theorem dX11_misread_20 : decode cX11_misread 20 = .ok (.iconst (-1), 1) := by decide +kernel
theorem dX11_misread_21 : decode cX11_misread 21 = .ok (.if_icmp .ne 7, 3) := by decide +kernel
theorem dX11_misread_24 : decode cX11_misread 24 = .ok (.iconst (-1), 1) := by decide +kernel
theorem dX11_misread_25 : decode cX11_misread 25 = .ok (.goto 4, 3) := by decide +kernel
theorem dX11_misread_28 : decode cX11_misread 28 = .ok (.iconst 0, 1) := by decide +kernel
theorem dX11_misread_29 : decode cX11_misread 29 = .ok (.istore_n 2, 1) := by decide +kernel
theorem dX11_misread_30 : decode cX11_misread 30 = .ok (.iconst 0, 1) := by decide +kernel
theorem dX11_misread_31 : decode cX11_misread 31 = .ok (.istore_n 3, 1) := by decide +kernel
theorem dX11_misread_32 : decode cX11_misread 32 = .ok (.iload_n 3, 1) := by decide +kernel
theorem dX11_misread_33 : decode cX11_misread 33 = .ok (.bipush 6, 2) := by decide +kernel
theorem dX11_misread_35 : decode cX11_misread 35 = .ok (.if_icmp .ge 53, 3) := by decide +kernel
theorem dX11_misread_38 : decode cX11_misread 38 = .ok (.iload_n 2, 1) := by decide +kernel
theorem dX11_misread_39 : decode cX11_misread 39 = .ok (.iconst (-1), 1) := by decide +kernel
theorem dX11_misread_40 : decode cX11_misread 40 = .ok (.if_icmp .eq 48, 3) := by decide +kernel
theorem dX11_misread_43 : decode cX11_misread 43 = .ok (.aload_n 0, 1) := by decide +kernel
theorem dX11_misread_44 : decode cX11_misread 44 = .ok (.iload_n 1, 1) := by decide +kernel
theorem dX11_misread_45 : decode cX11_misread 45 = .ok (.iload_n 3, 1) := by decide +kernel
theorem dX11_misread_46 : decode cX11_misread 46 = .ok (.invokevirtual 214, 3) := by decide +kernel
theorem dX11_misread_49 : decode cX11_misread 49 = .ok (.aload_n 0, 1) := by decide +kernel
