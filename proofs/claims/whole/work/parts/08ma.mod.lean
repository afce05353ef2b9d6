set_option maxRecDepth 20000 in
theorem ggX11_init_X11_clears : GoodIn wsX11_init wsX11_clears := goodIn_ca (goodIn_r _ [41, 42, 43, 44, 18, 20, 17, 19, 25, 28, 29, 45, 46, 47, 48, 49, 50, 51, 52, 53, 54, 55, 56, 57, 58, 59, 60, 61, 62, 63, 64, 65, 66, 67, 68, 69, 70, 71, 72, 73, 74, 75, 76, 77, 78, 79, 80, 81, 82, 83, 84, 85, 86, 87, 88] (by decide +kernel) (by decide +kernel)) (goodIn_sub (fun _ h => List.mem_cons_of_mem _ (List.mem_append_right _ h)) (by decide +kernel))
set_option maxRecDepth 20000 in
theorem gX11_init_X11_clears : GoodIn wsX11_init (wsV RX11 105 RX11 yX11_clears wsX11_clears) := goodIn_app (goodIn_of _ (by decide +kernel)) ggX11_init_X11_clears
theorem dX11_init_0 : decode cX11_init 0 = .ok (.aload_n 0, 1) := by decide +kernel
theorem dX11_init_1 : decode cX11_init 1 = .ok (.invokespecial 1, 3) := by decide +kernel
theorem dX11_init_4 : decode cX11_init 4 = .ok (.aload_n 0, 1) := by decide +kernel
theorem dX11_init_5 : decode cX11_init 5 = .ok (.bipush 72, 2) := by decide +kernel
theorem dX11_init_7 : decode cX11_init 7 = .ok (.newarray .boolean, 2) := by decide +kernel
theorem dX11_init_9 : decode cX11_init 9 = .ok (.putfield 7, 3) := by decide +kernel
theorem dX11_init_12 : decode cX11_init 12 = .ok (.aload_n 0, 1) := by decide +kernel
theorem dX11_init_13 : decode cX11_init 13 = .ok (.bipush 36, 2) := by decide +kernel
theorem dX11_init_15 : decode cX11_init 15 = .ok (.newarray .int, 2) := by decide +kernel
theorem dX11_init_17 : decode cX11_init 17 = .ok (.putfield 13, 3) := by decide +kernel
theorem dX11_init_20 : decode cX11_init 20 = .ok (.aload_n 0, 1) := by decide +kernel
theorem dX11_init_21 : decode cX11_init 21 = .ok (.bipush 36, 2) := by decide +kernel
theorem dX11_init_23 : decode cX11_init 23 = .ok (.newarray .int, 2) := by decide +kernel
theorem dX11_init_25 : decode cX11_init 25 = .ok (.putfield 17, 3) := by decide +kernel
theorem dX11_init_28 : decode cX11_init 28 = .ok (.aload_n 0, 1) := by decide +kernel
theorem dX11_init_29 : decode cX11_init 29 = .ok (.iconst 5, 1) := by decide +kernel
theorem dX11_init_30 : decode cX11_init 30 = .ok (.newarray .int, 2) := by decide +kernel
theorem dX11_init_32 : decode cX11_init 32 = .ok (.putfield 20, 3) := by decide +kernel
theorem dX11_init_35 : decode cX11_init 35 = .ok (.aload_n 0, 1) := by decide +kernel
theorem dX11_init_36 : decode cX11_init 36 = .ok (.iconst 5, 1) := by decide +kernel
theorem dX11_init_37 : decode cX11_init 37 = .ok (.newarray .int, 2) := by decide +kernel
theorem dX11_init_39 : decode cX11_init 39 = .ok (.putfield 23, 3) := by decide +kernel
theorem dX11_init_42 : decode cX11_init 42 = .ok (.aload_n 0, 1) := by decide +kernel
theorem dX11_init_43 : decode cX11_init 43 = .ok (.bipush 20, 2) := by decide +kernel
theorem dX11_init_45 : decode cX11_init 45 = .ok (.newarray .int, 2) := by decide +kernel
theorem dX11_init_47 : decode cX11_init 47 = .ok (.putfield 26, 3) := by decide +kernel
theorem dX11_init_50 : decode cX11_init 50 = .ok (.aload_n 0, 1) := by decide +kernel
theorem dX11_init_51 : decode cX11_init 51 = .ok (.bipush 20, 2) := by decide +kernel
theorem dX11_init_53 : decode cX11_init 53 = .ok (.newarray .boolean, 2) := by decide +kernel
theorem dX11_init_55 : decode cX11_init 55 = .ok (.putfield 29, 3) := by decide +kernel
theorem dX11_init_58 : decode cX11_init 58 = .ok (.aload_n 0, 1) := by decide +kernel
theorem dX11_init_59 : decode cX11_init 59 = .ok (.sipush 540, 3) := by decide +kernel
theorem dX11_init_62 : decode cX11_init 62 = .ok (.newarray .int, 2) := by decide +kernel
theorem dX11_init_64 : decode cX11_init 64 = .ok (.putfield 32, 3) := by decide +kernel
theorem dX11_init_67 : decode cX11_init 67 = .ok (.aload_n 0, 1) := by decide +kernel
theorem dX11_init_68 : decode cX11_init 68 = .ok (.sipush 540, 3) := by decide +kernel
theorem dX11_init_71 : decode cX11_init 71 = .ok (.newarray .int, 2) := by decide +kernel
theorem dX11_init_73 : decode cX11_init 73 = .ok (.putfield 35, 3) := by decide +kernel
theorem dX11_init_76 : decode cX11_init 76 = .ok (.aload_n 0, 1) := by decide +kernel
theorem dX11_init_77 : decode cX11_init 77 = .ok (.sipush 540, 3) := by decide +kernel
theorem dX11_init_80 : decode cX11_init 80 = .ok (.newarray .int, 2) := by decide +kernel
theorem dX11_init_82 : decode cX11_init 82 = .ok (.putfield 38, 3) := by decide +kernel
theorem dX11_init_85 : decode cX11_init 85 = .ok (.aload_n 0, 1) := by decide +kernel
theorem dX11_init_86 : decode cX11_init 86 = .ok (.iconst 0, 1) := by decide +kernel
theorem dX11_init_87 : decode cX11_init 87 = .ok (.putfield 41, 3) := by decide +kernel
theorem dX11_init_90 : decode cX11_init 90 = .ok (.aload_n 0, 1) := by decide +kernel
theorem dX11_init_91 : decode cX11_init 91 = .ok (.iconst 5, 1) := by decide +kernel
theorem dX11_init_92 : decode cX11_init 92 = .ok (.newarray .int, 2) := by decide +kernel
theorem dX11_init_94 : decode cX11_init 94 = .ok (.putfield 45, 3) := by decide +kernel
theorem dX11_init_97 : decode cX11_init 97 = .ok (.aload_n 0, 1) := by decide +kernel
theorem dX11_init_98 : decode cX11_init 98 = .ok (.bipush 20, 2) := by decide +kernel
theorem dX11_init_100 : decode cX11_init 100 = .ok (.newarray .int, 2) := by decide +kernel
theorem dX11_init_102 : decode cX11_init 102 = .ok (.putfield 48, 3) := by decide +kernel
theorem dX11_init_105 : decode cX11_init 105 = .ok (.aload_n 0, 1) := by decide +kernel
theorem dX11_init_106 : decode cX11_init 106 = .ok (.iconst 5, 1) := by decide +kernel
theorem dX11_init_107 : decode cX11_init 107 = .ok (.newarray .int, 2) := by decide +kernel
theorem dX11_init_109 : decode cX11_init 109 = .ok (.putfield 51, 3) := by decide +kernel
theorem dX11_init_112 : decode cX11_init 112 = .ok (.aload_n 0, 1) := by decide +kernel
theorem dX11_init_113 : decode cX11_init 113 = .ok (.bipush 20, 2) := by decide +kernel
theorem dX11_init_115 : decode cX11_init 115 = .ok (.newarray .boolean, 2) := by decide +kernel
theorem dX11_init_117 : decode cX11_init 117 = .ok (.putfield 54, 3) := by decide +kernel
theorem dX11_init_120 : decode cX11_init 120 = .ok (.aload_n 0, 1) := by decide +kernel
theorem dX11_init_121 : decode cX11_init 121 = .ok (.bipush 60, 2) := by decide +kernel
theorem dX11_init_123 : decode cX11_init 123 = .ok (.newarray .int, 2) := by decide +kernel
theorem dX11_init_125 : decode cX11_init 125 = .ok (.putfield 57, 3) := by decide +kernel
theorem dX11_init_128 : decode cX11_init 128 = .ok (.aload_n 0, 1) := by decide +kernel
theorem dX11_init_129 : decode cX11_init 129 = .ok (.bipush 60, 2) := by decide +kernel
theorem dX11_init_131 : decode cX11_init 131 = .ok (.newarray .int, 2) := by decide +kernel
theorem dX11_init_133 : decode cX11_init 133 = .ok (.putfield 60, 3) := by decide +kernel
theorem dX11_init_136 : decode cX11_init 136 = .ok (.aload_n 0, 1) := by decide +kernel
theorem dX11_init_137 : decode cX11_init 137 = .ok (.bipush 60, 2) := by decide +kernel
theorem dX11_init_139 : decode cX11_init 139 = .ok (.newarray .int, 2) := by decide +kernel
theorem dX11_init_141 : decode cX11_init 141 = .ok (.putfield 63, 3) := by decide +kernel
theorem dX11_init_144 : decode cX11_init 144 = .ok (.aload_n 0, 1) := by decide +kernel
theorem dX11_init_145 : decode cX11_init 145 = .ok (.bipush 100, 2) := by decide +kernel
theorem dX11_init_147 : decode cX11_init 147 = .ok (.newarray .int, 2) := by decide +kernel
theorem dX11_init_149 : decode cX11_init 149 = .ok (.putfield 66, 3) := by decide +kernel
theorem dX11_init_152 : decode cX11_init 152 = .ok (.aload_n 0, 1) := by decide +kernel
theorem dX11_init_153 : decode cX11_init 153 = .ok (.iconst 5, 1) := by decide +kernel
theorem dX11_init_154 : decode cX11_init 154 = .ok (.newarray .int, 2) := by decide +kernel
theorem dX11_init_156 : decode cX11_init 156 = .ok (.putfield 69, 3) := by decide +kernel
theorem dX11_init_159 : decode cX11_init 159 = .ok (.aload_n 0, 1) := by decide +kernel
theorem dX11_init_160 : decode cX11_init 160 = .ok (.sipush 240, 3) := by decide +kernel
theorem dX11_init_163 : decode cX11_init 163 = .ok (.newarray .int, 2) := by decide +kernel
theorem dX11_init_165 : decode cX11_init 165 = .ok (.putfield 72, 3) := by decide +kernel
theorem dX11_init_168 : decode cX11_init 168 = .ok (.aload_n 0, 1) := by decide +kernel
theorem dX11_init_169 : decode cX11_init 169 = .ok (.bipush 40, 2) := by decide +kernel
theorem dX11_init_171 : decode cX11_init 171 = .ok (.newarray .int, 2) := by decide +kernel
theorem dX11_init_173 : decode cX11_init 173 = .ok (.putfield 75, 3) := by decide +kernel
theorem dX11_init_176 : decode cX11_init 176 = .ok (.aload_n 0, 1) := by decide +kernel
theorem dX11_init_177 : decode cX11_init 177 = .ok (.iconst 5, 1) := by decide +kernel
theorem dX11_init_178 : decode cX11_init 178 = .ok (.newarray .int, 2) := by decide +kernel
theorem dX11_init_180 : decode cX11_init 180 = .ok (.putfield 78, 3) := by decide +kernel
theorem dX11_init_183 : decode cX11_init 183 = .ok (.aload_n 0, 1) := by decide +kernel
theorem dX11_init_184 : decode cX11_init 184 = .ok (.iconst 5, 1) := by decide +kernel
theorem dX11_init_185 : decode cX11_init 185 = .ok (.newarray .int, 2) := by decide +kernel
theorem dX11_init_187 : decode cX11_init 187 = .ok (.putfield 81, 3) := by decide +kernel
theorem dX11_init_190 : decode cX11_init 190 = .ok (.aload_n 0, 1) := by decide +kernel
theorem dX11_init_191 : decode cX11_init 191 = .ok (.iconst 4, 1) := by decide +kernel
theorem dX11_init_192 : decode cX11_init 192 = .ok (.newarray .int, 2) := by decide +kernel
theorem dX11_init_194 : decode cX11_init 194 = .ok (.putfield 84, 3) := by decide +kernel
theorem dX11_init_197 : decode cX11_init 197 = .ok (.aload_n 0, 1) := by decide +kernel
theorem dX11_init_198 : decode cX11_init 198 = .ok (.iconst 5, 1) := by decide +kernel
theorem dX11_init_199 : decode cX11_init 199 = .ok (.newarray .int, 2) := by decide +kernel
theorem dX11_init_201 : decode cX11_init 201 = .ok (.putfield 87, 3) := by decide +kernel
theorem dX11_init_204 : decode cX11_init 204 = .ok (.aload_n 0, 1) := by decide +kernel
theorem dX11_init_205 : decode cX11_init 205 = .ok (.iconst 5, 1) := by decide +kernel
theorem dX11_init_206 : decode cX11_init 206 = .ok (.newarray .int, 2) := by decide +kernel
theorem dX11_init_208 : decode cX11_init 208 = .ok (.putfield 90, 3) := by decide +kernel
theorem dX11_init_211 : decode cX11_init 211 = .ok (.aload_n 0, 1) := by decide +kernel
theorem dX11_init_212 : decode cX11_init 212 = .ok (.bipush 30, 2) := by decide +kernel
theorem dX11_init_214 : decode cX11_init 214 = .ok (.newarray .int, 2) := by decide +kernel
theorem dX11_init_216 : decode cX11_init 216 = .ok (.putfield 93, 3) := by decide +kernel
theorem dX11_init_219 : decode cX11_init 219 = .ok (.aload_n 0, 1) := by decide +kernel
theorem dX11_init_220 : decode cX11_init 220 = .ok (.sipush 1000, 3) := by decide +kernel
theorem dX11_init_223 : decode cX11_init 223 = .ok (.newarray .int, 2) := by decide +kernel
theorem dX11_init_225 : decode cX11_init 225 = .ok (.putfield 96, 3) := by decide +kernel
theorem dX11_init_228 : decode cX11_init 228 = .ok (.aload_n 0, 1) := by decide +kernel
theorem dX11_init_229 : decode cX11_init 229 = .ok (.sipush 1000, 3) := by decide +kernel
theorem dX11_init_232 : decode cX11_init 232 = .ok (.newarray .int, 2) := by decide +kernel
theorem dX11_init_234 : decode cX11_init 234 = .ok (.putfield 99, 3) := by decide +kernel
theorem dX11_init_237 : decode cX11_init 237 = .ok (.aload_n 0, 1) := by decide +kernel
theorem dX11_init_238 : decode cX11_init 238 = .ok (.sipush 1000, 3) := by decide +kernel
theorem dX11_init_241 : decode cX11_init 241 = .ok (.newarray .int, 2) := by decide +kernel
theorem dX11_init_243 : decode cX11_init 243 = .ok (.putfield 102, 3) := by decide +kernel
theorem dX11_init_246 : decode cX11_init 246 = .ok (.aload_n 0, 1) := by decide +kernel
theorem dX11_init_247 : decode cX11_init 247 = .ok (.invokevirtual 105, 3) := by decide +kernel
theorem dX11_init_250 : decode cX11_init 250 = .ok (.return_, 1) := by decide +kernel
theorem dX11_thrown_0 : decode cX11_thrown 0 = .ok (.aload_n 0, 1) := by decide +kernel
theorem dX11_thrown_1 : decode cX11_thrown 1 = .ok (.getfield 108, 3) := by decide +kernel
theorem dX11_thrown_4 : decode cX11_thrown 4 = .ok (.ireturn, 1) := by decide +kernel
theorem dX11_in_0 : decode cX11_in 0 = .ok (.iload_n 0, 1) := by decide +kernel
theorem dX11_in_1 : decode cX11_in 1 = .ok (.iload_n 1, 1) := by decide +kernel
theorem dX11_in_2 : decode cX11_in 2 = .ok (.if_icmp .lt 12, 3) := by decide +kernel
theorem dX11_in_5 : decode cX11_in 5 = .ok (.iload_n 0, 1) := by decide +kernel
theorem dX11_in_6 : decode cX11_in 6 = .ok (.iload_n 2, 1) := by decide +kernel
theorem dX11_in_7 : decode cX11_in 7 = .ok (.if_icmp .gt 7, 3) := by decide +kernel
theorem dX11_in_10 : decode cX11_in 10 = .ok (.iconst 1, 1) := by decide +kernel
theorem dX11_in_11 : decode cX11_in 11 = .ok (.goto 4, 3) := by decide +kernel
theorem dX11_in_14 : decode cX11_in 14 = .ok (.iconst 0, 1) := by decide +kernel
theorem dX11_in_15 : decode cX11_in 15 = .ok (.ireturn, 1) := by decide +kernel
theorem dX11_asked_0 : decode cX11_asked 0 = .ok (.aload_n 0, 1) := by decide +kernel
theorem dX11_asked_1 : decode cX11_asked 1 = .ok (.iload_n 1, 1) := by decide +kernel
theorem dX11_asked_2 : decode cX11_asked 2 = .ok (.ifCond .eq 7, 3) := by decide +kernel
theorem dX11_asked_5 : decode cX11_asked 5 = .ok (.iconst 0, 1) := by decide +kernel
theorem dX11_asked_6 : decode cX11_asked 6 = .ok (.goto 4, 3) := by decide +kernel
theorem dX11_asked_9 : decode cX11_asked 9 = .ok (.iconst 1, 1) := by decide +kernel
theorem dX11_asked_10 : decode cX11_asked 10 = .ok (.putfield 108, 3) := by decide +kernel
theorem dX11_asked_13 : decode cX11_asked 13 = .ok (.iload_n 1, 1) := by decide +kernel
theorem dX11_asked_14 : decode cX11_asked 14 = .ok (.ireturn, 1) := by decide +kernel
theorem dX11_asked__0 : decode cX11_asked_ 0 = .ok (.aload_n 0, 1) := by decide +kernel
theorem dX11_asked__1 : decode cX11_asked_ 1 = .ok (.iload_n 1, 1) := by decide +kernel
theorem dX11_asked__2 : decode cX11_asked_ 2 = .ok (.ifCond .ne 7, 3) := by decide +kernel
theorem dX11_asked__5 : decode cX11_asked_ 5 = .ok (.iconst 1, 1) := by decide +kernel
theorem dX11_asked__6 : decode cX11_asked_ 6 = .ok (.goto 12, 3) := by decide +kernel
theorem dX11_asked__9 : decode cX11_asked_ 9 = .ok (.iload_n 2, 1) := by decide +kernel
theorem dX11_asked__10 : decode cX11_asked_ 10 = .ok (.ifCond .eq 7, 3) := by decide +kernel
theorem dX11_asked__13 : decode cX11_asked_ 13 = .ok (.iconst 0, 1) := by decide +kernel
theorem dX11_asked__14 : decode cX11_asked_ 14 = .ok (.goto 4, 3) := by decide +kernel
theorem dX11_asked__17 : decode cX11_asked_ 17 = .ok (.iconst 2, 1) := by decide +kernel
theorem dX11_asked__18 : decode cX11_asked_ 18 = .ok (.putfield 108, 3) := by decide +kernel
theorem dX11_asked__21 : decode cX11_asked_ 21 = .ok (.aload_n 0, 1) := by decide +kernel
theorem dX11_asked__22 : decode cX11_asked_ 22 = .ok (.getfield 108, 3) := by decide +kernel
theorem dX11_asked__25 : decode cX11_asked_ 25 = .ok (.ifCond .ne 7, 3) := by decide +kernel
theorem dX11_asked__28 : decode cX11_asked_ 28 = .ok (.iconst 1, 1) := by decide +kernel
theorem dX11_asked__29 : decode cX11_asked_ 29 = .ok (.goto 4, 3) := by decide +kernel
theorem dX11_asked__32 : decode cX11_asked_ 32 = .ok (.iconst 0, 1) := by decide +kernel
theorem dX11_asked__33 : decode cX11_asked_ 33 = .ok (.ireturn, 1) := by decide +kernel
theorem dX11_asked___0 : decode cX11_asked__ 0 = .ok (.aload_n 0, 1) := by decide +kernel
theorem dX11_asked___1 : decode cX11_asked__ 1 = .ok (.iload_n 1, 1) := by decide +kernel
theorem dX11_asked___2 : decode cX11_asked__ 2 = .ok (.ifCond .ne 7, 3) := by decide +kernel
theorem dX11_asked___5 : decode cX11_asked__ 5 = .ok (.iconst 1, 1) := by decide +kernel
theorem dX11_asked___6 : decode cX11_asked__ 6 = .ok (.goto 20, 3) := by decide +kernel
theorem dX11_asked___9 : decode cX11_asked__ 9 = .ok (.iload_n 2, 1) := by decide +kernel
theorem dX11_asked___10 : decode cX11_asked__ 10 = .ok (.ifCond .ne 7, 3) := by decide +kernel
theorem dX11_asked___13 : decode cX11_asked__ 13 = .ok (.iconst 2, 1) := by decide +kernel
theorem dX11_asked___14 : decode cX11_asked__ 14 = .ok (.goto 12, 3) := by decide +kernel
theorem dX11_asked___17 : decode cX11_asked__ 17 = .ok (.iload_n 3, 1) := by decide +kernel
theorem dX11_asked___18 : decode cX11_asked__ 18 = .ok (.ifCond .eq 7, 3) := by decide +kernel
theorem dX11_asked___21 : decode cX11_asked__ 21 = .ok (.iconst 0, 1) := by decide +kernel
theorem dX11_asked___22 : decode cX11_asked__ 22 = .ok (.goto 4, 3) := by decide +kernel
theorem dX11_asked___25 : decode cX11_asked__ 25 = .ok (.iconst 3, 1) := by decide +kernel
theorem dX11_asked___26 : decode cX11_asked__ 26 = .ok (.putfield 108, 3) := by decide +kernel
theorem dX11_asked___29 : decode cX11_asked__ 29 = .ok (.aload_n 0, 1) := by decide +kernel
theorem dX11_asked___30 : decode cX11_asked__ 30 = .ok (.getfield 108, 3) := by decide +kernel
theorem dX11_asked___33 : decode cX11_asked__ 33 = .ok (.ifCond .ne 7, 3) := by decide +kernel
theorem dX11_asked___36 : decode cX11_asked__ 36 = .ok (.iconst 1, 1) := by decide +kernel
theorem dX11_asked___37 : decode cX11_asked__ 37 = .ok (.goto 4, 3) := by decide +kernel
theorem dX11_asked___40 : decode cX11_asked__ 40 = .ok (.iconst 0, 1) := by decide +kernel
theorem dX11_asked___41 : decode cX11_asked__ 41 = .ok (.ireturn, 1) := by decide +kernel
theorem dX11_told_0 : decode cX11_told 0 = .ok (.aload_n 0, 1) := by decide +kernel
theorem dX11_told_1 : decode cX11_told 1 = .ok (.iconst 0, 1) := by decide +kernel
theorem dX11_told_2 : decode cX11_told 2 = .ok (.putfield 108, 3) := by decide +kernel
theorem dX11_told_5 : decode cX11_told 5 = .ok (.iload_n 1, 1) := by decide +kernel
theorem dX11_told_6 : decode cX11_told 6 = .ok (.ireturn, 1) := by decide +kernel
set_option maxRecDepth 20000 in
theorem ggX11_isCrossing_X11_in : GoodIn wsX11_isCrossing wsX11_in := goodIn_r _ [4] (by decide +kernel) (by decide +kernel)
set_option maxRecDepth 20000 in
theorem gX11_isCrossing_X11_in : GoodIn wsX11_isCrossing (va_wsS RX11 111 yX11_in wsX11_in) := goodIn_app (goodIn_of _ (by decide +kernel)) ggX11_isCrossing_X11_in
theorem dX11_isCrossing_0 : decode cX11_isCrossing 0 = .ok (.iload_n 0, 1) := by decide +kernel
theorem dX11_isCrossing_1 : decode cX11_isCrossing 1 = .ok (.iconst 0, 1) := by decide +kernel
theorem dX11_isCrossing_2 : decode cX11_isCrossing 2 = .ok (.bipush 35, 2) := by decide +kernel
theorem dX11_isCrossing_4 : decode cX11_isCrossing 4 = .ok (.invokestatic 111, 3) := by decide +kernel
theorem dX11_isCrossing_7 : decode cX11_isCrossing 7 = .ok (.ireturn, 1) := by decide +kernel
set_option maxRecDepth 20000 in
theorem ggX11_isStation_X11_in : GoodIn wsX11_isStation wsX11_in := goodIn_r _ [5] (by decide +kernel) (by decide +kernel)
set_option maxRecDepth 20000 in
theorem gX11_isStation_X11_in : GoodIn wsX11_isStation (va_wsS RX11 111 yX11_in wsX11_in) := goodIn_app (goodIn_of _ (by decide +kernel)) ggX11_isStation_X11_in
theorem dX11_isStation_0 : decode cX11_isStation 0 = .ok (.iload_n 1, 1) := by decide +kernel
theorem dX11_isStation_1 : decode cX11_isStation 1 = .ok (.iconst 0, 1) := by decide +kernel
theorem dX11_isStation_2 : decode cX11_isStation 2 = .ok (.aload_n 0, 1) := by decide +kernel
theorem dX11_isStation_3 : decode cX11_isStation 3 = .ok (.getfield 115, 3) := by decide +kernel
theorem dX11_isStation_6 : decode cX11_isStation 6 = .ok (.iconst 1, 1) := by decide +kernel
theorem dX11_isStation_7 : decode cX11_isStation 7 = .ok (.isub, 1) := by decide +kernel
theorem dX11_isStation_8 : decode cX11_isStation 8 = .ok (.invokestatic 111, 3) := by decide +kernel
theorem dX11_isStation_11 : decode cX11_isStation 11 = .ok (.ireturn, 1) := by decide +kernel
set_option maxRecDepth 20000 in
theorem ggX11_isPerson_X11_in : GoodIn wsX11_isPerson wsX11_in := goodIn_r _ [5] (by decide +kernel) (by decide +kernel)
set_option maxRecDepth 20000 in
theorem gX11_isPerson_X11_in : GoodIn wsX11_isPerson (va_wsS RX11 111 yX11_in wsX11_in) := goodIn_app (goodIn_of _ (by decide +kernel)) ggX11_isPerson_X11_in
theorem dX11_isPerson_0 : decode cX11_isPerson 0 = .ok (.iload_n 1, 1) := by decide +kernel
theorem dX11_isPerson_1 : decode cX11_isPerson 1 = .ok (.iconst 0, 1) := by decide +kernel
theorem dX11_isPerson_2 : decode cX11_isPerson 2 = .ok (.aload_n 0, 1) := by decide +kernel
theorem dX11_isPerson_3 : decode cX11_isPerson 3 = .ok (.getfield 118, 3) := by decide +kernel
theorem dX11_isPerson_6 : decode cX11_isPerson 6 = .ok (.iconst 1, 1) := by decide +kernel
theorem dX11_isPerson_7 : decode cX11_isPerson 7 = .ok (.isub, 1) := by decide +kernel
theorem dX11_isPerson_8 : decode cX11_isPerson 8 = .ok (.invokestatic 111, 3) := by decide +kernel
theorem dX11_isPerson_11 : decode cX11_isPerson 11 = .ok (.ireturn, 1) := by decide +kernel
theorem dX11_street_0 : decode cX11_street 0 = .ok (.iload_n 0, 1) := by decide +kernel
theorem dX11_street_1 : decode cX11_street 1 = .ok (.iload_n 1, 1) := by decide +kernel
theorem dX11_street_2 : decode cX11_street 2 = .ok (.if_icmp .ge 7, 3) := by decide +kernel
theorem dX11_street_5 : decode cX11_street 5 = .ok (.iload_n 0, 1) := by decide +kernel
theorem dX11_street_6 : decode cX11_street 6 = .ok (.goto 4, 3) := by decide +kernel
theorem dX11_street_9 : decode cX11_street 9 = .ok (.iload_n 1, 1) := by decide +kernel
theorem dX11_street_10 : decode cX11_street 10 = .ok (.istore_n 2, 1) := by decide +kernel
theorem dX11_street_11 : decode cX11_street 11 = .ok (.iload_n 0, 1) := by decide +kernel
theorem dX11_street_12 : decode cX11_street 12 = .ok (.iload_n 1, 1) := by decide +kernel
theorem dX11_street_13 : decode cX11_street 13 = .ok (.if_icmp .ge 7, 3) := by decide +kernel
theorem dX11_street_16 : decode cX11_street 16 = .ok (.iload_n 1, 1) := by decide +kernel
theorem dX11_street_17 : decode cX11_street 17 = .ok (.goto 4, 3) := by decide +kernel
theorem dX11_street_20 : decode cX11_street 20 = .ok (.iload_n 0, 1) := by decide +kernel
theorem dX11_street_21 : decode cX11_street 21 = .ok (.istore_n 3, 1) := by decide +kernel
theorem dX11_street_22 : decode cX11_street 22 = .ok (.iload_n 3, 1) := by decide +kernel
theorem dX11_street_23 : decode cX11_street 23 = .ok (.iload_n 2, 1) := by decide +kernel
theorem dX11_street_24 : decode cX11_street 24 = .ok (.isub, 1) := by decide +kernel
theorem dX11_street_25 : decode cX11_street 25 = .ok (.iconst 1, 1) := by decide +kernel
theorem dX11_street_26 : decode cX11_street 26 = .ok (.if_icmp .ne 14, 3) := by decide +kernel
theorem dX11_street_29 : decode cX11_street 29 = .ok (.iload_n 3, 1) := by decide +kernel
theorem dX11_street_30 : decode cX11_street 30 = .ok (.bipush 6, 2) := by decide +kernel
theorem dX11_street_32 : decode cX11_street 32 = .ok (.irem, 1) := by decide +kernel
theorem dX11_street_33 : decode cX11_street 33 = .ok (.ifCond .le 7, 3) := by decide +kernel
theorem dX11_street_36 : decode cX11_street 36 = .ok (.iload_n 2, 1) := by decide +kernel
theorem dX11_street_37 : decode cX11_street 37 = .ok (.goto 19, 3) := by decide +kernel
theorem dX11_street_40 : decode cX11_street 40 = .ok (.iload_n 3, 1) := by decide +kernel
theorem dX11_street_41 : decode cX11_street 41 = .ok (.iload_n 2, 1) := by decide +kernel
theorem dX11_street_42 : decode cX11_street 42 = .ok (.isub, 1) := by decide +kernel
theorem dX11_street_43 : decode cX11_street 43 = .ok (.bipush 6, 2) := by decide +kernel
theorem dX11_street_45 : decode cX11_street 45 = .ok (.if_icmp .ne 10, 3) := by decide +kernel
theorem dX11_street_48 : decode cX11_street 48 = .ok (.bipush 36, 2) := by decide +kernel
theorem dX11_street_50 : decode cX11_street 50 = .ok (.iload_n 2, 1) := by decide +kernel
theorem dX11_street_51 : decode cX11_street 51 = .ok (.iadd, 1) := by decide +kernel
theorem dX11_street_52 : decode cX11_street 52 = .ok (.goto 4, 3) := by decide +kernel
theorem dX11_street_55 : decode cX11_street 55 = .ok (.iconst (-1), 1) := by decide +kernel
theorem dX11_street_56 : decode cX11_street 56 = .ok (.ireturn, 1) := by decide +kernel
set_option maxRecDepth 20000 in
theorem ggX11_bar_X11_isCrossing : GoodIn wsX11_bar wsX11_isCrossing := goodIn_r _ [5, 6, 7, 4, 8] (by decide +kernel) (by decide +kernel)
set_option maxRecDepth 20000 in
theorem gX11_bar_X11_isCrossing : GoodIn wsX11_bar (va_wsS RX11 121 yX11_isCrossing wsX11_isCrossing) := goodIn_app (goodIn_of _ (by decide +kernel)) ggX11_bar_X11_isCrossing
set_option maxRecDepth 20000 in
theorem ggX11_bar_X11_street : GoodIn wsX11_bar wsX11_street := goodIn_r _ [11] (by decide +kernel) (by decide +kernel)
set_option maxRecDepth 20000 in
theorem gX11_bar_X11_street : GoodIn wsX11_bar (va_wsS RX11 125 yX11_street wsX11_street) := goodIn_app (goodIn_of _ (by decide +kernel)) ggX11_bar_X11_street
set_option maxRecDepth 20000 in
theorem ggX11_bar_X11_asked_ : GoodIn wsX11_bar wsX11_asked_ := goodIn_r _ [15, 16, 17, 18, 19, 20, 21, 22, 23, 24, 25, 26, 27, 28, 29, 30, 31, 32, 33, 34, 35, 36, 37, 38, 39, 40, 41, 42, 43, 44, 45, 46, 47, 48, 49, 50, 51, 52, 53, 54, 55, 56, 57, 58, 59, 60] (by decide +kernel) (by decide +kernel)
set_option maxRecDepth 20000 in
theorem gX11_bar_X11_asked_ : GoodIn wsX11_bar (wsV RX11 129 RX11 yX11_asked_ wsX11_asked_) := goodIn_app (goodIn_of _ (by decide +kernel)) ggX11_bar_X11_asked_
theorem dX11_bar_0 : decode cX11_bar 0 = .ok (.iload_n 1, 1) := by decide +kernel
theorem dX11_bar_1 : decode cX11_bar 1 = .ok (.invokestatic 121, 3) := by decide +kernel
theorem dX11_bar_4 : decode cX11_bar 4 = .ok (.ifCond .eq 14, 3) := by decide +kernel
theorem dX11_bar_7 : decode cX11_bar 7 = .ok (.iload_n 2, 1) := by decide +kernel
theorem dX11_bar_8 : decode cX11_bar 8 = .ok (.invokestatic 121, 3) := by decide +kernel
theorem dX11_bar_11 : decode cX11_bar 11 = .ok (.ifCond .eq 7, 3) := by decide +kernel
theorem dX11_bar_14 : decode cX11_bar 14 = .ok (.iconst 1, 1) := by decide +kernel
theorem dX11_bar_15 : decode cX11_bar 15 = .ok (.goto 4, 3) := by decide +kernel
theorem dX11_bar_18 : decode cX11_bar 18 = .ok (.iconst 0, 1) := by decide +kernel
theorem dX11_bar_19 : decode cX11_bar 19 = .ok (.istore 4, 2) := by decide +kernel
theorem dX11_bar_21 : decode cX11_bar 21 = .ok (.iload 4, 2) := by decide +kernel
theorem dX11_bar_23 : decode cX11_bar 23 = .ok (.ifCond .eq 11, 3) := by decide +kernel
theorem dX11_bar_26 : decode cX11_bar 26 = .ok (.iload_n 1, 1) := by decide +kernel
theorem dX11_bar_27 : decode cX11_bar 27 = .ok (.iload_n 2, 1) := by decide +kernel
theorem dX11_bar_28 : decode cX11_bar 28 = .ok (.invokestatic 125, 3) := by decide +kernel
theorem dX11_bar_31 : decode cX11_bar 31 = .ok (.goto 4, 3) := by decide +kernel
theorem dX11_bar_34 : decode cX11_bar 34 = .ok (.iconst (-1), 1) := by decide +kernel
theorem dX11_bar_35 : decode cX11_bar 35 = .ok (.istore 5, 2) := by decide +kernel
theorem dX11_bar_37 : decode cX11_bar 37 = .ok (.aload_n 0, 1) := by decide +kernel
theorem dX11_bar_38 : decode cX11_bar 38 = .ok (.iload 4, 2) := by decide +kernel
theorem dX11_bar_40 : decode cX11_bar 40 = .ok (.iload 5, 2) := by decide +kernel
theorem dX11_bar_42 : decode cX11_bar 42 = .ok (.iconst (-1), 1) := by decide +kernel
theorem dX11_bar_43 : decode cX11_bar 43 = .ok (.if_icmp .eq 7, 3) := by decide +kernel
theorem dX11_bar_46 : decode cX11_bar 46 = .ok (.iconst 1, 1) := by decide +kernel
theorem dX11_bar_47 : decode cX11_bar 47 = .ok (.goto 4, 3) := by decide +kernel
theorem dX11_bar_50 : decode cX11_bar 50 = .ok (.iconst 0, 1) := by decide +kernel
theorem dX11_bar_51 : decode cX11_bar 51 = .ok (.invokevirtual 129, 3) := by decide +kernel
theorem dX11_bar_54 : decode cX11_bar 54 = .ok (.ifCond .ne 5, 3) := by decide +kernel
theorem dX11_bar_57 : decode cX11_bar 57 = .ok (.iconst 0, 1) := by decide +kernel
theorem dX11_bar_58 : decode cX11_bar 58 = .ok (.ireturn, 1) := by decide +kernel
theorem dX11_bar_59 : decode cX11_bar 59 = .ok (.aload_n 0, 1) := by decide +kernel
theorem dX11_bar_60 : decode cX11_bar 60 = .ok (.getfield 7, 3) := by decide +kernel
theorem dX11_bar_63 : decode cX11_bar 63 = .ok (.iload 5, 2) := by decide +kernel
theorem dX11_bar_65 : decode cX11_bar 65 = .ok (.baload, 1) := by decide +kernel
theorem dX11_bar_66 : decode cX11_bar 66 = .ok (.istore 6, 2) := by decide +kernel
theorem dX11_bar_68 : decode cX11_bar 68 = .ok (.aload_n 0, 1) := by decide +kernel
theorem dX11_bar_69 : decode cX11_bar 69 = .ok (.getfield 7, 3) := by decide +kernel
theorem dX11_bar_72 : decode cX11_bar 72 = .ok (.iload 5, 2) := by decide +kernel
theorem dX11_bar_74 : decode cX11_bar 74 = .ok (.iload_n 3, 1) := by decide +kernel
theorem dX11_bar_75 : decode cX11_bar 75 = .ok (.bastore, 1) := by decide +kernel
theorem dX11_bar_76 : decode cX11_bar 76 = .ok (.iload 6, 2) := by decide +kernel
theorem dX11_bar_78 : decode cX11_bar 78 = .ok (.ireturn, 1) := by decide +kernel
set_option maxRecDepth 20000 in
theorem ggX11_finds_X11_street : GoodIn wsX11_finds wsX11_street := goodIn_r _ [7] (by decide +kernel) (by decide +kernel)
set_option maxRecDepth 20000 in
theorem gX11_finds_X11_street : GoodIn wsX11_finds (va_wsS RX11 125 yX11_street wsX11_street) := goodIn_app (goodIn_of _ (by decide +kernel)) ggX11_finds_X11_street
theorem dX11_finds_0 : decode cX11_finds 0 = .ok (.iconst 0, 1) := by decide +kernel
theorem dX11_finds_1 : decode cX11_finds 1 = .ok (.istore_n 2, 1) := by decide +kernel
theorem dX11_finds_2 : decode cX11_finds 2 = .ok (.iload_n 2, 1) := by decide +kernel
theorem dX11_finds_3 : decode cX11_finds 3 = .ok (.bipush 36, 2) := by decide +kernel
theorem dX11_finds_5 : decode cX11_finds 5 = .ok (.if_icmp .ge 16, 3) := by decide +kernel
theorem dX11_finds_8 : decode cX11_finds 8 = .ok (.aload_n 0, 1) := by decide +kernel
theorem dX11_finds_9 : decode cX11_finds 9 = .ok (.getfield 13, 3) := by decide +kernel
theorem dX11_finds_12 : decode cX11_finds 12 = .ok (.iload_n 2, 1) := by decide +kernel
theorem dX11_finds_13 : decode cX11_finds 13 = .ok (.iconst (-1), 1) := by decide +kernel
theorem dX11_finds_14 : decode cX11_finds 14 = .ok (.iastore, 1) := by decide +kernel
theorem dX11_finds_15 : decode cX11_finds 15 = .ok (.iinc 2 1, 3) := by decide +kernel
theorem dX11_finds_18 : decode cX11_finds 18 = .ok (.goto (-16), 3) := by decide +kernel
theorem dX11_finds_21 : decode cX11_finds 21 = .ok (.aload_n 0, 1) := by decide +kernel
theorem dX11_finds_22 : decode cX11_finds 22 = .ok (.getfield 13, 3) := by decide +kernel
theorem dX11_finds_25 : decode cX11_finds 25 = .ok (.iload_n 1, 1) := by decide +kernel
theorem dX11_finds_26 : decode cX11_finds 26 = .ok (.iconst 0, 1) := by decide +kernel
theorem dX11_finds_27 : decode cX11_finds 27 = .ok (.iastore, 1) := by decide +kernel
theorem dX11_finds_28 : decode cX11_finds 28 = .ok (.aload_n 0, 1) := by decide +kernel
theorem dX11_finds_29 : decode cX11_finds 29 = .ok (.getfield 17, 3) := by decide +kernel
theorem dX11_finds_32 : decode cX11_finds 32 = .ok (.iconst 0, 1) := by decide +kernel
theorem dX11_finds_33 : decode cX11_finds 33 = .ok (.iload_n 1, 1) := by decide +kernel
theorem dX11_finds_34 : decode cX11_finds 34 = .ok (.iastore, 1) := by decide +kernel
theorem dX11_finds_35 : decode cX11_finds 35 = .ok (.iconst 1, 1) := by decide +kernel
theorem dX11_finds_36 : decode cX11_finds 36 = .ok (.istore_n 2, 1) := by decide +kernel
theorem dX11_finds_37 : decode cX11_finds 37 = .ok (.iconst 0, 1) := by decide +kernel
theorem dX11_finds_38 : decode cX11_finds 38 = .ok (.istore_n 3, 1) := by decide +kernel
theorem dX11_finds_39 : decode cX11_finds 39 = .ok (.iload_n 3, 1) := by decide +kernel
theorem dX11_finds_40 : decode cX11_finds 40 = .ok (.iload_n 2, 1) := by decide +kernel
theorem dX11_finds_41 : decode cX11_finds 41 = .ok (.if_icmp .ge 96, 3) := by decide +kernel
theorem dX11_finds_44 : decode cX11_finds 44 = .ok (.iconst 0, 1) := by decide +kernel
theorem dX11_finds_45 : decode cX11_finds 45 = .ok (.istore 4, 2) := by decide +kernel
theorem dX11_finds_47 : decode cX11_finds 47 = .ok (.iload 4, 2) := by decide +kernel
theorem dX11_finds_49 : decode cX11_finds 49 = .ok (.bipush 36, 2) := by decide +kernel
theorem dX11_finds_51 : decode cX11_finds 51 = .ok (.if_icmp .ge 80, 3) := by decide +kernel
theorem dX11_finds_54 : decode cX11_finds 54 = .ok (.aload_n 0, 1) := by decide +kernel
theorem dX11_finds_55 : decode cX11_finds 55 = .ok (.getfield 17, 3) := by decide +kernel
theorem dX11_finds_58 : decode cX11_finds 58 = .ok (.iload_n 3, 1) := by decide +kernel
theorem dX11_finds_59 : decode cX11_finds 59 = .ok (.iaload, 1) := by decide +kernel
theorem dX11_finds_60 : decode cX11_finds 60 = .ok (.iload 4, 2) := by decide +kernel
theorem dX11_finds_62 : decode cX11_finds 62 = .ok (.invokestatic 125, 3) := by decide +kernel
theorem dX11_finds_65 : decode cX11_finds 65 = .ok (.istore 5, 2) := by decide +kernel
theorem dX11_finds_67 : decode cX11_finds 67 = .ok (.iload 5, 2) := by decide +kernel
theorem dX11_finds_69 : decode cX11_finds 69 = .ok (.iconst (-1), 1) := by decide +kernel
theorem dX11_finds_70 : decode cX11_finds 70 = .ok (.if_icmp .eq 55, 3) := by decide +kernel
theorem dX11_finds_73 : decode cX11_finds 73 = .ok (.aload_n 0, 1) := by decide +kernel
theorem dX11_finds_74 : decode cX11_finds 74 = .ok (.getfield 7, 3) := by decide +kernel
theorem dX11_finds_77 : decode cX11_finds 77 = .ok (.iload 5, 2) := by decide +kernel
theorem dX11_finds_79 : decode cX11_finds 79 = .ok (.baload, 1) := by decide +kernel
theorem dX11_finds_80 : decode cX11_finds 80 = .ok (.ifCond .ne 45, 3) := by decide +kernel
theorem dX11_finds_83 : decode cX11_finds 83 = .ok (.aload_n 0, 1) := by decide +kernel
theorem dX11_finds_84 : decode cX11_finds 84 = .ok (.getfield 13, 3) := by decide +kernel
theorem dX11_finds_87 : decode cX11_finds 87 = .ok (.iload 4, 2) := by decide +kernel
theorem dX11_finds_89 : decode cX11_finds 89 = .ok (.iaload, 1) := by decide +kernel
theorem dX11_finds_90 : decode cX11_finds 90 = .ok (.iconst (-1), 1) := by decide +kernel
theorem dX11_finds_91 : decode cX11_finds 91 = .ok (.if_icmp .ne 34, 3) := by decide +kernel
theorem dX11_finds_94 : decode cX11_finds 94 = .ok (.aload_n 0, 1) := by decide +kernel
theorem dX11_finds_95 : decode cX11_finds 95 = .ok (.getfield 13, 3) := by decide +kernel
theorem dX11_finds_98 : decode cX11_finds 98 = .ok (.iload 4, 2) := by decide +kernel
theorem dX11_finds_100 : decode cX11_finds 100 = .ok (.aload_n 0, 1) := by decide +kernel
theorem dX11_finds_101 : decode cX11_finds 101 = .ok (.getfield 13, 3) := by decide +kernel
theorem dX11_finds_104 : decode cX11_finds 104 = .ok (.aload_n 0, 1) := by decide +kernel
theorem dX11_finds_105 : decode cX11_finds 105 = .ok (.getfield 17, 3) := by decide +kernel
theorem dX11_finds_108 : decode cX11_finds 108 = .ok (.iload_n 3, 1) := by decide +kernel
theorem dX11_finds_109 : decode cX11_finds 109 = .ok (.iaload, 1) := by decide +kernel
theorem dX11_finds_110 : decode cX11_finds 110 = .ok (.iaload, 1) := by decide +kernel
theorem dX11_finds_111 : decode cX11_finds 111 = .ok (.iconst 1, 1) := by decide +kernel
theorem dX11_finds_112 : decode cX11_finds 112 = .ok (.iadd, 1) := by decide +kernel
theorem dX11_finds_113 : decode cX11_finds 113 = .ok (.iastore, 1) := by decide +kernel
theorem dX11_finds_114 : decode cX11_finds 114 = .ok (.aload_n 0, 1) := by decide +kernel
theorem dX11_finds_115 : decode cX11_finds 115 = .ok (.getfield 17, 3) := by decide +kernel
theorem dX11_finds_118 : decode cX11_finds 118 = .ok (.iload_n 2, 1) := by decide +kernel
theorem dX11_finds_119 : decode cX11_finds 119 = .ok (.iload 4, 2) := by decide +kernel
theorem dX11_finds_121 : decode cX11_finds 121 = .ok (.iastore, 1) := by decide +kernel
theorem dX11_finds_122 : decode cX11_finds 122 = .ok (.iinc 2 1, 3) := by decide +kernel
theorem dX11_finds_125 : decode cX11_finds 125 = .ok (.iinc 4 1, 3) := by decide +kernel
theorem dX11_finds_128 : decode cX11_finds 128 = .ok (.goto (-81), 3) := by decide +kernel
theorem dX11_finds_131 : decode cX11_finds 131 = .ok (.iinc 3 1, 3) := by decide +kernel
theorem dX11_finds_134 : decode cX11_finds 134 = .ok (.goto (-95), 3) := by decide +kernel
theorem dX11_finds_137 : decode cX11_finds 137 = .ok (.return_, 1) := by decide +kernel
set_option maxRecDepth 20000 in
theorem ggX11_way_X11_isCrossing : GoodIn wsX11_way wsX11_isCrossing := goodIn_r _ [5, 6, 7, 4, 8] (by decide +kernel) (by decide +kernel)
set_option maxRecDepth 20000 in
theorem gX11_way_X11_isCrossing : GoodIn wsX11_way (va_wsS RX11 121 yX11_isCrossing wsX11_isCrossing) := goodIn_app (goodIn_of _ (by decide +kernel)) ggX11_way_X11_isCrossing
set_option maxRecDepth 20000 in
theorem ggX11_way_X11_asked : GoodIn wsX11_way wsX11_asked := goodIn_r _ [12, 13, 23, 24, 25, 26, 27, 28, 29, 30, 31, 32, 33, 34, 35, 36, 37, 38, 39, 40, 41, 42, 43, 44, 45, 46, 47, 48, 49, 50, 51, 52, 53, 54, 55, 56, 57, 58, 59, 60, 61, 62, 63, 64, 65, 66] (by decide +kernel) (by decide +kernel)
set_option maxRecDepth 20000 in
theorem gX11_way_X11_asked : GoodIn wsX11_way (wsV RX11 133 RX11 yX11_asked wsX11_asked) := goodIn_app (goodIn_of _ (by decide +kernel)) ggX11_way_X11_asked
set_option maxRecDepth 20000 in
theorem ggX11_way_X11_finds : GoodIn wsX11_way wsX11_finds := goodIn_ca (goodIn_r _ [17, 1, 18, 19, 20, 21, 4, 22, 23, 24, 25, 26, 27, 28, 29, 30, 31, 32, 33, 34, 35, 36, 37, 38, 39, 40, 41, 42, 43, 44, 45, 46, 47, 48, 49, 50, 51, 52, 53, 54, 55, 56, 57, 58, 59, 60, 61, 62, 63, 64, 65, 66] (by decide +kernel) (by decide +kernel)) (goodIn_sub (fun _ h => List.mem_cons_of_mem _ (List.mem_append_right _ h)) (by decide +kernel))
set_option maxRecDepth 20000 in
theorem gX11_way_X11_finds : GoodIn wsX11_way (wsV RX11 136 RX11 yX11_finds wsX11_finds) := goodIn_app (goodIn_of _ (by decide +kernel)) ggX11_way_X11_finds
theorem dX11_way_0 : decode cX11_way 0 = .ok (.aload_n 0, 1) := by decide +kernel
theorem dX11_way_1 : decode cX11_way 1 = .ok (.iload_n 1, 1) := by decide +kernel
theorem dX11_way_2 : decode cX11_way 2 = .ok (.invokestatic 121, 3) := by decide +kernel
theorem dX11_way_5 : decode cX11_way 5 = .ok (.ifCond .eq 14, 3) := by decide +kernel
theorem dX11_way_8 : decode cX11_way 8 = .ok (.iload_n 2, 1) := by decide +kernel
theorem dX11_way_9 : decode cX11_way 9 = .ok (.invokestatic 121, 3) := by decide +kernel
theorem dX11_way_12 : decode cX11_way 12 = .ok (.ifCond .eq 7, 3) := by decide +kernel
theorem dX11_way_15 : decode cX11_way 15 = .ok (.iconst 1, 1) := by decide +kernel
theorem dX11_way_16 : decode cX11_way 16 = .ok (.goto 4, 3) := by decide +kernel
theorem dX11_way_19 : decode cX11_way 19 = .ok (.iconst 0, 1) := by decide +kernel
theorem dX11_way_20 : decode cX11_way 20 = .ok (.invokevirtual 133, 3) := by decide +kernel
theorem dX11_way_23 : decode cX11_way 23 = .ok (.ifCond .ne 5, 3) := by decide +kernel
theorem dX11_way_26 : decode cX11_way 26 = .ok (.iconst 0, 1) := by decide +kernel
theorem dX11_way_27 : decode cX11_way 27 = .ok (.ireturn, 1) := by decide +kernel
theorem dX11_way_28 : decode cX11_way 28 = .ok (.aload_n 0, 1) := by decide +kernel
theorem dX11_way_29 : decode cX11_way 29 = .ok (.iload_n 1, 1) := by decide +kernel
theorem dX11_way_30 : decode cX11_way 30 = .ok (.invokevirtual 136, 3) := by decide +kernel
theorem dX11_way_33 : decode cX11_way 33 = .ok (.aload_n 0, 1) := by decide +kernel
theorem dX11_way_34 : decode cX11_way 34 = .ok (.getfield 13, 3) := by decide +kernel
theorem dX11_way_37 : decode cX11_way 37 = .ok (.iload_n 2, 1) := by decide +kernel
theorem dX11_way_38 : decode cX11_way 38 = .ok (.iaload, 1) := by decide +kernel
theorem dX11_way_39 : decode cX11_way 39 = .ok (.ireturn, 1) := by decide +kernel
set_option maxRecDepth 20000 in
theorem ggX11_station_X11_isCrossing : GoodIn wsX11_station wsX11_isCrossing := goodIn_r _ [7, 8, 9, 6, 10] (by decide +kernel) (by decide +kernel)
set_option maxRecDepth 20000 in
theorem gX11_station_X11_isCrossing : GoodIn wsX11_station (va_wsS RX11 121 yX11_isCrossing wsX11_isCrossing) := goodIn_app (goodIn_of _ (by decide +kernel)) ggX11_station_X11_isCrossing
set_option maxRecDepth 20000 in
theorem ggX11_station_X11_in : GoodIn wsX11_station wsX11_in := goodIn_r _ [10] (by decide +kernel) (by decide +kernel)
