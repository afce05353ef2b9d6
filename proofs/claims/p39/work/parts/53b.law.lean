theorem dL_town_77 : decode cL_town 77 = .ok (.isub, 1) := by decide +kernel
theorem dL_town_78 : decode cL_town 78 = .ok (.goto 8, 3) := by decide +kernel
theorem dL_town_81 : decode cL_town 81 = .ok (.iload 5, 2) := by decide +kernel
theorem dL_town_83 : decode cL_town 83 = .ok (.bipush 6, 2) := by decide +kernel
theorem dL_town_85 : decode cL_town 85 = .ok (.iadd, 1) := by decide +kernel
theorem dL_town_86 : decode cL_town 86 = .ok (.istore 7, 2) := by decide +kernel
theorem dL_town_88 : decode cL_town 88 = .ok (.aload_n 0, 1) := by decide +kernel
theorem dL_town_89 : decode cL_town 89 = .ok (.iload 5, 2) := by decide +kernel
theorem dL_town_91 : decode cL_town 91 = .ok (.iload 7, 2) := by decide +kernel
theorem dL_town_93 : decode cL_town 93 = .ok (.iload 4, 2) := by decide +kernel
theorem dL_town_95 : decode cL_town 95 = .ok (.bipush 72, 2) := by decide +kernel
theorem dL_town_97 : decode cL_town 97 = .ok (.idiv, 1) := by decide +kernel
theorem dL_town_98 : decode cL_town 98 = .ok (.iconst 3, 1) := by decide +kernel
theorem dL_town_99 : decode cL_town 99 = .ok (.irem, 1) := by decide +kernel
theorem dL_town_100 : decode cL_town 100 = .ok (.ifCond .le 7, 3) := by decide +kernel
theorem dL_town_103 : decode cL_town 103 = .ok (.iconst 1, 1) := by decide +kernel
theorem dL_town_104 : decode cL_town 104 = .ok (.goto 4, 3) := by decide +kernel
theorem dL_town_107 : decode cL_town 107 = .ok (.iconst 0, 1) := by decide +kernel
theorem dL_town_108 : decode cL_town 108 = .ok (.invokestatic 116, 3) := by decide +kernel
theorem dL_town_111 : decode cL_town 111 = .ok (.aload_n 1, 1) := by decide +kernel
theorem dL_town_112 : decode cL_town 112 = .ok (.iload 5, 2) := by decide +kernel
theorem dL_town_114 : decode cL_town 114 = .ok (.invokestatic 121, 3) := by decide +kernel
theorem dL_town_117 : decode cL_town 117 = .ok (.iload 7, 2) := by decide +kernel
theorem dL_town_119 : decode cL_town 119 = .ok (.invokestatic 121, 3) := by decide +kernel
theorem dL_town_122 : decode cL_town 122 = .ok (.iload 4, 2) := by decide +kernel
theorem dL_town_124 : decode cL_town 124 = .ok (.bipush 72, 2) := by decide +kernel
theorem dL_town_126 : decode cL_town 126 = .ok (.idiv, 1) := by decide +kernel
theorem dL_town_127 : decode cL_town 127 = .ok (.iconst 3, 1) := by decide +kernel
theorem dL_town_128 : decode cL_town 128 = .ok (.irem, 1) := by decide +kernel
theorem dL_town_129 : decode cL_town 129 = .ok (.ifCond .le 7, 3) := by decide +kernel
theorem dL_town_132 : decode cL_town 132 = .ok (.iconst 1, 1) := by decide +kernel
theorem dL_town_133 : decode cL_town 133 = .ok (.goto 4, 3) := by decide +kernel
theorem dL_town_136 : decode cL_town 136 = .ok (.iconst 0, 1) := by decide +kernel
theorem dL_town_137 : decode cL_town 137 = .ok (.invokestatic 116, 3) := by decide +kernel
theorem dL_town_140 : decode cL_town 140 = .ok (.if_icmp .ne 7, 3) := by decide +kernel
theorem dL_town_143 : decode cL_town 143 = .ok (.iconst 1, 1) := by decide +kernel
theorem dL_town_144 : decode cL_town 144 = .ok (.goto 4, 3) := by decide +kernel
theorem dL_town_147 : decode cL_town 147 = .ok (.iconst 0, 1) := by decide +kernel
theorem dL_town_148 : decode cL_town 148 = .ok (.ireturn, 1) := by decide +kernel
theorem dL_town_149 : decode cL_town 149 = .ok (.iload_n 3, 1) := by decide +kernel
theorem dL_town_150 : decode cL_town 150 = .ok (.iconst 3, 1) := by decide +kernel
theorem dL_town_151 : decode cL_town 151 = .ok (.if_icmp .ne 63, 3) := by decide +kernel
theorem dL_town_154 : decode cL_town 154 = .ok (.aload_n 0, 1) := by decide +kernel
theorem dL_town_155 : decode cL_town 155 = .ok (.iconst 0, 1) := by decide +kernel
theorem dL_town_156 : decode cL_town 156 = .ok (.iload 5, 2) := by decide +kernel
theorem dL_town_158 : decode cL_town 158 = .ok (.iload 4, 2) := by decide +kernel
theorem dL_town_160 : decode cL_town 160 = .ok (.bipush 36, 2) := by decide +kernel
theorem dL_town_162 : decode cL_town 162 = .ok (.idiv, 1) := by decide +kernel
theorem dL_town_163 : decode cL_town 163 = .ok (.iconst 4, 1) := by decide +kernel
theorem dL_town_164 : decode cL_town 164 = .ok (.irem, 1) := by decide +kernel
theorem dL_town_165 : decode cL_town 165 = .ok (.invokestatic 124, 3) := by decide +kernel
theorem dL_town_168 : decode cL_town 168 = .ok (.istore 7, 2) := by decide +kernel
theorem dL_town_170 : decode cL_town 170 = .ok (.aload_n 2, 1) := by decide +kernel
theorem dL_town_171 : decode cL_town 171 = .ok (.iconst 1, 1) := by decide +kernel
theorem dL_town_172 : decode cL_town 172 = .ok (.dup2, 1) := by decide +kernel
theorem dL_town_173 : decode cL_town 173 = .ok (.iaload, 1) := by decide +kernel
theorem dL_town_174 : decode cL_town 174 = .ok (.iload 7, 2) := by decide +kernel
theorem dL_town_176 : decode cL_town 176 = .ok (.ifCond .lt 7, 3) := by decide +kernel
theorem dL_town_179 : decode cL_town 179 = .ok (.iconst 1, 1) := by decide +kernel
theorem dL_town_180 : decode cL_town 180 = .ok (.goto 4, 3) := by decide +kernel
theorem dL_town_183 : decode cL_town 183 = .ok (.iconst 0, 1) := by decide +kernel
theorem dL_town_184 : decode cL_town 184 = .ok (.iadd, 1) := by decide +kernel
theorem dL_town_185 : decode cL_town 185 = .ok (.iastore, 1) := by decide +kernel
theorem dL_town_186 : decode cL_town 186 = .ok (.aload_n 1, 1) := by decide +kernel
theorem dL_town_187 : decode cL_town 187 = .ok (.iconst 0, 1) := by decide +kernel
theorem dL_town_188 : decode cL_town 188 = .ok (.iload 5, 2) := by decide +kernel
theorem dL_town_190 : decode cL_town 190 = .ok (.invokestatic 121, 3) := by decide +kernel
theorem dL_town_193 : decode cL_town 193 = .ok (.iload 4, 2) := by decide +kernel
theorem dL_town_195 : decode cL_town 195 = .ok (.bipush 36, 2) := by decide +kernel
theorem dL_town_197 : decode cL_town 197 = .ok (.idiv, 1) := by decide +kernel
theorem dL_town_198 : decode cL_town 198 = .ok (.iconst 4, 1) := by decide +kernel
theorem dL_town_199 : decode cL_town 199 = .ok (.irem, 1) := by decide +kernel
theorem dL_town_200 : decode cL_town 200 = .ok (.invokestatic 124, 3) := by decide +kernel
theorem dL_town_203 : decode cL_town 203 = .ok (.iload 7, 2) := by decide +kernel
theorem dL_town_205 : decode cL_town 205 = .ok (.if_icmp .ne 7, 3) := by decide +kernel
theorem dL_town_208 : decode cL_town 208 = .ok (.iconst 1, 1) := by decide +kernel
theorem dL_town_209 : decode cL_town 209 = .ok (.goto 4, 3) := by decide +kernel
theorem dL_town_212 : decode cL_town 212 = .ok (.iconst 0, 1) := by decide +kernel
theorem dL_town_213 : decode cL_town 213 = .ok (.ireturn, 1) := by decide +kernel
theorem dL_town_214 : decode cL_town 214 = .ok (.iload_n 3, 1) := by decide +kernel
theorem dL_town_215 : decode cL_town 215 = .ok (.bipush 7, 2) := by decide +kernel
theorem dL_town_217 : decode cL_town 217 = .ok (.if_icmp .ge 77, 3) := by decide +kernel
theorem dL_town_220 : decode cL_town 220 = .ok (.iload 4, 2) := by decide +kernel
theorem dL_town_222 : decode cL_town 222 = .ok (.bipush 36, 2) := by decide +kernel
theorem dL_town_224 : decode cL_town 224 = .ok (.idiv, 1) := by decide +kernel
theorem dL_town_225 : decode cL_town 225 = .ok (.iconst 3, 1) := by decide +kernel
theorem dL_town_226 : decode cL_town 226 = .ok (.irem, 1) := by decide +kernel
theorem dL_town_227 : decode cL_town 227 = .ok (.ifCond .ne 14, 3) := by decide +kernel
theorem dL_town_230 : decode cL_town 230 = .ok (.iload 4, 2) := by decide +kernel
theorem dL_town_232 : decode cL_town 232 = .ok (.bipush 108, 2) := by decide +kernel
theorem dL_town_234 : decode cL_town 234 = .ok (.idiv, 1) := by decide +kernel
theorem dL_town_235 : decode cL_town 235 = .ok (.bipush 100, 2) := by decide +kernel
theorem dL_town_237 : decode cL_town 237 = .ok (.irem, 1) := by decide +kernel
theorem dL_town_238 : decode cL_town 238 = .ok (.goto 4, 3) := by decide +kernel
theorem dL_town_241 : decode cL_town 241 = .ok (.iconst 0, 1) := by decide +kernel
theorem dL_town_242 : decode cL_town 242 = .ok (.istore 7, 2) := by decide +kernel
theorem dL_town_244 : decode cL_town 244 = .ok (.aload_n 0, 1) := by decide +kernel
theorem dL_town_245 : decode cL_town 245 = .ok (.iconst 2, 1) := by decide +kernel
theorem dL_town_246 : decode cL_town 246 = .ok (.iload 5, 2) := by decide +kernel
theorem dL_town_248 : decode cL_town 248 = .ok (.iload 7, 2) := by decide +kernel
theorem dL_town_250 : decode cL_town 250 = .ok (.invokestatic 124, 3) := by decide +kernel
theorem dL_town_253 : decode cL_town 253 = .ok (.istore 8, 2) := by decide +kernel
theorem dL_town_255 : decode cL_town 255 = .ok (.aload_n 2, 1) := by decide +kernel
theorem dL_town_256 : decode cL_town 256 = .ok (.iconst 0, 1) := by decide +kernel
theorem dL_town_257 : decode cL_town 257 = .ok (.dup2, 1) := by decide +kernel
theorem dL_town_258 : decode cL_town 258 = .ok (.iaload, 1) := by decide +kernel
theorem dL_town_259 : decode cL_town 259 = .ok (.iload 8, 2) := by decide +kernel
theorem dL_town_261 : decode cL_town 261 = .ok (.ifCond .lt 7, 3) := by decide +kernel
theorem dL_town_264 : decode cL_town 264 = .ok (.iconst 1, 1) := by decide +kernel
theorem dL_town_265 : decode cL_town 265 = .ok (.goto 4, 3) := by decide +kernel
theorem dL_town_268 : decode cL_town 268 = .ok (.iconst 0, 1) := by decide +kernel
theorem dL_town_269 : decode cL_town 269 = .ok (.iadd, 1) := by decide +kernel
theorem dL_town_270 : decode cL_town 270 = .ok (.iastore, 1) := by decide +kernel
theorem dL_town_271 : decode cL_town 271 = .ok (.aload_n 1, 1) := by decide +kernel
theorem dL_town_272 : decode cL_town 272 = .ok (.iconst 2, 1) := by decide +kernel
theorem dL_town_273 : decode cL_town 273 = .ok (.iload 5, 2) := by decide +kernel
theorem dL_town_275 : decode cL_town 275 = .ok (.invokestatic 121, 3) := by decide +kernel
theorem dL_town_278 : decode cL_town 278 = .ok (.iload 7, 2) := by decide +kernel
theorem dL_town_280 : decode cL_town 280 = .ok (.invokestatic 124, 3) := by decide +kernel
theorem dL_town_283 : decode cL_town 283 = .ok (.iload 8, 2) := by decide +kernel
theorem dL_town_285 : decode cL_town 285 = .ok (.if_icmp .ne 7, 3) := by decide +kernel
theorem dL_town_288 : decode cL_town 288 = .ok (.iconst 1, 1) := by decide +kernel
theorem dL_town_289 : decode cL_town 289 = .ok (.goto 4, 3) := by decide +kernel
theorem dL_town_292 : decode cL_town 292 = .ok (.iconst 0, 1) := by decide +kernel
theorem dL_town_293 : decode cL_town 293 = .ok (.ireturn, 1) := by decide +kernel
theorem dL_town_294 : decode cL_town 294 = .ok (.iload_n 3, 1) := by decide +kernel
theorem dL_town_295 : decode cL_town 295 = .ok (.bipush 10, 2) := by decide +kernel
theorem dL_town_297 : decode cL_town 297 = .ok (.if_icmp .ge 36, 3) := by decide +kernel
theorem dL_town_300 : decode cL_town 300 = .ok (.aload_n 1, 1) := by decide +kernel
theorem dL_town_301 : decode cL_town 301 = .ok (.iconst 3, 1) := by decide +kernel
theorem dL_town_302 : decode cL_town 302 = .ok (.iload 6, 2) := by decide +kernel
theorem dL_town_304 : decode cL_town 304 = .ok (.iload 5, 2) := by decide +kernel
theorem dL_town_306 : decode cL_town 306 = .ok (.invokestatic 121, 3) := by decide +kernel
theorem dL_town_309 : decode cL_town 309 = .ok (.invokestatic 124, 3) := by decide +kernel
theorem dL_town_312 : decode cL_town 312 = .ok (.aload_n 0, 1) := by decide +kernel
theorem dL_town_313 : decode cL_town 313 = .ok (.iconst 3, 1) := by decide +kernel
theorem dL_town_314 : decode cL_town 314 = .ok (.iload 6, 2) := by decide +kernel
theorem dL_town_316 : decode cL_town 316 = .ok (.iload 5, 2) := by decide +kernel
theorem dL_town_318 : decode cL_town 318 = .ok (.invokestatic 124, 3) := by decide +kernel
theorem dL_town_321 : decode cL_town 321 = .ok (.invokestatic 121, 3) := by decide +kernel
theorem dL_town_324 : decode cL_town 324 = .ok (.if_icmp .ne 7, 3) := by decide +kernel
theorem dL_town_327 : decode cL_town 327 = .ok (.iconst 1, 1) := by decide +kernel
theorem dL_town_328 : decode cL_town 328 = .ok (.goto 4, 3) := by decide +kernel
theorem dL_town_331 : decode cL_town 331 = .ok (.iconst 0, 1) := by decide +kernel
theorem dL_town_332 : decode cL_town 332 = .ok (.ireturn, 1) := by decide +kernel
theorem dL_town_333 : decode cL_town 333 = .ok (.iload 4, 2) := by decide +kernel
theorem dL_town_335 : decode cL_town 335 = .ok (.sipush 720, 3) := by decide +kernel
theorem dL_town_338 : decode cL_town 338 = .ok (.idiv, 1) := by decide +kernel
theorem dL_town_339 : decode cL_town 339 = .ok (.iconst 4, 1) := by decide +kernel
theorem dL_town_340 : decode cL_town 340 = .ok (.irem, 1) := by decide +kernel
theorem dL_town_341 : decode cL_town 341 = .ok (.ifCond .gt 20, 3) := by decide +kernel
theorem dL_town_344 : decode cL_town 344 = .ok (.aload_n 0, 1) := by decide +kernel
theorem dL_town_345 : decode cL_town 345 = .ok (.iconst 0, 1) := by decide +kernel
theorem dL_town_346 : decode cL_town 346 = .ok (.iload 6, 2) := by decide +kernel
theorem dL_town_348 : decode cL_town 348 = .ok (.invokestatic 128, 3) := by decide +kernel
theorem dL_town_351 : decode cL_town 351 = .ok (.aload_n 1, 1) := by decide +kernel
theorem dL_town_352 : decode cL_town 352 = .ok (.iconst 0, 1) := by decide +kernel
theorem dL_town_353 : decode cL_town 353 = .ok (.iload 6, 2) := by decide +kernel
theorem dL_town_355 : decode cL_town 355 = .ok (.invokestatic 128, 3) := by decide +kernel
theorem dL_town_358 : decode cL_town 358 = .ok (.if_icmp .ne 7, 3) := by decide +kernel
theorem dL_town_361 : decode cL_town 361 = .ok (.iconst 1, 1) := by decide +kernel
theorem dL_town_362 : decode cL_town 362 = .ok (.goto 4, 3) := by decide +kernel
theorem dL_town_365 : decode cL_town 365 = .ok (.iconst 0, 1) := by decide +kernel
theorem dL_town_366 : decode cL_town 366 = .ok (.ireturn, 1) := by decide +kernel
theorem dL_same_0 : decode cL_same 0 = .ok (.aload_n 0, 1) := by decide +kernel
theorem dL_same_1 : decode cL_same 1 = .ok (.invokevirtual 132, 3) := by decide +kernel
theorem dL_same_4 : decode cL_same 4 = .ok (.aload_n 1, 1) := by decide +kernel
theorem dL_same_5 : decode cL_same 5 = .ok (.invokevirtual 132, 3) := by decide +kernel
theorem dL_same_8 : decode cL_same 8 = .ok (.if_icmp .ne 92, 3) := by decide +kernel
theorem dL_same_11 : decode cL_same 11 = .ok (.aload_n 0, 1) := by decide +kernel
theorem dL_same_12 : decode cL_same 12 = .ok (.invokevirtual 136, 3) := by decide +kernel
theorem dL_same_15 : decode cL_same 15 = .ok (.aload_n 1, 1) := by decide +kernel
theorem dL_same_16 : decode cL_same 16 = .ok (.invokevirtual 136, 3) := by decide +kernel
theorem dL_same_19 : decode cL_same 19 = .ok (.if_icmp .ne 81, 3) := by decide +kernel
theorem dL_same_22 : decode cL_same 22 = .ok (.aload_n 0, 1) := by decide +kernel
theorem dL_same_23 : decode cL_same 23 = .ok (.invokevirtual 139, 3) := by decide +kernel
theorem dL_same_26 : decode cL_same 26 = .ok (.aload_n 1, 1) := by decide +kernel
theorem dL_same_27 : decode cL_same 27 = .ok (.invokevirtual 139, 3) := by decide +kernel
theorem dL_same_30 : decode cL_same 30 = .ok (.if_icmp .ne 70, 3) := by decide +kernel
theorem dL_same_33 : decode cL_same 33 = .ok (.aload_n 0, 1) := by decide +kernel
theorem dL_same_34 : decode cL_same 34 = .ok (.invokevirtual 142, 3) := by decide +kernel
theorem dL_same_37 : decode cL_same 37 = .ok (.aload_n 1, 1) := by decide +kernel
theorem dL_same_38 : decode cL_same 38 = .ok (.invokevirtual 142, 3) := by decide +kernel
theorem dL_same_41 : decode cL_same 41 = .ok (.if_icmp .ne 59, 3) := by decide +kernel
theorem dL_same_44 : decode cL_same 44 = .ok (.aload_n 0, 1) := by decide +kernel
theorem dL_same_45 : decode cL_same 45 = .ok (.invokevirtual 145, 3) := by decide +kernel
theorem dL_same_48 : decode cL_same 48 = .ok (.aload_n 1, 1) := by decide +kernel
theorem dL_same_49 : decode cL_same 49 = .ok (.invokevirtual 145, 3) := by decide +kernel
theorem dL_same_52 : decode cL_same 52 = .ok (.if_icmp .ne 48, 3) := by decide +kernel
theorem dL_same_55 : decode cL_same 55 = .ok (.aload_n 0, 1) := by decide +kernel
theorem dL_same_56 : decode cL_same 56 = .ok (.iconst 0, 1) := by decide +kernel
theorem dL_same_57 : decode cL_same 57 = .ok (.iload_n 3, 1) := by decide +kernel
theorem dL_same_58 : decode cL_same 58 = .ok (.bipush 36, 2) := by decide +kernel
theorem dL_same_60 : decode cL_same 60 = .ok (.irem, 1) := by decide +kernel
theorem dL_same_61 : decode cL_same 61 = .ok (.iload_n 3, 1) := by decide +kernel
theorem dL_same_62 : decode cL_same 62 = .ok (.bipush 36, 2) := by decide +kernel
theorem dL_same_64 : decode cL_same 64 = .ok (.idiv, 1) := by decide +kernel
theorem dL_same_65 : decode cL_same 65 = .ok (.bipush 36, 2) := by decide +kernel
theorem dL_same_67 : decode cL_same 67 = .ok (.irem, 1) := by decide +kernel
theorem dL_same_68 : decode cL_same 68 = .ok (.invokestatic 148, 3) := by decide +kernel
theorem dL_same_71 : decode cL_same 71 = .ok (.aload_n 1, 1) := by decide +kernel
theorem dL_same_72 : decode cL_same 72 = .ok (.iconst 0, 1) := by decide +kernel
theorem dL_same_73 : decode cL_same 73 = .ok (.iload_n 3, 1) := by decide +kernel
theorem dL_same_74 : decode cL_same 74 = .ok (.bipush 36, 2) := by decide +kernel
theorem dL_same_76 : decode cL_same 76 = .ok (.irem, 1) := by decide +kernel
theorem dL_same_77 : decode cL_same 77 = .ok (.invokestatic 121, 3) := by decide +kernel
theorem dL_same_80 : decode cL_same 80 = .ok (.iload_n 3, 1) := by decide +kernel
theorem dL_same_81 : decode cL_same 81 = .ok (.bipush 36, 2) := by decide +kernel
theorem dL_same_83 : decode cL_same 83 = .ok (.idiv, 1) := by decide +kernel
theorem dL_same_84 : decode cL_same 84 = .ok (.bipush 36, 2) := by decide +kernel
theorem dL_same_86 : decode cL_same 86 = .ok (.irem, 1) := by decide +kernel
theorem dL_same_87 : decode cL_same 87 = .ok (.invokestatic 121, 3) := by decide +kernel
theorem dL_same_90 : decode cL_same 90 = .ok (.invokestatic 148, 3) := by decide +kernel
theorem dL_same_93 : decode cL_same 93 = .ok (.if_icmp .ne 7, 3) := by decide +kernel
theorem dL_same_96 : decode cL_same 96 = .ok (.iconst 1, 1) := by decide +kernel
theorem dL_same_97 : decode cL_same 97 = .ok (.goto 4, 3) := by decide +kernel
theorem dL_same_100 : decode cL_same 100 = .ok (.iconst 0, 1) := by decide +kernel
theorem dL_same_101 : decode cL_same 101 = .ok (.istore 4, 2) := by decide +kernel
theorem dL_same_103 : decode cL_same 103 = .ok (.aload_n 2, 1) := by decide +kernel
theorem dL_same_104 : decode cL_same 104 = .ok (.iconst 0, 1) := by decide +kernel
theorem dL_same_105 : decode cL_same 105 = .ok (.iaload, 1) := by decide +kernel
theorem dL_same_106 : decode cL_same 106 = .ok (.ifCond .ne 7, 3) := by decide +kernel
theorem dL_same_109 : decode cL_same 109 = .ok (.iconst 0, 1) := by decide +kernel
theorem dL_same_110 : decode cL_same 110 = .ok (.goto 8, 3) := by decide +kernel
theorem dL_same_113 : decode cL_same 113 = .ok (.iload_n 3, 1) := by decide +kernel
theorem dL_same_114 : decode cL_same 114 = .ok (.aload_n 2, 1) := by decide +kernel
theorem dL_same_115 : decode cL_same 115 = .ok (.iconst 0, 1) := by decide +kernel
theorem dL_same_116 : decode cL_same 116 = .ok (.iaload, 1) := by decide +kernel
theorem dL_same_117 : decode cL_same 117 = .ok (.irem, 1) := by decide +kernel
theorem dL_same_118 : decode cL_same 118 = .ok (.istore 5, 2) := by decide +kernel
theorem dL_same_120 : decode cL_same 120 = .ok (.aload_n 2, 1) := by decide +kernel
theorem dL_same_121 : decode cL_same 121 = .ok (.iconst 1, 1) := by decide +kernel
theorem dL_same_122 : decode cL_same 122 = .ok (.iaload, 1) := by decide +kernel
theorem dL_same_123 : decode cL_same 123 = .ok (.ifCond .ne 7, 3) := by decide +kernel
theorem dL_same_126 : decode cL_same 126 = .ok (.iconst 0, 1) := by decide +kernel
theorem dL_same_127 : decode cL_same 127 = .ok (.goto 8, 3) := by decide +kernel
theorem dL_same_130 : decode cL_same 130 = .ok (.iload_n 3, 1) := by decide +kernel
theorem dL_same_131 : decode cL_same 131 = .ok (.aload_n 2, 1) := by decide +kernel
theorem dL_same_132 : decode cL_same 132 = .ok (.iconst 1, 1) := by decide +kernel
theorem dL_same_133 : decode cL_same 133 = .ok (.iaload, 1) := by decide +kernel
theorem dL_same_134 : decode cL_same 134 = .ok (.irem, 1) := by decide +kernel
theorem dL_same_135 : decode cL_same 135 = .ok (.istore 6, 2) := by decide +kernel
theorem dL_same_137 : decode cL_same 137 = .ok (.iconst 0, 1) := by decide +kernel
theorem dL_same_138 : decode cL_same 138 = .ok (.istore 7, 2) := by decide +kernel
theorem dL_same_140 : decode cL_same 140 = .ok (.iload 7, 2) := by decide +kernel
theorem dL_same_142 : decode cL_same 142 = .ok (.bipush 12, 2) := by decide +kernel
theorem dL_same_144 : decode cL_same 144 = .ok (.if_icmp .ge 98, 3) := by decide +kernel
theorem dL_same_147 : decode cL_same 147 = .ok (.iload 4, 2) := by decide +kernel
theorem dL_same_149 : decode cL_same 149 = .ok (.ifCond .eq 93, 3) := by decide +kernel
theorem dL_same_152 : decode cL_same 152 = .ok (.iload 7, 2) := by decide +kernel
theorem dL_same_154 : decode cL_same 154 = .ok (.iconst 2, 1) := by decide +kernel
theorem dL_same_155 : decode cL_same 155 = .ok (.if_icmp .ge 8, 3) := by decide +kernel
theorem dL_same_158 : decode cL_same 158 = .ok (.iload 5, 2) := by decide +kernel
theorem dL_same_160 : decode cL_same 160 = .ok (.goto 48, 3) := by decide +kernel
theorem dL_same_163 : decode cL_same 163 = .ok (.iload 7, 2) := by decide +kernel
theorem dL_same_165 : decode cL_same 165 = .ok (.bipush 6, 2) := by decide +kernel
theorem dL_same_167 : decode cL_same 167 = .ok (.if_icmp .ge 8, 3) := by decide +kernel
theorem dL_same_170 : decode cL_same 170 = .ok (.iload 6, 2) := by decide +kernel
theorem dL_same_172 : decode cL_same 172 = .ok (.goto 36, 3) := by decide +kernel
theorem dL_same_175 : decode cL_same 175 = .ok (.iload 7, 2) := by decide +kernel
theorem dL_same_177 : decode cL_same 177 = .ok (.bipush 8, 2) := by decide +kernel
theorem dL_same_179 : decode cL_same 179 = .ok (.if_icmp .ge 12, 3) := by decide +kernel
theorem dL_same_182 : decode cL_same 182 = .ok (.iload_n 3, 1) := by decide +kernel
theorem dL_same_183 : decode cL_same 183 = .ok (.iconst 5, 1) := by decide +kernel
theorem dL_same_184 : decode cL_same 184 = .ok (.idiv, 1) := by decide +kernel
theorem dL_same_185 : decode cL_same 185 = .ok (.bipush 8, 2) := by decide +kernel
theorem dL_same_187 : decode cL_same 187 = .ok (.irem, 1) := by decide +kernel
theorem dL_same_188 : decode cL_same 188 = .ok (.goto 20, 3) := by decide +kernel
theorem dL_same_191 : decode cL_same 191 = .ok (.iload 7, 2) := by decide +kernel
theorem dL_same_193 : decode cL_same 193 = .ok (.bipush 11, 2) := by decide +kernel
theorem dL_same_195 : decode cL_same 195 = .ok (.if_icmp .ge 9, 3) := by decide +kernel
theorem dL_same_198 : decode cL_same 198 = .ok (.iload_n 3, 1) := by decide +kernel
theorem dL_same_199 : decode cL_same 199 = .ok (.iconst 5, 1) := by decide +kernel
theorem dL_same_200 : decode cL_same 200 = .ok (.irem, 1) := by decide +kernel
theorem dL_same_201 : decode cL_same 201 = .ok (.goto 7, 3) := by decide +kernel
theorem dL_same_204 : decode cL_same 204 = .ok (.iload_n 3, 1) := by decide +kernel
theorem dL_same_205 : decode cL_same 205 = .ok (.bipush 6, 2) := by decide +kernel
theorem dL_same_207 : decode cL_same 207 = .ok (.irem, 1) := by decide +kernel
theorem dL_same_208 : decode cL_same 208 = .ok (.istore 8, 2) := by decide +kernel
theorem dL_same_210 : decode cL_same 210 = .ok (.aload_n 0, 1) := by decide +kernel
theorem dL_same_211 : decode cL_same 211 = .ok (.iload 7, 2) := by decide +kernel
theorem dL_same_213 : decode cL_same 213 = .ok (.iload 8, 2) := by decide +kernel
theorem dL_same_215 : decode cL_same 215 = .ok (.invokestatic 151, 3) := by decide +kernel
theorem dL_same_218 : decode cL_same 218 = .ok (.aload_n 1, 1) := by decide +kernel
theorem dL_same_219 : decode cL_same 219 = .ok (.iload 7, 2) := by decide +kernel
theorem dL_same_221 : decode cL_same 221 = .ok (.iload 8, 2) := by decide +kernel
theorem dL_same_223 : decode cL_same 223 = .ok (.invokestatic 151, 3) := by decide +kernel
theorem dL_same_226 : decode cL_same 226 = .ok (.if_icmp .ne 7, 3) := by decide +kernel
theorem dL_same_229 : decode cL_same 229 = .ok (.iconst 1, 1) := by decide +kernel
theorem dL_same_230 : decode cL_same 230 = .ok (.goto 4, 3) := by decide +kernel
theorem dL_same_233 : decode cL_same 233 = .ok (.iconst 0, 1) := by decide +kernel
theorem dL_same_234 : decode cL_same 234 = .ok (.istore 4, 2) := by decide +kernel
theorem dL_same_236 : decode cL_same 236 = .ok (.iinc 7 1, 3) := by decide +kernel
theorem dL_same_239 : decode cL_same 239 = .ok (.goto (-99), 3) := by decide +kernel
theorem dL_same_242 : decode cL_same 242 = .ok (.iload_n 3, 1) := by decide +kernel
theorem dL_same_243 : decode cL_same 243 = .ok (.bipush 7, 2) := by decide +kernel
theorem dL_same_245 : decode cL_same 245 = .ok (.idiv, 1) := by decide +kernel
theorem dL_same_246 : decode cL_same 246 = .ok (.aload_n 0, 1) := by decide +kernel
theorem dL_same_247 : decode cL_same 247 = .ok (.invokevirtual 132, 3) := by decide +kernel
theorem dL_same_250 : decode cL_same 250 = .ok (.iconst 1, 1) := by decide +kernel
theorem dL_same_251 : decode cL_same 251 = .ok (.iadd, 1) := by decide +kernel
theorem dL_same_252 : decode cL_same 252 = .ok (.irem, 1) := by decide +kernel
theorem dL_same_253 : decode cL_same 253 = .ok (.istore 7, 2) := by decide +kernel
theorem dL_same_255 : decode cL_same 255 = .ok (.iload 4, 2) := by decide +kernel
theorem dL_same_257 : decode cL_same 257 = .ok (.ifCond .eq 91, 3) := by decide +kernel
theorem dL_same_260 : decode cL_same 260 = .ok (.aload_n 1, 1) := by decide +kernel
theorem dL_same_261 : decode cL_same 261 = .ok (.iconst 1, 1) := by decide +kernel
theorem dL_same_262 : decode cL_same 262 = .ok (.iload 5, 2) := by decide +kernel
theorem dL_same_264 : decode cL_same 264 = .ok (.iload 7, 2) := by decide +kernel
theorem dL_same_266 : decode cL_same 266 = .ok (.invokestatic 148, 3) := by decide +kernel
theorem dL_same_269 : decode cL_same 269 = .ok (.aload_n 0, 1) := by decide +kernel
theorem dL_same_270 : decode cL_same 270 = .ok (.iconst 1, 1) := by decide +kernel
theorem dL_same_271 : decode cL_same 271 = .ok (.iload 5, 2) := by decide +kernel
theorem dL_same_273 : decode cL_same 273 = .ok (.iload 7, 2) := by decide +kernel
theorem dL_same_275 : decode cL_same 275 = .ok (.invokestatic 148, 3) := by decide +kernel
theorem dL_same_278 : decode cL_same 278 = .ok (.invokestatic 121, 3) := by decide +kernel
theorem dL_same_281 : decode cL_same 281 = .ok (.if_icmp .ne 67, 3) := by decide +kernel
theorem dL_same_284 : decode cL_same 284 = .ok (.aload_n 0, 1) := by decide +kernel
theorem dL_same_285 : decode cL_same 285 = .ok (.iconst 2, 1) := by decide +kernel
theorem dL_same_286 : decode cL_same 286 = .ok (.iload 6, 2) := by decide +kernel
theorem dL_same_288 : decode cL_same 288 = .ok (.iload_n 3, 1) := by decide +kernel
theorem dL_same_289 : decode cL_same 289 = .ok (.bipush 6, 2) := by decide +kernel
theorem dL_same_291 : decode cL_same 291 = .ok (.irem, 1) := by decide +kernel
theorem dL_same_292 : decode cL_same 292 = .ok (.invokestatic 148, 3) := by decide +kernel
theorem dL_same_295 : decode cL_same 295 = .ok (.aload_n 1, 1) := by decide +kernel
theorem dL_same_296 : decode cL_same 296 = .ok (.iconst 2, 1) := by decide +kernel
theorem dL_same_297 : decode cL_same 297 = .ok (.iload 6, 2) := by decide +kernel
theorem dL_same_299 : decode cL_same 299 = .ok (.iload_n 3, 1) := by decide +kernel
theorem dL_same_300 : decode cL_same 300 = .ok (.bipush 6, 2) := by decide +kernel
theorem dL_same_302 : decode cL_same 302 = .ok (.irem, 1) := by decide +kernel
theorem dL_same_303 : decode cL_same 303 = .ok (.invokestatic 148, 3) := by decide +kernel
theorem dL_same_306 : decode cL_same 306 = .ok (.if_icmp .ne 42, 3) := by decide +kernel
theorem dL_same_309 : decode cL_same 309 = .ok (.aload_n 0, 1) := by decide +kernel
theorem dL_same_310 : decode cL_same 310 = .ok (.iconst 3, 1) := by decide +kernel
theorem dL_same_311 : decode cL_same 311 = .ok (.iload_n 3, 1) := by decide +kernel
theorem dL_same_312 : decode cL_same 312 = .ok (.bipush 11, 2) := by decide +kernel
theorem dL_same_314 : decode cL_same 314 = .ok (.idiv, 1) := by decide +kernel
theorem dL_same_315 : decode cL_same 315 = .ok (.bipush 30, 2) := by decide +kernel
theorem dL_same_317 : decode cL_same 317 = .ok (.irem, 1) := by decide +kernel
theorem dL_same_318 : decode cL_same 318 = .ok (.iload_n 3, 1) := by decide +kernel
theorem dL_same_319 : decode cL_same 319 = .ok (.bipush 6, 2) := by decide +kernel
theorem dL_same_321 : decode cL_same 321 = .ok (.irem, 1) := by decide +kernel
theorem dL_same_322 : decode cL_same 322 = .ok (.invokestatic 148, 3) := by decide +kernel
theorem dL_same_325 : decode cL_same 325 = .ok (.aload_n 1, 1) := by decide +kernel
theorem dL_same_326 : decode cL_same 326 = .ok (.iconst 3, 1) := by decide +kernel
theorem dL_same_327 : decode cL_same 327 = .ok (.iload_n 3, 1) := by decide +kernel
theorem dL_same_328 : decode cL_same 328 = .ok (.bipush 11, 2) := by decide +kernel
theorem dL_same_330 : decode cL_same 330 = .ok (.idiv, 1) := by decide +kernel
theorem dL_same_331 : decode cL_same 331 = .ok (.bipush 30, 2) := by decide +kernel
theorem dL_same_333 : decode cL_same 333 = .ok (.irem, 1) := by decide +kernel
theorem dL_same_334 : decode cL_same 334 = .ok (.iload_n 3, 1) := by decide +kernel
theorem dL_same_335 : decode cL_same 335 = .ok (.bipush 6, 2) := by decide +kernel
theorem dL_same_337 : decode cL_same 337 = .ok (.irem, 1) := by decide +kernel
theorem dL_same_338 : decode cL_same 338 = .ok (.invokestatic 148, 3) := by decide +kernel
theorem dL_same_341 : decode cL_same 341 = .ok (.if_icmp .ne 7, 3) := by decide +kernel
theorem dL_same_344 : decode cL_same 344 = .ok (.iconst 1, 1) := by decide +kernel
theorem dL_same_345 : decode cL_same 345 = .ok (.goto 4, 3) := by decide +kernel
theorem dL_same_348 : decode cL_same 348 = .ok (.iconst 0, 1) := by decide +kernel
theorem dL_same_349 : decode cL_same 349 = .ok (.ireturn, 1) := by decide +kernel
theorem dL_law_0 : decode cL_law 0 = .ok (.new 9, 3) := by decide +kernel
