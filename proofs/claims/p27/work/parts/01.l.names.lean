theorem dL_change_34 : decode cL_change 34 = .ok (.iconst 2, 1) := by decide +kernel
theorem dL_change_35 : decode cL_change 35 = .ok (.irem, 1) := by decide +kernel
theorem dL_change_36 : decode cL_change 36 = .ok (.ifCond .eq 14, 3) := by decide +kernel
theorem dL_change_39 : decode cL_change 39 = .ok (.iload 6, 2) := by decide +kernel
theorem dL_change_41 : decode cL_change 41 = .ok (.iconst 3, 1) := by decide +kernel
theorem dL_change_42 : decode cL_change 42 = .ok (.if_icmp .ne 12, 3) := by decide +kernel
theorem dL_change_45 : decode cL_change 45 = .ok (.iload_n 3, 1) := by decide +kernel
theorem dL_change_46 : decode cL_change 46 = .ok (.iload_n 2, 1) := by decide +kernel
theorem dL_change_47 : decode cL_change 47 = .ok (.if_icmp .le 7, 3) := by decide +kernel
theorem dL_change_50 : decode cL_change 50 = .ok (.iconst 1, 1) := by decide +kernel
theorem dL_change_51 : decode cL_change 51 = .ok (.goto 4, 3) := by decide +kernel
theorem dL_change_54 : decode cL_change 54 = .ok (.iconst 0, 1) := by decide +kernel
theorem dL_change_55 : decode cL_change 55 = .ok (.ireturn, 1) := by decide +kernel
set_option maxRecDepth 20000 in
theorem ggL_drive_L_free : GoodIn wsL_drive wsL_free := goodIn_r _ [5] (by decide +kernel) (by decide +kernel)
set_option maxRecDepth 20000 in
theorem gL_drive_L_free : GoodIn wsL_drive (va_wsS RL 20 yL_free wsL_free) := goodIn_app (goodIn_of _ (by decide +kernel)) ggL_drive_L_free
set_option maxRecDepth 20000 in
theorem ggL_drive_L_change : GoodIn wsL_drive wsL_change := goodIn_r _ [8, 2, 3, 4, 5] (by decide +kernel) (by decide +kernel)
set_option maxRecDepth 20000 in
theorem gL_drive_L_change : GoodIn wsL_drive (va_wsS RL 24 yL_change wsL_change) := goodIn_app (goodIn_of _ (by decide +kernel)) ggL_drive_L_change
theorem dL_drive_0 : decode cL_drive 0 = .ok (.bipush 48, 2) := by decide +kernel
theorem dL_drive_2 : decode cL_drive 2 = .ok (.newarray .int, 2) := by decide +kernel
theorem dL_drive_4 : decode cL_drive 4 = .ok (.astore 4, 2) := by decide +kernel
theorem dL_drive_6 : decode cL_drive 6 = .ok (.iload_n 2, 1) := by decide +kernel
theorem dL_drive_7 : decode cL_drive 7 = .ok (.ifCond .ne 8, 3) := by decide +kernel
theorem dL_drive_10 : decode cL_drive 10 = .ok (.bipush 15, 2) := by decide +kernel
theorem dL_drive_12 : decode cL_drive 12 = .ok (.goto 4, 3) := by decide +kernel
theorem dL_drive_15 : decode cL_drive 15 = .ok (.iconst 0, 1) := by decide +kernel
theorem dL_drive_16 : decode cL_drive 16 = .ok (.istore 5, 2) := by decide +kernel
theorem dL_drive_18 : decode cL_drive 18 = .ok (.iconst 0, 1) := by decide +kernel
theorem dL_drive_19 : decode cL_drive 19 = .ok (.istore 6, 2) := by decide +kernel
theorem dL_drive_21 : decode cL_drive 21 = .ok (.iload 6, 2) := by decide +kernel
theorem dL_drive_23 : decode cL_drive 23 = .ok (.bipush 48, 2) := by decide +kernel
theorem dL_drive_25 : decode cL_drive 25 = .ok (.if_icmp .ge 16, 3) := by decide +kernel
theorem dL_drive_28 : decode cL_drive 28 = .ok (.aload 4, 2) := by decide +kernel
theorem dL_drive_30 : decode cL_drive 30 = .ok (.iload 6, 2) := by decide +kernel
theorem dL_drive_32 : decode cL_drive 32 = .ok (.bipush 99, 2) := by decide +kernel
theorem dL_drive_34 : decode cL_drive 34 = .ok (.iastore, 1) := by decide +kernel
theorem dL_drive_35 : decode cL_drive 35 = .ok (.iinc 6 1, 3) := by decide +kernel
theorem dL_drive_38 : decode cL_drive 38 = .ok (.goto (-17), 3) := by decide +kernel
theorem dL_drive_41 : decode cL_drive 41 = .ok (.aload 4, 2) := by decide +kernel
theorem dL_drive_43 : decode cL_drive 43 = .ok (.bipush 16, 2) := by decide +kernel
theorem dL_drive_45 : decode cL_drive 45 = .ok (.iload_n 3, 1) := by decide +kernel
theorem dL_drive_46 : decode cL_drive 46 = .ok (.imul, 1) := by decide +kernel
theorem dL_drive_47 : decode cL_drive 47 = .ok (.bipush 15, 2) := by decide +kernel
theorem dL_drive_49 : decode cL_drive 49 = .ok (.iadd, 1) := by decide +kernel
theorem dL_drive_50 : decode cL_drive 50 = .ok (.iload 5, 2) := by decide +kernel
theorem dL_drive_52 : decode cL_drive 52 = .ok (.isub, 1) := by decide +kernel
theorem dL_drive_53 : decode cL_drive 53 = .ok (.aload_n 0, 1) := by decide +kernel
theorem dL_drive_54 : decode cL_drive 54 = .ok (.iload_n 3, 1) := by decide +kernel
theorem dL_drive_55 : decode cL_drive 55 = .ok (.bipush 15, 2) := by decide +kernel
theorem dL_drive_57 : decode cL_drive 57 = .ok (.iload 5, 2) := by decide +kernel
theorem dL_drive_59 : decode cL_drive 59 = .ok (.isub, 1) := by decide +kernel
theorem dL_drive_60 : decode cL_drive 60 = .ok (.iload_n 2, 1) := by decide +kernel
theorem dL_drive_61 : decode cL_drive 61 = .ok (.invokestatic 20, 3) := by decide +kernel
theorem dL_drive_64 : decode cL_drive 64 = .ok (.ifCond .eq 7, 3) := by decide +kernel
theorem dL_drive_67 : decode cL_drive 67 = .ok (.iconst 0, 1) := by decide +kernel
theorem dL_drive_68 : decode cL_drive 68 = .ok (.goto 5, 3) := by decide +kernel
theorem dL_drive_71 : decode cL_drive 71 = .ok (.bipush 99, 2) := by decide +kernel
theorem dL_drive_73 : decode cL_drive 73 = .ok (.iastore, 1) := by decide +kernel
theorem dL_drive_74 : decode cL_drive 74 = .ok (.iconst 1, 1) := by decide +kernel
theorem dL_drive_75 : decode cL_drive 75 = .ok (.istore 6, 2) := by decide +kernel
theorem dL_drive_77 : decode cL_drive 77 = .ok (.iload 6, 2) := by decide +kernel
theorem dL_drive_79 : decode cL_drive 79 = .ok (.ifCond .eq 245, 3) := by decide +kernel
theorem dL_drive_82 : decode cL_drive 82 = .ok (.iconst 0, 1) := by decide +kernel
theorem dL_drive_83 : decode cL_drive 83 = .ok (.istore 6, 2) := by decide +kernel
theorem dL_drive_85 : decode cL_drive 85 = .ok (.iconst 0, 1) := by decide +kernel
theorem dL_drive_86 : decode cL_drive 86 = .ok (.istore 7, 2) := by decide +kernel
theorem dL_drive_88 : decode cL_drive 88 = .ok (.iload 7, 2) := by decide +kernel
theorem dL_drive_90 : decode cL_drive 90 = .ok (.bipush 48, 2) := by decide +kernel
theorem dL_drive_92 : decode cL_drive 92 = .ok (.if_icmp .ge 229, 3) := by decide +kernel
theorem dL_drive_95 : decode cL_drive 95 = .ok (.iload 7, 2) := by decide +kernel
theorem dL_drive_97 : decode cL_drive 97 = .ok (.bipush 16, 2) := by decide +kernel
theorem dL_drive_99 : decode cL_drive 99 = .ok (.irem, 1) := by decide +kernel
theorem dL_drive_100 : decode cL_drive 100 = .ok (.istore 8, 2) := by decide +kernel
theorem dL_drive_102 : decode cL_drive 102 = .ok (.iload_n 2, 1) := by decide +kernel
theorem dL_drive_103 : decode cL_drive 103 = .ok (.ifCond .ne 10, 3) := by decide +kernel
theorem dL_drive_106 : decode cL_drive 106 = .ok (.iload 8, 2) := by decide +kernel
theorem dL_drive_108 : decode cL_drive 108 = .ok (.iconst 1, 1) := by decide +kernel
theorem dL_drive_109 : decode cL_drive 109 = .ok (.iadd, 1) := by decide +kernel
theorem dL_drive_110 : decode cL_drive 110 = .ok (.goto 7, 3) := by decide +kernel
theorem dL_drive_113 : decode cL_drive 113 = .ok (.iload 8, 2) := by decide +kernel
theorem dL_drive_115 : decode cL_drive 115 = .ok (.iconst 1, 1) := by decide +kernel
theorem dL_drive_116 : decode cL_drive 116 = .ok (.isub, 1) := by decide +kernel
theorem dL_drive_117 : decode cL_drive 117 = .ok (.istore 9, 2) := by decide +kernel
theorem dL_drive_119 : decode cL_drive 119 = .ok (.aload 4, 2) := by decide +kernel
theorem dL_drive_121 : decode cL_drive 121 = .ok (.iload 7, 2) := by decide +kernel
theorem dL_drive_123 : decode cL_drive 123 = .ok (.iaload, 1) := by decide +kernel
theorem dL_drive_124 : decode cL_drive 124 = .ok (.bipush 99, 2) := by decide +kernel
theorem dL_drive_126 : decode cL_drive 126 = .ok (.if_icmp .ge 68, 3) := by decide +kernel
theorem dL_drive_129 : decode cL_drive 129 = .ok (.iload 9, 2) := by decide +kernel
theorem dL_drive_131 : decode cL_drive 131 = .ok (.ifCond .lt 63, 3) := by decide +kernel
theorem dL_drive_134 : decode cL_drive 134 = .ok (.iload 9, 2) := by decide +kernel
theorem dL_drive_136 : decode cL_drive 136 = .ok (.bipush 16, 2) := by decide +kernel
theorem dL_drive_138 : decode cL_drive 138 = .ok (.if_icmp .ge 56, 3) := by decide +kernel
theorem dL_drive_141 : decode cL_drive 141 = .ok (.aload_n 0, 1) := by decide +kernel
theorem dL_drive_142 : decode cL_drive 142 = .ok (.iload 7, 2) := by decide +kernel
theorem dL_drive_144 : decode cL_drive 144 = .ok (.bipush 16, 2) := by decide +kernel
theorem dL_drive_146 : decode cL_drive 146 = .ok (.idiv, 1) := by decide +kernel
theorem dL_drive_147 : decode cL_drive 147 = .ok (.iload 9, 2) := by decide +kernel
theorem dL_drive_149 : decode cL_drive 149 = .ok (.iload_n 2, 1) := by decide +kernel
theorem dL_drive_150 : decode cL_drive 150 = .ok (.invokestatic 20, 3) := by decide +kernel
theorem dL_drive_153 : decode cL_drive 153 = .ok (.ifCond .eq 41, 3) := by decide +kernel
theorem dL_drive_156 : decode cL_drive 156 = .ok (.aload 4, 2) := by decide +kernel
theorem dL_drive_158 : decode cL_drive 158 = .ok (.iload 7, 2) := by decide +kernel
theorem dL_drive_160 : decode cL_drive 160 = .ok (.iaload, 1) := by decide +kernel
theorem dL_drive_161 : decode cL_drive 161 = .ok (.aload 4, 2) := by decide +kernel
theorem dL_drive_163 : decode cL_drive 163 = .ok (.iload 7, 2) := by decide +kernel
theorem dL_drive_165 : decode cL_drive 165 = .ok (.iload 8, 2) := by decide +kernel
theorem dL_drive_167 : decode cL_drive 167 = .ok (.isub, 1) := by decide +kernel
theorem dL_drive_168 : decode cL_drive 168 = .ok (.iload 9, 2) := by decide +kernel
theorem dL_drive_170 : decode cL_drive 170 = .ok (.iadd, 1) := by decide +kernel
theorem dL_drive_171 : decode cL_drive 171 = .ok (.iaload, 1) := by decide +kernel
theorem dL_drive_172 : decode cL_drive 172 = .ok (.if_icmp .ge 22, 3) := by decide +kernel
theorem dL_drive_175 : decode cL_drive 175 = .ok (.aload 4, 2) := by decide +kernel
theorem dL_drive_177 : decode cL_drive 177 = .ok (.iload 7, 2) := by decide +kernel
theorem dL_drive_179 : decode cL_drive 179 = .ok (.iload 8, 2) := by decide +kernel
theorem dL_drive_181 : decode cL_drive 181 = .ok (.isub, 1) := by decide +kernel
theorem dL_drive_182 : decode cL_drive 182 = .ok (.iload 9, 2) := by decide +kernel
theorem dL_drive_184 : decode cL_drive 184 = .ok (.iadd, 1) := by decide +kernel
theorem dL_drive_185 : decode cL_drive 185 = .ok (.aload 4, 2) := by decide +kernel
theorem dL_drive_187 : decode cL_drive 187 = .ok (.iload 7, 2) := by decide +kernel
theorem dL_drive_189 : decode cL_drive 189 = .ok (.iaload, 1) := by decide +kernel
theorem dL_drive_190 : decode cL_drive 190 = .ok (.iastore, 1) := by decide +kernel
theorem dL_drive_191 : decode cL_drive 191 = .ok (.iconst 1, 1) := by decide +kernel
theorem dL_drive_192 : decode cL_drive 192 = .ok (.istore 6, 2) := by decide +kernel
theorem dL_drive_194 : decode cL_drive 194 = .ok (.iconst 0, 1) := by decide +kernel
theorem dL_drive_195 : decode cL_drive 195 = .ok (.istore 10, 2) := by decide +kernel
theorem dL_drive_197 : decode cL_drive 197 = .ok (.iload 10, 2) := by decide +kernel
theorem dL_drive_199 : decode cL_drive 199 = .ok (.iconst 3, 1) := by decide +kernel
theorem dL_drive_200 : decode cL_drive 200 = .ok (.if_icmp .ge 115, 3) := by decide +kernel
theorem dL_drive_203 : decode cL_drive 203 = .ok (.iload 10, 2) := by decide +kernel
theorem dL_drive_205 : decode cL_drive 205 = .ok (.iload 7, 2) := by decide +kernel
theorem dL_drive_207 : decode cL_drive 207 = .ok (.bipush 16, 2) := by decide +kernel
theorem dL_drive_209 : decode cL_drive 209 = .ok (.idiv, 1) := by decide +kernel
theorem dL_drive_210 : decode cL_drive 210 = .ok (.isub, 1) := by decide +kernel
theorem dL_drive_211 : decode cL_drive 211 = .ok (.iconst 1, 1) := by decide +kernel
theorem dL_drive_212 : decode cL_drive 212 = .ok (.if_icmp .eq 15, 3) := by decide +kernel
theorem dL_drive_215 : decode cL_drive 215 = .ok (.iload 10, 2) := by decide +kernel
theorem dL_drive_217 : decode cL_drive 217 = .ok (.iload 7, 2) := by decide +kernel
theorem dL_drive_219 : decode cL_drive 219 = .ok (.bipush 16, 2) := by decide +kernel
theorem dL_drive_221 : decode cL_drive 221 = .ok (.idiv, 1) := by decide +kernel
theorem dL_drive_222 : decode cL_drive 222 = .ok (.isub, 1) := by decide +kernel
theorem dL_drive_223 : decode cL_drive 223 = .ok (.iconst (-1), 1) := by decide +kernel
theorem dL_drive_224 : decode cL_drive 224 = .ok (.if_icmp .ne 7, 3) := by decide +kernel
theorem dL_drive_227 : decode cL_drive 227 = .ok (.iconst 1, 1) := by decide +kernel
theorem dL_drive_228 : decode cL_drive 228 = .ok (.goto 4, 3) := by decide +kernel
theorem dL_drive_231 : decode cL_drive 231 = .ok (.iconst 0, 1) := by decide +kernel
theorem dL_drive_232 : decode cL_drive 232 = .ok (.istore 11, 2) := by decide +kernel
theorem dL_drive_234 : decode cL_drive 234 = .ok (.iload 11, 2) := by decide +kernel
theorem dL_drive_236 : decode cL_drive 236 = .ok (.ifCond .eq 73, 3) := by decide +kernel
theorem dL_drive_239 : decode cL_drive 239 = .ok (.aload 4, 2) := by decide +kernel
theorem dL_drive_241 : decode cL_drive 241 = .ok (.iload 7, 2) := by decide +kernel
theorem dL_drive_243 : decode cL_drive 243 = .ok (.iaload, 1) := by decide +kernel
theorem dL_drive_244 : decode cL_drive 244 = .ok (.bipush 99, 2) := by decide +kernel
theorem dL_drive_246 : decode cL_drive 246 = .ok (.if_icmp .ge 63, 3) := by decide +kernel
theorem dL_drive_249 : decode cL_drive 249 = .ok (.aload_n 0, 1) := by decide +kernel
theorem dL_drive_250 : decode cL_drive 250 = .ok (.aload_n 1, 1) := by decide +kernel
theorem dL_drive_251 : decode cL_drive 251 = .ok (.iload 7, 2) := by decide +kernel
theorem dL_drive_253 : decode cL_drive 253 = .ok (.bipush 16, 2) := by decide +kernel
theorem dL_drive_255 : decode cL_drive 255 = .ok (.idiv, 1) := by decide +kernel
theorem dL_drive_256 : decode cL_drive 256 = .ok (.iload 10, 2) := by decide +kernel
theorem dL_drive_258 : decode cL_drive 258 = .ok (.iload 8, 2) := by decide +kernel
theorem dL_drive_260 : decode cL_drive 260 = .ok (.iload_n 2, 1) := by decide +kernel
theorem dL_drive_261 : decode cL_drive 261 = .ok (.invokestatic 24, 3) := by decide +kernel
theorem dL_drive_264 : decode cL_drive 264 = .ok (.ifCond .eq 45, 3) := by decide +kernel
theorem dL_drive_267 : decode cL_drive 267 = .ok (.aload 4, 2) := by decide +kernel
theorem dL_drive_269 : decode cL_drive 269 = .ok (.iload 7, 2) := by decide +kernel
theorem dL_drive_271 : decode cL_drive 271 = .ok (.iaload, 1) := by decide +kernel
theorem dL_drive_272 : decode cL_drive 272 = .ok (.iconst 1, 1) := by decide +kernel
theorem dL_drive_273 : decode cL_drive 273 = .ok (.iadd, 1) := by decide +kernel
theorem dL_drive_274 : decode cL_drive 274 = .ok (.aload 4, 2) := by decide +kernel
theorem dL_drive_276 : decode cL_drive 276 = .ok (.bipush 16, 2) := by decide +kernel
theorem dL_drive_278 : decode cL_drive 278 = .ok (.iload 10, 2) := by decide +kernel
theorem dL_drive_280 : decode cL_drive 280 = .ok (.imul, 1) := by decide +kernel
theorem dL_drive_281 : decode cL_drive 281 = .ok (.iload 8, 2) := by decide +kernel
theorem dL_drive_283 : decode cL_drive 283 = .ok (.iadd, 1) := by decide +kernel
theorem dL_drive_284 : decode cL_drive 284 = .ok (.iaload, 1) := by decide +kernel
theorem dL_drive_285 : decode cL_drive 285 = .ok (.if_icmp .ge 24, 3) := by decide +kernel
theorem dL_drive_288 : decode cL_drive 288 = .ok (.aload 4, 2) := by decide +kernel
theorem dL_drive_290 : decode cL_drive 290 = .ok (.bipush 16, 2) := by decide +kernel
theorem dL_drive_292 : decode cL_drive 292 = .ok (.iload 10, 2) := by decide +kernel
theorem dL_drive_294 : decode cL_drive 294 = .ok (.imul, 1) := by decide +kernel
theorem dL_drive_295 : decode cL_drive 295 = .ok (.iload 8, 2) := by decide +kernel
theorem dL_drive_297 : decode cL_drive 297 = .ok (.iadd, 1) := by decide +kernel
theorem dL_drive_298 : decode cL_drive 298 = .ok (.aload 4, 2) := by decide +kernel
theorem dL_drive_300 : decode cL_drive 300 = .ok (.iload 7, 2) := by decide +kernel
theorem dL_drive_302 : decode cL_drive 302 = .ok (.iaload, 1) := by decide +kernel
theorem dL_drive_303 : decode cL_drive 303 = .ok (.iconst 1, 1) := by decide +kernel
theorem dL_drive_304 : decode cL_drive 304 = .ok (.iadd, 1) := by decide +kernel
theorem dL_drive_305 : decode cL_drive 305 = .ok (.iastore, 1) := by decide +kernel
theorem dL_drive_306 : decode cL_drive 306 = .ok (.iconst 1, 1) := by decide +kernel
theorem dL_drive_307 : decode cL_drive 307 = .ok (.istore 6, 2) := by decide +kernel
theorem dL_drive_309 : decode cL_drive 309 = .ok (.iinc 10 1, 3) := by decide +kernel
theorem dL_drive_312 : decode cL_drive 312 = .ok (.goto (-115), 3) := by decide +kernel
theorem dL_drive_315 : decode cL_drive 315 = .ok (.iinc 7 1, 3) := by decide +kernel
theorem dL_drive_318 : decode cL_drive 318 = .ok (.goto (-230), 3) := by decide +kernel
theorem dL_drive_321 : decode cL_drive 321 = .ok (.goto (-244), 3) := by decide +kernel
theorem dL_drive_324 : decode cL_drive 324 = .ok (.aload 4, 2) := by decide +kernel
theorem dL_drive_326 : decode cL_drive 326 = .ok (.iload 5, 2) := by decide +kernel
theorem dL_drive_328 : decode cL_drive 328 = .ok (.iaload, 1) := by decide +kernel
theorem dL_drive_329 : decode cL_drive 329 = .ok (.aload 4, 2) := by decide +kernel
theorem dL_drive_331 : decode cL_drive 331 = .ok (.bipush 16, 2) := by decide +kernel
theorem dL_drive_333 : decode cL_drive 333 = .ok (.iload 5, 2) := by decide +kernel
theorem dL_drive_335 : decode cL_drive 335 = .ok (.iadd, 1) := by decide +kernel
theorem dL_drive_336 : decode cL_drive 336 = .ok (.iaload, 1) := by decide +kernel
theorem dL_drive_337 : decode cL_drive 337 = .ok (.if_icmp .ge 11, 3) := by decide +kernel
theorem dL_drive_340 : decode cL_drive 340 = .ok (.aload 4, 2) := by decide +kernel
theorem dL_drive_342 : decode cL_drive 342 = .ok (.iload 5, 2) := by decide +kernel
theorem dL_drive_344 : decode cL_drive 344 = .ok (.iaload, 1) := by decide +kernel
theorem dL_drive_345 : decode cL_drive 345 = .ok (.goto 11, 3) := by decide +kernel
theorem dL_drive_348 : decode cL_drive 348 = .ok (.aload 4, 2) := by decide +kernel
theorem dL_drive_350 : decode cL_drive 350 = .ok (.bipush 16, 2) := by decide +kernel
theorem dL_drive_352 : decode cL_drive 352 = .ok (.iload 5, 2) := by decide +kernel
theorem dL_drive_354 : decode cL_drive 354 = .ok (.iadd, 1) := by decide +kernel
theorem dL_drive_355 : decode cL_drive 355 = .ok (.iaload, 1) := by decide +kernel
theorem dL_drive_356 : decode cL_drive 356 = .ok (.istore 7, 2) := by decide +kernel
theorem dL_drive_358 : decode cL_drive 358 = .ok (.aload 4, 2) := by decide +kernel
theorem dL_drive_360 : decode cL_drive 360 = .ok (.bipush 32, 2) := by decide +kernel
theorem dL_drive_362 : decode cL_drive 362 = .ok (.iload 5, 2) := by decide +kernel
theorem dL_drive_364 : decode cL_drive 364 = .ok (.iadd, 1) := by decide +kernel
theorem dL_drive_365 : decode cL_drive 365 = .ok (.iaload, 1) := by decide +kernel
theorem dL_drive_366 : decode cL_drive 366 = .ok (.iload 7, 2) := by decide +kernel
theorem dL_drive_368 : decode cL_drive 368 = .ok (.if_icmp .ge 14, 3) := by decide +kernel
theorem dL_drive_371 : decode cL_drive 371 = .ok (.aload 4, 2) := by decide +kernel
theorem dL_drive_373 : decode cL_drive 373 = .ok (.bipush 32, 2) := by decide +kernel
theorem dL_drive_375 : decode cL_drive 375 = .ok (.iload 5, 2) := by decide +kernel
theorem dL_drive_377 : decode cL_drive 377 = .ok (.iadd, 1) := by decide +kernel
theorem dL_drive_378 : decode cL_drive 378 = .ok (.iaload, 1) := by decide +kernel
theorem dL_drive_379 : decode cL_drive 379 = .ok (.goto 5, 3) := by decide +kernel
theorem dL_drive_382 : decode cL_drive 382 = .ok (.iload 7, 2) := by decide +kernel
theorem dL_drive_384 : decode cL_drive 384 = .ok (.istore 7, 2) := by decide +kernel
theorem dL_drive_386 : decode cL_drive 386 = .ok (.iload 7, 2) := by decide +kernel
theorem dL_drive_388 : decode cL_drive 388 = .ok (.bipush 99, 2) := by decide +kernel
theorem dL_drive_390 : decode cL_drive 390 = .ok (.if_icmp .ne 8, 3) := by decide +kernel
theorem dL_drive_393 : decode cL_drive 393 = .ok (.bipush (-6), 2) := by decide +kernel
theorem dL_drive_395 : decode cL_drive 395 = .ok (.goto 5, 3) := by decide +kernel
theorem dL_drive_398 : decode cL_drive 398 = .ok (.iload 7, 2) := by decide +kernel
theorem dL_drive_400 : decode cL_drive 400 = .ok (.ireturn, 1) := by decide +kernel
set_option maxRecDepth 20000 in
theorem ggL_road_L_read : GoodIn wsL_road wsL_read := goodIn_r _ [4] (by decide +kernel) (by decide +kernel)
set_option maxRecDepth 20000 in
theorem gL_road_L_read : GoodIn wsL_road (va_wsS RL 10 yL_read wsL_read) := goodIn_app (goodIn_of _ (by decide +kernel)) ggL_road_L_read
set_option maxRecDepth 20000 in
theorem ggL_road_X5_cell : GoodIn wsL_road wsX5_cell := goodIn_r _ [9, 10, 11, 12, 8, 13, 14, 15, 16, 17, 18, 19, 20, 21, 22, 23, 24, 25, 26, 27, 28, 29, 30, 31, 32, 33, 34, 35, 36, 37, 38, 39, 40, 41, 42, 43, 44, 45, 46, 47, 48, 49, 50, 51, 129, 130, 131, 132, 133, 134, 135, 136, 137, 138, 139, 140, 141, 142, 143, 144, 145, 146, 147] (by decide +kernel) (by decide +kernel)
set_option maxRecDepth 20000 in
theorem gL_road_X5_cell : GoodIn wsL_road (wsV RL 30 RX5 yX5_cell wsX5_cell) := goodIn_app (goodIn_of _ (by decide +kernel)) ggL_road_X5_cell
set_option maxRecDepth 20000 in
theorem ggL_road_L_free : GoodIn wsL_road wsL_free := goodIn_r _ [54] (by decide +kernel) (by decide +kernel)
set_option maxRecDepth 20000 in
theorem gL_road_L_free : GoodIn wsL_road (va_wsS RL 20 yL_free wsL_free) := goodIn_app (goodIn_of _ (by decide +kernel)) ggL_road_L_free
set_option maxRecDepth 20000 in
theorem ggL_road_X5_line : GoodIn wsL_road wsX5_line := goodIn_r _ [58, 10, 11, 12, 8, 13, 14, 15, 16, 17, 18, 19, 59, 60, 61, 23, 62, 63, 64, 65, 66, 67, 27, 28, 29, 30, 31, 32, 33, 34, 35, 36, 37, 129, 130, 131, 132, 133, 134, 135, 136, 137, 138, 139, 140, 141, 142, 143, 144, 145, 146, 147] (by decide +kernel) (by decide +kernel)
set_option maxRecDepth 20000 in
theorem gL_road_X5_line : GoodIn wsL_road (wsV RL 34 RX5 yX5_line wsX5_line) := goodIn_app (goodIn_of _ (by decide +kernel)) ggL_road_X5_line
set_option maxRecDepth 20000 in
theorem ggL_road_X5_fewestChanges : GoodIn wsL_road wsX5_fewestChanges := goodIn_r _ [71, 72, 10, 17, 18, 8, 19, 73, 74, 75, 76, 77, 78, 79, 80, 81, 82, 83, 84, 85, 86, 87, 46, 47, 23, 48, 25, 27, 28, 29, 30, 31, 32, 33, 49, 50, 51, 88, 89, 90, 91, 92, 93, 94, 95, 96, 97, 98, 99, 100, 64, 65, 66, 67, 63, 45, 129, 130, 131, 132, 133, 134, 148, 135, 136, 137, 138, 139, 140, 141, 142, 143, 144, 145, 146, 147] (by decide +kernel) (by decide +kernel)
set_option maxRecDepth 20000 in
theorem gL_road_X5_fewestChanges : GoodIn wsL_road (wsV RL 37 RX5 yX5_fewestChanges wsX5_fewestChanges) := goodIn_app (goodIn_of _ (by decide +kernel)) ggL_road_X5_fewestChanges
set_option maxRecDepth 20000 in
theorem ggL_road_L_drive : GoodIn wsL_road wsL_drive := (goodIn_td (ws := wsL_drive) 0 (.code yL_drive cL_drive 12 (some .int)) rfl (List.mem_of_getElem? (i := 103) rfl) (by decide +kernel) (goodIn_r (List.take 0 (wsL_drive)) [] (by decide +kernel) (by decide +kernel)) (goodIn_r (List.drop 1 (wsL_drive)) [104, 52, 53, 3, 54, 105, 106, 107] (by decide +kernel) (by decide +kernel)))
set_option maxRecDepth 20000 in
theorem gL_road_L_drive : GoodIn wsL_road (va_wsS RL 41 yL_drive wsL_drive) := goodIn_app (goodIn_of _ (by decide +kernel)) ggL_road_L_drive
set_option maxRecDepth 20000 in
theorem ggL_road_X5_total : GoodIn wsL_road wsX5_total := goodIn_r _ [111, 10, 112, 113, 114, 30, 115, 116, 117, 118, 119, 32, 43, 8, 44, 120, 121, 122, 123, 23, 124, 25, 26, 63, 125, 126, 127, 128, 129, 130, 131, 132, 133, 134, 135, 136, 137, 138, 139, 140, 141, 142, 143, 144, 145, 146, 147] (by decide +kernel) (by decide +kernel)
set_option maxRecDepth 20000 in
theorem gL_road_X5_total : GoodIn wsL_road (wsV RL 45 RX5 yX5_total wsX5_total) := goodIn_app (goodIn_of _ (by decide +kernel)) ggL_road_X5_total
theorem dL_road_0 : decode cL_road 0 = .ok (.iconst 0, 1) := by decide +kernel
theorem dL_road_1 : decode cL_road 1 = .ok (.istore 8, 2) := by decide +kernel
theorem dL_road_3 : decode cL_road 3 = .ok (.iconst 0, 1) := by decide +kernel
theorem dL_road_4 : decode cL_road 4 = .ok (.istore 9, 2) := by decide +kernel
theorem dL_road_6 : decode cL_road 6 = .ok (.iconst 0, 1) := by decide +kernel
theorem dL_road_7 : decode cL_road 7 = .ok (.istore 10, 2) := by decide +kernel
theorem dL_road_9 : decode cL_road 9 = .ok (.iconst 0, 1) := by decide +kernel
theorem dL_road_10 : decode cL_road 10 = .ok (.istore 11, 2) := by decide +kernel
theorem dL_road_12 : decode cL_road 12 = .ok (.iconst 0, 1) := by decide +kernel
theorem dL_road_13 : decode cL_road 13 = .ok (.istore 12, 2) := by decide +kernel
theorem dL_road_15 : decode cL_road 15 = .ok (.iconst 0, 1) := by decide +kernel
theorem dL_road_16 : decode cL_road 16 = .ok (.istore 13, 2) := by decide +kernel
theorem dL_road_18 : decode cL_road 18 = .ok (.iload 13, 2) := by decide +kernel
theorem dL_road_20 : decode cL_road 20 = .ok (.bipush 48, 2) := by decide +kernel
theorem dL_road_22 : decode cL_road 22 = .ok (.if_icmp .ge 275, 3) := by decide +kernel
theorem dL_road_25 : decode cL_road 25 = .ok (.iload 13, 2) := by decide +kernel
theorem dL_road_27 : decode cL_road 27 = .ok (.bipush 16, 2) := by decide +kernel
theorem dL_road_29 : decode cL_road 29 = .ok (.idiv, 1) := by decide +kernel
theorem dL_road_30 : decode cL_road 30 = .ok (.istore 14, 2) := by decide +kernel
theorem dL_road_32 : decode cL_road 32 = .ok (.iload 13, 2) := by decide +kernel
theorem dL_road_34 : decode cL_road 34 = .ok (.bipush 16, 2) := by decide +kernel
theorem dL_road_36 : decode cL_road 36 = .ok (.irem, 1) := by decide +kernel
theorem dL_road_37 : decode cL_road 37 = .ok (.istore 15, 2) := by decide +kernel
theorem dL_road_39 : decode cL_road 39 = .ok (.iload 8, 2) := by decide +kernel
theorem dL_road_41 : decode cL_road 41 = .ok (.aload_n 1, 1) := by decide +kernel
theorem dL_road_42 : decode cL_road 42 = .ok (.iload 13, 2) := by decide +kernel
theorem dL_road_44 : decode cL_road 44 = .ok (.iaload, 1) := by decide +kernel
theorem dL_road_45 : decode cL_road 45 = .ok (.ifCond .lt 7, 3) := by decide +kernel
theorem dL_road_48 : decode cL_road 48 = .ok (.iconst 1, 1) := by decide +kernel
theorem dL_road_49 : decode cL_road 49 = .ok (.goto 4, 3) := by decide +kernel
theorem dL_road_52 : decode cL_road 52 = .ok (.iconst 0, 1) := by decide +kernel
theorem dL_road_53 : decode cL_road 53 = .ok (.iadd, 1) := by decide +kernel
theorem dL_road_54 : decode cL_road 54 = .ok (.istore 8, 2) := by decide +kernel
theorem dL_road_56 : decode cL_road 56 = .ok (.iload 9, 2) := by decide +kernel
theorem dL_road_58 : decode cL_road 58 = .ok (.aload_n 3, 1) := by decide +kernel
theorem dL_road_59 : decode cL_road 59 = .ok (.iload 13, 2) := by decide +kernel
theorem dL_road_61 : decode cL_road 61 = .ok (.iaload, 1) := by decide +kernel
theorem dL_road_62 : decode cL_road 62 = .ok (.ifCond .lt 7, 3) := by decide +kernel
theorem dL_road_65 : decode cL_road 65 = .ok (.iconst 1, 1) := by decide +kernel
theorem dL_road_66 : decode cL_road 66 = .ok (.goto 4, 3) := by decide +kernel
theorem dL_road_69 : decode cL_road 69 = .ok (.iconst 0, 1) := by decide +kernel
theorem dL_road_70 : decode cL_road 70 = .ok (.iadd, 1) := by decide +kernel
theorem dL_road_71 : decode cL_road 71 = .ok (.istore 9, 2) := by decide +kernel
theorem dL_road_73 : decode cL_road 73 = .ok (.iload 11, 2) := by decide +kernel
theorem dL_road_75 : decode cL_road 75 = .ok (.aload_n 3, 1) := by decide +kernel
theorem dL_road_76 : decode cL_road 76 = .ok (.aload 4, 2) := by decide +kernel
theorem dL_road_78 : decode cL_road 78 = .ok (.aload 7, 2) := by decide +kernel
theorem dL_road_80 : decode cL_road 80 = .ok (.iload 13, 2) := by decide +kernel
theorem dL_road_82 : decode cL_road 82 = .ok (.invokestatic 10, 3) := by decide +kernel
theorem dL_road_85 : decode cL_road 85 = .ok (.ifCond .eq 7, 3) := by decide +kernel
theorem dL_road_88 : decode cL_road 88 = .ok (.iconst 1, 1) := by decide +kernel
theorem dL_road_89 : decode cL_road 89 = .ok (.goto 4, 3) := by decide +kernel
theorem dL_road_92 : decode cL_road 92 = .ok (.iconst 0, 1) := by decide +kernel
theorem dL_road_93 : decode cL_road 93 = .ok (.iadd, 1) := by decide +kernel
theorem dL_road_94 : decode cL_road 94 = .ok (.istore 11, 2) := by decide +kernel
theorem dL_road_96 : decode cL_road 96 = .ok (.iload 12, 2) := by decide +kernel
theorem dL_road_98 : decode cL_road 98 = .ok (.aload_n 2, 1) := by decide +kernel
theorem dL_road_99 : decode cL_road 99 = .ok (.iload 13, 2) := by decide +kernel
theorem dL_road_101 : decode cL_road 101 = .ok (.iaload, 1) := by decide +kernel
theorem dL_road_102 : decode cL_road 102 = .ok (.aload 4, 2) := by decide +kernel
theorem dL_road_104 : decode cL_road 104 = .ok (.iload 13, 2) := by decide +kernel
theorem dL_road_106 : decode cL_road 106 = .ok (.iaload, 1) := by decide +kernel
theorem dL_road_107 : decode cL_road 107 = .ok (.iadd, 1) := by decide +kernel
theorem dL_road_108 : decode cL_road 108 = .ok (.iadd, 1) := by decide +kernel
theorem dL_road_109 : decode cL_road 109 = .ok (.istore 12, 2) := by decide +kernel
theorem dL_road_111 : decode cL_road 111 = .ok (.aload_n 0, 1) := by decide +kernel
theorem dL_road_112 : decode cL_road 112 = .ok (.iload 14, 2) := by decide +kernel
theorem dL_road_114 : decode cL_road 114 = .ok (.iload 15, 2) := by decide +kernel
theorem dL_road_116 : decode cL_road 116 = .ok (.iconst 0, 1) := by decide +kernel
theorem dL_road_117 : decode cL_road 117 = .ok (.invokevirtual 30, 3) := by decide +kernel
theorem dL_road_120 : decode cL_road 120 = .ok (.aload_n 1, 1) := by decide +kernel
theorem dL_road_121 : decode cL_road 121 = .ok (.iload 13, 2) := by decide +kernel
theorem dL_road_123 : decode cL_road 123 = .ok (.iaload, 1) := by decide +kernel
theorem dL_road_124 : decode cL_road 124 = .ok (.ifCond .ge 8, 3) := by decide +kernel
theorem dL_road_127 : decode cL_road 127 = .ok (.bipush (-6), 2) := by decide +kernel
theorem dL_road_129 : decode cL_road 129 = .ok (.goto 7, 3) := by decide +kernel
theorem dL_road_132 : decode cL_road 132 = .ok (.aload_n 1, 1) := by decide +kernel
theorem dL_road_133 : decode cL_road 133 = .ok (.iload 13, 2) := by decide +kernel
theorem dL_road_135 : decode cL_road 135 = .ok (.iaload, 1) := by decide +kernel
theorem dL_road_136 : decode cL_road 136 = .ok (.if_icmp .ne 153, 3) := by decide +kernel
theorem dL_road_139 : decode cL_road 139 = .ok (.aload_n 0, 1) := by decide +kernel
theorem dL_road_140 : decode cL_road 140 = .ok (.iload 14, 2) := by decide +kernel
theorem dL_road_142 : decode cL_road 142 = .ok (.iload 15, 2) := by decide +kernel
theorem dL_road_144 : decode cL_road 144 = .ok (.iconst 1, 1) := by decide +kernel
theorem dL_road_145 : decode cL_road 145 = .ok (.invokevirtual 30, 3) := by decide +kernel
theorem dL_road_148 : decode cL_road 148 = .ok (.aload_n 2, 1) := by decide +kernel
theorem dL_road_149 : decode cL_road 149 = .ok (.iload 13, 2) := by decide +kernel
theorem dL_road_151 : decode cL_road 151 = .ok (.iaload, 1) := by decide +kernel
theorem dL_road_152 : decode cL_road 152 = .ok (.if_icmp .ne 137, 3) := by decide +kernel
theorem dL_road_155 : decode cL_road 155 = .ok (.aload_n 0, 1) := by decide +kernel
theorem dL_road_156 : decode cL_road 156 = .ok (.iload 14, 2) := by decide +kernel
theorem dL_road_158 : decode cL_road 158 = .ok (.iload 15, 2) := by decide +kernel
theorem dL_road_160 : decode cL_road 160 = .ok (.iconst 2, 1) := by decide +kernel
theorem dL_road_161 : decode cL_road 161 = .ok (.invokevirtual 30, 3) := by decide +kernel
theorem dL_road_164 : decode cL_road 164 = .ok (.aload_n 3, 1) := by decide +kernel
theorem dL_road_165 : decode cL_road 165 = .ok (.iload 13, 2) := by decide +kernel
theorem dL_road_167 : decode cL_road 167 = .ok (.iaload, 1) := by decide +kernel
theorem dL_road_168 : decode cL_road 168 = .ok (.ifCond .ge 8, 3) := by decide +kernel
theorem dL_road_171 : decode cL_road 171 = .ok (.bipush (-6), 2) := by decide +kernel
theorem dL_road_173 : decode cL_road 173 = .ok (.goto 7, 3) := by decide +kernel
theorem dL_road_176 : decode cL_road 176 = .ok (.aload_n 3, 1) := by decide +kernel
theorem dL_road_177 : decode cL_road 177 = .ok (.iload 13, 2) := by decide +kernel
theorem dL_road_179 : decode cL_road 179 = .ok (.iaload, 1) := by decide +kernel
theorem dL_road_180 : decode cL_road 180 = .ok (.if_icmp .ne 109, 3) := by decide +kernel
theorem dL_road_183 : decode cL_road 183 = .ok (.aload_n 0, 1) := by decide +kernel
theorem dL_road_184 : decode cL_road 184 = .ok (.iload 14, 2) := by decide +kernel
theorem dL_road_186 : decode cL_road 186 = .ok (.iload 15, 2) := by decide +kernel
theorem dL_road_188 : decode cL_road 188 = .ok (.iconst 3, 1) := by decide +kernel
theorem dL_road_189 : decode cL_road 189 = .ok (.invokevirtual 30, 3) := by decide +kernel
theorem dL_road_192 : decode cL_road 192 = .ok (.aload 4, 2) := by decide +kernel
theorem dL_road_194 : decode cL_road 194 = .ok (.iload 13, 2) := by decide +kernel
theorem dL_road_196 : decode cL_road 196 = .ok (.iaload, 1) := by decide +kernel
theorem dL_road_197 : decode cL_road 197 = .ok (.if_icmp .ne 92, 3) := by decide +kernel
theorem dL_road_200 : decode cL_road 200 = .ok (.aload_n 0, 1) := by decide +kernel
theorem dL_road_201 : decode cL_road 201 = .ok (.iload 14, 2) := by decide +kernel
theorem dL_road_203 : decode cL_road 203 = .ok (.iload 15, 2) := by decide +kernel
theorem dL_road_205 : decode cL_road 205 = .ok (.iconst 4, 1) := by decide +kernel
theorem dL_road_206 : decode cL_road 206 = .ok (.invokevirtual 30, 3) := by decide +kernel
theorem dL_road_209 : decode cL_road 209 = .ok (.aload_n 3, 1) := by decide +kernel
theorem dL_road_210 : decode cL_road 210 = .ok (.aload 4, 2) := by decide +kernel
theorem dL_road_212 : decode cL_road 212 = .ok (.aload 7, 2) := by decide +kernel
theorem dL_road_214 : decode cL_road 214 = .ok (.iload 13, 2) := by decide +kernel
theorem dL_road_216 : decode cL_road 216 = .ok (.invokestatic 10, 3) := by decide +kernel
theorem dL_road_219 : decode cL_road 219 = .ok (.ifCond .eq 7, 3) := by decide +kernel
theorem dL_road_222 : decode cL_road 222 = .ok (.iconst 1, 1) := by decide +kernel
theorem dL_road_223 : decode cL_road 223 = .ok (.goto 4, 3) := by decide +kernel
theorem dL_road_226 : decode cL_road 226 = .ok (.iconst 0, 1) := by decide +kernel
theorem dL_road_227 : decode cL_road 227 = .ok (.if_icmp .ne 62, 3) := by decide +kernel
theorem dL_road_230 : decode cL_road 230 = .ok (.aload_n 0, 1) := by decide +kernel
theorem dL_road_231 : decode cL_road 231 = .ok (.iload 14, 2) := by decide +kernel
theorem dL_road_233 : decode cL_road 233 = .ok (.iload 15, 2) := by decide +kernel
theorem dL_road_235 : decode cL_road 235 = .ok (.iconst 5, 1) := by decide +kernel
theorem dL_road_236 : decode cL_road 236 = .ok (.invokevirtual 30, 3) := by decide +kernel
theorem dL_road_239 : decode cL_road 239 = .ok (.aload_n 1, 1) := by decide +kernel
theorem dL_road_240 : decode cL_road 240 = .ok (.iload 14, 2) := by decide +kernel
theorem dL_road_242 : decode cL_road 242 = .ok (.iload 15, 2) := by decide +kernel
theorem dL_road_244 : decode cL_road 244 = .ok (.iconst 0, 1) := by decide +kernel
theorem dL_road_245 : decode cL_road 245 = .ok (.invokestatic 20, 3) := by decide +kernel
theorem dL_road_248 : decode cL_road 248 = .ok (.ifCond .eq 7, 3) := by decide +kernel
theorem dL_road_251 : decode cL_road 251 = .ok (.iconst 1, 1) := by decide +kernel
theorem dL_road_252 : decode cL_road 252 = .ok (.goto 4, 3) := by decide +kernel
theorem dL_road_255 : decode cL_road 255 = .ok (.iconst 0, 1) := by decide +kernel
theorem dL_road_256 : decode cL_road 256 = .ok (.if_icmp .ne 33, 3) := by decide +kernel
theorem dL_road_259 : decode cL_road 259 = .ok (.aload_n 0, 1) := by decide +kernel
theorem dL_road_260 : decode cL_road 260 = .ok (.iload 14, 2) := by decide +kernel
theorem dL_road_262 : decode cL_road 262 = .ok (.iload 15, 2) := by decide +kernel
theorem dL_road_264 : decode cL_road 264 = .ok (.bipush 6, 2) := by decide +kernel
theorem dL_road_266 : decode cL_road 266 = .ok (.invokevirtual 30, 3) := by decide +kernel
theorem dL_road_269 : decode cL_road 269 = .ok (.aload_n 1, 1) := by decide +kernel
theorem dL_road_270 : decode cL_road 270 = .ok (.iload 14, 2) := by decide +kernel
theorem dL_road_272 : decode cL_road 272 = .ok (.iload 15, 2) := by decide +kernel
theorem dL_road_274 : decode cL_road 274 = .ok (.iconst 1, 1) := by decide +kernel
theorem dL_road_275 : decode cL_road 275 = .ok (.invokestatic 20, 3) := by decide +kernel
theorem dL_road_278 : decode cL_road 278 = .ok (.ifCond .eq 7, 3) := by decide +kernel
theorem dL_road_281 : decode cL_road 281 = .ok (.iconst 1, 1) := by decide +kernel
theorem dL_road_282 : decode cL_road 282 = .ok (.goto 4, 3) := by decide +kernel
theorem dL_road_285 : decode cL_road 285 = .ok (.iconst 0, 1) := by decide +kernel
theorem dL_road_286 : decode cL_road 286 = .ok (.if_icmp .eq 5, 3) := by decide +kernel
theorem dL_road_289 : decode cL_road 289 = .ok (.iconst 0, 1) := by decide +kernel
theorem dL_road_290 : decode cL_road 290 = .ok (.ireturn, 1) := by decide +kernel
theorem dL_road_291 : decode cL_road 291 = .ok (.iinc 13 1, 3) := by decide +kernel
theorem dL_road_294 : decode cL_road 294 = .ok (.goto (-276), 3) := by decide +kernel
theorem dL_road_297 : decode cL_road 297 = .ok (.iconst 0, 1) := by decide +kernel
theorem dL_road_298 : decode cL_road 298 = .ok (.istore 13, 2) := by decide +kernel
theorem dL_road_300 : decode cL_road 300 = .ok (.iload 13, 2) := by decide +kernel
theorem dL_road_302 : decode cL_road 302 = .ok (.bipush 32, 2) := by decide +kernel
theorem dL_road_304 : decode cL_road 304 = .ok (.if_icmp .ge 85, 3) := by decide +kernel
theorem dL_road_307 : decode cL_road 307 = .ok (.iload 10, 2) := by decide +kernel
theorem dL_road_309 : decode cL_road 309 = .ok (.aload 5, 2) := by decide +kernel
theorem dL_road_311 : decode cL_road 311 = .ok (.iload 13, 2) := by decide +kernel
theorem dL_road_313 : decode cL_road 313 = .ok (.iaload, 1) := by decide +kernel
theorem dL_road_314 : decode cL_road 314 = .ok (.ifCond .le 7, 3) := by decide +kernel
theorem dL_road_317 : decode cL_road 317 = .ok (.iconst 1, 1) := by decide +kernel
theorem dL_road_318 : decode cL_road 318 = .ok (.goto 4, 3) := by decide +kernel
theorem dL_road_321 : decode cL_road 321 = .ok (.iconst 0, 1) := by decide +kernel
theorem dL_road_322 : decode cL_road 322 = .ok (.iadd, 1) := by decide +kernel
theorem dL_road_323 : decode cL_road 323 = .ok (.istore 10, 2) := by decide +kernel
theorem dL_road_325 : decode cL_road 325 = .ok (.iload 12, 2) := by decide +kernel
theorem dL_road_327 : decode cL_road 327 = .ok (.aload 6, 2) := by decide +kernel
theorem dL_road_329 : decode cL_road 329 = .ok (.iload 13, 2) := by decide +kernel
theorem dL_road_331 : decode cL_road 331 = .ok (.iaload, 1) := by decide +kernel
theorem dL_road_332 : decode cL_road 332 = .ok (.iadd, 1) := by decide +kernel
theorem dL_road_333 : decode cL_road 333 = .ok (.istore 12, 2) := by decide +kernel
theorem dL_road_335 : decode cL_road 335 = .ok (.aload_n 0, 1) := by decide +kernel
theorem dL_road_336 : decode cL_road 336 = .ok (.iload 13, 2) := by decide +kernel
theorem dL_road_338 : decode cL_road 338 = .ok (.bipush 16, 2) := by decide +kernel
theorem dL_road_340 : decode cL_road 340 = .ok (.idiv, 1) := by decide +kernel
theorem dL_road_341 : decode cL_road 341 = .ok (.iload 13, 2) := by decide +kernel
theorem dL_road_343 : decode cL_road 343 = .ok (.bipush 16, 2) := by decide +kernel
theorem dL_road_345 : decode cL_road 345 = .ok (.irem, 1) := by decide +kernel
theorem dL_road_346 : decode cL_road 346 = .ok (.iconst 0, 1) := by decide +kernel
theorem dL_road_347 : decode cL_road 347 = .ok (.invokevirtual 34, 3) := by decide +kernel
theorem dL_road_350 : decode cL_road 350 = .ok (.aload 5, 2) := by decide +kernel
theorem dL_road_352 : decode cL_road 352 = .ok (.iload 13, 2) := by decide +kernel
theorem dL_road_354 : decode cL_road 354 = .ok (.iaload, 1) := by decide +kernel
theorem dL_road_355 : decode cL_road 355 = .ok (.if_icmp .ne 26, 3) := by decide +kernel
theorem dL_road_358 : decode cL_road 358 = .ok (.aload_n 0, 1) := by decide +kernel
theorem dL_road_359 : decode cL_road 359 = .ok (.iload 13, 2) := by decide +kernel
theorem dL_road_361 : decode cL_road 361 = .ok (.bipush 16, 2) := by decide +kernel
theorem dL_road_363 : decode cL_road 363 = .ok (.idiv, 1) := by decide +kernel
theorem dL_road_364 : decode cL_road 364 = .ok (.iload 13, 2) := by decide +kernel
theorem dL_road_366 : decode cL_road 366 = .ok (.bipush 16, 2) := by decide +kernel
theorem dL_road_368 : decode cL_road 368 = .ok (.irem, 1) := by decide +kernel
theorem dL_road_369 : decode cL_road 369 = .ok (.iconst 1, 1) := by decide +kernel
theorem dL_road_370 : decode cL_road 370 = .ok (.invokevirtual 34, 3) := by decide +kernel
theorem dL_road_373 : decode cL_road 373 = .ok (.aload 6, 2) := by decide +kernel
theorem dL_road_375 : decode cL_road 375 = .ok (.iload 13, 2) := by decide +kernel
theorem dL_road_377 : decode cL_road 377 = .ok (.iaload, 1) := by decide +kernel
theorem dL_road_378 : decode cL_road 378 = .ok (.if_icmp .eq 5, 3) := by decide +kernel
theorem dL_road_381 : decode cL_road 381 = .ok (.iconst 0, 1) := by decide +kernel
theorem dL_road_382 : decode cL_road 382 = .ok (.ireturn, 1) := by decide +kernel
theorem dL_road_383 : decode cL_road 383 = .ok (.iinc 13 1, 3) := by decide +kernel
theorem dL_road_386 : decode cL_road 386 = .ok (.goto (-86), 3) := by decide +kernel
theorem dL_road_389 : decode cL_road 389 = .ok (.iconst 0, 1) := by decide +kernel
theorem dL_road_390 : decode cL_road 390 = .ok (.istore 13, 2) := by decide +kernel
theorem dL_road_392 : decode cL_road 392 = .ok (.iload 13, 2) := by decide +kernel
theorem dL_road_394 : decode cL_road 394 = .ok (.bipush 6, 2) := by decide +kernel
theorem dL_road_396 : decode cL_road 396 = .ok (.if_icmp .ge 40, 3) := by decide +kernel
theorem dL_road_399 : decode cL_road 399 = .ok (.aload_n 0, 1) := by decide +kernel
theorem dL_road_400 : decode cL_road 400 = .ok (.iload 13, 2) := by decide +kernel
theorem dL_road_402 : decode cL_road 402 = .ok (.iconst 3, 1) := by decide +kernel
theorem dL_road_403 : decode cL_road 403 = .ok (.idiv, 1) := by decide +kernel
theorem dL_road_404 : decode cL_road 404 = .ok (.iload 13, 2) := by decide +kernel
theorem dL_road_406 : decode cL_road 406 = .ok (.iconst 3, 1) := by decide +kernel
theorem dL_road_407 : decode cL_road 407 = .ok (.irem, 1) := by decide +kernel
theorem dL_road_408 : decode cL_road 408 = .ok (.invokevirtual 37, 3) := by decide +kernel
theorem dL_road_411 : decode cL_road 411 = .ok (.aload_n 1, 1) := by decide +kernel
theorem dL_road_412 : decode cL_road 412 = .ok (.aload 5, 2) := by decide +kernel
theorem dL_road_414 : decode cL_road 414 = .ok (.iload 13, 2) := by decide +kernel
theorem dL_road_416 : decode cL_road 416 = .ok (.iconst 3, 1) := by decide +kernel
theorem dL_road_417 : decode cL_road 417 = .ok (.idiv, 1) := by decide +kernel
theorem dL_road_418 : decode cL_road 418 = .ok (.iload 13, 2) := by decide +kernel
theorem dL_road_420 : decode cL_road 420 = .ok (.iconst 3, 1) := by decide +kernel
theorem dL_road_421 : decode cL_road 421 = .ok (.irem, 1) := by decide +kernel
theorem dL_road_422 : decode cL_road 422 = .ok (.invokestatic 41, 3) := by decide +kernel
theorem dL_road_425 : decode cL_road 425 = .ok (.if_icmp .eq 5, 3) := by decide +kernel
theorem dL_road_428 : decode cL_road 428 = .ok (.iconst 0, 1) := by decide +kernel
theorem dL_road_429 : decode cL_road 429 = .ok (.ireturn, 1) := by decide +kernel
theorem dL_road_430 : decode cL_road 430 = .ok (.iinc 13 1, 3) := by decide +kernel
theorem dL_road_433 : decode cL_road 433 = .ok (.goto (-41), 3) := by decide +kernel
theorem dL_road_436 : decode cL_road 436 = .ok (.aload_n 0, 1) := by decide +kernel
theorem dL_road_437 : decode cL_road 437 = .ok (.iconst 0, 1) := by decide +kernel
theorem dL_road_438 : decode cL_road 438 = .ok (.invokevirtual 45, 3) := by decide +kernel
theorem dL_road_441 : decode cL_road 441 = .ok (.iload 8, 2) := by decide +kernel
theorem dL_road_443 : decode cL_road 443 = .ok (.if_icmp .ne 180, 3) := by decide +kernel
theorem dL_road_446 : decode cL_road 446 = .ok (.aload_n 0, 1) := by decide +kernel
theorem dL_road_447 : decode cL_road 447 = .ok (.iconst 1, 1) := by decide +kernel
theorem dL_road_448 : decode cL_road 448 = .ok (.invokevirtual 45, 3) := by decide +kernel
theorem dL_road_451 : decode cL_road 451 = .ok (.iload 9, 2) := by decide +kernel
theorem dL_road_453 : decode cL_road 453 = .ok (.if_icmp .ne 170, 3) := by decide +kernel
theorem dL_road_456 : decode cL_road 456 = .ok (.aload_n 0, 1) := by decide +kernel
theorem dL_road_457 : decode cL_road 457 = .ok (.iconst 2, 1) := by decide +kernel
theorem dL_road_458 : decode cL_road 458 = .ok (.invokevirtual 45, 3) := by decide +kernel
theorem dL_road_461 : decode cL_road 461 = .ok (.iload 10, 2) := by decide +kernel
theorem dL_road_463 : decode cL_road 463 = .ok (.if_icmp .ne 160, 3) := by decide +kernel
theorem dL_road_466 : decode cL_road 466 = .ok (.aload_n 0, 1) := by decide +kernel
theorem dL_road_467 : decode cL_road 467 = .ok (.iconst 3, 1) := by decide +kernel
theorem dL_road_468 : decode cL_road 468 = .ok (.invokevirtual 45, 3) := by decide +kernel
theorem dL_road_471 : decode cL_road 471 = .ok (.iload 11, 2) := by decide +kernel
theorem dL_road_473 : decode cL_road 473 = .ok (.if_icmp .ne 150, 3) := by decide +kernel
theorem dL_road_476 : decode cL_road 476 = .ok (.aload_n 0, 1) := by decide +kernel
theorem dL_road_477 : decode cL_road 477 = .ok (.iconst 4, 1) := by decide +kernel
theorem dL_road_478 : decode cL_road 478 = .ok (.invokevirtual 45, 3) := by decide +kernel
theorem dL_road_481 : decode cL_road 481 = .ok (.aload 7, 2) := by decide +kernel
theorem dL_road_483 : decode cL_road 483 = .ok (.iconst 5, 1) := by decide +kernel
theorem dL_road_484 : decode cL_road 484 = .ok (.iaload, 1) := by decide +kernel
theorem dL_road_485 : decode cL_road 485 = .ok (.if_icmp .ne 138, 3) := by decide +kernel
theorem dL_road_488 : decode cL_road 488 = .ok (.aload_n 0, 1) := by decide +kernel
theorem dL_road_489 : decode cL_road 489 = .ok (.iconst 5, 1) := by decide +kernel
theorem dL_road_490 : decode cL_road 490 = .ok (.invokevirtual 45, 3) := by decide +kernel
theorem dL_road_493 : decode cL_road 493 = .ok (.aload 7, 2) := by decide +kernel
theorem dL_road_495 : decode cL_road 495 = .ok (.bipush 6, 2) := by decide +kernel
theorem dL_road_497 : decode cL_road 497 = .ok (.iaload, 1) := by decide +kernel
theorem dL_road_498 : decode cL_road 498 = .ok (.if_icmp .ne 125, 3) := by decide +kernel
theorem dL_road_501 : decode cL_road 501 = .ok (.aload_n 0, 1) := by decide +kernel
theorem dL_road_502 : decode cL_road 502 = .ok (.bipush 6, 2) := by decide +kernel
theorem dL_road_504 : decode cL_road 504 = .ok (.invokevirtual 45, 3) := by decide +kernel
theorem dL_road_507 : decode cL_road 507 = .ok (.aload 7, 2) := by decide +kernel
theorem dL_road_509 : decode cL_road 509 = .ok (.bipush 7, 2) := by decide +kernel
theorem dL_road_511 : decode cL_road 511 = .ok (.iaload, 1) := by decide +kernel
theorem dL_road_512 : decode cL_road 512 = .ok (.if_icmp .ne 111, 3) := by decide +kernel
theorem dL_road_515 : decode cL_road 515 = .ok (.aload_n 0, 1) := by decide +kernel
theorem dL_road_516 : decode cL_road 516 = .ok (.bipush 7, 2) := by decide +kernel
theorem dL_road_518 : decode cL_road 518 = .ok (.invokevirtual 45, 3) := by decide +kernel
theorem dL_road_521 : decode cL_road 521 = .ok (.aload 7, 2) := by decide +kernel
theorem dL_road_523 : decode cL_road 523 = .ok (.bipush 8, 2) := by decide +kernel
theorem dL_road_525 : decode cL_road 525 = .ok (.iaload, 1) := by decide +kernel
theorem dL_road_526 : decode cL_road 526 = .ok (.if_icmp .ne 97, 3) := by decide +kernel
theorem dL_road_529 : decode cL_road 529 = .ok (.aload_n 0, 1) := by decide +kernel
theorem dL_road_530 : decode cL_road 530 = .ok (.bipush 8, 2) := by decide +kernel
theorem dL_road_532 : decode cL_road 532 = .ok (.invokevirtual 45, 3) := by decide +kernel
theorem dL_road_535 : decode cL_road 535 = .ok (.aload 7, 2) := by decide +kernel
theorem dL_road_537 : decode cL_road 537 = .ok (.bipush 9, 2) := by decide +kernel
theorem dL_road_539 : decode cL_road 539 = .ok (.iaload, 1) := by decide +kernel
theorem dL_road_540 : decode cL_road 540 = .ok (.if_icmp .ne 83, 3) := by decide +kernel
theorem dL_road_543 : decode cL_road 543 = .ok (.aload_n 0, 1) := by decide +kernel
theorem dL_road_544 : decode cL_road 544 = .ok (.bipush 9, 2) := by decide +kernel
theorem dL_road_546 : decode cL_road 546 = .ok (.invokevirtual 45, 3) := by decide +kernel
theorem dL_road_549 : decode cL_road 549 = .ok (.iload 12, 2) := by decide +kernel
theorem dL_road_551 : decode cL_road 551 = .ok (.if_icmp .ne 72, 3) := by decide +kernel
theorem dL_road_554 : decode cL_road 554 = .ok (.aload_n 0, 1) := by decide +kernel
theorem dL_road_555 : decode cL_road 555 = .ok (.bipush 10, 2) := by decide +kernel
theorem dL_road_557 : decode cL_road 557 = .ok (.invokevirtual 45, 3) := by decide +kernel
theorem dL_road_560 : decode cL_road 560 = .ok (.aload 7, 2) := by decide +kernel
theorem dL_road_562 : decode cL_road 562 = .ok (.iconst 2, 1) := by decide +kernel
theorem dL_road_563 : decode cL_road 563 = .ok (.iaload, 1) := by decide +kernel
theorem dL_road_564 : decode cL_road 564 = .ok (.if_icmp .ne 59, 3) := by decide +kernel
theorem dL_road_567 : decode cL_road 567 = .ok (.aload_n 0, 1) := by decide +kernel
theorem dL_road_568 : decode cL_road 568 = .ok (.bipush 11, 2) := by decide +kernel
theorem dL_road_570 : decode cL_road 570 = .ok (.invokevirtual 45, 3) := by decide +kernel
theorem dL_road_573 : decode cL_road 573 = .ok (.aload 7, 2) := by decide +kernel
theorem dL_road_575 : decode cL_road 575 = .ok (.iconst 3, 1) := by decide +kernel
theorem dL_road_576 : decode cL_road 576 = .ok (.iaload, 1) := by decide +kernel
theorem dL_road_577 : decode cL_road 577 = .ok (.if_icmp .ne 46, 3) := by decide +kernel
theorem dL_road_580 : decode cL_road 580 = .ok (.aload_n 0, 1) := by decide +kernel
theorem dL_road_581 : decode cL_road 581 = .ok (.bipush 12, 2) := by decide +kernel
theorem dL_road_583 : decode cL_road 583 = .ok (.invokevirtual 45, 3) := by decide +kernel
theorem dL_road_586 : decode cL_road 586 = .ok (.aload 7, 2) := by decide +kernel
theorem dL_road_588 : decode cL_road 588 = .ok (.iconst 4, 1) := by decide +kernel
theorem dL_road_589 : decode cL_road 589 = .ok (.iaload, 1) := by decide +kernel
theorem dL_road_590 : decode cL_road 590 = .ok (.if_icmp .ne 33, 3) := by decide +kernel
theorem dL_road_593 : decode cL_road 593 = .ok (.aload_n 0, 1) := by decide +kernel
theorem dL_road_594 : decode cL_road 594 = .ok (.bipush 13, 2) := by decide +kernel
theorem dL_road_596 : decode cL_road 596 = .ok (.invokevirtual 45, 3) := by decide +kernel
theorem dL_road_599 : decode cL_road 599 = .ok (.aload 7, 2) := by decide +kernel
theorem dL_road_601 : decode cL_road 601 = .ok (.iconst 0, 1) := by decide +kernel
theorem dL_road_602 : decode cL_road 602 = .ok (.iaload, 1) := by decide +kernel
theorem dL_road_603 : decode cL_road 603 = .ok (.if_icmp .ne 20, 3) := by decide +kernel
theorem dL_road_606 : decode cL_road 606 = .ok (.aload_n 0, 1) := by decide +kernel
theorem dL_road_607 : decode cL_road 607 = .ok (.bipush 14, 2) := by decide +kernel
theorem dL_road_609 : decode cL_road 609 = .ok (.invokevirtual 45, 3) := by decide +kernel
theorem dL_road_612 : decode cL_road 612 = .ok (.aload 7, 2) := by decide +kernel
theorem dL_road_614 : decode cL_road 614 = .ok (.iconst 1, 1) := by decide +kernel
theorem dL_road_615 : decode cL_road 615 = .ok (.iaload, 1) := by decide +kernel
theorem dL_road_616 : decode cL_road 616 = .ok (.if_icmp .ne 7, 3) := by decide +kernel
theorem dL_road_619 : decode cL_road 619 = .ok (.iconst 1, 1) := by decide +kernel
theorem dL_road_620 : decode cL_road 620 = .ok (.goto 4, 3) := by decide +kernel
theorem dL_road_623 : decode cL_road 623 = .ok (.iconst 0, 1) := by decide +kernel
theorem dL_road_624 : decode cL_road 624 = .ok (.ireturn, 1) := by decide +kernel
set_option maxRecDepth 20000 in
theorem ggL_best_L_weak : GoodIn wsL_best wsL_weak := goodIn_r _ [4] (by decide +kernel) (by decide +kernel)
set_option maxRecDepth 20000 in
theorem gL_best_L_weak : GoodIn wsL_best (va_wsS RL 16 yL_weak wsL_weak) := goodIn_app (goodIn_of _ (by decide +kernel)) ggL_best_L_weak
theorem dL_best_0 : decode cL_best 0 = .ok (.iconst 0, 1) := by decide +kernel
theorem dL_best_1 : decode cL_best 1 = .ok (.istore 4, 2) := by decide +kernel
theorem dL_best_3 : decode cL_best 3 = .ok (.bipush (-6), 2) := by decide +kernel
theorem dL_best_5 : decode cL_best 5 = .ok (.istore 5, 2) := by decide +kernel
theorem dL_best_7 : decode cL_best 7 = .ok (.iconst 0, 1) := by decide +kernel
theorem dL_best_8 : decode cL_best 8 = .ok (.istore 6, 2) := by decide +kernel
theorem dL_best_10 : decode cL_best 10 = .ok (.iload 6, 2) := by decide +kernel
theorem dL_best_12 : decode cL_best 12 = .ok (.sipush 256, 3) := by decide +kernel
theorem dL_best_15 : decode cL_best 15 = .ok (.if_icmp .ge 351, 3) := by decide +kernel
theorem dL_best_18 : decode cL_best 18 = .ok (.aload_n 3, 1) := by decide +kernel
theorem dL_best_19 : decode cL_best 19 = .ok (.iconst 5, 1) := by decide +kernel
theorem dL_best_20 : decode cL_best 20 = .ok (.iaload, 1) := by decide +kernel
theorem dL_best_21 : decode cL_best 21 = .ok (.ifCond .le 345, 3) := by decide +kernel
theorem dL_best_24 : decode cL_best 24 = .ok (.iload 6, 2) := by decide +kernel
theorem dL_best_26 : decode cL_best 26 = .ok (.bipush 16, 2) := by decide +kernel
theorem dL_best_28 : decode cL_best 28 = .ok (.idiv, 1) := by decide +kernel
theorem dL_best_29 : decode cL_best 29 = .ok (.istore 7, 2) := by decide +kernel
theorem dL_best_31 : decode cL_best 31 = .ok (.iload 6, 2) := by decide +kernel
theorem dL_best_33 : decode cL_best 33 = .ok (.bipush 16, 2) := by decide +kernel
theorem dL_best_35 : decode cL_best 35 = .ok (.irem, 1) := by decide +kernel
theorem dL_best_36 : decode cL_best 36 = .ok (.istore 8, 2) := by decide +kernel
theorem dL_best_38 : decode cL_best 38 = .ok (.iload 7, 2) := by decide +kernel
theorem dL_best_40 : decode cL_best 40 = .ok (.iload 8, 2) := by decide +kernel
theorem dL_best_42 : decode cL_best 42 = .ok (.if_icmp .ge 8, 3) := by decide +kernel
theorem dL_best_45 : decode cL_best 45 = .ok (.iload 7, 2) := by decide +kernel
theorem dL_best_47 : decode cL_best 47 = .ok (.goto 5, 3) := by decide +kernel
theorem dL_best_50 : decode cL_best 50 = .ok (.iload 8, 2) := by decide +kernel
theorem dL_best_52 : decode cL_best 52 = .ok (.istore 9, 2) := by decide +kernel
theorem dL_best_54 : decode cL_best 54 = .ok (.iload 7, 2) := by decide +kernel
theorem dL_best_56 : decode cL_best 56 = .ok (.iload 8, 2) := by decide +kernel
theorem dL_best_58 : decode cL_best 58 = .ok (.if_icmp .ge 8, 3) := by decide +kernel
theorem dL_best_61 : decode cL_best 61 = .ok (.iload 8, 2) := by decide +kernel
theorem dL_best_63 : decode cL_best 63 = .ok (.goto 5, 3) := by decide +kernel
theorem dL_best_66 : decode cL_best 66 = .ok (.iload 7, 2) := by decide +kernel
theorem dL_best_68 : decode cL_best 68 = .ok (.istore 10, 2) := by decide +kernel
theorem dL_best_70 : decode cL_best 70 = .ok (.iconst 0, 1) := by decide +kernel
theorem dL_best_71 : decode cL_best 71 = .ok (.istore 11, 2) := by decide +kernel
theorem dL_best_73 : decode cL_best 73 = .ok (.iload 9, 2) := by decide +kernel
theorem dL_best_75 : decode cL_best 75 = .ok (.istore 12, 2) := by decide +kernel
theorem dL_best_77 : decode cL_best 77 = .ok (.iload 12, 2) := by decide +kernel
theorem dL_best_79 : decode cL_best 79 = .ok (.iload 10, 2) := by decide +kernel
theorem dL_best_81 : decode cL_best 81 = .ok (.if_icmp .gt 156, 3) := by decide +kernel
theorem dL_best_84 : decode cL_best 84 = .ok (.iload 11, 2) := by decide +kernel
theorem dL_best_86 : decode cL_best 86 = .ok (.aload_n 0, 1) := by decide +kernel
theorem dL_best_87 : decode cL_best 87 = .ok (.iload 12, 2) := by decide +kernel
theorem dL_best_89 : decode cL_best 89 = .ok (.iaload, 1) := by decide +kernel
theorem dL_best_90 : decode cL_best 90 = .ok (.invokestatic 16, 3) := by decide +kernel
theorem dL_best_93 : decode cL_best 93 = .ok (.ifCond .eq 7, 3) := by decide +kernel
theorem dL_best_96 : decode cL_best 96 = .ok (.iconst 1, 1) := by decide +kernel
theorem dL_best_97 : decode cL_best 97 = .ok (.goto 4, 3) := by decide +kernel
theorem dL_best_100 : decode cL_best 100 = .ok (.iconst 0, 1) := by decide +kernel
theorem dL_best_101 : decode cL_best 101 = .ok (.aload_n 0, 1) := by decide +kernel
theorem dL_best_102 : decode cL_best 102 = .ok (.bipush 16, 2) := by decide +kernel
theorem dL_best_104 : decode cL_best 104 = .ok (.iload 12, 2) := by decide +kernel
theorem dL_best_106 : decode cL_best 106 = .ok (.iadd, 1) := by decide +kernel
theorem dL_best_107 : decode cL_best 107 = .ok (.iaload, 1) := by decide +kernel
theorem dL_best_108 : decode cL_best 108 = .ok (.invokestatic 16, 3) := by decide +kernel
theorem dL_best_111 : decode cL_best 111 = .ok (.ifCond .eq 7, 3) := by decide +kernel
theorem dL_best_114 : decode cL_best 114 = .ok (.iconst 1, 1) := by decide +kernel
theorem dL_best_115 : decode cL_best 115 = .ok (.goto 4, 3) := by decide +kernel
theorem dL_best_118 : decode cL_best 118 = .ok (.iconst 0, 1) := by decide +kernel
theorem dL_best_119 : decode cL_best 119 = .ok (.iadd, 1) := by decide +kernel
theorem dL_best_120 : decode cL_best 120 = .ok (.aload_n 0, 1) := by decide +kernel
theorem dL_best_121 : decode cL_best 121 = .ok (.bipush 32, 2) := by decide +kernel
theorem dL_best_123 : decode cL_best 123 = .ok (.iload 12, 2) := by decide +kernel
theorem dL_best_125 : decode cL_best 125 = .ok (.iadd, 1) := by decide +kernel
theorem dL_best_126 : decode cL_best 126 = .ok (.iaload, 1) := by decide +kernel
theorem dL_best_127 : decode cL_best 127 = .ok (.invokestatic 16, 3) := by decide +kernel
theorem dL_best_130 : decode cL_best 130 = .ok (.ifCond .eq 7, 3) := by decide +kernel
theorem dL_best_133 : decode cL_best 133 = .ok (.iconst 1, 1) := by decide +kernel
theorem dL_best_134 : decode cL_best 134 = .ok (.goto 4, 3) := by decide +kernel
theorem dL_best_137 : decode cL_best 137 = .ok (.iconst 0, 1) := by decide +kernel
theorem dL_best_138 : decode cL_best 138 = .ok (.iadd, 1) := by decide +kernel
theorem dL_best_139 : decode cL_best 139 = .ok (.aload_n 1, 1) := by decide +kernel
theorem dL_best_140 : decode cL_best 140 = .ok (.iload 12, 2) := by decide +kernel
theorem dL_best_142 : decode cL_best 142 = .ok (.iaload, 1) := by decide +kernel
theorem dL_best_143 : decode cL_best 143 = .ok (.invokestatic 16, 3) := by decide +kernel
theorem dL_best_146 : decode cL_best 146 = .ok (.ifCond .eq 7, 3) := by decide +kernel
theorem dL_best_149 : decode cL_best 149 = .ok (.iconst 1, 1) := by decide +kernel
theorem dL_best_150 : decode cL_best 150 = .ok (.goto 4, 3) := by decide +kernel
theorem dL_best_153 : decode cL_best 153 = .ok (.iconst 0, 1) := by decide +kernel
theorem dL_best_154 : decode cL_best 154 = .ok (.iadd, 1) := by decide +kernel
theorem dL_best_155 : decode cL_best 155 = .ok (.aload_n 1, 1) := by decide +kernel
theorem dL_best_156 : decode cL_best 156 = .ok (.bipush 16, 2) := by decide +kernel
theorem dL_best_158 : decode cL_best 158 = .ok (.iload 12, 2) := by decide +kernel
theorem dL_best_160 : decode cL_best 160 = .ok (.iadd, 1) := by decide +kernel
theorem dL_best_161 : decode cL_best 161 = .ok (.iaload, 1) := by decide +kernel
theorem dL_best_162 : decode cL_best 162 = .ok (.invokestatic 16, 3) := by decide +kernel
theorem dL_best_165 : decode cL_best 165 = .ok (.ifCond .eq 7, 3) := by decide +kernel
theorem dL_best_168 : decode cL_best 168 = .ok (.iconst 1, 1) := by decide +kernel
theorem dL_best_169 : decode cL_best 169 = .ok (.goto 4, 3) := by decide +kernel
theorem dL_best_172 : decode cL_best 172 = .ok (.iconst 0, 1) := by decide +kernel
theorem dL_best_173 : decode cL_best 173 = .ok (.iadd, 1) := by decide +kernel
theorem dL_best_174 : decode cL_best 174 = .ok (.aload_n 1, 1) := by decide +kernel
theorem dL_best_175 : decode cL_best 175 = .ok (.bipush 32, 2) := by decide +kernel
theorem dL_best_177 : decode cL_best 177 = .ok (.iload 12, 2) := by decide +kernel
theorem dL_best_179 : decode cL_best 179 = .ok (.iadd, 1) := by decide +kernel
theorem dL_best_180 : decode cL_best 180 = .ok (.iaload, 1) := by decide +kernel
theorem dL_best_181 : decode cL_best 181 = .ok (.invokestatic 16, 3) := by decide +kernel
theorem dL_best_184 : decode cL_best 184 = .ok (.ifCond .eq 7, 3) := by decide +kernel
theorem dL_best_187 : decode cL_best 187 = .ok (.iconst 1, 1) := by decide +kernel
theorem dL_best_188 : decode cL_best 188 = .ok (.goto 4, 3) := by decide +kernel
theorem dL_best_191 : decode cL_best 191 = .ok (.iconst 0, 1) := by decide +kernel
theorem dL_best_192 : decode cL_best 192 = .ok (.iadd, 1) := by decide +kernel
theorem dL_best_193 : decode cL_best 193 = .ok (.aload_n 2, 1) := by decide +kernel
theorem dL_best_194 : decode cL_best 194 = .ok (.iload 12, 2) := by decide +kernel
theorem dL_best_196 : decode cL_best 196 = .ok (.iaload, 1) := by decide +kernel
theorem dL_best_197 : decode cL_best 197 = .ok (.invokestatic 16, 3) := by decide +kernel
theorem dL_best_200 : decode cL_best 200 = .ok (.ifCond .eq 7, 3) := by decide +kernel
theorem dL_best_203 : decode cL_best 203 = .ok (.iconst 1, 1) := by decide +kernel
theorem dL_best_204 : decode cL_best 204 = .ok (.goto 4, 3) := by decide +kernel
theorem dL_best_207 : decode cL_best 207 = .ok (.iconst 0, 1) := by decide +kernel
theorem dL_best_208 : decode cL_best 208 = .ok (.iadd, 1) := by decide +kernel
theorem dL_best_209 : decode cL_best 209 = .ok (.aload_n 2, 1) := by decide +kernel
theorem dL_best_210 : decode cL_best 210 = .ok (.bipush 16, 2) := by decide +kernel
theorem dL_best_212 : decode cL_best 212 = .ok (.iload 12, 2) := by decide +kernel
theorem dL_best_214 : decode cL_best 214 = .ok (.iadd, 1) := by decide +kernel
theorem dL_best_215 : decode cL_best 215 = .ok (.iaload, 1) := by decide +kernel
theorem dL_best_216 : decode cL_best 216 = .ok (.invokestatic 16, 3) := by decide +kernel
theorem dL_best_219 : decode cL_best 219 = .ok (.ifCond .eq 7, 3) := by decide +kernel
theorem dL_best_222 : decode cL_best 222 = .ok (.iconst 1, 1) := by decide +kernel
theorem dL_best_223 : decode cL_best 223 = .ok (.goto 4, 3) := by decide +kernel
theorem dL_best_226 : decode cL_best 226 = .ok (.iconst 0, 1) := by decide +kernel
theorem dL_best_227 : decode cL_best 227 = .ok (.iadd, 1) := by decide +kernel
theorem dL_best_228 : decode cL_best 228 = .ok (.iadd, 1) := by decide +kernel
theorem dL_best_229 : decode cL_best 229 = .ok (.istore 11, 2) := by decide +kernel
theorem dL_best_231 : decode cL_best 231 = .ok (.iinc 12 1, 3) := by decide +kernel
theorem dL_best_234 : decode cL_best 234 = .ok (.goto (-157), 3) := by decide +kernel
theorem dL_best_237 : decode cL_best 237 = .ok (.iload 11, 2) := by decide +kernel
theorem dL_best_239 : decode cL_best 239 = .ok (.aload_n 3, 1) := by decide +kernel
theorem dL_best_240 : decode cL_best 240 = .ok (.iconst 1, 1) := by decide +kernel
theorem dL_best_241 : decode cL_best 241 = .ok (.iaload, 1) := by decide +kernel
theorem dL_best_242 : decode cL_best 242 = .ok (.if_icmp .ge 8, 3) := by decide +kernel
theorem dL_best_245 : decode cL_best 245 = .ok (.iload 11, 2) := by decide +kernel
theorem dL_best_247 : decode cL_best 247 = .ok (.goto 6, 3) := by decide +kernel
theorem dL_best_250 : decode cL_best 250 = .ok (.aload_n 3, 1) := by decide +kernel
theorem dL_best_251 : decode cL_best 251 = .ok (.iconst 1, 1) := by decide +kernel
theorem dL_best_252 : decode cL_best 252 = .ok (.iaload, 1) := by decide +kernel
theorem dL_best_253 : decode cL_best 253 = .ok (.istore 11, 2) := by decide +kernel
theorem dL_best_255 : decode cL_best 255 = .ok (.iload 11, 2) := by decide +kernel
theorem dL_best_257 : decode cL_best 257 = .ok (.aload_n 3, 1) := by decide +kernel
theorem dL_best_258 : decode cL_best 258 = .ok (.iconst 5, 1) := by decide +kernel
theorem dL_best_259 : decode cL_best 259 = .ok (.iaload, 1) := by decide +kernel
theorem dL_best_260 : decode cL_best 260 = .ok (.if_icmp .ge 8, 3) := by decide +kernel
theorem dL_best_263 : decode cL_best 263 = .ok (.iload 11, 2) := by decide +kernel
theorem dL_best_265 : decode cL_best 265 = .ok (.goto 6, 3) := by decide +kernel
theorem dL_best_268 : decode cL_best 268 = .ok (.aload_n 3, 1) := by decide +kernel
theorem dL_best_269 : decode cL_best 269 = .ok (.iconst 5, 1) := by decide +kernel
theorem dL_best_270 : decode cL_best 270 = .ok (.iaload, 1) := by decide +kernel
theorem dL_best_271 : decode cL_best 271 = .ok (.istore 11, 2) := by decide +kernel
theorem dL_best_273 : decode cL_best 273 = .ok (.iload 5, 2) := by decide +kernel
theorem dL_best_275 : decode cL_best 275 = .ok (.ifCond .ge 8, 3) := by decide +kernel
theorem dL_best_278 : decode cL_best 278 = .ok (.bipush 99, 2) := by decide +kernel
theorem dL_best_280 : decode cL_best 280 = .ok (.goto 41, 3) := by decide +kernel
theorem dL_best_283 : decode cL_best 283 = .ok (.iload 5, 2) := by decide +kernel
theorem dL_best_285 : decode cL_best 285 = .ok (.bipush 16, 2) := by decide +kernel
theorem dL_best_287 : decode cL_best 287 = .ok (.idiv, 1) := by decide +kernel
theorem dL_best_288 : decode cL_best 288 = .ok (.iload 5, 2) := by decide +kernel
theorem dL_best_290 : decode cL_best 290 = .ok (.bipush 16, 2) := by decide +kernel
theorem dL_best_292 : decode cL_best 292 = .ok (.irem, 1) := by decide +kernel
theorem dL_best_293 : decode cL_best 293 = .ok (.if_icmp .ge 17, 3) := by decide +kernel
theorem dL_best_296 : decode cL_best 296 = .ok (.iload 5, 2) := by decide +kernel
theorem dL_best_298 : decode cL_best 298 = .ok (.bipush 16, 2) := by decide +kernel
theorem dL_best_300 : decode cL_best 300 = .ok (.irem, 1) := by decide +kernel
theorem dL_best_301 : decode cL_best 301 = .ok (.iload 5, 2) := by decide +kernel
theorem dL_best_303 : decode cL_best 303 = .ok (.bipush 16, 2) := by decide +kernel
theorem dL_best_305 : decode cL_best 305 = .ok (.idiv, 1) := by decide +kernel
theorem dL_best_306 : decode cL_best 306 = .ok (.isub, 1) := by decide +kernel
theorem dL_best_307 : decode cL_best 307 = .ok (.goto 14, 3) := by decide +kernel
theorem dL_best_310 : decode cL_best 310 = .ok (.iload 5, 2) := by decide +kernel
theorem dL_best_312 : decode cL_best 312 = .ok (.bipush 16, 2) := by decide +kernel
theorem dL_best_314 : decode cL_best 314 = .ok (.idiv, 1) := by decide +kernel
theorem dL_best_315 : decode cL_best 315 = .ok (.iload 5, 2) := by decide +kernel
theorem dL_best_317 : decode cL_best 317 = .ok (.bipush 16, 2) := by decide +kernel
theorem dL_best_319 : decode cL_best 319 = .ok (.irem, 1) := by decide +kernel
theorem dL_best_320 : decode cL_best 320 = .ok (.isub, 1) := by decide +kernel
theorem dL_best_321 : decode cL_best 321 = .ok (.istore 12, 2) := by decide +kernel
theorem dL_best_323 : decode cL_best 323 = .ok (.iload 11, 2) := by decide +kernel
theorem dL_best_325 : decode cL_best 325 = .ok (.iload 4, 2) := by decide +kernel
theorem dL_best_327 : decode cL_best 327 = .ok (.if_icmp .gt 25, 3) := by decide +kernel
theorem dL_best_330 : decode cL_best 330 = .ok (.iload 11, 2) := by decide +kernel
theorem dL_best_332 : decode cL_best 332 = .ok (.iload 4, 2) := by decide +kernel
theorem dL_best_334 : decode cL_best 334 = .ok (.if_icmp .ne 26, 3) := by decide +kernel
theorem dL_best_337 : decode cL_best 337 = .ok (.iload 11, 2) := by decide +kernel
theorem dL_best_339 : decode cL_best 339 = .ok (.ifCond .le 21, 3) := by decide +kernel
theorem dL_best_342 : decode cL_best 342 = .ok (.iload 10, 2) := by decide +kernel
theorem dL_best_344 : decode cL_best 344 = .ok (.iload 9, 2) := by decide +kernel
theorem dL_best_346 : decode cL_best 346 = .ok (.isub, 1) := by decide +kernel
theorem dL_best_347 : decode cL_best 347 = .ok (.iload 12, 2) := by decide +kernel
