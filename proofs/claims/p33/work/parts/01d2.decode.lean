theorem dL_areBarges_56 : decode cL_areBarges 56 = .ok (.istore 9, 2) := by decide +kernel
theorem dL_areBarges_58 : decode cL_areBarges 58 = .ok (.iload 9, 2) := by decide +kernel
theorem dL_areBarges_60 : decode cL_areBarges 60 = .ok (.ifCond .lt 38, 3) := by decide +kernel
theorem dL_areBarges_63 : decode cL_areBarges 63 = .ok (.iload 9, 2) := by decide +kernel
theorem dL_areBarges_65 : decode cL_areBarges 65 = .ok (.bipush 6, 2) := by decide +kernel
theorem dL_areBarges_67 : decode cL_areBarges 67 = .ok (.if_icmp .gt 31, 3) := by decide +kernel
theorem dL_areBarges_70 : decode cL_areBarges 70 = .ok (.aload_n 0, 1) := by decide +kernel
theorem dL_areBarges_71 : decode cL_areBarges 71 = .ok (.iload 8, 2) := by decide +kernel
theorem dL_areBarges_73 : decode cL_areBarges 73 = .ok (.iload 9, 2) := by decide +kernel
theorem dL_areBarges_75 : decode cL_areBarges 75 = .ok (.invokevirtual 100, 3) := by decide +kernel
theorem dL_areBarges_78 : decode cL_areBarges 78 = .ok (.iconst (-1), 1) := by decide +kernel
theorem dL_areBarges_79 : decode cL_areBarges 79 = .ok (.if_icmp .ne 19, 3) := by decide +kernel
theorem dL_areBarges_82 : decode cL_areBarges 82 = .ok (.aload_n 0, 1) := by decide +kernel
theorem dL_areBarges_83 : decode cL_areBarges 83 = .ok (.iload 8, 2) := by decide +kernel
theorem dL_areBarges_85 : decode cL_areBarges 85 = .ok (.ldc 9, 2) := by decide +kernel
theorem dL_areBarges_87 : decode cL_areBarges 87 = .ok (.invokevirtual 100, 3) := by decide +kernel
theorem dL_areBarges_90 : decode cL_areBarges 90 = .ok (.iconst (-1), 1) := by decide +kernel
theorem dL_areBarges_91 : decode cL_areBarges 91 = .ok (.if_icmp .ne 7, 3) := by decide +kernel
theorem dL_areBarges_94 : decode cL_areBarges 94 = .ok (.iconst 1, 1) := by decide +kernel
theorem dL_areBarges_95 : decode cL_areBarges 95 = .ok (.goto 4, 3) := by decide +kernel
theorem dL_areBarges_98 : decode cL_areBarges 98 = .ok (.iconst 0, 1) := by decide +kernel
theorem dL_areBarges_99 : decode cL_areBarges 99 = .ok (.istore 7, 2) := by decide +kernel
theorem dL_areBarges_101 : decode cL_areBarges 101 = .ok (.iconst 0, 1) := by decide +kernel
theorem dL_areBarges_102 : decode cL_areBarges 102 = .ok (.istore 10, 2) := by decide +kernel
theorem dL_areBarges_104 : decode cL_areBarges 104 = .ok (.iload 10, 2) := by decide +kernel
theorem dL_areBarges_106 : decode cL_areBarges 106 = .ok (.iload 9, 2) := by decide +kernel
theorem dL_areBarges_108 : decode cL_areBarges 108 = .ok (.if_icmp .ge 85, 3) := by decide +kernel
theorem dL_areBarges_111 : decode cL_areBarges 111 = .ok (.iload 7, 2) := by decide +kernel
theorem dL_areBarges_113 : decode cL_areBarges 113 = .ok (.ifCond .eq 80, 3) := by decide +kernel
theorem dL_areBarges_116 : decode cL_areBarges 116 = .ok (.aload_n 0, 1) := by decide +kernel
theorem dL_areBarges_117 : decode cL_areBarges 117 = .ok (.iload 8, 2) := by decide +kernel
theorem dL_areBarges_119 : decode cL_areBarges 119 = .ok (.iload 10, 2) := by decide +kernel
theorem dL_areBarges_121 : decode cL_areBarges 121 = .ok (.invokevirtual 100, 3) := by decide +kernel
theorem dL_areBarges_124 : decode cL_areBarges 124 = .ok (.istore 11, 2) := by decide +kernel
theorem dL_areBarges_126 : decode cL_areBarges 126 = .ok (.iload 11, 2) := by decide +kernel
theorem dL_areBarges_128 : decode cL_areBarges 128 = .ok (.ifCond .lt 46, 3) := by decide +kernel
theorem dL_areBarges_131 : decode cL_areBarges 131 = .ok (.iload 11, 2) := by decide +kernel
theorem dL_areBarges_133 : decode cL_areBarges 133 = .ok (.aload_n 2, 1) := by decide +kernel
theorem dL_areBarges_134 : decode cL_areBarges 134 = .ok (.iconst 1, 1) := by decide +kernel
theorem dL_areBarges_135 : decode cL_areBarges 135 = .ok (.iaload, 1) := by decide +kernel
theorem dL_areBarges_136 : decode cL_areBarges 136 = .ok (.if_icmp .ge 38, 3) := by decide +kernel
theorem dL_areBarges_139 : decode cL_areBarges 139 = .ok (.lload_n 3, 1) := by decide +kernel
theorem dL_areBarges_140 : decode cL_areBarges 140 = .ok (.iload 11, 2) := by decide +kernel
theorem dL_areBarges_142 : decode cL_areBarges 142 = .ok (.lshr, 1) := by decide +kernel
theorem dL_areBarges_143 : decode cL_areBarges 143 = .ok (.lconst 1, 1) := by decide +kernel
theorem dL_areBarges_144 : decode cL_areBarges 144 = .ok (.land, 1) := by decide +kernel
theorem dL_areBarges_145 : decode cL_areBarges 145 = .ok (.lconst 0, 1) := by decide +kernel
theorem dL_areBarges_146 : decode cL_areBarges 146 = .ok (.lcmp, 1) := by decide +kernel
theorem dL_areBarges_147 : decode cL_areBarges 147 = .ok (.ifCond .ne 27, 3) := by decide +kernel
theorem dL_areBarges_150 : decode cL_areBarges 150 = .ok (.aload_n 0, 1) := by decide +kernel
theorem dL_areBarges_151 : decode cL_areBarges 151 = .ok (.iload 11, 2) := by decide +kernel
theorem dL_areBarges_153 : decode cL_areBarges 153 = .ok (.invokevirtual 103, 3) := by decide +kernel
theorem dL_areBarges_156 : decode cL_areBarges 156 = .ok (.ifCond .ne 18, 3) := by decide +kernel
theorem dL_areBarges_159 : decode cL_areBarges 159 = .ok (.aload_n 0, 1) := by decide +kernel
theorem dL_areBarges_160 : decode cL_areBarges 160 = .ok (.iload 11, 2) := by decide +kernel
theorem dL_areBarges_162 : decode cL_areBarges 162 = .ok (.invokevirtual 106, 3) := by decide +kernel
theorem dL_areBarges_165 : decode cL_areBarges 165 = .ok (.iload 8, 2) := by decide +kernel
theorem dL_areBarges_167 : decode cL_areBarges 167 = .ok (.if_icmp .ne 7, 3) := by decide +kernel
theorem dL_areBarges_170 : decode cL_areBarges 170 = .ok (.iconst 1, 1) := by decide +kernel
theorem dL_areBarges_171 : decode cL_areBarges 171 = .ok (.goto 4, 3) := by decide +kernel
theorem dL_areBarges_174 : decode cL_areBarges 174 = .ok (.iconst 0, 1) := by decide +kernel
theorem dL_areBarges_175 : decode cL_areBarges 175 = .ok (.istore 7, 2) := by decide +kernel
theorem dL_areBarges_177 : decode cL_areBarges 177 = .ok (.lload_n 3, 1) := by decide +kernel
theorem dL_areBarges_178 : decode cL_areBarges 178 = .ok (.lconst 1, 1) := by decide +kernel
theorem dL_areBarges_179 : decode cL_areBarges 179 = .ok (.iload 11, 2) := by decide +kernel
theorem dL_areBarges_181 : decode cL_areBarges 181 = .ok (.lshl, 1) := by decide +kernel
theorem dL_areBarges_182 : decode cL_areBarges 182 = .ok (.lor, 1) := by decide +kernel
theorem dL_areBarges_183 : decode cL_areBarges 183 = .ok (.lstore_n 3, 1) := by decide +kernel
theorem dL_areBarges_184 : decode cL_areBarges 184 = .ok (.iinc 6 1, 3) := by decide +kernel
theorem dL_areBarges_187 : decode cL_areBarges 187 = .ok (.iinc 10 1, 3) := by decide +kernel
theorem dL_areBarges_190 : decode cL_areBarges 190 = .ok (.goto (-86), 3) := by decide +kernel
theorem dL_areBarges_193 : decode cL_areBarges 193 = .ok (.iinc 8 1, 3) := by decide +kernel
theorem dL_areBarges_196 : decode cL_areBarges 196 = .ok (.goto (-158), 3) := by decide +kernel
theorem dL_areBarges_199 : decode cL_areBarges 199 = .ok (.iconst 0, 1) := by decide +kernel
theorem dL_areBarges_200 : decode cL_areBarges 200 = .ok (.istore 8, 2) := by decide +kernel
theorem dL_areBarges_202 : decode cL_areBarges 202 = .ok (.iload 8, 2) := by decide +kernel
theorem dL_areBarges_204 : decode cL_areBarges 204 = .ok (.aload_n 2, 1) := by decide +kernel
theorem dL_areBarges_205 : decode cL_areBarges 205 = .ok (.iconst 1, 1) := by decide +kernel
theorem dL_areBarges_206 : decode cL_areBarges 206 = .ok (.iaload, 1) := by decide +kernel
theorem dL_areBarges_207 : decode cL_areBarges 207 = .ok (.if_icmp .ge 196, 3) := by decide +kernel
theorem dL_areBarges_210 : decode cL_areBarges 210 = .ok (.iload 7, 2) := by decide +kernel
theorem dL_areBarges_212 : decode cL_areBarges 212 = .ok (.ifCond .eq 191, 3) := by decide +kernel
theorem dL_areBarges_215 : decode cL_areBarges 215 = .ok (.aload_n 0, 1) := by decide +kernel
theorem dL_areBarges_216 : decode cL_areBarges 216 = .ok (.iload 8, 2) := by decide +kernel
theorem dL_areBarges_218 : decode cL_areBarges 218 = .ok (.invokevirtual 103, 3) := by decide +kernel
theorem dL_areBarges_221 : decode cL_areBarges 221 = .ok (.istore 9, 2) := by decide +kernel
theorem dL_areBarges_223 : decode cL_areBarges 223 = .ok (.aload_n 0, 1) := by decide +kernel
theorem dL_areBarges_224 : decode cL_areBarges 224 = .ok (.iload 8, 2) := by decide +kernel
theorem dL_areBarges_226 : decode cL_areBarges 226 = .ok (.invokevirtual 109, 3) := by decide +kernel
theorem dL_areBarges_229 : decode cL_areBarges 229 = .ok (.istore 10, 2) := by decide +kernel
theorem dL_areBarges_231 : decode cL_areBarges 231 = .ok (.iload 5, 2) := by decide +kernel
theorem dL_areBarges_233 : decode cL_areBarges 233 = .ok (.iload 9, 2) := by decide +kernel
theorem dL_areBarges_235 : decode cL_areBarges 235 = .ok (.iconst 2, 1) := by decide +kernel
theorem dL_areBarges_236 : decode cL_areBarges 236 = .ok (.if_icmp .ne 7, 3) := by decide +kernel
theorem dL_areBarges_239 : decode cL_areBarges 239 = .ok (.iconst 1, 1) := by decide +kernel
theorem dL_areBarges_240 : decode cL_areBarges 240 = .ok (.goto 4, 3) := by decide +kernel
theorem dL_areBarges_243 : decode cL_areBarges 243 = .ok (.iconst 0, 1) := by decide +kernel
theorem dL_areBarges_244 : decode cL_areBarges 244 = .ok (.iadd, 1) := by decide +kernel
theorem dL_areBarges_245 : decode cL_areBarges 245 = .ok (.istore 5, 2) := by decide +kernel
theorem dL_areBarges_247 : decode cL_areBarges 247 = .ok (.iload 6, 2) := by decide +kernel
theorem dL_areBarges_249 : decode cL_areBarges 249 = .ok (.iload 9, 2) := by decide +kernel
theorem dL_areBarges_251 : decode cL_areBarges 251 = .ok (.ifCond .ne 7, 3) := by decide +kernel
theorem dL_areBarges_254 : decode cL_areBarges 254 = .ok (.iconst 1, 1) := by decide +kernel
theorem dL_areBarges_255 : decode cL_areBarges 255 = .ok (.goto 4, 3) := by decide +kernel
theorem dL_areBarges_258 : decode cL_areBarges 258 = .ok (.iconst 0, 1) := by decide +kernel
theorem dL_areBarges_259 : decode cL_areBarges 259 = .ok (.isub, 1) := by decide +kernel
theorem dL_areBarges_260 : decode cL_areBarges 260 = .ok (.istore 6, 2) := by decide +kernel
theorem dL_areBarges_262 : decode cL_areBarges 262 = .ok (.iload 10, 2) := by decide +kernel
theorem dL_areBarges_264 : decode cL_areBarges 264 = .ok (.ifCond .lt 130, 3) := by decide +kernel
theorem dL_areBarges_267 : decode cL_areBarges 267 = .ok (.aload_n 0, 1) := by decide +kernel
theorem dL_areBarges_268 : decode cL_areBarges 268 = .ok (.iload 8, 2) := by decide +kernel
theorem dL_areBarges_270 : decode cL_areBarges 270 = .ok (.invokevirtual 112, 3) := by decide +kernel
theorem dL_areBarges_273 : decode cL_areBarges 273 = .ok (.iload 10, 2) := by decide +kernel
theorem dL_areBarges_275 : decode cL_areBarges 275 = .ok (.iadd, 1) := by decide +kernel
theorem dL_areBarges_276 : decode cL_areBarges 276 = .ok (.aload_n 1, 1) := by decide +kernel
theorem dL_areBarges_277 : decode cL_areBarges 277 = .ok (.iload 8, 2) := by decide +kernel
theorem dL_areBarges_279 : decode cL_areBarges 279 = .ok (.iaload, 1) := by decide +kernel
theorem dL_areBarges_280 : decode cL_areBarges 280 = .ok (.iconst 3, 1) := by decide +kernel
theorem dL_areBarges_281 : decode cL_areBarges 281 = .ok (.ishr, 1) := by decide +kernel
theorem dL_areBarges_282 : decode cL_areBarges 282 = .ok (.if_icmp .ne 112, 3) := by decide +kernel
theorem dL_areBarges_285 : decode cL_areBarges 285 = .ok (.aload_n 0, 1) := by decide +kernel
theorem dL_areBarges_286 : decode cL_areBarges 286 = .ok (.iload 8, 2) := by decide +kernel
theorem dL_areBarges_288 : decode cL_areBarges 288 = .ok (.invokevirtual 115, 3) := by decide +kernel
theorem dL_areBarges_291 : decode cL_areBarges 291 = .ok (.ifCond .lt 103, 3) := by decide +kernel
theorem dL_areBarges_294 : decode cL_areBarges 294 = .ok (.aload_n 0, 1) := by decide +kernel
theorem dL_areBarges_295 : decode cL_areBarges 295 = .ok (.iload 8, 2) := by decide +kernel
theorem dL_areBarges_297 : decode cL_areBarges 297 = .ok (.invokevirtual 115, 3) := by decide +kernel
theorem dL_areBarges_300 : decode cL_areBarges 300 = .ok (.aload_n 0, 1) := by decide +kernel
theorem dL_areBarges_301 : decode cL_areBarges 301 = .ok (.iload 8, 2) := by decide +kernel
theorem dL_areBarges_303 : decode cL_areBarges 303 = .ok (.invokevirtual 112, 3) := by decide +kernel
theorem dL_areBarges_306 : decode cL_areBarges 306 = .ok (.if_icmp .gt 88, 3) := by decide +kernel
theorem dL_areBarges_309 : decode cL_areBarges 309 = .ok (.iload 9, 2) := by decide +kernel
theorem dL_areBarges_311 : decode cL_areBarges 311 = .ok (.ifCond .ne 27, 3) := by decide +kernel
theorem dL_areBarges_314 : decode cL_areBarges 314 = .ok (.iload 10, 2) := by decide +kernel
theorem dL_areBarges_316 : decode cL_areBarges 316 = .ok (.ifCond .le 78, 3) := by decide +kernel
theorem dL_areBarges_319 : decode cL_areBarges 319 = .ok (.aload_n 0, 1) := by decide +kernel
theorem dL_areBarges_320 : decode cL_areBarges 320 = .ok (.iload 8, 2) := by decide +kernel
theorem dL_areBarges_322 : decode cL_areBarges 322 = .ok (.invokevirtual 106, 3) := by decide +kernel
theorem dL_areBarges_325 : decode cL_areBarges 325 = .ok (.aload_n 1, 1) := by decide +kernel
theorem dL_areBarges_326 : decode cL_areBarges 326 = .ok (.iload 8, 2) := by decide +kernel
theorem dL_areBarges_328 : decode cL_areBarges 328 = .ok (.iaload, 1) := by decide +kernel
theorem dL_areBarges_329 : decode cL_areBarges 329 = .ok (.bipush 7, 2) := by decide +kernel
theorem dL_areBarges_331 : decode cL_areBarges 331 = .ok (.iand, 1) := by decide +kernel
theorem dL_areBarges_332 : decode cL_areBarges 332 = .ok (.if_icmp .eq 62, 3) := by decide +kernel
theorem dL_areBarges_335 : decode cL_areBarges 335 = .ok (.goto 55, 3) := by decide +kernel
theorem dL_areBarges_338 : decode cL_areBarges 338 = .ok (.iload 9, 2) := by decide +kernel
theorem dL_areBarges_340 : decode cL_areBarges 340 = .ok (.iconst 1, 1) := by decide +kernel
theorem dL_areBarges_341 : decode cL_areBarges 341 = .ok (.if_icmp .ne 22, 3) := by decide +kernel
theorem dL_areBarges_344 : decode cL_areBarges 344 = .ok (.aload_n 0, 1) := by decide +kernel
theorem dL_areBarges_345 : decode cL_areBarges 345 = .ok (.iload 8, 2) := by decide +kernel
theorem dL_areBarges_347 : decode cL_areBarges 347 = .ok (.invokevirtual 106, 3) := by decide +kernel
theorem dL_areBarges_350 : decode cL_areBarges 350 = .ok (.aload_n 1, 1) := by decide +kernel
theorem dL_areBarges_351 : decode cL_areBarges 351 = .ok (.iload 8, 2) := by decide +kernel
theorem dL_areBarges_353 : decode cL_areBarges 353 = .ok (.iaload, 1) := by decide +kernel
theorem dL_areBarges_354 : decode cL_areBarges 354 = .ok (.bipush 7, 2) := by decide +kernel
theorem dL_areBarges_356 : decode cL_areBarges 356 = .ok (.iand, 1) := by decide +kernel
theorem dL_areBarges_357 : decode cL_areBarges 357 = .ok (.if_icmp .ne 37, 3) := by decide +kernel
theorem dL_areBarges_360 : decode cL_areBarges 360 = .ok (.goto 30, 3) := by decide +kernel
theorem dL_areBarges_363 : decode cL_areBarges 363 = .ok (.iload 9, 2) := by decide +kernel
theorem dL_areBarges_365 : decode cL_areBarges 365 = .ok (.iconst 2, 1) := by decide +kernel
theorem dL_areBarges_366 : decode cL_areBarges 366 = .ok (.if_icmp .ne 28, 3) := by decide +kernel
theorem dL_areBarges_369 : decode cL_areBarges 369 = .ok (.iload 10, 2) := by decide +kernel
theorem dL_areBarges_371 : decode cL_areBarges 371 = .ok (.ifCond .ne 23, 3) := by decide +kernel
theorem dL_areBarges_374 : decode cL_areBarges 374 = .ok (.aload_n 0, 1) := by decide +kernel
theorem dL_areBarges_375 : decode cL_areBarges 375 = .ok (.iload 8, 2) := by decide +kernel
theorem dL_areBarges_377 : decode cL_areBarges 377 = .ok (.invokevirtual 106, 3) := by decide +kernel
theorem dL_areBarges_380 : decode cL_areBarges 380 = .ok (.aload_n 1, 1) := by decide +kernel
theorem dL_areBarges_381 : decode cL_areBarges 381 = .ok (.iload 8, 2) := by decide +kernel
theorem dL_areBarges_383 : decode cL_areBarges 383 = .ok (.iaload, 1) := by decide +kernel
theorem dL_areBarges_384 : decode cL_areBarges 384 = .ok (.bipush 7, 2) := by decide +kernel
theorem dL_areBarges_386 : decode cL_areBarges 386 = .ok (.iand, 1) := by decide +kernel
theorem dL_areBarges_387 : decode cL_areBarges 387 = .ok (.if_icmp .eq 7, 3) := by decide +kernel
theorem dL_areBarges_390 : decode cL_areBarges 390 = .ok (.iconst 1, 1) := by decide +kernel
theorem dL_areBarges_391 : decode cL_areBarges 391 = .ok (.goto 4, 3) := by decide +kernel
theorem dL_areBarges_394 : decode cL_areBarges 394 = .ok (.iconst 0, 1) := by decide +kernel
theorem dL_areBarges_395 : decode cL_areBarges 395 = .ok (.istore 7, 2) := by decide +kernel
theorem dL_areBarges_397 : decode cL_areBarges 397 = .ok (.iinc 8 1, 3) := by decide +kernel
theorem dL_areBarges_400 : decode cL_areBarges 400 = .ok (.goto (-198), 3) := by decide +kernel
theorem dL_areBarges_403 : decode cL_areBarges 403 = .ok (.iload 7, 2) := by decide +kernel
theorem dL_areBarges_405 : decode cL_areBarges 405 = .ok (.ifCond .eq 21, 3) := by decide +kernel
theorem dL_areBarges_408 : decode cL_areBarges 408 = .ok (.iload 6, 2) := by decide +kernel
theorem dL_areBarges_410 : decode cL_areBarges 410 = .ok (.ifCond .ne 16, 3) := by decide +kernel
theorem dL_areBarges_413 : decode cL_areBarges 413 = .ok (.aload_n 0, 1) := by decide +kernel
theorem dL_areBarges_414 : decode cL_areBarges 414 = .ok (.invokevirtual 118, 3) := by decide +kernel
theorem dL_areBarges_417 : decode cL_areBarges 417 = .ok (.iload 5, 2) := by decide +kernel
theorem dL_areBarges_419 : decode cL_areBarges 419 = .ok (.if_icmp .ne 7, 3) := by decide +kernel
theorem dL_areBarges_422 : decode cL_areBarges 422 = .ok (.iconst 1, 1) := by decide +kernel
theorem dL_areBarges_423 : decode cL_areBarges 423 = .ok (.goto 4, 3) := by decide +kernel
theorem dL_areBarges_426 : decode cL_areBarges 426 = .ok (.iconst 0, 1) := by decide +kernel
theorem dL_areBarges_427 : decode cL_areBarges 427 = .ok (.ireturn, 1) := by decide +kernel
set_option maxRecDepth 20000 in
theorem ggL_moves_X4_allWater : GoodIn wsL_moves wsX4_allWater := goodIn_r _ [5, 6, 7, 250, 251, 252, 253, 254, 255, 256, 257, 258, 259, 260, 261] (by decide +kernel) (by decide +kernel)
set_option maxRecDepth 20000 in
theorem gL_moves_X4_allWater : GoodIn wsL_moves (wsV RL 51 RX4 yX4_allWater wsX4_allWater) := goodIn_app (goodIn_of _ (by decide +kernel)) ggL_moves_X4_allWater
set_option maxRecDepth 20000 in
theorem ggL_moves_X4_spilt : GoodIn wsL_moves wsX4_spilt := goodIn_r _ [11, 12, 250, 251, 252, 253, 254, 255] (by decide +kernel) (by decide +kernel)
set_option maxRecDepth 20000 in
theorem gL_moves_X4_spilt : GoodIn wsL_moves (wsV RL 54 RX4 yX4_spilt wsX4_spilt) := goodIn_app (goodIn_of _ (by decide +kernel)) ggL_moves_X4_spilt
set_option maxRecDepth 20000 in
theorem ggL_moves_X4_hops : GoodIn wsL_moves wsX4_hops := goodIn_ca (goodIn_r _ [16, 17, 18, 19, 20, 4, 21, 22, 23, 24, 25, 26, 27, 28, 29, 30, 31, 32, 33, 34, 35, 36, 37, 38, 39, 40, 41, 42, 43, 44, 45, 46, 47, 48, 262, 263, 264, 265, 266, 267, 268, 269, 270, 250, 251, 252, 253, 254, 255, 271, 272, 273] (by decide +kernel) (by decide +kernel)) (goodIn_sub (fun _ h => List.mem_cons_of_mem _ (List.mem_append_left _ (List.mem_append_left _ (List.mem_append_right _ h)))) (by decide +kernel))
set_option maxRecDepth 20000 in
theorem gL_moves_X4_hops : GoodIn wsL_moves (wsV RL 112 RX4 yX4_hops wsX4_hops) := goodIn_app (goodIn_of _ (by decide +kernel)) ggL_moves_X4_hops
set_option maxRecDepth 20000 in
theorem ggL_moves_L_asks : GoodIn wsL_moves wsL_asks := goodIn_ca (goodIn_ca (goodIn_ca (goodIn_r _ [52, 53, 54, 55, 56, 57, 4, 58, 59, 60, 61, 62, 63, 64, 65, 66, 67, 68, 69, 70, 22, 23, 6, 71, 72, 73, 26, 27, 28, 29, 30, 31, 74, 75, 76, 77, 78, 79, 80, 81, 82, 83, 84, 85, 86, 87, 88, 89, 90, 91, 48, 92, 93, 94, 95, 96, 97, 98, 99, 100, 101, 102, 103, 104, 105, 106, 107, 108, 109, 110, 111, 112, 113, 114, 115, 116, 117, 118, 119, 120, 121, 122, 123, 124, 125, 126, 127, 128, 129, 130, 131, 132, 133, 134, 135, 136, 137, 138, 139, 140, 141, 142, 24, 143, 144, 145, 146, 147, 148, 149, 150, 151, 152, 153, 154, 155, 156, 157, 158, 159, 160, 161, 162, 163, 164, 165, 166, 167, 168, 169, 170, 171, 172, 173, 174, 175, 176, 177, 178, 179, 25, 180, 181, 12, 182, 183, 184, 185, 32, 33, 34, 35, 36, 37, 38, 39, 40, 41, 42, 43, 44, 45, 46, 47, 186, 187, 188, 189, 190, 191, 192, 193, 194, 195, 196, 197, 198, 199, 200, 201, 202, 203, 204, 205, 206, 207, 208, 209, 210, 211, 212, 213, 214, 215, 216, 217, 218, 219, 220, 221, 222, 223, 224, 225, 226, 227, 228, 229, 230, 231, 232, 233, 234, 235, 236, 237, 238, 239, 240, 241, 242, 243, 244, 245, 246, 247, 248, 249, 250, 251, 252, 253, 254, 255, 274, 275, 276, 277, 278, 279, 271, 272, 273, 262, 263, 264, 265, 266, 267, 268, 269, 270, 256, 257, 258, 259, 260, 261, 280, 281] (by decide +kernel) (by decide +kernel)) (goodIn_sub (fun _ h => List.mem_cons_of_mem _ (List.mem_append_left _ (List.mem_append_right _ h))) (by decide +kernel))) (goodIn_sub (fun _ h => List.mem_cons_of_mem _ (List.mem_append_right _ h)) (by decide +kernel))) (goodIn_sub (fun _ h => List.mem_cons_of_mem _ (List.mem_append_left _ (List.mem_append_left _ (List.mem_append_right _ h)))) (by decide +kernel))
set_option maxRecDepth 20000 in
theorem gL_moves_L_asks : GoodIn wsL_moves (va_wsS RL 40 yL_asks wsL_asks) := goodIn_app (goodIn_of _ (by decide +kernel)) ggL_moves_L_asks
theorem dL_moves_0 : decode cL_moves 0 = .ok (.iconst 0, 1) := by decide +kernel
theorem dL_moves_1 : decode cL_moves 1 = .ok (.istore_n 3, 1) := by decide +kernel
theorem dL_moves_2 : decode cL_moves 2 = .ok (.aload_n 0, 1) := by decide +kernel
theorem dL_moves_3 : decode cL_moves 3 = .ok (.invokevirtual 51, 3) := by decide +kernel
theorem dL_moves_6 : decode cL_moves 6 = .ok (.aload_n 0, 1) := by decide +kernel
theorem dL_moves_7 : decode cL_moves 7 = .ok (.invokevirtual 54, 3) := by decide +kernel
theorem dL_moves_10 : decode cL_moves 10 = .ok (.iadd, 1) := by decide +kernel
theorem dL_moves_11 : decode cL_moves 11 = .ok (.istore 4, 2) := by decide +kernel
theorem dL_moves_13 : decode cL_moves 13 = .ok (.iconst 0, 1) := by decide +kernel
theorem dL_moves_14 : decode cL_moves 14 = .ok (.istore 5, 2) := by decide +kernel
theorem dL_moves_16 : decode cL_moves 16 = .ok (.iload 5, 2) := by decide +kernel
theorem dL_moves_18 : decode cL_moves 18 = .ok (.aload_n 2, 1) := by decide +kernel
theorem dL_moves_19 : decode cL_moves 19 = .ok (.iconst 1, 1) := by decide +kernel
theorem dL_moves_20 : decode cL_moves 20 = .ok (.iaload, 1) := by decide +kernel
theorem dL_moves_21 : decode cL_moves 21 = .ok (.if_icmp .ge 18, 3) := by decide +kernel
theorem dL_moves_24 : decode cL_moves 24 = .ok (.iload_n 3, 1) := by decide +kernel
theorem dL_moves_25 : decode cL_moves 25 = .ok (.aload_n 0, 1) := by decide +kernel
theorem dL_moves_26 : decode cL_moves 26 = .ok (.iload 5, 2) := by decide +kernel
theorem dL_moves_28 : decode cL_moves 28 = .ok (.invokevirtual 112, 3) := by decide +kernel
theorem dL_moves_31 : decode cL_moves 31 = .ok (.isub, 1) := by decide +kernel
theorem dL_moves_32 : decode cL_moves 32 = .ok (.istore_n 3, 1) := by decide +kernel
theorem dL_moves_33 : decode cL_moves 33 = .ok (.iinc 5 1, 3) := by decide +kernel
theorem dL_moves_36 : decode cL_moves 36 = .ok (.goto (-20), 3) := by decide +kernel
theorem dL_moves_39 : decode cL_moves 39 = .ok (.aload_n 0, 1) := by decide +kernel
theorem dL_moves_40 : decode cL_moves 40 = .ok (.iconst 2, 1) := by decide +kernel
theorem dL_moves_41 : decode cL_moves 41 = .ok (.iload_n 1, 1) := by decide +kernel
theorem dL_moves_42 : decode cL_moves 42 = .ok (.iconst 0, 1) := by decide +kernel
theorem dL_moves_43 : decode cL_moves 43 = .ok (.iconst 0, 1) := by decide +kernel
theorem dL_moves_44 : decode cL_moves 44 = .ok (.iconst 0, 1) := by decide +kernel
theorem dL_moves_45 : decode cL_moves 45 = .ok (.invokestatic 40, 3) := by decide +kernel
theorem dL_moves_48 : decode cL_moves 48 = .ok (.istore 5, 2) := by decide +kernel
theorem dL_moves_50 : decode cL_moves 50 = .ok (.aload_n 2, 1) := by decide +kernel
theorem dL_moves_51 : decode cL_moves 51 = .ok (.iconst 2, 1) := by decide +kernel
theorem dL_moves_52 : decode cL_moves 52 = .ok (.iaload, 1) := by decide +kernel
theorem dL_moves_53 : decode cL_moves 53 = .ok (.iload_n 1, 1) := by decide +kernel
theorem dL_moves_54 : decode cL_moves 54 = .ok (.iadd, 1) := by decide +kernel
theorem dL_moves_55 : decode cL_moves 55 = .ok (.sipush 2000, 3) := by decide +kernel
theorem dL_moves_58 : decode cL_moves 58 = .ok (.if_icmp .le 16, 3) := by decide +kernel
theorem dL_moves_61 : decode cL_moves 61 = .ok (.iload 5, 2) := by decide +kernel
theorem dL_moves_63 : decode cL_moves 63 = .ok (.bipush (-108), 2) := by decide +kernel
theorem dL_moves_65 : decode cL_moves 65 = .ok (.if_icmp .ne 7, 3) := by decide +kernel
theorem dL_moves_68 : decode cL_moves 68 = .ok (.iconst 1, 1) := by decide +kernel
theorem dL_moves_69 : decode cL_moves 69 = .ok (.goto 4, 3) := by decide +kernel
theorem dL_moves_72 : decode cL_moves 72 = .ok (.iconst 0, 1) := by decide +kernel
theorem dL_moves_73 : decode cL_moves 73 = .ok (.ireturn, 1) := by decide +kernel
theorem dL_moves_74 : decode cL_moves 74 = .ok (.aload_n 2, 1) := by decide +kernel
theorem dL_moves_75 : decode cL_moves 75 = .ok (.iconst 2, 1) := by decide +kernel
theorem dL_moves_76 : decode cL_moves 76 = .ok (.dup2, 1) := by decide +kernel
theorem dL_moves_77 : decode cL_moves 77 = .ok (.iaload, 1) := by decide +kernel
theorem dL_moves_78 : decode cL_moves 78 = .ok (.iload_n 1, 1) := by decide +kernel
theorem dL_moves_79 : decode cL_moves 79 = .ok (.iadd, 1) := by decide +kernel
theorem dL_moves_80 : decode cL_moves 80 = .ok (.iastore, 1) := by decide +kernel
theorem dL_moves_81 : decode cL_moves 81 = .ok (.iconst 0, 1) := by decide +kernel
theorem dL_moves_82 : decode cL_moves 82 = .ok (.istore 6, 2) := by decide +kernel
theorem dL_moves_84 : decode cL_moves 84 = .ok (.iload 6, 2) := by decide +kernel
theorem dL_moves_86 : decode cL_moves 86 = .ok (.aload_n 2, 1) := by decide +kernel
theorem dL_moves_87 : decode cL_moves 87 = .ok (.iconst 1, 1) := by decide +kernel
theorem dL_moves_88 : decode cL_moves 88 = .ok (.iaload, 1) := by decide +kernel
theorem dL_moves_89 : decode cL_moves 89 = .ok (.if_icmp .ge 18, 3) := by decide +kernel
theorem dL_moves_92 : decode cL_moves 92 = .ok (.iload_n 3, 1) := by decide +kernel
theorem dL_moves_93 : decode cL_moves 93 = .ok (.aload_n 0, 1) := by decide +kernel
theorem dL_moves_94 : decode cL_moves 94 = .ok (.iload 6, 2) := by decide +kernel
theorem dL_moves_96 : decode cL_moves 96 = .ok (.invokevirtual 112, 3) := by decide +kernel
theorem dL_moves_99 : decode cL_moves 99 = .ok (.iadd, 1) := by decide +kernel
theorem dL_moves_100 : decode cL_moves 100 = .ok (.istore_n 3, 1) := by decide +kernel
theorem dL_moves_101 : decode cL_moves 101 = .ok (.iinc 6 1, 3) := by decide +kernel
theorem dL_moves_104 : decode cL_moves 104 = .ok (.goto (-20), 3) := by decide +kernel
theorem dL_moves_107 : decode cL_moves 107 = .ok (.iload 5, 2) := by decide +kernel
theorem dL_moves_109 : decode cL_moves 109 = .ok (.iload_n 3, 1) := by decide +kernel
theorem dL_moves_110 : decode cL_moves 110 = .ok (.if_icmp .ne 30, 3) := by decide +kernel
theorem dL_moves_113 : decode cL_moves 113 = .ok (.iload 5, 2) := by decide +kernel
theorem dL_moves_115 : decode cL_moves 115 = .ok (.bipush 8, 2) := by decide +kernel
theorem dL_moves_117 : decode cL_moves 117 = .ok (.iload_n 1, 1) := by decide +kernel
theorem dL_moves_118 : decode cL_moves 118 = .ok (.imul, 1) := by decide +kernel
theorem dL_moves_119 : decode cL_moves 119 = .ok (.if_icmp .gt 21, 3) := by decide +kernel
theorem dL_moves_122 : decode cL_moves 122 = .ok (.aload_n 0, 1) := by decide +kernel
theorem dL_moves_123 : decode cL_moves 123 = .ok (.invokevirtual 51, 3) := by decide +kernel
theorem dL_moves_126 : decode cL_moves 126 = .ok (.aload_n 0, 1) := by decide +kernel
theorem dL_moves_127 : decode cL_moves 127 = .ok (.invokevirtual 54, 3) := by decide +kernel
theorem dL_moves_130 : decode cL_moves 130 = .ok (.iadd, 1) := by decide +kernel
theorem dL_moves_131 : decode cL_moves 131 = .ok (.iload 4, 2) := by decide +kernel
theorem dL_moves_133 : decode cL_moves 133 = .ok (.if_icmp .ne 7, 3) := by decide +kernel
theorem dL_moves_136 : decode cL_moves 136 = .ok (.iconst 1, 1) := by decide +kernel
theorem dL_moves_137 : decode cL_moves 137 = .ok (.goto 4, 3) := by decide +kernel
theorem dL_moves_140 : decode cL_moves 140 = .ok (.iconst 0, 1) := by decide +kernel
theorem dL_moves_141 : decode cL_moves 141 = .ok (.ireturn, 1) := by decide +kernel
set_option maxRecDepth 20000 in
theorem ggL_sets_X4_queue : GoodIn wsL_sets wsX4_queue := goodIn_ca (goodIn_r _ [5, 6, 7, 8, 9, 4, 10, 11, 12, 13, 14, 15, 16, 17, 18, 19, 259, 260, 261, 262, 263, 264, 265, 266, 267, 268, 269, 270, 271, 272, 273] (by decide +kernel) (by decide +kernel)) (goodIn_sub (fun _ h => List.mem_cons_of_mem _ (List.mem_append_left _ (List.mem_append_left _ (List.mem_append_right _ h)))) (by decide +kernel))
set_option maxRecDepth 20000 in
theorem gL_sets_X4_queue : GoodIn wsL_sets (wsV RL 97 RX4 yX4_queue wsX4_queue) := goodIn_app (goodIn_of _ (by decide +kernel)) ggL_sets_X4_queue
set_option maxRecDepth 20000 in
theorem ggL_sets_L_asks : GoodIn wsL_sets wsL_asks := goodIn_ca (goodIn_ca (goodIn_ca (goodIn_r _ [23, 24, 25, 26, 27, 28, 4, 29, 30, 31, 32, 33, 34, 35, 36, 37, 7, 8, 9, 10, 11, 12, 13, 38, 39, 40, 14, 15, 16, 17, 18, 19, 41, 42, 43, 44, 45, 46, 47, 48, 49, 50, 51, 52, 53, 54, 55, 56, 57, 58, 59, 60, 61, 62, 63, 64, 65, 66, 67, 68, 69, 70, 71, 72, 73, 74, 75, 76, 77, 78, 79, 80, 81, 82, 83, 84, 85, 86, 87, 88, 89, 90, 91, 92, 93, 94, 95, 96, 97, 98, 99, 100, 101, 102, 103, 104, 105, 106, 107, 108, 109, 110, 111, 112, 113, 114, 115, 6, 116, 117, 118, 119, 120, 121, 122, 123, 124, 125, 126, 127, 128, 129, 130, 131, 132, 133, 134, 135, 136, 137, 138, 139, 140, 141, 142, 143, 144, 145, 146, 147, 148, 149, 150, 151, 152, 153, 154, 155, 156, 157, 158, 159, 160, 161, 162, 163, 164, 165, 166, 167, 168, 169, 170, 171, 172, 173, 174, 175, 176, 177, 178, 179, 180, 181, 182, 183, 184, 185, 186, 187, 188, 189, 190, 191, 192, 193, 194, 195, 196, 197, 198, 199, 200, 201, 202, 203, 204, 205, 206, 207, 208, 209, 210, 211, 212, 213, 214, 215, 216, 217, 218, 219, 220, 221, 222, 223, 224, 225, 226, 227, 228, 229, 230, 231, 232, 233, 234, 235, 265, 266, 267, 268, 269, 270, 274, 275, 276, 277, 278, 279, 271, 272, 273, 280, 281, 282, 283, 284, 285, 286, 287, 288, 259, 260, 261, 262, 263, 264, 289, 290] (by decide +kernel) (by decide +kernel)) (goodIn_sub (fun _ h => List.mem_cons_of_mem _ (List.mem_append_left _ (List.mem_append_right _ h))) (by decide +kernel))) (goodIn_sub (fun _ h => List.mem_cons_of_mem _ (List.mem_append_right _ h)) (by decide +kernel))) (goodIn_sub (fun _ h => List.mem_cons_of_mem _ (List.mem_append_left _ (List.mem_append_left _ (List.mem_append_right _ h)))) (by decide +kernel))
set_option maxRecDepth 20000 in
theorem gL_sets_L_asks : GoodIn wsL_sets (va_wsS RL 40 yL_asks wsL_asks) := goodIn_app (goodIn_of _ (by decide +kernel)) ggL_sets_L_asks
set_option maxRecDepth 20000 in
theorem ggL_sets_X4_state : GoodIn wsL_sets wsX4_state := goodIn_ca (goodIn_r _ [239, 115, 240, 241, 242, 4, 243, 11, 12, 111, 148, 14, 15, 16, 17, 18, 19, 156, 157, 158, 159, 160, 161, 162, 163, 164, 165, 166, 167, 168, 169, 170, 171, 59, 280, 281, 282, 283, 284, 285, 286, 287, 288, 265, 266, 267, 268, 269, 270, 271, 272, 273] (by decide +kernel) (by decide +kernel)) (goodIn_sub (fun _ h => List.mem_cons_of_mem _ (List.mem_append_left _ (List.mem_append_left _ (List.mem_append_right _ h)))) (by decide +kernel))
set_option maxRecDepth 20000 in
theorem gL_sets_X4_state : GoodIn wsL_sets (wsV RL 103 RX4 yX4_state wsX4_state) := goodIn_app (goodIn_of _ (by decide +kernel)) ggL_sets_X4_state
set_option maxRecDepth 20000 in
theorem ggL_sets_X4_hops : GoodIn wsL_sets wsX4_hops := goodIn_ca (goodIn_r _ [247, 248, 240, 241, 242, 4, 243, 11, 12, 111, 148, 14, 15, 16, 17, 18, 19, 156, 157, 158, 159, 160, 161, 162, 163, 164, 165, 166, 167, 168, 169, 170, 171, 59, 280, 281, 282, 283, 284, 285, 286, 287, 288, 265, 266, 267, 268, 269, 270, 271, 272, 273] (by decide +kernel) (by decide +kernel)) (goodIn_sub (fun _ h => List.mem_cons_of_mem _ (List.mem_append_left _ (List.mem_append_left _ (List.mem_append_right _ h)))) (by decide +kernel))
set_option maxRecDepth 20000 in
theorem gL_sets_X4_hops : GoodIn wsL_sets (wsV RL 112 RX4 yX4_hops wsX4_hops) := goodIn_app (goodIn_of _ (by decide +kernel)) ggL_sets_X4_hops
set_option maxRecDepth 20000 in
theorem ggL_sets_X4_repeats : GoodIn wsL_sets wsX4_repeats := goodIn_ca (goodIn_r _ [252, 253, 240, 241, 242, 4, 243, 11, 12, 111, 148, 14, 15, 16, 17, 18, 19, 156, 157, 158, 159, 160, 161, 162, 163, 164, 165, 166, 167, 168, 169, 170, 171, 59, 280, 281, 282, 283, 284, 285, 286, 287, 288, 265, 266, 267, 268, 269, 270, 271, 272, 273] (by decide +kernel) (by decide +kernel)) (goodIn_sub (fun _ h => List.mem_cons_of_mem _ (List.mem_append_left _ (List.mem_append_left _ (List.mem_append_right _ h)))) (by decide +kernel))
set_option maxRecDepth 20000 in
theorem gL_sets_X4_repeats : GoodIn wsL_sets (wsV RL 115 RX4 yX4_repeats wsX4_repeats) := goodIn_app (goodIn_of _ (by decide +kernel)) ggL_sets_X4_repeats
set_option maxRecDepth 20000 in
theorem ggL_sets_X4_queued : GoodIn wsL_sets wsX4_queued := goodIn_ca (goodIn_ca (goodIn_r _ [257, 30, 31, 6, 148, 258, 7, 8, 9, 4, 10, 11, 12, 13, 14, 15, 16, 17, 18, 19, 156, 157, 158, 159, 160, 161, 162, 163, 164, 165, 166, 167, 168, 169, 170, 171, 59, 259, 260, 261, 262, 263, 264, 280, 281, 282, 283, 284, 285, 286, 287, 288, 265, 266, 267, 268, 269, 270, 271, 272, 273] (by decide +kernel) (by decide +kernel)) (goodIn_sub (fun _ h => List.mem_cons_of_mem _ (List.mem_append_left _ (List.mem_append_right _ h))) (by decide +kernel))) (goodIn_sub (fun _ h => List.mem_cons_of_mem _ (List.mem_append_left _ (List.mem_append_left _ (List.mem_append_right _ h)))) (by decide +kernel))
set_option maxRecDepth 20000 in
theorem gL_sets_X4_queued : GoodIn wsL_sets (wsV RL 100 RX4 yX4_queued wsX4_queued) := goodIn_app (goodIn_of _ (by decide +kernel)) ggL_sets_X4_queued
theorem dL_sets_0 : decode cL_sets 0 = .ok (.iload_n 1, 1) := by decide +kernel
theorem dL_sets_1 : decode cL_sets 1 = .ok (.bipush 8, 2) := by decide +kernel
theorem dL_sets_3 : decode cL_sets 3 = .ok (.irem, 1) := by decide +kernel
theorem dL_sets_4 : decode cL_sets 4 = .ok (.istore 5, 2) := by decide +kernel
theorem dL_sets_6 : decode cL_sets 6 = .ok (.iload_n 2, 1) := by decide +kernel
theorem dL_sets_7 : decode cL_sets 7 = .ok (.bipush 8, 2) := by decide +kernel
theorem dL_sets_9 : decode cL_sets 9 = .ok (.irem, 1) := by decide +kernel
theorem dL_sets_10 : decode cL_sets 10 = .ok (.istore 6, 2) := by decide +kernel
theorem dL_sets_12 : decode cL_sets 12 = .ok (.iconst 1, 1) := by decide +kernel
theorem dL_sets_13 : decode cL_sets 13 = .ok (.iload_n 2, 1) := by decide +kernel
theorem dL_sets_14 : decode cL_sets 14 = .ok (.bipush 8, 2) := by decide +kernel
theorem dL_sets_16 : decode cL_sets 16 = .ok (.idiv, 1) := by decide +kernel
theorem dL_sets_17 : decode cL_sets 17 = .ok (.bipush 20, 2) := by decide +kernel
theorem dL_sets_19 : decode cL_sets 19 = .ok (.irem, 1) := by decide +kernel
theorem dL_sets_20 : decode cL_sets 20 = .ok (.iadd, 1) := by decide +kernel
theorem dL_sets_21 : decode cL_sets 21 = .ok (.istore 7, 2) := by decide +kernel
theorem dL_sets_23 : decode cL_sets 23 = .ok (.aload_n 0, 1) := by decide +kernel
theorem dL_sets_24 : decode cL_sets 24 = .ok (.iload 5, 2) := by decide +kernel
theorem dL_sets_26 : decode cL_sets 26 = .ok (.invokevirtual 97, 3) := by decide +kernel
theorem dL_sets_29 : decode cL_sets 29 = .ok (.istore 8, 2) := by decide +kernel
theorem dL_sets_31 : decode cL_sets 31 = .ok (.aload 4, 2) := by decide +kernel
theorem dL_sets_33 : decode cL_sets 33 = .ok (.iconst 1, 1) := by decide +kernel
theorem dL_sets_34 : decode cL_sets 34 = .ok (.iaload, 1) := by decide +kernel
theorem dL_sets_35 : decode cL_sets 35 = .ok (.bipush 40, 2) := by decide +kernel
theorem dL_sets_37 : decode cL_sets 37 = .ok (.if_icmp .ge 21, 3) := by decide +kernel
theorem dL_sets_40 : decode cL_sets 40 = .ok (.iload 5, 2) := by decide +kernel
theorem dL_sets_42 : decode cL_sets 42 = .ok (.iload 6, 2) := by decide +kernel
theorem dL_sets_44 : decode cL_sets 44 = .ok (.if_icmp .eq 10, 3) := by decide +kernel
theorem dL_sets_47 : decode cL_sets 47 = .ok (.iload 8, 2) := by decide +kernel
theorem dL_sets_49 : decode cL_sets 49 = .ok (.bipush 6, 2) := by decide +kernel
theorem dL_sets_51 : decode cL_sets 51 = .ok (.if_icmp .ge 7, 3) := by decide +kernel
theorem dL_sets_54 : decode cL_sets 54 = .ok (.iconst 1, 1) := by decide +kernel
theorem dL_sets_55 : decode cL_sets 55 = .ok (.goto 4, 3) := by decide +kernel
theorem dL_sets_58 : decode cL_sets 58 = .ok (.iconst 0, 1) := by decide +kernel
theorem dL_sets_59 : decode cL_sets 59 = .ok (.istore 9, 2) := by decide +kernel
theorem dL_sets_61 : decode cL_sets 61 = .ok (.aload_n 0, 1) := by decide +kernel
theorem dL_sets_62 : decode cL_sets 62 = .ok (.iconst 1, 1) := by decide +kernel
theorem dL_sets_63 : decode cL_sets 63 = .ok (.iload 5, 2) := by decide +kernel
theorem dL_sets_65 : decode cL_sets 65 = .ok (.iload 6, 2) := by decide +kernel
theorem dL_sets_67 : decode cL_sets 67 = .ok (.iload 7, 2) := by decide +kernel
theorem dL_sets_69 : decode cL_sets 69 = .ok (.iconst 0, 1) := by decide +kernel
theorem dL_sets_70 : decode cL_sets 70 = .ok (.invokestatic 40, 3) := by decide +kernel
theorem dL_sets_73 : decode cL_sets 73 = .ok (.istore 10, 2) := by decide +kernel
theorem dL_sets_75 : decode cL_sets 75 = .ok (.iload 9, 2) := by decide +kernel
theorem dL_sets_77 : decode cL_sets 77 = .ok (.ifCond .ne 27, 3) := by decide +kernel
theorem dL_sets_80 : decode cL_sets 80 = .ok (.iload 10, 2) := by decide +kernel
theorem dL_sets_82 : decode cL_sets 82 = .ok (.bipush (-108), 2) := by decide +kernel
theorem dL_sets_84 : decode cL_sets 84 = .ok (.if_icmp .ne 18, 3) := by decide +kernel
theorem dL_sets_87 : decode cL_sets 87 = .ok (.aload_n 0, 1) := by decide +kernel
theorem dL_sets_88 : decode cL_sets 88 = .ok (.iload 5, 2) := by decide +kernel
theorem dL_sets_90 : decode cL_sets 90 = .ok (.invokevirtual 97, 3) := by decide +kernel
theorem dL_sets_93 : decode cL_sets 93 = .ok (.iload 8, 2) := by decide +kernel
theorem dL_sets_95 : decode cL_sets 95 = .ok (.if_icmp .ne 7, 3) := by decide +kernel
theorem dL_sets_98 : decode cL_sets 98 = .ok (.iconst 1, 1) := by decide +kernel
theorem dL_sets_99 : decode cL_sets 99 = .ok (.goto 4, 3) := by decide +kernel
theorem dL_sets_102 : decode cL_sets 102 = .ok (.iconst 0, 1) := by decide +kernel
theorem dL_sets_103 : decode cL_sets 103 = .ok (.ireturn, 1) := by decide +kernel
theorem dL_sets_104 : decode cL_sets 104 = .ok (.aload_n 3, 1) := by decide +kernel
theorem dL_sets_105 : decode cL_sets 105 = .ok (.aload 4, 2) := by decide +kernel
theorem dL_sets_107 : decode cL_sets 107 = .ok (.iconst 1, 1) := by decide +kernel
theorem dL_sets_108 : decode cL_sets 108 = .ok (.iaload, 1) := by decide +kernel
theorem dL_sets_109 : decode cL_sets 109 = .ok (.iload 6, 2) := by decide +kernel
theorem dL_sets_111 : decode cL_sets 111 = .ok (.iload 7, 2) := by decide +kernel
theorem dL_sets_113 : decode cL_sets 113 = .ok (.iconst 3, 1) := by decide +kernel
theorem dL_sets_114 : decode cL_sets 114 = .ok (.ishl, 1) := by decide +kernel
theorem dL_sets_115 : decode cL_sets 115 = .ok (.ior, 1) := by decide +kernel
theorem dL_sets_116 : decode cL_sets 116 = .ok (.iastore, 1) := by decide +kernel
theorem dL_sets_117 : decode cL_sets 117 = .ok (.aload 4, 2) := by decide +kernel
theorem dL_sets_119 : decode cL_sets 119 = .ok (.iconst 1, 1) := by decide +kernel
theorem dL_sets_120 : decode cL_sets 120 = .ok (.dup2, 1) := by decide +kernel
theorem dL_sets_121 : decode cL_sets 121 = .ok (.iaload, 1) := by decide +kernel
theorem dL_sets_122 : decode cL_sets 122 = .ok (.iconst 1, 1) := by decide +kernel
theorem dL_sets_123 : decode cL_sets 123 = .ok (.iadd, 1) := by decide +kernel
theorem dL_sets_124 : decode cL_sets 124 = .ok (.iastore, 1) := by decide +kernel
theorem dL_sets_125 : decode cL_sets 125 = .ok (.iload 10, 2) := by decide +kernel
theorem dL_sets_127 : decode cL_sets 127 = .ok (.aload 4, 2) := by decide +kernel
theorem dL_sets_129 : decode cL_sets 129 = .ok (.iconst 1, 1) := by decide +kernel
theorem dL_sets_130 : decode cL_sets 130 = .ok (.iaload, 1) := by decide +kernel
theorem dL_sets_131 : decode cL_sets 131 = .ok (.iconst 1, 1) := by decide +kernel
theorem dL_sets_132 : decode cL_sets 132 = .ok (.isub, 1) := by decide +kernel
theorem dL_sets_133 : decode cL_sets 133 = .ok (.if_icmp .ne 90, 3) := by decide +kernel
theorem dL_sets_136 : decode cL_sets 136 = .ok (.aload_n 0, 1) := by decide +kernel
theorem dL_sets_137 : decode cL_sets 137 = .ok (.iload 10, 2) := by decide +kernel
theorem dL_sets_139 : decode cL_sets 139 = .ok (.invokevirtual 103, 3) := by decide +kernel
theorem dL_sets_142 : decode cL_sets 142 = .ok (.iload 5, 2) := by decide +kernel
theorem dL_sets_144 : decode cL_sets 144 = .ok (.iload 6, 2) := by decide +kernel
theorem dL_sets_146 : decode cL_sets 146 = .ok (.if_icmp .ne 7, 3) := by decide +kernel
theorem dL_sets_149 : decode cL_sets 149 = .ok (.iconst 1, 1) := by decide +kernel
theorem dL_sets_150 : decode cL_sets 150 = .ok (.goto 4, 3) := by decide +kernel
theorem dL_sets_153 : decode cL_sets 153 = .ok (.iconst 0, 1) := by decide +kernel
theorem dL_sets_154 : decode cL_sets 154 = .ok (.if_icmp .ne 69, 3) := by decide +kernel
theorem dL_sets_157 : decode cL_sets 157 = .ok (.aload_n 0, 1) := by decide +kernel
theorem dL_sets_158 : decode cL_sets 158 = .ok (.iload 10, 2) := by decide +kernel
theorem dL_sets_160 : decode cL_sets 160 = .ok (.invokevirtual 112, 3) := by decide +kernel
theorem dL_sets_163 : decode cL_sets 163 = .ok (.ifCond .ne 60, 3) := by decide +kernel
theorem dL_sets_166 : decode cL_sets 166 = .ok (.aload_n 0, 1) := by decide +kernel
theorem dL_sets_167 : decode cL_sets 167 = .ok (.iload 10, 2) := by decide +kernel
theorem dL_sets_169 : decode cL_sets 169 = .ok (.invokevirtual 115, 3) := by decide +kernel
theorem dL_sets_172 : decode cL_sets 172 = .ok (.ifCond .ne 51, 3) := by decide +kernel
theorem dL_sets_175 : decode cL_sets 175 = .ok (.aload_n 0, 1) := by decide +kernel
theorem dL_sets_176 : decode cL_sets 176 = .ok (.iload 5, 2) := by decide +kernel
theorem dL_sets_178 : decode cL_sets 178 = .ok (.invokevirtual 97, 3) := by decide +kernel
theorem dL_sets_181 : decode cL_sets 181 = .ok (.iload 8, 2) := by decide +kernel
theorem dL_sets_183 : decode cL_sets 183 = .ok (.iload 5, 2) := by decide +kernel
theorem dL_sets_185 : decode cL_sets 185 = .ok (.iload 6, 2) := by decide +kernel
theorem dL_sets_187 : decode cL_sets 187 = .ok (.if_icmp .ne 7, 3) := by decide +kernel
theorem dL_sets_190 : decode cL_sets 190 = .ok (.iconst 0, 1) := by decide +kernel
theorem dL_sets_191 : decode cL_sets 191 = .ok (.goto 4, 3) := by decide +kernel
theorem dL_sets_194 : decode cL_sets 194 = .ok (.iconst 1, 1) := by decide +kernel
theorem dL_sets_195 : decode cL_sets 195 = .ok (.iadd, 1) := by decide +kernel
theorem dL_sets_196 : decode cL_sets 196 = .ok (.if_icmp .ne 27, 3) := by decide +kernel
theorem dL_sets_199 : decode cL_sets 199 = .ok (.iload 5, 2) := by decide +kernel
theorem dL_sets_201 : decode cL_sets 201 = .ok (.iload 6, 2) := by decide +kernel
theorem dL_sets_203 : decode cL_sets 203 = .ok (.if_icmp .eq 16, 3) := by decide +kernel
theorem dL_sets_206 : decode cL_sets 206 = .ok (.aload_n 0, 1) := by decide +kernel
theorem dL_sets_207 : decode cL_sets 207 = .ok (.iload 5, 2) := by decide +kernel
theorem dL_sets_209 : decode cL_sets 209 = .ok (.iload 8, 2) := by decide +kernel
theorem dL_sets_211 : decode cL_sets 211 = .ok (.invokevirtual 100, 3) := by decide +kernel
theorem dL_sets_214 : decode cL_sets 214 = .ok (.iload 10, 2) := by decide +kernel
theorem dL_sets_216 : decode cL_sets 216 = .ok (.if_icmp .ne 7, 3) := by decide +kernel
theorem dL_sets_219 : decode cL_sets 219 = .ok (.iconst 1, 1) := by decide +kernel
theorem dL_sets_220 : decode cL_sets 220 = .ok (.goto 4, 3) := by decide +kernel
theorem dL_sets_223 : decode cL_sets 223 = .ok (.iconst 0, 1) := by decide +kernel
theorem dL_sets_224 : decode cL_sets 224 = .ok (.ireturn, 1) := by decide +kernel
set_option maxRecDepth 20000 in
theorem ggL_step_L_asks : GoodIn wsL_step wsL_asks := goodIn_ca (goodIn_ca (goodIn_ca (goodIn_r _ [4, 5, 6, 7, 8, 9, 10, 11, 12, 13, 14, 15, 16, 17, 18, 19, 20, 21, 22, 23, 24, 25, 26, 27, 28, 29, 30, 31, 32, 33, 34, 35, 36, 37, 38, 39, 40, 41, 42, 43, 44, 45, 46, 47, 48, 49, 50, 51, 52, 53, 54, 55, 56, 57, 58, 59, 60, 61, 62, 63, 64, 65, 66, 67, 68, 69, 70, 71, 72, 73, 74, 75, 76, 77, 78, 79, 80, 81, 82, 83, 84, 85, 86, 87, 88, 89, 90, 91, 92, 93, 94, 95, 96, 97, 98, 99, 100, 101, 102, 103, 104, 105, 106, 107, 108, 109, 110, 111, 112, 113, 114, 115, 116, 117, 118, 119, 120, 121, 122, 123, 124, 125, 126, 127, 128, 129, 130, 131, 132, 133, 134, 135, 136, 137, 138, 139, 140, 141, 142, 143, 144, 145, 146, 147, 148, 149, 150, 151, 152, 153, 154, 155, 156, 157, 158, 159, 160, 161, 162, 163, 164, 165, 166, 167, 168, 169, 170, 171, 172, 173, 174, 175, 176, 177, 178, 179, 180, 181, 182, 183, 184, 185, 186, 187, 188, 189, 190, 191, 192, 193, 194, 195, 196, 197, 198, 199, 200, 201, 202, 203, 204, 205, 206, 207, 208, 209, 210, 211, 212, 213, 214, 215, 216, 217, 218, 219, 220, 221, 222, 223, 224, 225, 226, 227, 228, 229, 230, 231, 403, 404, 405, 406, 407, 408, 409, 410, 411, 412, 413, 414, 415, 416, 417, 418, 419, 420, 421, 422, 423, 424, 425, 426, 427, 428, 429, 430, 431, 432, 433, 434] (by decide +kernel) (by decide +kernel)) (goodIn_sub (fun _ h => List.mem_cons_of_mem _ (List.mem_append_left _ (List.mem_append_left _ (List.mem_append_right _ h)))) (by decide +kernel))) (goodIn_sub (fun _ h => List.mem_cons_of_mem _ (List.mem_append_left _ (List.mem_append_right _ h))) (by decide +kernel))) (goodIn_sub (fun _ h => List.mem_cons_of_mem _ (List.mem_append_right _ h)) (by decide +kernel))
set_option maxRecDepth 20000 in
theorem gL_step_L_asks : GoodIn wsL_step (va_wsS RL 40 yL_asks wsL_asks) := goodIn_app (goodIn_of _ (by decide +kernel)) ggL_step_L_asks
set_option maxRecDepth 20000 in
theorem ggL_step_L_part : GoodIn wsL_step wsL_part := goodIn_r _ [234] (by decide +kernel) (by decide +kernel)
set_option maxRecDepth 20000 in
theorem gL_step_L_part : GoodIn wsL_step (va_wsS RL 10 yL_part wsL_part) := goodIn_app (goodIn_of _ (by decide +kernel)) ggL_step_L_part
set_option maxRecDepth 20000 in
theorem ggL_step_X4_setGate : GoodIn wsL_step wsX4_setGate := goodIn_ca (goodIn_r _ [238, 239, 219, 220, 221, 10, 222, 24, 25, 16, 223, 30, 31, 32, 33, 34, 35, 152, 153, 154, 155, 156, 157, 158, 159, 160, 161, 162, 163, 164, 165, 166, 167, 54, 409, 410, 411, 412, 413, 414, 403, 404, 405, 406, 407, 408, 415, 416, 417] (by decide +kernel) (by decide +kernel)) (goodIn_sub (fun _ h => List.mem_cons_of_mem _ (List.mem_append_right _ h)) (by decide +kernel))
set_option maxRecDepth 20000 in
theorem gL_step_X4_setGate : GoodIn wsL_step (wsV RL 121 RX4 yX4_setGate wsX4_setGate) := goodIn_app (goodIn_of _ (by decide +kernel)) ggL_step_X4_setGate
set_option maxRecDepth 20000 in
theorem ggL_step_X4_setMark : GoodIn wsL_step wsX4_setMark := goodIn_ca (goodIn_ca (goodIn_r _ [243, 188, 20, 21, 22, 10, 23, 24, 25, 26, 27, 28, 29, 12, 13, 427, 428, 429, 430, 431, 432, 403, 404, 405, 406, 407, 408] (by decide +kernel) (by decide +kernel)) (goodIn_sub (fun _ h => List.mem_cons_of_mem _ (List.mem_append_right _ h)) (by decide +kernel))) (goodIn_sub (fun _ h => List.mem_cons_of_mem _ (List.mem_append_left _ (List.mem_append_left _ (List.mem_append_right _ h)))) (by decide +kernel))
set_option maxRecDepth 20000 in
theorem gL_step_X4_setMark : GoodIn wsL_step (wsV RL 125 RX4 yX4_setMark wsX4_setMark) := goodIn_app (goodIn_of _ (by decide +kernel)) ggL_step_X4_setMark
set_option maxRecDepth 20000 in
theorem ggL_step_X4_water : GoodIn wsL_step wsX4_water := goodIn_ca (goodIn_r _ [247, 248, 20, 21, 22, 10, 23, 24, 25, 26, 427, 428, 429, 430, 431, 432, 403, 404, 405, 406, 407, 408] (by decide +kernel) (by decide +kernel)) (goodIn_sub (fun _ h => List.mem_cons_of_mem _ (List.mem_append_right _ h)) (by decide +kernel))
set_option maxRecDepth 20000 in
theorem gL_step_X4_water : GoodIn wsL_step (wsV RL 44 RX4 yX4_water wsX4_water) := goodIn_app (goodIn_of _ (by decide +kernel)) ggL_step_X4_water
set_option maxRecDepth 20000 in
theorem ggL_step_X4_spilt : GoodIn wsL_step wsX4_spilt := goodIn_r _ [252, 147, 403, 404, 405, 406, 407, 408] (by decide +kernel) (by decide +kernel)
set_option maxRecDepth 20000 in
theorem gL_step_X4_spilt : GoodIn wsL_step (wsV RL 54 RX4 yX4_spilt wsX4_spilt) := goodIn_app (goodIn_of _ (by decide +kernel)) ggL_step_X4_spilt
set_option maxRecDepth 20000 in
theorem ggL_step_X4_rain : GoodIn wsL_step wsX4_rain := goodIn_ca (goodIn_ca (goodIn_r _ [256, 147, 248, 20, 21, 22, 10, 23, 24, 25, 26, 27, 28, 29, 12, 13, 257, 203, 204, 115, 205, 206, 207, 69, 70, 71, 403, 404, 405, 406, 407, 408, 427, 428, 429, 430, 431, 432] (by decide +kernel) (by decide +kernel)) (goodIn_sub (fun _ h => List.mem_cons_of_mem _ (List.mem_append_right _ h)) (by decide +kernel))) (goodIn_sub (fun _ h => List.mem_cons_of_mem _ (List.mem_append_left _ (List.mem_append_left _ (List.mem_append_right _ h)))) (by decide +kernel))
set_option maxRecDepth 20000 in
theorem gL_step_X4_rain : GoodIn wsL_step (wsV RL 128 RX4 yX4_rain wsX4_rain) := goodIn_app (goodIn_of _ (by decide +kernel)) ggL_step_X4_rain
set_option maxRecDepth 20000 in
theorem ggL_step_X4_dry : GoodIn wsL_step wsX4_dry := goodIn_ca (goodIn_r _ [261, 26, 27, 28, 10, 29, 12, 13, 262, 263, 264, 115, 265, 206, 207, 69, 70, 71, 266, 267, 268, 269, 248, 403, 404, 405, 406, 407, 408, 427, 428, 429, 430, 431, 432] (by decide +kernel) (by decide +kernel)) (goodIn_sub (fun _ h => List.mem_cons_of_mem _ (List.mem_append_left _ (List.mem_append_left _ (List.mem_append_right _ h)))) (by decide +kernel))
set_option maxRecDepth 20000 in
theorem gL_step_X4_dry : GoodIn wsL_step (wsV RL 131 RX4 yX4_dry wsX4_dry) := goodIn_app (goodIn_of _ (by decide +kernel)) ggL_step_X4_dry
set_option maxRecDepth 20000 in
theorem ggL_step_L_settles : GoodIn wsL_step wsL_settles := goodIn_ca (goodIn_ca (goodIn_r _ [272, 273, 274, 275, 10, 276, 277, 278, 279, 280, 26, 281, 16, 223, 239, 282, 283, 284, 285, 286, 287, 288, 289, 290, 30, 31, 32, 33, 34, 35, 152, 153, 154, 155, 156, 157, 158, 159, 160, 161, 162, 163, 164, 165, 166, 167, 54, 291, 292, 293, 115, 294, 172, 295, 174, 296, 297, 225, 226, 19, 227, 46, 44, 45, 228, 229, 230, 231, 206, 298, 299, 300, 301, 302, 303, 304, 305, 306, 307, 308, 309, 310, 311, 312, 3, 313, 314, 315, 316, 317, 318, 319, 20, 21, 22, 23, 24, 25, 320, 321, 322, 323, 324, 168, 169, 170, 171, 173, 325, 326, 327, 328, 27, 28, 29, 12, 13, 329, 330, 331, 332, 232, 233, 234, 333, 334, 335, 336, 337, 338, 215, 216, 217, 218, 219, 220, 221, 222, 224, 403, 404, 405, 406, 407, 408, 427, 428, 429, 430, 431, 432, 409, 410, 411, 412, 413, 414, 433, 434, 415, 416, 417] (by decide +kernel) (by decide +kernel)) (goodIn_sub (fun _ h => List.mem_cons_of_mem _ (List.mem_append_right _ h)) (by decide +kernel))) (goodIn_sub (fun _ h => List.mem_cons_of_mem _ (List.mem_append_left _ (List.mem_append_left _ (List.mem_append_right _ h)))) (by decide +kernel))
set_option maxRecDepth 20000 in
theorem gL_step_L_settles : GoodIn wsL_step (va_wsS RL 134 yL_settles wsL_settles) := goodIn_app (goodIn_of _ (by decide +kernel)) ggL_step_L_settles
set_option maxRecDepth 20000 in
theorem ggL_step_X4_settle : GoodIn wsL_step wsX4_settle := goodIn_ca (goodIn_r _ [328, 26, 27, 28, 10, 29, 12, 13, 277, 278, 279, 280, 281, 16, 223, 239, 282, 283, 284, 285, 286, 287, 288, 289, 290, 30, 31, 32, 33, 34, 35, 152, 153, 154, 155, 156, 157, 158, 159, 160, 161, 162, 163, 164, 165, 166, 167, 54, 291, 292, 293, 115, 294, 172, 295, 174, 296, 297, 225, 226, 19, 227, 46, 44, 45, 228, 229, 230, 231, 206, 298, 299, 300, 301, 302, 303, 304, 305, 306, 307, 308, 309, 310, 329, 330, 331, 332, 403, 404, 405, 406, 407, 408, 427, 428, 429, 430, 431, 432, 409, 410, 411, 412, 413, 414, 433, 434, 415, 416, 417] (by decide +kernel) (by decide +kernel)) (goodIn_sub (fun _ h => List.mem_cons_of_mem _ (List.mem_append_left _ (List.mem_append_left _ (List.mem_append_right _ h)))) (by decide +kernel))
set_option maxRecDepth 20000 in
theorem gL_step_X4_settle : GoodIn wsL_step (wsV RL 72 RX4 yX4_settle wsX4_settle) := goodIn_app (goodIn_of _ (by decide +kernel)) ggL_step_X4_settle
set_option maxRecDepth 20000 in
theorem ggL_step_L_areWays : GoodIn wsL_step wsL_areWays := goodIn_ca (goodIn_r _ [341, 273, 274, 275, 10, 276, 277, 278, 279, 280, 26, 281, 16, 223, 239, 282, 283, 284, 285, 286, 287, 288, 289, 290, 30, 31, 32, 33, 34, 35, 152, 153, 154, 155, 156, 157, 158, 159, 160, 161, 162, 163, 164, 165, 166, 167, 54, 291, 292, 293, 115, 294, 172, 295, 174, 296, 297, 225, 226, 19, 227, 46, 44, 45, 228, 229, 230, 231, 206, 298, 299, 300, 301, 302, 303, 304, 305, 306, 307, 308, 309, 310, 311, 312, 3, 313, 314, 315, 316, 317, 318, 319, 20, 21, 22, 23, 24, 25, 320, 321, 322, 323, 324, 168, 169, 170, 171, 173, 336, 337, 338, 232, 233, 234, 342, 343, 344, 345, 346, 347, 348, 349, 350, 224, 351, 352, 353, 354, 355, 356, 357, 358, 359, 360, 361, 180, 181, 182, 183, 362, 363, 364, 365, 403, 404, 405, 406, 407, 408, 427, 428, 429, 430, 431, 432, 409, 410, 411, 412, 413, 414, 433, 434, 415, 416, 417] (by decide +kernel) (by decide +kernel)) (goodIn_sub (fun _ h => List.mem_cons_of_mem _ (List.mem_append_right _ h)) (by decide +kernel))
set_option maxRecDepth 20000 in
theorem gL_step_L_areWays : GoodIn wsL_step (va_wsS RL 138 yL_areWays wsL_areWays) := goodIn_app (goodIn_of _ (by decide +kernel)) ggL_step_L_areWays
set_option maxRecDepth 20000 in
theorem ggL_step_L_sets : GoodIn wsL_step wsL_sets := goodIn_ca (goodIn_ca (goodIn_ca (goodIn_r _ [368, 369, 370, 371, 10, 372, 111, 20, 21, 22, 23, 24, 25, 26, 30, 31, 32, 33, 34, 35, 1, 2, 3, 4, 5, 6, 7, 8, 9, 11, 12, 13, 14, 15, 16, 17, 18, 19, 27, 28, 29, 36, 37, 38, 39, 40, 41, 42, 43, 44, 45, 46, 47, 48, 49, 50, 51, 52, 53, 54, 55, 56, 57, 58, 59, 60, 61, 62, 63, 64, 65, 66, 67, 68, 69, 70, 71, 72, 73, 74, 75, 76, 77, 78, 79, 80, 81, 82, 83, 84, 85, 86, 87, 88, 89, 90, 91, 92, 93, 94, 95, 96, 97, 98, 99, 100, 101, 102, 103, 104, 105, 106, 107, 108, 109, 110, 112, 113, 114, 115, 116, 117, 118, 119, 120, 121, 122, 123, 124, 125, 126, 127, 128, 129, 130, 131, 132, 133, 134, 135, 136, 137, 138, 139, 140, 141, 142, 143, 144, 145, 146, 147, 148, 149, 150, 151, 152, 153, 154, 155, 156, 157, 158, 159, 160, 161, 162, 163, 164, 165, 166, 167, 168, 169, 170, 171, 172, 173, 174, 175, 176, 177, 178, 179, 180, 181, 182, 183, 184, 185, 186, 187, 188, 189, 190, 191, 192, 193, 194, 195, 196, 197, 198, 199, 200, 201, 202, 203, 204, 205, 206, 207, 208, 209, 210, 211, 212, 213, 214, 215, 216, 217, 218, 219, 220, 221, 222, 223, 224, 225, 226, 227, 228, 229, 230, 231, 373, 374, 375, 376, 377, 378, 379, 380, 381, 382, 383, 384, 385, 386, 387, 388, 389, 390, 391, 392, 393, 394, 395, 427, 428, 429, 430, 431, 432, 403, 404, 405, 406, 407, 408, 415, 416, 417, 409, 410, 411, 412, 413, 414, 418, 419, 420, 421, 422, 423, 424, 425, 426, 433, 434] (by decide +kernel) (by decide +kernel)) (goodIn_sub (fun _ h => List.mem_cons_of_mem _ (List.mem_append_right _ h)) (by decide +kernel))) (goodIn_sub (fun _ h => List.mem_cons_of_mem _ (List.mem_append_left _ (List.mem_append_left _ (List.mem_append_right _ h)))) (by decide +kernel))) (goodIn_sub (fun _ h => List.mem_cons_of_mem _ (List.mem_append_left _ (List.mem_append_right _ h))) (by decide +kernel))
set_option maxRecDepth 20000 in
theorem gL_step_L_sets : GoodIn wsL_step (va_wsS RL 142 yL_sets wsL_sets) := goodIn_app (goodIn_of _ (by decide +kernel)) ggL_step_L_sets
set_option maxRecDepth 20000 in
theorem ggL_step_L_moves : GoodIn wsL_step wsL_moves := goodIn_ca (goodIn_ca (goodIn_ca (goodIn_r _ [398, 399, 400, 401, 10, 402, 26, 248, 249, 250, 251, 252, 147, 381, 382, 383, 384, 385, 377, 378, 379, 380, 24, 25, 106, 144, 30, 31, 32, 33, 34, 35, 152, 153, 154, 155, 156, 157, 158, 159, 160, 161, 162, 163, 164, 165, 166, 167, 54, 1, 2, 3, 4, 5, 6, 7, 8, 9, 11, 12, 13, 14, 15, 16, 17, 18, 19, 20, 21, 22, 23, 27, 28, 29, 36, 37, 38, 39, 40, 41, 42, 43, 44, 45, 46, 47, 48, 49, 50, 51, 52, 53, 55, 56, 57, 58, 59, 60, 61, 62, 63, 64, 65, 66, 67, 68, 69, 70, 71, 72, 73, 74, 75, 76, 77, 78, 79, 80, 81, 82, 83, 84, 85, 86, 87, 88, 89, 90, 91, 92, 93, 94, 95, 96, 97, 98, 99, 100, 101, 102, 103, 104, 105, 107, 108, 109, 110, 111, 112, 113, 114, 115, 116, 117, 118, 119, 120, 121, 122, 123, 124, 125, 126, 127, 128, 129, 130, 131, 132, 133, 134, 135, 136, 137, 138, 139, 140, 141, 142, 143, 145, 146, 148, 149, 150, 151, 168, 169, 170, 171, 172, 173, 174, 175, 176, 177, 178, 179, 180, 181, 182, 183, 184, 185, 186, 187, 188, 189, 190, 191, 192, 193, 194, 195, 196, 197, 198, 199, 200, 201, 202, 203, 204, 205, 206, 207, 208, 209, 210, 211, 212, 213, 214, 215, 216, 217, 218, 219, 220, 221, 222, 223, 224, 225, 226, 227, 228, 229, 230, 231, 403, 404, 405, 406, 407, 408, 427, 428, 429, 430, 431, 432, 418, 419, 420, 421, 422, 423, 424, 425, 426, 415, 416, 417, 409, 410, 411, 412, 413, 414, 433, 434] (by decide +kernel) (by decide +kernel)) (goodIn_sub (fun _ h => List.mem_cons_of_mem _ (List.mem_append_right _ h)) (by decide +kernel))) (goodIn_sub (fun _ h => List.mem_cons_of_mem _ (List.mem_append_left _ (List.mem_append_left _ (List.mem_append_right _ h)))) (by decide +kernel))) (goodIn_sub (fun _ h => List.mem_cons_of_mem _ (List.mem_append_left _ (List.mem_append_right _ h))) (by decide +kernel))
set_option maxRecDepth 20000 in
theorem gL_step_L_moves : GoodIn wsL_step (va_wsS RL 146 yL_moves wsL_moves) := goodIn_app (goodIn_of _ (by decide +kernel)) ggL_step_L_moves
theorem dL_step_0 : decode cL_step 0 = .ok (.iload_n 1, 1) := by decide +kernel
theorem dL_step_1 : decode cL_step 1 = .ok (.iconst 3, 1) := by decide +kernel
theorem dL_step_2 : decode cL_step 2 = .ok (.if_icmp .ge 140, 3) := by decide +kernel
theorem dL_step_5 : decode cL_step 5 = .ok (.iload_n 2, 1) := by decide +kernel
theorem dL_step_6 : decode cL_step 6 = .ok (.bipush 8, 2) := by decide +kernel
theorem dL_step_8 : decode cL_step 8 = .ok (.irem, 1) := by decide +kernel
theorem dL_step_9 : decode cL_step 9 = .ok (.istore 9, 2) := by decide +kernel
theorem dL_step_11 : decode cL_step 11 = .ok (.iload 9, 2) := by decide +kernel
theorem dL_step_13 : decode cL_step 13 = .ok (.iconst 1, 1) := by decide +kernel
theorem dL_step_14 : decode cL_step 14 = .ok (.iadd, 1) := by decide +kernel
theorem dL_step_15 : decode cL_step 15 = .ok (.iload_n 3, 1) := by decide +kernel
theorem dL_step_16 : decode cL_step 16 = .ok (.bipush 7, 2) := by decide +kernel
theorem dL_step_18 : decode cL_step 18 = .ok (.irem, 1) := by decide +kernel
theorem dL_step_19 : decode cL_step 19 = .ok (.iadd, 1) := by decide +kernel
theorem dL_step_20 : decode cL_step 20 = .ok (.bipush 8, 2) := by decide +kernel
theorem dL_step_22 : decode cL_step 22 = .ok (.irem, 1) := by decide +kernel
theorem dL_step_23 : decode cL_step 23 = .ok (.istore 10, 2) := by decide +kernel
theorem dL_step_25 : decode cL_step 25 = .ok (.iconst 1, 1) := by decide +kernel
theorem dL_step_26 : decode cL_step 26 = .ok (.iload_n 2, 1) := by decide +kernel
theorem dL_step_27 : decode cL_step 27 = .ok (.bipush 8, 2) := by decide +kernel
theorem dL_step_29 : decode cL_step 29 = .ok (.idiv, 1) := by decide +kernel
theorem dL_step_30 : decode cL_step 30 = .ok (.bipush 9, 2) := by decide +kernel
theorem dL_step_32 : decode cL_step 32 = .ok (.irem, 1) := by decide +kernel
theorem dL_step_33 : decode cL_step 33 = .ok (.iadd, 1) := by decide +kernel
theorem dL_step_34 : decode cL_step 34 = .ok (.istore 11, 2) := by decide +kernel
theorem dL_step_36 : decode cL_step 36 = .ok (.iload_n 3, 1) := by decide +kernel
theorem dL_step_37 : decode cL_step 37 = .ok (.bipush 7, 2) := by decide +kernel
theorem dL_step_39 : decode cL_step 39 = .ok (.idiv, 1) := by decide +kernel
theorem dL_step_40 : decode cL_step 40 = .ok (.bipush 10, 2) := by decide +kernel
theorem dL_step_42 : decode cL_step 42 = .ok (.irem, 1) := by decide +kernel
theorem dL_step_43 : decode cL_step 43 = .ok (.istore 12, 2) := by decide +kernel
theorem dL_step_45 : decode cL_step 45 = .ok (.aload 6, 2) := by decide +kernel
theorem dL_step_47 : decode cL_step 47 = .ok (.iconst 0, 1) := by decide +kernel
theorem dL_step_48 : decode cL_step 48 = .ok (.iaload, 1) := by decide +kernel
theorem dL_step_49 : decode cL_step 49 = .ok (.bipush 14, 2) := by decide +kernel
theorem dL_step_51 : decode cL_step 51 = .ok (.if_icmp .ge 7, 3) := by decide +kernel
theorem dL_step_54 : decode cL_step 54 = .ok (.iconst 1, 1) := by decide +kernel
theorem dL_step_55 : decode cL_step 55 = .ok (.goto 4, 3) := by decide +kernel
theorem dL_step_58 : decode cL_step 58 = .ok (.iconst 0, 1) := by decide +kernel
theorem dL_step_59 : decode cL_step 59 = .ok (.istore 13, 2) := by decide +kernel
theorem dL_step_61 : decode cL_step 61 = .ok (.iload 13, 2) := by decide +kernel
theorem dL_step_63 : decode cL_step 63 = .ok (.ifCond .eq 41, 3) := by decide +kernel
theorem dL_step_66 : decode cL_step 66 = .ok (.aload 4, 2) := by decide +kernel
theorem dL_step_68 : decode cL_step 68 = .ok (.aload 6, 2) := by decide +kernel
theorem dL_step_70 : decode cL_step 70 = .ok (.iconst 0, 1) := by decide +kernel
theorem dL_step_71 : decode cL_step 71 = .ok (.iaload, 1) := by decide +kernel
theorem dL_step_72 : decode cL_step 72 = .ok (.iload 9, 2) := by decide +kernel
theorem dL_step_74 : decode cL_step 74 = .ok (.iload 10, 2) := by decide +kernel
theorem dL_step_76 : decode cL_step 76 = .ok (.iconst 3, 1) := by decide +kernel
theorem dL_step_77 : decode cL_step 77 = .ok (.ishl, 1) := by decide +kernel
theorem dL_step_78 : decode cL_step 78 = .ok (.ior, 1) := by decide +kernel
theorem dL_step_79 : decode cL_step 79 = .ok (.iload 11, 2) := by decide +kernel
theorem dL_step_81 : decode cL_step 81 = .ok (.bipush 6, 2) := by decide +kernel
theorem dL_step_83 : decode cL_step 83 = .ok (.ishl, 1) := by decide +kernel
theorem dL_step_84 : decode cL_step 84 = .ok (.ior, 1) := by decide +kernel
theorem dL_step_85 : decode cL_step 85 = .ok (.iload 12, 2) := by decide +kernel
theorem dL_step_87 : decode cL_step 87 = .ok (.bipush 10, 2) := by decide +kernel
theorem dL_step_89 : decode cL_step 89 = .ok (.ishl, 1) := by decide +kernel
theorem dL_step_90 : decode cL_step 90 = .ok (.ior, 1) := by decide +kernel
theorem dL_step_91 : decode cL_step 91 = .ok (.sipush 16384, 3) := by decide +kernel
theorem dL_step_94 : decode cL_step 94 = .ok (.ior, 1) := by decide +kernel
theorem dL_step_95 : decode cL_step 95 = .ok (.iastore, 1) := by decide +kernel
theorem dL_step_96 : decode cL_step 96 = .ok (.aload 6, 2) := by decide +kernel
theorem dL_step_98 : decode cL_step 98 = .ok (.iconst 0, 1) := by decide +kernel
theorem dL_step_99 : decode cL_step 99 = .ok (.dup2, 1) := by decide +kernel
theorem dL_step_100 : decode cL_step 100 = .ok (.iaload, 1) := by decide +kernel
theorem dL_step_101 : decode cL_step 101 = .ok (.iconst 1, 1) := by decide +kernel
theorem dL_step_102 : decode cL_step 102 = .ok (.iadd, 1) := by decide +kernel
theorem dL_step_103 : decode cL_step 103 = .ok (.iastore, 1) := by decide +kernel
theorem dL_step_104 : decode cL_step 104 = .ok (.aload_n 0, 1) := by decide +kernel
theorem dL_step_105 : decode cL_step 105 = .ok (.iconst 0, 1) := by decide +kernel
theorem dL_step_106 : decode cL_step 106 = .ok (.iload 9, 2) := by decide +kernel
theorem dL_step_108 : decode cL_step 108 = .ok (.iload 10, 2) := by decide +kernel
theorem dL_step_110 : decode cL_step 110 = .ok (.iload 11, 2) := by decide +kernel
theorem dL_step_112 : decode cL_step 112 = .ok (.iload 12, 2) := by decide +kernel
theorem dL_step_114 : decode cL_step 114 = .ok (.invokestatic 40, 3) := by decide +kernel
theorem dL_step_117 : decode cL_step 117 = .ok (.iload 13, 2) := by decide +kernel
theorem dL_step_119 : decode cL_step 119 = .ok (.ifCond .eq 12, 3) := by decide +kernel
theorem dL_step_122 : decode cL_step 122 = .ok (.aload 6, 2) := by decide +kernel
theorem dL_step_124 : decode cL_step 124 = .ok (.iconst 0, 1) := by decide +kernel
theorem dL_step_125 : decode cL_step 125 = .ok (.iaload, 1) := by decide +kernel
theorem dL_step_126 : decode cL_step 126 = .ok (.iconst 1, 1) := by decide +kernel
theorem dL_step_127 : decode cL_step 127 = .ok (.isub, 1) := by decide +kernel
theorem dL_step_128 : decode cL_step 128 = .ok (.goto 5, 3) := by decide +kernel
theorem dL_step_131 : decode cL_step 131 = .ok (.bipush (-108), 2) := by decide +kernel
theorem dL_step_133 : decode cL_step 133 = .ok (.if_icmp .ne 7, 3) := by decide +kernel
theorem dL_step_136 : decode cL_step 136 = .ok (.iconst 1, 1) := by decide +kernel
theorem dL_step_137 : decode cL_step 137 = .ok (.goto 4, 3) := by decide +kernel
theorem dL_step_140 : decode cL_step 140 = .ok (.iconst 0, 1) := by decide +kernel
theorem dL_step_141 : decode cL_step 141 = .ok (.ireturn, 1) := by decide +kernel
theorem dL_step_142 : decode cL_step 142 = .ok (.iload_n 1, 1) := by decide +kernel
theorem dL_step_143 : decode cL_step 143 = .ok (.iconst 3, 1) := by decide +kernel
theorem dL_step_144 : decode cL_step 144 = .ok (.if_icmp .ne 98, 3) := by decide +kernel
theorem dL_step_147 : decode cL_step 147 = .ok (.aload 6, 2) := by decide +kernel
theorem dL_step_149 : decode cL_step 149 = .ok (.iconst 0, 1) := by decide +kernel
theorem dL_step_150 : decode cL_step 150 = .ok (.iaload, 1) := by decide +kernel
theorem dL_step_151 : decode cL_step 151 = .ok (.ifCond .ne 5, 3) := by decide +kernel
theorem dL_step_154 : decode cL_step 154 = .ok (.iconst 1, 1) := by decide +kernel
theorem dL_step_155 : decode cL_step 155 = .ok (.ireturn, 1) := by decide +kernel
theorem dL_step_156 : decode cL_step 156 = .ok (.iload_n 2, 1) := by decide +kernel
theorem dL_step_157 : decode cL_step 157 = .ok (.aload 6, 2) := by decide +kernel
theorem dL_step_159 : decode cL_step 159 = .ok (.iconst 0, 1) := by decide +kernel
theorem dL_step_160 : decode cL_step 160 = .ok (.iaload, 1) := by decide +kernel
theorem dL_step_161 : decode cL_step 161 = .ok (.irem, 1) := by decide +kernel
theorem dL_step_162 : decode cL_step 162 = .ok (.istore 9, 2) := by decide +kernel
theorem dL_step_164 : decode cL_step 164 = .ok (.aload 4, 2) := by decide +kernel
theorem dL_step_166 : decode cL_step 166 = .ok (.iload 9, 2) := by decide +kernel
theorem dL_step_168 : decode cL_step 168 = .ok (.iaload, 1) := by decide +kernel
theorem dL_step_169 : decode cL_step 169 = .ok (.bipush 14, 2) := by decide +kernel
theorem dL_step_171 : decode cL_step 171 = .ok (.iconst 1, 1) := by decide +kernel
theorem dL_step_172 : decode cL_step 172 = .ok (.invokestatic 10, 3) := by decide +kernel
theorem dL_step_175 : decode cL_step 175 = .ok (.iconst 1, 1) := by decide +kernel
theorem dL_step_176 : decode cL_step 176 = .ok (.if_icmp .ne 7, 3) := by decide +kernel
theorem dL_step_179 : decode cL_step 179 = .ok (.iconst 1, 1) := by decide +kernel
theorem dL_step_180 : decode cL_step 180 = .ok (.goto 4, 3) := by decide +kernel
theorem dL_step_183 : decode cL_step 183 = .ok (.iconst 0, 1) := by decide +kernel
theorem dL_step_184 : decode cL_step 184 = .ok (.istore 10, 2) := by decide +kernel
theorem dL_step_186 : decode cL_step 186 = .ok (.aload 4, 2) := by decide +kernel
theorem dL_step_188 : decode cL_step 188 = .ok (.iload 9, 2) := by decide +kernel
theorem dL_step_190 : decode cL_step 190 = .ok (.aload 4, 2) := by decide +kernel
theorem dL_step_192 : decode cL_step 192 = .ok (.iload 9, 2) := by decide +kernel
theorem dL_step_194 : decode cL_step 194 = .ok (.iaload, 1) := by decide +kernel
theorem dL_step_195 : decode cL_step 195 = .ok (.sipush 16383, 3) := by decide +kernel
theorem dL_step_198 : decode cL_step 198 = .ok (.iand, 1) := by decide +kernel
theorem dL_step_199 : decode cL_step 199 = .ok (.iload_n 3, 1) := by decide +kernel
theorem dL_step_200 : decode cL_step 200 = .ok (.iconst 3, 1) := by decide +kernel
theorem dL_step_201 : decode cL_step 201 = .ok (.irem, 1) := by decide +kernel
theorem dL_step_202 : decode cL_step 202 = .ok (.ifCond .le 9, 3) := by decide +kernel
theorem dL_step_205 : decode cL_step 205 = .ok (.sipush 16384, 3) := by decide +kernel
theorem dL_step_208 : decode cL_step 208 = .ok (.goto 4, 3) := by decide +kernel
theorem dL_step_211 : decode cL_step 211 = .ok (.iconst 0, 1) := by decide +kernel
theorem dL_step_212 : decode cL_step 212 = .ok (.ior, 1) := by decide +kernel
theorem dL_step_213 : decode cL_step 213 = .ok (.iastore, 1) := by decide +kernel
theorem dL_step_214 : decode cL_step 214 = .ok (.aload_n 0, 1) := by decide +kernel
theorem dL_step_215 : decode cL_step 215 = .ok (.iload 9, 2) := by decide +kernel
theorem dL_step_217 : decode cL_step 217 = .ok (.iload_n 3, 1) := by decide +kernel
theorem dL_step_218 : decode cL_step 218 = .ok (.iconst 3, 1) := by decide +kernel
theorem dL_step_219 : decode cL_step 219 = .ok (.irem, 1) := by decide +kernel
theorem dL_step_220 : decode cL_step 220 = .ok (.ifCond .le 7, 3) := by decide +kernel
theorem dL_step_223 : decode cL_step 223 = .ok (.iconst 1, 1) := by decide +kernel
theorem dL_step_224 : decode cL_step 224 = .ok (.goto 4, 3) := by decide +kernel
theorem dL_step_227 : decode cL_step 227 = .ok (.iconst 0, 1) := by decide +kernel
theorem dL_step_228 : decode cL_step 228 = .ok (.invokevirtual 121, 3) := by decide +kernel
theorem dL_step_231 : decode cL_step 231 = .ok (.iload 10, 2) := by decide +kernel
theorem dL_step_233 : decode cL_step 233 = .ok (.if_icmp .ne 7, 3) := by decide +kernel
theorem dL_step_236 : decode cL_step 236 = .ok (.iconst 1, 1) := by decide +kernel
theorem dL_step_237 : decode cL_step 237 = .ok (.goto 4, 3) := by decide +kernel
theorem dL_step_240 : decode cL_step 240 = .ok (.iconst 0, 1) := by decide +kernel
theorem dL_step_241 : decode cL_step 241 = .ok (.ireturn, 1) := by decide +kernel
theorem dL_step_242 : decode cL_step 242 = .ok (.iload_n 1, 1) := by decide +kernel
theorem dL_step_243 : decode cL_step 243 = .ok (.iconst 4, 1) := by decide +kernel
theorem dL_step_244 : decode cL_step 244 = .ok (.if_icmp .ne 60, 3) := by decide +kernel
theorem dL_step_247 : decode cL_step 247 = .ok (.aload_n 0, 1) := by decide +kernel
theorem dL_step_248 : decode cL_step 248 = .ok (.iload_n 2, 1) := by decide +kernel
theorem dL_step_249 : decode cL_step 249 = .ok (.bipush 8, 2) := by decide +kernel
theorem dL_step_251 : decode cL_step 251 = .ok (.irem, 1) := by decide +kernel
theorem dL_step_252 : decode cL_step 252 = .ok (.iconst 1, 1) := by decide +kernel
theorem dL_step_253 : decode cL_step 253 = .ok (.iload_n 3, 1) := by decide +kernel
theorem dL_step_254 : decode cL_step 254 = .ok (.bipush 6, 2) := by decide +kernel
theorem dL_step_256 : decode cL_step 256 = .ok (.irem, 1) := by decide +kernel
theorem dL_step_257 : decode cL_step 257 = .ok (.iadd, 1) := by decide +kernel
theorem dL_step_258 : decode cL_step 258 = .ok (.invokevirtual 125, 3) := by decide +kernel
theorem dL_step_261 : decode cL_step 261 = .ok (.istore 9, 2) := by decide +kernel
theorem dL_step_263 : decode cL_step 263 = .ok (.iload 9, 2) := by decide +kernel
theorem dL_step_265 : decode cL_step 265 = .ok (.ifCond .le 37, 3) := by decide +kernel
theorem dL_step_268 : decode cL_step 268 = .ok (.iload 9, 2) := by decide +kernel
theorem dL_step_270 : decode cL_step 270 = .ok (.bipush 7, 2) := by decide +kernel
theorem dL_step_272 : decode cL_step 272 = .ok (.if_icmp .ge 30, 3) := by decide +kernel
theorem dL_step_275 : decode cL_step 275 = .ok (.aload_n 0, 1) := by decide +kernel
theorem dL_step_276 : decode cL_step 276 = .ok (.iload_n 2, 1) := by decide +kernel
theorem dL_step_277 : decode cL_step 277 = .ok (.bipush 8, 2) := by decide +kernel
theorem dL_step_279 : decode cL_step 279 = .ok (.irem, 1) := by decide +kernel
theorem dL_step_280 : decode cL_step 280 = .ok (.iconst 1, 1) := by decide +kernel
theorem dL_step_281 : decode cL_step 281 = .ok (.iload_n 3, 1) := by decide +kernel
theorem dL_step_282 : decode cL_step 282 = .ok (.bipush 6, 2) := by decide +kernel
theorem dL_step_284 : decode cL_step 284 = .ok (.irem, 1) := by decide +kernel
theorem dL_step_285 : decode cL_step 285 = .ok (.iadd, 1) := by decide +kernel
theorem dL_step_286 : decode cL_step 286 = .ok (.invokevirtual 125, 3) := by decide +kernel
theorem dL_step_289 : decode cL_step 289 = .ok (.iconst 1, 1) := by decide +kernel
theorem dL_step_290 : decode cL_step 290 = .ok (.iload_n 3, 1) := by decide +kernel
theorem dL_step_291 : decode cL_step 291 = .ok (.bipush 6, 2) := by decide +kernel
theorem dL_step_293 : decode cL_step 293 = .ok (.irem, 1) := by decide +kernel
theorem dL_step_294 : decode cL_step 294 = .ok (.iadd, 1) := by decide +kernel
theorem dL_step_295 : decode cL_step 295 = .ok (.if_icmp .ne 7, 3) := by decide +kernel
theorem dL_step_298 : decode cL_step 298 = .ok (.iconst 1, 1) := by decide +kernel
theorem dL_step_299 : decode cL_step 299 = .ok (.goto 4, 3) := by decide +kernel
theorem dL_step_302 : decode cL_step 302 = .ok (.iconst 0, 1) := by decide +kernel
theorem dL_step_303 : decode cL_step 303 = .ok (.ireturn, 1) := by decide +kernel
theorem dL_step_304 : decode cL_step 304 = .ok (.iload_n 1, 1) := by decide +kernel
theorem dL_step_305 : decode cL_step 305 = .ok (.iconst 5, 1) := by decide +kernel
theorem dL_step_306 : decode cL_step 306 = .ok (.if_icmp .ne 115, 3) := by decide +kernel
theorem dL_step_309 : decode cL_step 309 = .ok (.aload_n 0, 1) := by decide +kernel
theorem dL_step_310 : decode cL_step 310 = .ok (.iload_n 2, 1) := by decide +kernel
theorem dL_step_311 : decode cL_step 311 = .ok (.bipush 8, 2) := by decide +kernel
theorem dL_step_313 : decode cL_step 313 = .ok (.irem, 1) := by decide +kernel
theorem dL_step_314 : decode cL_step 314 = .ok (.invokevirtual 44, 3) := by decide +kernel
theorem dL_step_317 : decode cL_step 317 = .ok (.istore 9, 2) := by decide +kernel
theorem dL_step_319 : decode cL_step 319 = .ok (.aload_n 0, 1) := by decide +kernel
theorem dL_step_320 : decode cL_step 320 = .ok (.invokevirtual 54, 3) := by decide +kernel
theorem dL_step_323 : decode cL_step 323 = .ok (.istore 10, 2) := by decide +kernel
theorem dL_step_325 : decode cL_step 325 = .ok (.iconst 1, 1) := by decide +kernel
theorem dL_step_326 : decode cL_step 326 = .ok (.iload_n 3, 1) := by decide +kernel
theorem dL_step_327 : decode cL_step 327 = .ok (.iload_n 3, 1) := by decide +kernel
theorem dL_step_328 : decode cL_step 328 = .ok (.iconst 4, 1) := by decide +kernel
theorem dL_step_329 : decode cL_step 329 = .ok (.irem, 1) := by decide +kernel
theorem dL_step_330 : decode cL_step 330 = .ok (.ifCond .ne 9, 3) := by decide +kernel
theorem dL_step_333 : decode cL_step 333 = .ok (.sipush 200, 3) := by decide +kernel
theorem dL_step_336 : decode cL_step 336 = .ok (.goto 5, 3) := by decide +kernel
theorem dL_step_339 : decode cL_step 339 = .ok (.bipush 30, 2) := by decide +kernel
theorem dL_step_341 : decode cL_step 341 = .ok (.irem, 1) := by decide +kernel
theorem dL_step_342 : decode cL_step 342 = .ok (.iadd, 1) := by decide +kernel
theorem dL_step_343 : decode cL_step 343 = .ok (.istore 11, 2) := by decide +kernel
theorem dL_step_345 : decode cL_step 345 = .ok (.iload 9, 2) := by decide +kernel
theorem dL_step_347 : decode cL_step 347 = .ok (.iload 11, 2) := by decide +kernel
theorem dL_step_349 : decode cL_step 349 = .ok (.iadd, 1) := by decide +kernel
theorem dL_step_350 : decode cL_step 350 = .ok (.sipush 200, 3) := by decide +kernel
theorem dL_step_353 : decode cL_step 353 = .ok (.if_icmp .le 9, 3) := by decide +kernel
theorem dL_step_356 : decode cL_step 356 = .ok (.sipush 200, 3) := by decide +kernel
theorem dL_step_359 : decode cL_step 359 = .ok (.goto 8, 3) := by decide +kernel
theorem dL_step_362 : decode cL_step 362 = .ok (.iload 9, 2) := by decide +kernel
theorem dL_step_364 : decode cL_step 364 = .ok (.iload 11, 2) := by decide +kernel
theorem dL_step_366 : decode cL_step 366 = .ok (.iadd, 1) := by decide +kernel
theorem dL_step_367 : decode cL_step 367 = .ok (.istore 12, 2) := by decide +kernel
theorem dL_step_369 : decode cL_step 369 = .ok (.aload_n 0, 1) := by decide +kernel
theorem dL_step_370 : decode cL_step 370 = .ok (.iload_n 2, 1) := by decide +kernel
theorem dL_step_371 : decode cL_step 371 = .ok (.bipush 8, 2) := by decide +kernel
theorem dL_step_373 : decode cL_step 373 = .ok (.irem, 1) := by decide +kernel
theorem dL_step_374 : decode cL_step 374 = .ok (.iload 11, 2) := by decide +kernel
theorem dL_step_376 : decode cL_step 376 = .ok (.invokevirtual 128, 3) := by decide +kernel
theorem dL_step_379 : decode cL_step 379 = .ok (.iload 12, 2) := by decide +kernel
theorem dL_step_381 : decode cL_step 381 = .ok (.if_icmp .ne 38, 3) := by decide +kernel
theorem dL_step_384 : decode cL_step 384 = .ok (.aload_n 0, 1) := by decide +kernel
theorem dL_step_385 : decode cL_step 385 = .ok (.iload_n 2, 1) := by decide +kernel
theorem dL_step_386 : decode cL_step 386 = .ok (.bipush 8, 2) := by decide +kernel
theorem dL_step_388 : decode cL_step 388 = .ok (.irem, 1) := by decide +kernel
theorem dL_step_389 : decode cL_step 389 = .ok (.invokevirtual 44, 3) := by decide +kernel
theorem dL_step_392 : decode cL_step 392 = .ok (.iload 12, 2) := by decide +kernel
theorem dL_step_394 : decode cL_step 394 = .ok (.if_icmp .ne 25, 3) := by decide +kernel
theorem dL_step_397 : decode cL_step 397 = .ok (.aload_n 0, 1) := by decide +kernel
theorem dL_step_398 : decode cL_step 398 = .ok (.invokevirtual 54, 3) := by decide +kernel
theorem dL_step_401 : decode cL_step 401 = .ok (.iload 10, 2) := by decide +kernel
theorem dL_step_403 : decode cL_step 403 = .ok (.iload 9, 2) := by decide +kernel
theorem dL_step_405 : decode cL_step 405 = .ok (.iadd, 1) := by decide +kernel
theorem dL_step_406 : decode cL_step 406 = .ok (.iload 11, 2) := by decide +kernel
theorem dL_step_408 : decode cL_step 408 = .ok (.iadd, 1) := by decide +kernel
theorem dL_step_409 : decode cL_step 409 = .ok (.iload 12, 2) := by decide +kernel
theorem dL_step_411 : decode cL_step 411 = .ok (.isub, 1) := by decide +kernel
theorem dL_step_412 : decode cL_step 412 = .ok (.if_icmp .ne 7, 3) := by decide +kernel
theorem dL_step_415 : decode cL_step 415 = .ok (.iconst 1, 1) := by decide +kernel
theorem dL_step_416 : decode cL_step 416 = .ok (.goto 4, 3) := by decide +kernel
theorem dL_step_419 : decode cL_step 419 = .ok (.iconst 0, 1) := by decide +kernel
theorem dL_step_420 : decode cL_step 420 = .ok (.ireturn, 1) := by decide +kernel
theorem dL_step_421 : decode cL_step 421 = .ok (.iload_n 1, 1) := by decide +kernel
theorem dL_step_422 : decode cL_step 422 = .ok (.bipush 6, 2) := by decide +kernel
theorem dL_step_424 : decode cL_step 424 = .ok (.if_icmp .ne 125, 3) := by decide +kernel
theorem dL_step_427 : decode cL_step 427 = .ok (.aload_n 0, 1) := by decide +kernel
theorem dL_step_428 : decode cL_step 428 = .ok (.iload_n 2, 1) := by decide +kernel
theorem dL_step_429 : decode cL_step 429 = .ok (.bipush 8, 2) := by decide +kernel
theorem dL_step_431 : decode cL_step 431 = .ok (.irem, 1) := by decide +kernel
theorem dL_step_432 : decode cL_step 432 = .ok (.invokevirtual 44, 3) := by decide +kernel
theorem dL_step_435 : decode cL_step 435 = .ok (.istore 9, 2) := by decide +kernel
theorem dL_step_437 : decode cL_step 437 = .ok (.iconst 1, 1) := by decide +kernel
theorem dL_step_438 : decode cL_step 438 = .ok (.iload_n 3, 1) := by decide +kernel
theorem dL_step_439 : decode cL_step 439 = .ok (.iload_n 3, 1) := by decide +kernel
theorem dL_step_440 : decode cL_step 440 = .ok (.iconst 4, 1) := by decide +kernel
theorem dL_step_441 : decode cL_step 441 = .ok (.irem, 1) := by decide +kernel
theorem dL_step_442 : decode cL_step 442 = .ok (.ifCond .ne 8, 3) := by decide +kernel
theorem dL_step_445 : decode cL_step 445 = .ok (.bipush 20, 2) := by decide +kernel
theorem dL_step_447 : decode cL_step 447 = .ok (.goto 4, 3) := by decide +kernel
theorem dL_step_450 : decode cL_step 450 = .ok (.iconst 3, 1) := by decide +kernel
theorem dL_step_451 : decode cL_step 451 = .ok (.irem, 1) := by decide +kernel
theorem dL_step_452 : decode cL_step 452 = .ok (.iadd, 1) := by decide +kernel
theorem dL_step_453 : decode cL_step 453 = .ok (.istore 10, 2) := by decide +kernel
theorem dL_step_455 : decode cL_step 455 = .ok (.iconst 0, 1) := by decide +kernel
theorem dL_step_456 : decode cL_step 456 = .ok (.istore 11, 2) := by decide +kernel
theorem dL_step_458 : decode cL_step 458 = .ok (.aload_n 0, 1) := by decide +kernel
theorem dL_step_459 : decode cL_step 459 = .ok (.iload 10, 2) := by decide +kernel
theorem dL_step_461 : decode cL_step 461 = .ok (.invokevirtual 131, 3) := by decide +kernel
theorem dL_step_464 : decode cL_step 464 = .ok (.istore 12, 2) := by decide +kernel
theorem dL_step_466 : decode cL_step 466 = .ok (.iconst 0, 1) := by decide +kernel
theorem dL_step_467 : decode cL_step 467 = .ok (.istore 13, 2) := by decide +kernel
theorem dL_step_469 : decode cL_step 469 = .ok (.iload 13, 2) := by decide +kernel
theorem dL_step_471 : decode cL_step 471 = .ok (.bipush 8, 2) := by decide +kernel
theorem dL_step_473 : decode cL_step 473 = .ok (.if_icmp .ge 30, 3) := by decide +kernel
theorem dL_step_476 : decode cL_step 476 = .ok (.iload 11, 2) := by decide +kernel
theorem dL_step_478 : decode cL_step 478 = .ok (.aload_n 0, 1) := by decide +kernel
theorem dL_step_479 : decode cL_step 479 = .ok (.iload 13, 2) := by decide +kernel
theorem dL_step_481 : decode cL_step 481 = .ok (.invokevirtual 44, 3) := by decide +kernel
theorem dL_step_484 : decode cL_step 484 = .ok (.bipush 30, 2) := by decide +kernel
theorem dL_step_486 : decode cL_step 486 = .ok (.if_icmp .ge 7, 3) := by decide +kernel
theorem dL_step_489 : decode cL_step 489 = .ok (.iconst 1, 1) := by decide +kernel
theorem dL_step_490 : decode cL_step 490 = .ok (.goto 4, 3) := by decide +kernel
theorem dL_step_493 : decode cL_step 493 = .ok (.iconst 0, 1) := by decide +kernel
theorem dL_step_494 : decode cL_step 494 = .ok (.iadd, 1) := by decide +kernel
theorem dL_step_495 : decode cL_step 495 = .ok (.istore 11, 2) := by decide +kernel
theorem dL_step_497 : decode cL_step 497 = .ok (.iinc 13 1, 3) := by decide +kernel
theorem dL_step_500 : decode cL_step 500 = .ok (.goto (-31), 3) := by decide +kernel
theorem dL_step_503 : decode cL_step 503 = .ok (.iload 12, 2) := by decide +kernel
theorem dL_step_505 : decode cL_step 505 = .ok (.iload 11, 2) := by decide +kernel
theorem dL_step_507 : decode cL_step 507 = .ok (.if_icmp .ne 40, 3) := by decide +kernel
theorem dL_step_510 : decode cL_step 510 = .ok (.aload_n 0, 1) := by decide +kernel
theorem dL_step_511 : decode cL_step 511 = .ok (.iload_n 2, 1) := by decide +kernel
theorem dL_step_512 : decode cL_step 512 = .ok (.bipush 8, 2) := by decide +kernel
theorem dL_step_514 : decode cL_step 514 = .ok (.irem, 1) := by decide +kernel
theorem dL_step_515 : decode cL_step 515 = .ok (.invokevirtual 44, 3) := by decide +kernel
theorem dL_step_518 : decode cL_step 518 = .ok (.iload 9, 2) := by decide +kernel
theorem dL_step_520 : decode cL_step 520 = .ok (.iconst 3, 1) := by decide +kernel
theorem dL_step_521 : decode cL_step 521 = .ok (.iload 10, 2) := by decide +kernel
theorem dL_step_523 : decode cL_step 523 = .ok (.imul, 1) := by decide +kernel
theorem dL_step_524 : decode cL_step 524 = .ok (.isub, 1) := by decide +kernel
theorem dL_step_525 : decode cL_step 525 = .ok (.iconst 5, 1) := by decide +kernel
theorem dL_step_526 : decode cL_step 526 = .ok (.if_icmp .ge 7, 3) := by decide +kernel
theorem dL_step_529 : decode cL_step 529 = .ok (.iconst 5, 1) := by decide +kernel
theorem dL_step_530 : decode cL_step 530 = .ok (.goto 10, 3) := by decide +kernel
theorem dL_step_533 : decode cL_step 533 = .ok (.iload 9, 2) := by decide +kernel
theorem dL_step_535 : decode cL_step 535 = .ok (.iconst 3, 1) := by decide +kernel
theorem dL_step_536 : decode cL_step 536 = .ok (.iload 10, 2) := by decide +kernel
theorem dL_step_538 : decode cL_step 538 = .ok (.imul, 1) := by decide +kernel
theorem dL_step_539 : decode cL_step 539 = .ok (.isub, 1) := by decide +kernel
theorem dL_step_540 : decode cL_step 540 = .ok (.if_icmp .ne 7, 3) := by decide +kernel
theorem dL_step_543 : decode cL_step 543 = .ok (.iconst 1, 1) := by decide +kernel
theorem dL_step_544 : decode cL_step 544 = .ok (.goto 4, 3) := by decide +kernel
theorem dL_step_547 : decode cL_step 547 = .ok (.iconst 0, 1) := by decide +kernel
theorem dL_step_548 : decode cL_step 548 = .ok (.ireturn, 1) := by decide +kernel
theorem dL_step_549 : decode cL_step 549 = .ok (.iload_n 1, 1) := by decide +kernel
theorem dL_step_550 : decode cL_step 550 = .ok (.bipush 12, 2) := by decide +kernel
theorem dL_step_552 : decode cL_step 552 = .ok (.if_icmp .ge 16, 3) := by decide +kernel
theorem dL_step_555 : decode cL_step 555 = .ok (.aload_n 0, 1) := by decide +kernel
theorem dL_step_556 : decode cL_step 556 = .ok (.aload 4, 2) := by decide +kernel
theorem dL_step_558 : decode cL_step 558 = .ok (.aload 6, 2) := by decide +kernel
theorem dL_step_560 : decode cL_step 560 = .ok (.aload 7, 2) := by decide +kernel
theorem dL_step_562 : decode cL_step 562 = .ok (.aload 8, 2) := by decide +kernel
theorem dL_step_564 : decode cL_step 564 = .ok (.invokestatic 134, 3) := by decide +kernel
theorem dL_step_567 : decode cL_step 567 = .ok (.ireturn, 1) := by decide +kernel
theorem dL_step_568 : decode cL_step 568 = .ok (.iload_n 1, 1) := by decide +kernel
theorem dL_step_569 : decode cL_step 569 = .ok (.bipush 12, 2) := by decide +kernel
theorem dL_step_571 : decode cL_step 571 = .ok (.if_icmp .ne 35, 3) := by decide +kernel
theorem dL_step_574 : decode cL_step 574 = .ok (.aload_n 0, 1) := by decide +kernel
theorem dL_step_575 : decode cL_step 575 = .ok (.iconst 1, 1) := by decide +kernel
theorem dL_step_576 : decode cL_step 576 = .ok (.iload_n 3, 1) := by decide +kernel
theorem dL_step_577 : decode cL_step 577 = .ok (.bipush 12, 2) := by decide +kernel
theorem dL_step_579 : decode cL_step 579 = .ok (.irem, 1) := by decide +kernel
theorem dL_step_580 : decode cL_step 580 = .ok (.iadd, 1) := by decide +kernel
theorem dL_step_581 : decode cL_step 581 = .ok (.invokevirtual 72, 3) := by decide +kernel
theorem dL_step_584 : decode cL_step 584 = .ok (.ifCond .lt 20, 3) := by decide +kernel
theorem dL_step_587 : decode cL_step 587 = .ok (.aload_n 0, 1) := by decide +kernel
theorem dL_step_588 : decode cL_step 588 = .ok (.aload 4, 2) := by decide +kernel
theorem dL_step_590 : decode cL_step 590 = .ok (.aload 7, 2) := by decide +kernel
theorem dL_step_592 : decode cL_step 592 = .ok (.aload 8, 2) := by decide +kernel
theorem dL_step_594 : decode cL_step 594 = .ok (.invokestatic 138, 3) := by decide +kernel
theorem dL_step_597 : decode cL_step 597 = .ok (.ifCond .eq 7, 3) := by decide +kernel
theorem dL_step_600 : decode cL_step 600 = .ok (.iconst 1, 1) := by decide +kernel
theorem dL_step_601 : decode cL_step 601 = .ok (.goto 4, 3) := by decide +kernel
theorem dL_step_604 : decode cL_step 604 = .ok (.iconst 0, 1) := by decide +kernel
theorem dL_step_605 : decode cL_step 605 = .ok (.ireturn, 1) := by decide +kernel
theorem dL_step_606 : decode cL_step 606 = .ok (.iload_n 1, 1) := by decide +kernel
theorem dL_step_607 : decode cL_step 607 = .ok (.bipush 17, 2) := by decide +kernel
theorem dL_step_609 : decode cL_step 609 = .ok (.if_icmp .ge 14, 3) := by decide +kernel
theorem dL_step_612 : decode cL_step 612 = .ok (.aload_n 0, 1) := by decide +kernel
theorem dL_step_613 : decode cL_step 613 = .ok (.iload_n 2, 1) := by decide +kernel
theorem dL_step_614 : decode cL_step 614 = .ok (.iload_n 3, 1) := by decide +kernel
theorem dL_step_615 : decode cL_step 615 = .ok (.aload 5, 2) := by decide +kernel
theorem dL_step_617 : decode cL_step 617 = .ok (.aload 6, 2) := by decide +kernel
theorem dL_step_619 : decode cL_step 619 = .ok (.invokestatic 142, 3) := by decide +kernel
theorem dL_step_622 : decode cL_step 622 = .ok (.ireturn, 1) := by decide +kernel
theorem dL_step_623 : decode cL_step 623 = .ok (.aload_n 0, 1) := by decide +kernel
theorem dL_step_624 : decode cL_step 624 = .ok (.iconst 1, 1) := by decide +kernel
theorem dL_step_625 : decode cL_step 625 = .ok (.iload_n 3, 1) := by decide +kernel
theorem dL_step_626 : decode cL_step 626 = .ok (.iconst 3, 1) := by decide +kernel
theorem dL_step_627 : decode cL_step 627 = .ok (.irem, 1) := by decide +kernel
theorem dL_step_628 : decode cL_step 628 = .ok (.iadd, 1) := by decide +kernel
theorem dL_step_629 : decode cL_step 629 = .ok (.aload 6, 2) := by decide +kernel
theorem dL_step_631 : decode cL_step 631 = .ok (.invokestatic 146, 3) := by decide +kernel
theorem dL_step_634 : decode cL_step 634 = .ok (.ireturn, 1) := by decide +kernel
set_option maxRecDepth 20000 in
theorem ggL_net_X4_init : GoodIn wsL_net wsX4_init := goodIn_r _ [8, 9, 10, 11, 12, 13, 14, 15, 16, 17, 18, 4, 19, 20, 21, 22, 23, 24, 25, 26, 27, 28, 29, 30, 31, 32, 33, 34, 35, 36, 37, 38, 39, 40, 41, 42, 43, 44, 45, 46, 47, 48, 49, 50, 51, 52, 53, 54, 55, 56, 57, 58, 59, 60, 61, 487, 488, 489, 490, 491, 492, 493, 494, 495, 496, 497, 498, 499, 500, 501, 502, 503] (by decide +kernel) (by decide +kernel)
set_option maxRecDepth 20000 in
theorem gL_net_X4_init : GoodIn wsL_net (wsX4_init) := ggL_net_X4_init
set_option maxRecDepth 20000 in
theorem ggL_net_L_draw : GoodIn wsL_net wsL_draw := goodIn_r _ [65, 66, 67, 68] (by decide +kernel) (by decide +kernel)
set_option maxRecDepth 20000 in
theorem gL_net_L_draw : GoodIn wsL_net (va_wsS RL 152 yL_draw wsL_draw) := goodIn_app (goodIn_of _ (by decide +kernel)) ggL_net_L_draw
set_option maxRecDepth 20000 in
theorem ggL_net_L_step : GoodIn wsL_net wsL_step := goodIn_ca (goodIn_ca (goodIn_ca (goodIn_ca (goodIn_ca (goodIn_ca (goodIn_ca (goodIn_ca (goodIn_ca (goodIn_ca (goodIn_r _ [71, 72, 73, 64, 74, 75, 76, 77, 78, 79, 3, 80, 81, 82, 83, 84, 17, 85, 86, 87, 88, 89, 90, 91, 92] rfl (by decide +kernel)) (goodIn_app (goodIn_r wsL_step_r2 [93, 13, 94, 95, 96, 97, 98, 99, 16, 100, 101, 102, 103, 104, 105, 10, 11, 106, 107, 108, 109, 110, 111, 112] (by decide +kernel) (by decide +kernel)) (goodIn_app (goodIn_r wsL_step_r3 [113, 114, 115, 116, 117, 26, 118, 119, 120, 121, 122, 123, 124, 125, 126, 127, 128, 129, 25, 130, 131, 132, 133, 134] (by decide +kernel) (by decide +kernel)) (goodIn_app (goodIn_r wsL_step_r4 [135, 136, 137, 138, 139, 140, 141, 142, 143, 144, 145, 146, 147, 148, 149, 150, 151, 152, 153, 154, 155, 156, 157, 158] (by decide +kernel) (by decide +kernel)) (goodIn_app (goodIn_r wsL_step_r5 [159, 160, 161, 162, 163, 164, 165, 166, 167, 18, 168, 169, 170, 171, 172, 173, 174, 175, 21, 176, 42, 177, 178, 179] (by decide +kernel) (by decide +kernel)) (goodIn_app (goodIn_r wsL_step_r6 [180, 181, 182, 183, 184, 185, 186, 187, 188, 189, 190, 191, 192, 193, 194, 195, 196, 197, 198, 199, 200, 201, 202, 203] (by decide +kernel) (by decide +kernel)) (goodIn_app (goodIn_r wsL_step_r7 [204, 205, 206, 207, 208, 209, 210, 211, 212, 213, 214, 215, 216, 217, 218, 219, 220, 221, 222, 223, 224, 225, 226, 227] (by decide +kernel) (by decide +kernel)) (goodIn_app (goodIn_r wsL_step_r8 [228, 229, 230, 48, 231, 50, 232, 233, 234, 235, 236, 237, 238, 239, 240, 241, 242, 243, 244, 245, 246, 247, 248, 249] (by decide +kernel) (by decide +kernel)) (goodIn_app (goodIn_r wsL_step_r9 [250, 251, 252, 253, 254, 255, 256, 257, 258, 259, 260, 261, 262, 43, 263, 264, 265, 266, 267, 268, 269, 270, 271, 272] (by decide +kernel) (by decide +kernel)) (goodIn_app (goodIn_r wsL_step_r10 [273, 274, 275, 276, 277, 278, 279, 280, 281, 282, 283, 284, 285, 286, 287, 288, 289, 290, 291, 292, 293, 294, 295, 296] (by decide +kernel) (by decide +kernel)) (goodIn_app (goodIn_r wsL_step_r11 [297, 298, 299, 300, 301, 302, 303, 304, 305, 306, 307, 308, 309, 310, 311, 312, 313, 314, 315, 316, 317, 318, 319, 320] (by decide +kernel) (by decide +kernel)) (goodIn_app (goodIn_r wsL_step_r12 [321, 322, 323, 324, 325, 326, 327, 328, 329, 330, 331, 332, 333, 334, 335, 336, 337, 338, 339, 340, 59, 60, 47, 61] (by decide +kernel) (by decide +kernel)) (goodIn_app (goodIn_r wsL_step_r13 [55, 57, 341, 342, 343, 344, 345, 49, 346, 347, 348, 349, 350, 351, 352, 353, 354, 355, 356, 357, 358, 359, 360, 361] (by decide +kernel) (by decide +kernel)) (goodIn_app (goodIn_r wsL_step_r14 [362, 363, 364, 365, 366, 367, 368, 369, 370, 371, 372, 373, 374, 375, 376, 377, 378, 379, 380, 381, 382, 383, 384, 385] (by decide +kernel) (by decide +kernel)) (goodIn_app (goodIn_r wsL_step_r15 [386, 387, 388, 389, 390, 391, 392, 393, 394, 19, 395, 396, 397, 398, 399, 400, 401, 402, 403, 404, 405, 406, 407, 408] (by decide +kernel) (by decide +kernel)) (goodIn_app (goodIn_r wsL_step_r16 [409, 410, 411, 412, 413, 414, 415, 416, 417, 418, 419, 420, 421, 422, 423, 424, 425, 426, 427, 428, 429, 430, 431, 432] (by decide +kernel) (by decide +kernel)) (goodIn_r wsL_step_r17 [433, 434, 435, 436, 437, 438, 439, 440, 441, 442, 443, 444, 445, 446, 447, 448, 449, 450] (by decide +kernel) (by decide +kernel)))))))))))))))))) (goodIn_r wsX40 [487, 488, 489, 490, 491, 492] (by decide +kernel) (by decide +kernel))) (goodIn_r wsX20 [504, 505, 506, 507, 508, 509] (by decide +kernel) (by decide +kernel))) (goodIn_r wsJx4a65c0 [493, 494, 495] (by decide +kernel) (by decide +kernel))) (goodIn_r wsX00 [510, 511, 512, 513, 514, 515, 516, 517, 518] (by decide +kernel) (by decide +kernel))) (goodIn_r wsX10 [496, 497, 498, 499, 500, 501] (by decide +kernel) (by decide +kernel))) (goodIn_r wsX30 [502, 503] (by decide +kernel) (by decide +kernel))) (goodIn_sub (fun _ h => List.mem_cons_of_mem _ (List.mem_append_left _ (List.mem_append_left _ (List.mem_append_right _ h)))) (by decide +kernel))) (goodIn_sub (fun _ h => List.mem_cons_of_mem _ (List.mem_append_left _ (List.mem_append_right _ h))) (by decide +kernel))) (goodIn_sub (fun _ h => List.mem_cons_of_mem _ (List.mem_append_right _ h)) (by decide +kernel))
set_option maxRecDepth 20000 in
theorem gL_net_L_step : GoodIn wsL_net (va_wsS RL 156 yL_step wsL_step) := goodIn_app (goodIn_of _ (by decide +kernel)) ggL_net_L_step
set_option maxRecDepth 20000 in
theorem ggL_net_L_areCanals : GoodIn wsL_net wsL_areCanals := goodIn_ca (goodIn_ca (goodIn_ca (goodIn_r _ [453, 454, 455, 456, 3, 457, 17, 97, 98, 99, 16, 100, 101, 72, 73, 64, 74, 75, 76, 77, 78, 79, 80, 81, 82, 83, 84, 85, 86, 87, 88, 89, 90, 91, 92, 93, 13, 94, 95, 96, 102, 103, 104, 105, 10, 11, 106, 107, 108, 109, 110, 111, 112, 113, 114, 115, 116, 117, 26, 118, 119, 120, 121, 122, 123, 124, 125, 126, 127, 128, 129, 25, 130, 131, 132, 133, 134, 135, 136, 137, 138, 139, 140, 141, 142, 143, 144, 145, 146, 147, 148, 149, 150, 151, 152, 153, 154, 155, 156, 157, 158, 159, 160, 161, 162, 163, 164, 165, 166, 167, 18, 168, 169, 170, 171, 172, 173, 174, 175, 21, 176, 42, 177, 178, 179, 180, 181, 182, 183, 184, 185, 186, 187, 188, 189, 190, 191, 192, 193, 194, 195, 196, 197, 198, 199, 200, 201, 202, 203, 204, 205, 206, 207, 208, 209, 210, 211, 212, 213, 214, 215, 216, 217, 218, 219, 220, 221, 222, 223, 224, 225, 226, 227, 228, 229, 230, 48, 231, 50, 232, 233, 234, 235, 236, 237, 238, 239, 240, 241, 242, 243, 244, 245, 246, 247, 248, 249, 250, 251, 252, 253, 254, 255, 256, 257, 258, 259, 260, 261, 262, 43, 263, 264, 265, 266, 267, 268, 269, 270, 271, 272, 273, 274, 275, 276, 277, 278, 279, 280, 281, 282, 283, 284, 285, 286, 287, 300, 301, 302, 303, 304, 288, 289, 290, 458, 459, 460, 461, 447, 448, 449, 450, 305, 306, 307, 308, 487, 488, 489, 490, 491, 492, 493, 494, 495, 504, 505, 506, 507, 508, 509, 510, 511, 512, 513, 514, 515, 516, 517, 518, 496, 497, 498, 499, 500, 501, 502, 503] (by decide +kernel) (by decide +kernel)) (goodIn_sub (fun _ h => List.mem_cons_of_mem _ (List.mem_append_left _ (List.mem_append_left _ (List.mem_append_right _ h)))) (by decide +kernel))) (goodIn_sub (fun _ h => List.mem_cons_of_mem _ (List.mem_append_left _ (List.mem_append_right _ h))) (by decide +kernel))) (goodIn_sub (fun _ h => List.mem_cons_of_mem _ (List.mem_append_right _ h)) (by decide +kernel))
set_option maxRecDepth 20000 in
theorem gL_net_L_areCanals : GoodIn wsL_net (va_wsS RL 160 yL_areCanals wsL_areCanals) := goodIn_app (goodIn_of _ (by decide +kernel)) ggL_net_L_areCanals
set_option maxRecDepth 20000 in
theorem ggL_net_L_areBarges : GoodIn wsL_net wsL_areBarges := goodIn_ca (goodIn_ca (goodIn_r _ [464, 68, 465, 466, 467, 3, 468, 18, 97, 98, 99, 16, 100, 101, 469, 470, 471, 472, 194, 417, 418, 419, 420, 172, 88, 89, 90, 91, 92, 93, 13, 439, 440, 441, 442, 81, 82, 203, 443, 211, 212, 213, 214, 215, 216, 217, 218, 219, 220, 221, 222, 223, 224, 225, 226, 26, 421, 422, 423, 424, 171, 425, 426, 427, 428, 473, 474, 475, 476, 477, 368, 478, 479, 480, 481, 482, 429, 430, 431, 432, 433, 434, 435, 436, 437, 438, 483, 484, 485, 486, 487, 488, 489, 490, 491, 492, 493, 494, 495, 496, 497, 498, 499, 500, 501, 510, 511, 512, 513, 514, 515, 516, 517, 518] (by decide +kernel) (by decide +kernel)) (goodIn_sub (fun _ h => List.mem_cons_of_mem _ (List.mem_append_right _ h)) (by decide +kernel))) (goodIn_sub (fun _ h => List.mem_cons_of_mem _ (List.mem_append_left _ (List.mem_append_left _ (List.mem_append_right _ h)))) (by decide +kernel))
set_option maxRecDepth 20000 in
theorem gL_net_L_areBarges : GoodIn wsL_net (va_wsS RL 164 yL_areBarges wsL_areBarges) := goodIn_app (goodIn_of _ (by decide +kernel)) ggL_net_L_areBarges
set_option maxRecDepth 20000 in
theorem ggL_net_L_areWays : GoodIn wsL_net wsL_areWays := goodIn_ca (goodIn_r _ [390, 329, 330, 331, 3, 332, 333, 334, 335, 336, 13, 337, 17, 279, 295, 338, 339, 340, 59, 60, 47, 61, 55, 57, 97, 98, 99, 16, 100, 101, 211, 212, 213, 214, 215, 216, 217, 218, 219, 220, 221, 222, 223, 224, 225, 226, 26, 341, 342, 343, 21, 344, 48, 345, 50, 49, 346, 281, 282, 87, 283, 110, 108, 109, 284, 285, 286, 287, 43, 347, 348, 349, 350, 351, 352, 353, 354, 355, 356, 357, 358, 359, 360, 361, 64, 362, 363, 364, 365, 366, 367, 368, 88, 89, 90, 91, 92, 93, 369, 370, 371, 372, 373, 227, 228, 229, 230, 231, 385, 386, 387, 288, 289, 290, 391, 392, 393, 394, 19, 395, 396, 397, 398, 280, 399, 400, 401, 402, 403, 404, 405, 406, 407, 408, 409, 237, 238, 239, 240, 410, 411, 412, 413, 487, 488, 489, 490, 491, 492, 496, 497, 498, 499, 500, 501, 504, 505, 506, 507, 508, 509, 502, 503, 493, 494, 495] (by decide +kernel) (by decide +kernel)) (goodIn_sub (fun _ h => List.mem_cons_of_mem _ (List.mem_append_right _ h)) (by decide +kernel))
set_option maxRecDepth 20000 in
theorem gL_net_L_areWays : GoodIn wsL_net (va_wsS RL 138 yL_areWays wsL_areWays) := goodIn_app (goodIn_of _ (by decide +kernel)) ggL_net_L_areWays
set_option maxRecDepth 20000 in
theorem ggL_net_X4_settle : GoodIn wsL_net wsX4_settle := goodIn_ca (goodIn_r _ [377, 13, 94, 95, 3, 96, 81, 82, 333, 334, 335, 336, 337, 17, 279, 295, 338, 339, 340, 59, 60, 47, 61, 55, 57, 97, 98, 99, 16, 100, 101, 211, 212, 213, 214, 215, 216, 217, 218, 219, 220, 221, 222, 223, 224, 225, 226, 26, 341, 342, 343, 21, 344, 48, 345, 50, 49, 346, 281, 282, 87, 283, 110, 108, 109, 284, 285, 286, 287, 43, 347, 348, 349, 350, 351, 352, 353, 354, 355, 356, 357, 358, 359, 378, 379, 380, 381, 487, 488, 489, 490, 491, 492, 496, 497, 498, 499, 500, 501, 504, 505, 506, 507, 508, 509, 502, 503, 493, 494, 495] (by decide +kernel) (by decide +kernel)) (goodIn_sub (fun _ h => List.mem_cons_of_mem _ (List.mem_append_left _ (List.mem_append_left _ (List.mem_append_right _ h)))) (by decide +kernel))
set_option maxRecDepth 20000 in
theorem gL_net_X4_settle : GoodIn wsL_net (wsV RL 72 RX4 yX4_settle wsX4_settle) := goodIn_app (goodIn_of _ (by decide +kernel)) ggL_net_X4_settle
set_option maxRecDepth 20000 in
theorem ggL_net_X4_areStill : GoodIn wsL_net wsX4_areStill := goodIn_r _ [332, 333, 334, 335, 3, 336, 13, 337, 17, 279, 295, 338, 339, 340, 59, 60, 47, 61, 55, 57, 97, 98, 99, 16, 100, 101, 211, 212, 213, 214, 215, 216, 217, 218, 219, 220, 221, 222, 223, 224, 225, 226, 26, 341, 342, 343, 21, 344, 48, 345, 50, 49, 346, 281, 282, 87, 283, 110, 108, 109, 284, 285, 286, 287, 43, 347, 348, 349, 350, 351, 352, 353, 354, 355, 356, 357, 358, 359, 487, 488, 489, 490, 491, 492, 496, 497, 498, 499, 500, 501, 504, 505, 506, 507, 508, 509, 502, 503, 493, 494, 495] (by decide +kernel) (by decide +kernel)
set_option maxRecDepth 20000 in
theorem gL_net_X4_areStill : GoodIn wsL_net (wsV RL 64 RX4 yX4_areStill wsX4_areStill) := goodIn_app (goodIn_of _ (by decide +kernel)) ggL_net_X4_areStill
theorem dL_net_0 : decode cL_net 0 = .ok (.new 17, 3) := by decide +kernel
theorem dL_net_3 : decode cL_net 3 = .ok (.dup, 1) := by decide +kernel
theorem dL_net_4 : decode cL_net 4 = .ok (.invokespecial 150, 3) := by decide +kernel
theorem dL_net_7 : decode cL_net 7 = .ok (.astore_n 2, 1) := by decide +kernel
theorem dL_net_8 : decode cL_net 8 = .ok (.bipush 14, 2) := by decide +kernel
theorem dL_net_10 : decode cL_net 10 = .ok (.newarray .int, 2) := by decide +kernel
theorem dL_net_12 : decode cL_net 12 = .ok (.astore_n 3, 1) := by decide +kernel
theorem dL_net_13 : decode cL_net 13 = .ok (.bipush 40, 2) := by decide +kernel
theorem dL_net_15 : decode cL_net 15 = .ok (.newarray .int, 2) := by decide +kernel
theorem dL_net_17 : decode cL_net 17 = .ok (.astore 4, 2) := by decide +kernel
theorem dL_net_19 : decode cL_net 19 = .ok (.iconst 3, 1) := by decide +kernel
theorem dL_net_20 : decode cL_net 20 = .ok (.newarray .int, 2) := by decide +kernel
theorem dL_net_22 : decode cL_net 22 = .ok (.astore 5, 2) := by decide +kernel
theorem dL_net_24 : decode cL_net 24 = .ok (.bipush 64, 2) := by decide +kernel
theorem dL_net_26 : decode cL_net 26 = .ok (.newarray .int, 2) := by decide +kernel
theorem dL_net_28 : decode cL_net 28 = .ok (.astore 6, 2) := by decide +kernel
theorem dL_net_30 : decode cL_net 30 = .ok (.bipush 64, 2) := by decide +kernel
theorem dL_net_32 : decode cL_net 32 = .ok (.newarray .int, 2) := by decide +kernel
theorem dL_net_34 : decode cL_net 34 = .ok (.astore 7, 2) := by decide +kernel
theorem dL_net_36 : decode cL_net 36 = .ok (.iconst 0, 1) := by decide +kernel
theorem dL_net_37 : decode cL_net 37 = .ok (.istore 8, 2) := by decide +kernel
theorem dL_net_39 : decode cL_net 39 = .ok (.iload 8, 2) := by decide +kernel
theorem dL_net_41 : decode cL_net 41 = .ok (.bipush 76, 2) := by decide +kernel
theorem dL_net_43 : decode cL_net 43 = .ok (.if_icmp .ge 135, 3) := by decide +kernel
theorem dL_net_46 : decode cL_net 46 = .ok (.aload_n 0, 1) := by decide +kernel
theorem dL_net_47 : decode cL_net 47 = .ok (.iload_n 1, 1) := by decide +kernel
theorem dL_net_48 : decode cL_net 48 = .ok (.iconst 3, 1) := by decide +kernel
theorem dL_net_49 : decode cL_net 49 = .ok (.iload 8, 2) := by decide +kernel
theorem dL_net_51 : decode cL_net 51 = .ok (.imul, 1) := by decide +kernel
theorem dL_net_52 : decode cL_net 52 = .ok (.iadd, 1) := by decide +kernel
theorem dL_net_53 : decode cL_net 53 = .ok (.iconst 1, 1) := by decide +kernel
theorem dL_net_54 : decode cL_net 54 = .ok (.iadd, 1) := by decide +kernel
theorem dL_net_55 : decode cL_net 55 = .ok (.ldc 151, 2) := by decide +kernel
theorem dL_net_57 : decode cL_net 57 = .ok (.invokestatic 152, 3) := by decide +kernel
theorem dL_net_60 : decode cL_net 60 = .ok (.istore 9, 2) := by decide +kernel
theorem dL_net_62 : decode cL_net 62 = .ok (.aload_n 0, 1) := by decide +kernel
theorem dL_net_63 : decode cL_net 63 = .ok (.iload_n 1, 1) := by decide +kernel
theorem dL_net_64 : decode cL_net 64 = .ok (.iconst 3, 1) := by decide +kernel
theorem dL_net_65 : decode cL_net 65 = .ok (.iload 8, 2) := by decide +kernel
theorem dL_net_67 : decode cL_net 67 = .ok (.imul, 1) := by decide +kernel
theorem dL_net_68 : decode cL_net 68 = .ok (.iadd, 1) := by decide +kernel
theorem dL_net_69 : decode cL_net 69 = .ok (.iconst 2, 1) := by decide +kernel
theorem dL_net_70 : decode cL_net 70 = .ok (.iadd, 1) := by decide +kernel
theorem dL_net_71 : decode cL_net 71 = .ok (.ldc 151, 2) := by decide +kernel
theorem dL_net_73 : decode cL_net 73 = .ok (.invokestatic 152, 3) := by decide +kernel
theorem dL_net_76 : decode cL_net 76 = .ok (.istore 10, 2) := by decide +kernel
theorem dL_net_78 : decode cL_net 78 = .ok (.aload_n 2, 1) := by decide +kernel
theorem dL_net_79 : decode cL_net 79 = .ok (.iload 8, 2) := by decide +kernel
theorem dL_net_81 : decode cL_net 81 = .ok (.bipush 9, 2) := by decide +kernel
theorem dL_net_83 : decode cL_net 83 = .ok (.if_icmp .ge 7, 3) := by decide +kernel
theorem dL_net_86 : decode cL_net 86 = .ok (.iconst 0, 1) := by decide +kernel
theorem dL_net_87 : decode cL_net 87 = .ok (.goto 27, 3) := by decide +kernel
theorem dL_net_90 : decode cL_net 90 = .ok (.iload 8, 2) := by decide +kernel
theorem dL_net_92 : decode cL_net 92 = .ok (.bipush 12, 2) := by decide +kernel
theorem dL_net_94 : decode cL_net 94 = .ok (.if_icmp .ge 8, 3) := by decide +kernel
theorem dL_net_97 : decode cL_net 97 = .ok (.bipush 7, 2) := by decide +kernel
theorem dL_net_99 : decode cL_net 99 = .ok (.goto 15, 3) := by decide +kernel
theorem dL_net_102 : decode cL_net 102 = .ok (.aload_n 0, 1) := by decide +kernel
theorem dL_net_103 : decode cL_net 103 = .ok (.iload_n 1, 1) := by decide +kernel
theorem dL_net_104 : decode cL_net 104 = .ok (.iconst 3, 1) := by decide +kernel
theorem dL_net_105 : decode cL_net 105 = .ok (.iload 8, 2) := by decide +kernel
theorem dL_net_107 : decode cL_net 107 = .ok (.imul, 1) := by decide +kernel
theorem dL_net_108 : decode cL_net 108 = .ok (.iadd, 1) := by decide +kernel
theorem dL_net_109 : decode cL_net 109 = .ok (.bipush 22, 2) := by decide +kernel
theorem dL_net_111 : decode cL_net 111 = .ok (.invokestatic 152, 3) := by decide +kernel
theorem dL_net_114 : decode cL_net 114 = .ok (.iload 9, 2) := by decide +kernel
theorem dL_net_116 : decode cL_net 116 = .ok (.iload 10, 2) := by decide +kernel
theorem dL_net_118 : decode cL_net 118 = .ok (.aload_n 3, 1) := by decide +kernel
theorem dL_net_119 : decode cL_net 119 = .ok (.aload 4, 2) := by decide +kernel
theorem dL_net_121 : decode cL_net 121 = .ok (.aload 5, 2) := by decide +kernel
theorem dL_net_123 : decode cL_net 123 = .ok (.aload 6, 2) := by decide +kernel
theorem dL_net_125 : decode cL_net 125 = .ok (.aload 7, 2) := by decide +kernel
theorem dL_net_127 : decode cL_net 127 = .ok (.invokestatic 156, 3) := by decide +kernel
theorem dL_net_130 : decode cL_net 130 = .ok (.ifCond .eq 40, 3) := by decide +kernel
theorem dL_net_133 : decode cL_net 133 = .ok (.iload 8, 2) := by decide +kernel
theorem dL_net_135 : decode cL_net 135 = .ok (.iconst 3, 1) := by decide +kernel
theorem dL_net_136 : decode cL_net 136 = .ok (.irem, 1) := by decide +kernel
theorem dL_net_137 : decode cL_net 137 = .ok (.iconst 2, 1) := by decide +kernel
theorem dL_net_138 : decode cL_net 138 = .ok (.if_icmp .ne 13, 3) := by decide +kernel
theorem dL_net_141 : decode cL_net 141 = .ok (.aload_n 2, 1) := by decide +kernel
theorem dL_net_142 : decode cL_net 142 = .ok (.aload_n 3, 1) := by decide +kernel
theorem dL_net_143 : decode cL_net 143 = .ok (.aload 5, 2) := by decide +kernel
theorem dL_net_145 : decode cL_net 145 = .ok (.invokestatic 160, 3) := by decide +kernel
theorem dL_net_148 : decode cL_net 148 = .ok (.ifCond .eq 22, 3) := by decide +kernel
theorem dL_net_151 : decode cL_net 151 = .ok (.iload 8, 2) := by decide +kernel
theorem dL_net_153 : decode cL_net 153 = .ok (.iconst 4, 1) := by decide +kernel
theorem dL_net_154 : decode cL_net 154 = .ok (.irem, 1) := by decide +kernel
theorem dL_net_155 : decode cL_net 155 = .ok (.iconst 3, 1) := by decide +kernel
theorem dL_net_156 : decode cL_net 156 = .ok (.if_icmp .ne 16, 3) := by decide +kernel
theorem dL_net_159 : decode cL_net 159 = .ok (.aload_n 2, 1) := by decide +kernel
theorem dL_net_160 : decode cL_net 160 = .ok (.aload 4, 2) := by decide +kernel
theorem dL_net_162 : decode cL_net 162 = .ok (.aload 5, 2) := by decide +kernel
theorem dL_net_164 : decode cL_net 164 = .ok (.invokestatic 164, 3) := by decide +kernel
theorem dL_net_167 : decode cL_net 167 = .ok (.ifCond .ne 5, 3) := by decide +kernel
theorem dL_net_170 : decode cL_net 170 = .ok (.iconst 0, 1) := by decide +kernel
theorem dL_net_171 : decode cL_net 171 = .ok (.ireturn, 1) := by decide +kernel
theorem dL_net_172 : decode cL_net 172 = .ok (.iinc 8 1, 3) := by decide +kernel
theorem dL_net_175 : decode cL_net 175 = .ok (.goto (-136), 3) := by decide +kernel
theorem dL_net_178 : decode cL_net 178 = .ok (.aload_n 2, 1) := by decide +kernel
theorem dL_net_179 : decode cL_net 179 = .ok (.aload_n 3, 1) := by decide +kernel
theorem dL_net_180 : decode cL_net 180 = .ok (.aload 6, 2) := by decide +kernel
theorem dL_net_182 : decode cL_net 182 = .ok (.aload 7, 2) := by decide +kernel
theorem dL_net_184 : decode cL_net 184 = .ok (.invokestatic 138, 3) := by decide +kernel
theorem dL_net_187 : decode cL_net 187 = .ok (.ifCond .eq 46, 3) := by decide +kernel
theorem dL_net_190 : decode cL_net 190 = .ok (.aload_n 2, 1) := by decide +kernel
theorem dL_net_191 : decode cL_net 191 = .ok (.aload 4, 2) := by decide +kernel
theorem dL_net_193 : decode cL_net 193 = .ok (.aload 5, 2) := by decide +kernel
theorem dL_net_195 : decode cL_net 195 = .ok (.invokestatic 164, 3) := by decide +kernel
theorem dL_net_198 : decode cL_net 198 = .ok (.ifCond .eq 35, 3) := by decide +kernel
theorem dL_net_201 : decode cL_net 201 = .ok (.aload_n 2, 1) := by decide +kernel
theorem dL_net_202 : decode cL_net 202 = .ok (.bipush 50, 2) := by decide +kernel
theorem dL_net_204 : decode cL_net 204 = .ok (.invokevirtual 72, 3) := by decide +kernel
theorem dL_net_207 : decode cL_net 207 = .ok (.ifCond .lt 26, 3) := by decide +kernel
theorem dL_net_210 : decode cL_net 210 = .ok (.aload_n 2, 1) := by decide +kernel
theorem dL_net_211 : decode cL_net 211 = .ok (.invokevirtual 64, 3) := by decide +kernel
theorem dL_net_214 : decode cL_net 214 = .ok (.ifCond .eq 15, 3) := by decide +kernel
theorem dL_net_217 : decode cL_net 217 = .ok (.aload_n 2, 1) := by decide +kernel
theorem dL_net_218 : decode cL_net 218 = .ok (.aload_n 3, 1) := by decide +kernel
theorem dL_net_219 : decode cL_net 219 = .ok (.aload 6, 2) := by decide +kernel
theorem dL_net_221 : decode cL_net 221 = .ok (.aload 7, 2) := by decide +kernel
theorem dL_net_223 : decode cL_net 223 = .ok (.invokestatic 138, 3) := by decide +kernel
theorem dL_net_226 : decode cL_net 226 = .ok (.ifCond .eq 7, 3) := by decide +kernel
theorem dL_net_229 : decode cL_net 229 = .ok (.iconst 1, 1) := by decide +kernel
theorem dL_net_230 : decode cL_net 230 = .ok (.goto 4, 3) := by decide +kernel
theorem dL_net_233 : decode cL_net 233 = .ok (.iconst 0, 1) := by decide +kernel
theorem dL_net_234 : decode cL_net 234 = .ok (.ireturn, 1) := by decide +kernel
set_option maxRecDepth 20000 in
theorem ggL_law_L_net : GoodIn wsL_law wsL_net := goodIn_ca (goodIn_ca (goodIn_ca (goodIn_ca (goodIn_ca (goodIn_ca (goodIn_ca (goodIn_ca (goodIn_ca (goodIn_ca (goodIn_r _ [3, 4, 5, 6, 7, 8, 9, 10, 11, 12, 13, 14, 15, 16, 17, 18, 19, 20, 21, 22, 23, 24, 25, 26, 27] (by decide +kernel) (by decide +kernel)) (goodIn_app (goodIn_r wsL_net_r2 [28, 29, 30, 31, 32, 33, 34, 35, 36, 37, 38, 39, 40, 41, 42, 43, 44, 45, 46, 47, 48, 49, 50, 51] (by decide +kernel) (by decide +kernel)) (goodIn_app (goodIn_r wsL_net_r3 [52, 53, 54, 55, 56, 57, 58, 59, 60, 61, 62, 63, 64, 65, 66, 2, 67, 68, 69, 70, 71, 72, 73, 74] rfl (by decide +kernel)) (goodIn_app (goodIn_r wsL_net_r4 [75, 76, 77, 78, 79, 80, 81, 82, 83, 84, 85, 86, 87, 88, 89, 90, 91, 92, 93, 94, 95, 96, 97, 98] (by decide +kernel) (by decide +kernel)) (goodIn_app (goodIn_r wsL_net_r5 [99, 100, 101, 102, 103, 104, 105, 106, 107, 108, 109, 110, 111, 112, 113, 114, 115, 116, 117, 118, 119, 120, 121, 122] (by decide +kernel) (by decide +kernel)) (goodIn_app (goodIn_r wsL_net_r6 [123, 124, 125, 126, 127, 128, 129, 130, 131, 132, 133, 134, 135, 136, 137, 138, 139, 140, 141, 142, 143, 144, 145, 146] (by decide +kernel) (by decide +kernel)) (goodIn_app (goodIn_r wsL_net_r7 [147, 148, 149, 150, 151, 152, 153, 154, 155, 156, 157, 158, 159, 160, 161, 162, 163, 164, 165, 166, 167, 168, 169, 170] (by decide +kernel) (by decide +kernel)) (goodIn_app (goodIn_r wsL_net_r8 [171, 172, 173, 174, 175, 176, 177, 178, 179, 180, 181, 182, 183, 184, 185, 186, 187, 188, 189, 190, 191, 192, 193, 194] (by decide +kernel) (by decide +kernel)) (goodIn_app (goodIn_r wsL_net_r9 [195, 196, 197, 198, 199, 200, 201, 202, 203, 204, 205, 206, 207, 208, 209, 210, 211, 212, 213, 214, 215, 216, 217, 218] (by decide +kernel) (by decide +kernel)) (goodIn_app (goodIn_r wsL_net_r10 [219, 220, 221, 222, 223, 224, 225, 226, 227, 228, 229, 230, 231, 232, 233, 234, 235, 236, 237, 238, 239, 240, 241, 242] (by decide +kernel) (by decide +kernel)) (goodIn_app (goodIn_r wsL_net_r11 [243, 244, 245, 246, 247, 248, 249, 250, 251, 252, 253, 254, 255, 256, 257, 258, 259, 260, 261, 262, 263, 264, 265, 266] (by decide +kernel) (by decide +kernel)) (goodIn_app (goodIn_r wsL_net_r12 [267, 268, 269, 270, 271, 272, 273, 274, 275, 276, 277, 278, 279, 280, 281, 282, 283, 284, 285, 286, 287, 288, 289, 290] (by decide +kernel) (by decide +kernel)) (goodIn_app (goodIn_r wsL_net_r13 [291, 292, 293, 294, 295, 296, 297, 298, 299, 300, 301, 302, 303, 304, 305, 306, 307, 308, 309, 310, 311, 312, 313, 314] (by decide +kernel) (by decide +kernel)) (goodIn_app (goodIn_r wsL_net_r14 [315, 316, 317, 318, 319, 320, 321, 322, 323, 324, 325, 326, 327, 328, 329, 330, 331, 332, 333, 334, 335, 336, 337, 338] (by decide +kernel) (by decide +kernel)) (goodIn_app (goodIn_r wsL_net_r15 [339, 340, 341, 342, 343, 344, 345, 346, 347, 348, 349, 350, 351, 352, 353, 354, 355, 356, 357, 358, 359, 360, 361, 362] (by decide +kernel) (by decide +kernel)) (goodIn_app (goodIn_r wsL_net_r16 [363, 364, 365, 366, 367, 368, 369, 370, 371, 372, 373, 374, 375, 376, 377, 378, 379, 380, 381, 382, 383, 384, 385, 386] (by decide +kernel) (by decide +kernel)) (goodIn_app (goodIn_r wsL_net_r17 [387, 388, 389, 390, 391, 392, 393, 394, 395, 396, 397, 398, 399, 400, 401, 402, 403, 404, 405, 406, 407, 408, 409, 410] (by decide +kernel) (by decide +kernel)) (goodIn_app (goodIn_r wsL_net_r18 [411, 412, 413, 414, 415, 416, 417, 418, 419, 420, 421, 422, 423, 424, 425, 426, 427, 428, 429, 430, 431, 432, 433, 434] (by decide +kernel) (by decide +kernel)) (goodIn_app (goodIn_r wsL_net_r19 [435, 436, 437, 438, 439, 440, 441, 442, 443, 444, 445, 446, 447, 448, 449, 450, 451, 452, 453, 454, 455, 456, 457, 458] (by decide +kernel) (by decide +kernel)) (goodIn_app (goodIn_r wsL_net_r20 [459, 460, 461, 462, 463, 464, 465, 466, 467, 468, 469, 470, 471, 472, 473, 474, 475, 476, 477, 478, 479, 480, 481, 482] (by decide +kernel) (by decide +kernel)) (goodIn_r wsL_net_r21 [483, 484, 485, 486, 487, 488] (by decide +kernel) (by decide +kernel)))))))))))))))))))))) (goodIn_r wsX40 [489, 490, 491, 492, 493, 494] (by decide +kernel) (by decide +kernel))) (goodIn_r wsJx4a65c0 [495, 496, 497] (by decide +kernel) (by decide +kernel))) (goodIn_r wsX10 [498, 499, 500, 501, 502, 503] (by decide +kernel) (by decide +kernel))) (goodIn_r wsX30 [504, 505] (by decide +kernel) (by decide +kernel))) (goodIn_r wsX20 [506, 507, 508, 509, 510, 511] (by decide +kernel) (by decide +kernel))) (goodIn_r wsX00 [512, 513, 514, 515, 516, 517, 518, 519, 520] (by decide +kernel) (by decide +kernel))) (goodIn_sub (fun _ h => List.mem_append_left _ (List.mem_append_left _ (List.mem_append_right _ h))) (by decide +kernel))) (goodIn_sub (fun _ h => List.mem_append_left _ (List.mem_append_right _ h)) (by decide +kernel))) (goodIn_sub (fun _ h => List.mem_append_right _ h) (by decide +kernel))
set_option maxRecDepth 20000 in
theorem gL_law_L_net : GoodIn wsL_law (va_wsS RL 167 yL_net wsL_net) := goodIn_app (goodIn_of _ (by decide +kernel)) ggL_law_L_net
theorem dL_law_0 : decode cL_law 0 = .ok (.aload_n 0, 1) := by decide +kernel
theorem dL_law_1 : decode cL_law 1 = .ok (.iconst 0, 1) := by decide +kernel
theorem dL_law_2 : decode cL_law 2 = .ok (.invokestatic 167, 3) := by decide +kernel
theorem dL_law_5 : decode cL_law 5 = .ok (.ifCond .eq 27, 3) := by decide +kernel
theorem dL_law_8 : decode cL_law 8 = .ok (.aload_n 0, 1) := by decide +kernel
theorem dL_law_9 : decode cL_law 9 = .ok (.sipush 230, 3) := by decide +kernel
theorem dL_law_12 : decode cL_law 12 = .ok (.invokestatic 167, 3) := by decide +kernel
theorem dL_law_15 : decode cL_law 15 = .ok (.ifCond .eq 17, 3) := by decide +kernel
theorem dL_law_18 : decode cL_law 18 = .ok (.aload_n 0, 1) := by decide +kernel
theorem dL_law_19 : decode cL_law 19 = .ok (.sipush 460, 3) := by decide +kernel
theorem dL_law_22 : decode cL_law 22 = .ok (.invokestatic 167, 3) := by decide +kernel
theorem dL_law_25 : decode cL_law 25 = .ok (.ifCond .eq 7, 3) := by decide +kernel
theorem dL_law_28 : decode cL_law 28 = .ok (.iconst 1, 1) := by decide +kernel
theorem dL_law_29 : decode cL_law 29 = .ok (.goto 4, 3) := by decide +kernel
theorem dL_law_32 : decode cL_law 32 = .ok (.iconst 0, 1) := by decide +kernel
theorem dL_law_33 : decode cL_law 33 = .ok (.ireturn, 1) := by decide +kernel

