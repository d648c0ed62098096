theorem dw_0 : decode code 0 = .ok (.new 8, 3) := by decide +kernel
theorem dw_3 : decode code 3 = .ok (.dup, 1) := by decide +kernel
theorem dw_4 : decode code 4 = .ok (.invokespecial 88, 3) := by decide +kernel
theorem dw_7 : decode code 7 = .ok (.astore_n 1, 1) := by decide +kernel
theorem dw_8 : decode code 8 = .ok (.new 89, 3) := by decide +kernel
theorem dw_11 : decode code 11 = .ok (.dup, 1) := by decide +kernel
theorem dw_12 : decode code 12 = .ok (.invokespecial 91, 3) := by decide +kernel
theorem dw_15 : decode code 15 = .ok (.astore_n 2, 1) := by decide +kernel
theorem dw_16 : decode code 16 = .ok (.iconst 1, 1) := by decide +kernel
theorem dw_17 : decode code 17 = .ok (.newarray .long, 2) := by decide +kernel
theorem dw_19 : decode code 19 = .ok (.astore_n 3, 1) := by decide +kernel
theorem dw_20 : decode code 20 = .ok (.iconst 0, 1) := by decide +kernel
theorem dw_21 : decode code 21 = .ok (.istore 4, 2) := by decide +kernel
theorem dw_23 : decode code 23 = .ok (.iload 4, 2) := by decide +kernel
theorem dw_25 : decode code 25 = .ok (.aload_n 0, 1) := by decide +kernel
theorem dw_26 : decode code 26 = .ok (.arraylength, 1) := by decide +kernel
theorem dw_27 : decode code 27 = .ok (.iconst 5, 1) := by decide +kernel
theorem dw_28 : decode code 28 = .ok (.isub, 1) := by decide +kernel
theorem dw_29 : decode code 29 = .ok (.if_icmp .gt 1678, 3) := by decide +kernel
theorem dw_32 : decode code 32 = .ok (.aload_n 0, 1) := by decide +kernel
theorem dw_33 : decode code 33 = .ok (.iload 4, 2) := by decide +kernel
theorem dw_35 : decode code 35 = .ok (.iaload, 1) := by decide +kernel
theorem dw_36 : decode code 36 = .ok (.bipush 31, 2) := by decide +kernel
theorem dw_38 : decode code 38 = .ok (.iand, 1) := by decide +kernel
theorem dw_39 : decode code 39 = .ok (.tableswitch 1662 0 29 #[133, 225, 316, 384, 452, 508, 564, 644, 700, 713, 769, 782, 795, 851, 914, 982, 1050, 1063, 1131, 1206, 1219, 1232, 1245, 1301, 1357, 1413, 1469, 1525, 1581, 1649], 133) := by decide +kernel
theorem dw_172 : decode code 172 = .ok (.aload_n 1, 1) := by decide +kernel
theorem dw_173 : decode code 173 = .ok (.aload_n 0, 1) := by decide +kernel
theorem dw_174 : decode code 174 = .ok (.iload 4, 2) := by decide +kernel
theorem dw_176 : decode code 176 = .ok (.iconst 1, 1) := by decide +kernel
theorem dw_177 : decode code 177 = .ok (.iadd, 1) := by decide +kernel
theorem dw_178 : decode code 178 = .ok (.iaload, 1) := by decide +kernel
theorem dw_179 : decode code 179 = .ok (.aload_n 0, 1) := by decide +kernel
theorem dw_180 : decode code 180 = .ok (.iload 4, 2) := by decide +kernel
theorem dw_182 : decode code 182 = .ok (.iconst 2, 1) := by decide +kernel
theorem dw_183 : decode code 183 = .ok (.iadd, 1) := by decide +kernel
theorem dw_184 : decode code 184 = .ok (.iaload, 1) := by decide +kernel
theorem dw_185 : decode code 185 = .ok (.aload_n 0, 1) := by decide +kernel
theorem dw_186 : decode code 186 = .ok (.iload 4, 2) := by decide +kernel
theorem dw_188 : decode code 188 = .ok (.iconst 3, 1) := by decide +kernel
theorem dw_189 : decode code 189 = .ok (.iadd, 1) := by decide +kernel
theorem dw_190 : decode code 190 = .ok (.iaload, 1) := by decide +kernel
theorem dw_191 : decode code 191 = .ok (.aload_n 0, 1) := by decide +kernel
theorem dw_192 : decode code 192 = .ok (.iload 4, 2) := by decide +kernel
theorem dw_194 : decode code 194 = .ok (.iconst 4, 1) := by decide +kernel
theorem dw_195 : decode code 195 = .ok (.iadd, 1) := by decide +kernel
theorem dw_196 : decode code 196 = .ok (.iaload, 1) := by decide +kernel
theorem dw_197 : decode code 197 = .ok (.aload_n 3, 1) := by decide +kernel
theorem dw_198 : decode code 198 = .ok (.invokestatic 92, 3) := by decide +kernel
theorem dw_201 : decode code 201 = .ok (.istore 5, 2) := by decide +kernel
theorem dw_203 : decode code 203 = .ok (.aload_n 2, 1) := by decide +kernel
theorem dw_204 : decode code 204 = .ok (.aload_n 0, 1) := by decide +kernel
theorem dw_205 : decode code 205 = .ok (.iload 4, 2) := by decide +kernel
theorem dw_207 : decode code 207 = .ok (.iconst 1, 1) := by decide +kernel
theorem dw_208 : decode code 208 = .ok (.iadd, 1) := by decide +kernel
theorem dw_209 : decode code 209 = .ok (.iaload, 1) := by decide +kernel
theorem dw_210 : decode code 210 = .ok (.aload_n 0, 1) := by decide +kernel
theorem dw_211 : decode code 211 = .ok (.iload 4, 2) := by decide +kernel
theorem dw_213 : decode code 213 = .ok (.iconst 2, 1) := by decide +kernel
theorem dw_214 : decode code 214 = .ok (.iadd, 1) := by decide +kernel
theorem dw_215 : decode code 215 = .ok (.iaload, 1) := by decide +kernel
theorem dw_216 : decode code 216 = .ok (.aload_n 0, 1) := by decide +kernel
theorem dw_217 : decode code 217 = .ok (.iload 4, 2) := by decide +kernel
theorem dw_219 : decode code 219 = .ok (.iconst 3, 1) := by decide +kernel
theorem dw_220 : decode code 220 = .ok (.iadd, 1) := by decide +kernel
theorem dw_221 : decode code 221 = .ok (.iaload, 1) := by decide +kernel
theorem dw_222 : decode code 222 = .ok (.aload_n 0, 1) := by decide +kernel
theorem dw_223 : decode code 223 = .ok (.iload 4, 2) := by decide +kernel
theorem dw_225 : decode code 225 = .ok (.iconst 4, 1) := by decide +kernel
theorem dw_226 : decode code 226 = .ok (.iadd, 1) := by decide +kernel
theorem dw_227 : decode code 227 = .ok (.iaload, 1) := by decide +kernel
theorem dw_228 : decode code 228 = .ok (.invokevirtual 97, 3) := by decide +kernel
theorem dw_231 : decode code 231 = .ok (.istore 6, 2) := by decide +kernel
theorem dw_233 : decode code 233 = .ok (.aload_n 2, 1) := by decide +kernel
theorem dw_234 : decode code 234 = .ok (.invokevirtual 98, 3) := by decide +kernel
theorem dw_237 : decode code 237 = .ok (.iload 5, 2) := by decide +kernel
theorem dw_239 : decode code 239 = .ok (.if_icmp .eq 5, 3) := by decide +kernel
theorem dw_242 : decode code 242 = .ok (.iconst 0, 1) := by decide +kernel
theorem dw_243 : decode code 243 = .ok (.ireturn, 1) := by decide +kernel
theorem dw_244 : decode code 244 = .ok (.iload 5, 2) := by decide +kernel
theorem dw_246 : decode code 246 = .ok (.ifCond .ne 15, 3) := by decide +kernel
theorem dw_249 : decode code 249 = .ok (.aload_n 3, 1) := by decide +kernel
theorem dw_250 : decode code 250 = .ok (.iconst 0, 1) := by decide +kernel
theorem dw_251 : decode code 251 = .ok (.laload, 1) := by decide +kernel
theorem dw_252 : decode code 252 = .ok (.iload 6, 2) := by decide +kernel
theorem dw_254 : decode code 254 = .ok (.i2l, 1) := by decide +kernel
theorem dw_255 : decode code 255 = .ok (.lcmp, 1) := by decide +kernel
theorem dw_256 : decode code 256 = .ok (.ifCond .eq 5, 3) := by decide +kernel
theorem dw_259 : decode code 259 = .ok (.iconst 0, 1) := by decide +kernel
theorem dw_260 : decode code 260 = .ok (.ireturn, 1) := by decide +kernel
theorem dw_261 : decode code 261 = .ok (.goto 1440, 3) := by decide +kernel
theorem dw_264 : decode code 264 = .ok (.aload_n 1, 1) := by decide +kernel
theorem dw_265 : decode code 265 = .ok (.aload_n 0, 1) := by decide +kernel
theorem dw_266 : decode code 266 = .ok (.iload 4, 2) := by decide +kernel
theorem dw_268 : decode code 268 = .ok (.iconst 1, 1) := by decide +kernel
theorem dw_269 : decode code 269 = .ok (.iadd, 1) := by decide +kernel
theorem dw_270 : decode code 270 = .ok (.iaload, 1) := by decide +kernel
theorem dw_271 : decode code 271 = .ok (.aload_n 0, 1) := by decide +kernel
theorem dw_272 : decode code 272 = .ok (.iload 4, 2) := by decide +kernel
theorem dw_274 : decode code 274 = .ok (.iconst 2, 1) := by decide +kernel
theorem dw_275 : decode code 275 = .ok (.iadd, 1) := by decide +kernel
theorem dw_276 : decode code 276 = .ok (.iaload, 1) := by decide +kernel
theorem dw_277 : decode code 277 = .ok (.ifCond .eq 7, 3) := by decide +kernel
theorem dw_280 : decode code 280 = .ok (.iconst 1, 1) := by decide +kernel
theorem dw_281 : decode code 281 = .ok (.goto 4, 3) := by decide +kernel
theorem dw_284 : decode code 284 = .ok (.iconst 0, 1) := by decide +kernel
theorem dw_285 : decode code 285 = .ok (.aload_n 3, 1) := by decide +kernel
theorem dw_286 : decode code 286 = .ok (.invokestatic 102, 3) := by decide +kernel
theorem dw_289 : decode code 289 = .ok (.istore 5, 2) := by decide +kernel
theorem dw_291 : decode code 291 = .ok (.aload_n 2, 1) := by decide +kernel
theorem dw_292 : decode code 292 = .ok (.aload_n 0, 1) := by decide +kernel
theorem dw_293 : decode code 293 = .ok (.iload 4, 2) := by decide +kernel
theorem dw_295 : decode code 295 = .ok (.iconst 1, 1) := by decide +kernel
theorem dw_296 : decode code 296 = .ok (.iadd, 1) := by decide +kernel
theorem dw_297 : decode code 297 = .ok (.iaload, 1) := by decide +kernel
theorem dw_298 : decode code 298 = .ok (.aload_n 0, 1) := by decide +kernel
theorem dw_299 : decode code 299 = .ok (.iload 4, 2) := by decide +kernel
theorem dw_301 : decode code 301 = .ok (.iconst 2, 1) := by decide +kernel
theorem dw_302 : decode code 302 = .ok (.iadd, 1) := by decide +kernel
theorem dw_303 : decode code 303 = .ok (.iaload, 1) := by decide +kernel
theorem dw_304 : decode code 304 = .ok (.ifCond .eq 7, 3) := by decide +kernel
theorem dw_307 : decode code 307 = .ok (.iconst 1, 1) := by decide +kernel
theorem dw_308 : decode code 308 = .ok (.goto 4, 3) := by decide +kernel
theorem dw_311 : decode code 311 = .ok (.iconst 0, 1) := by decide +kernel
theorem dw_312 : decode code 312 = .ok (.invokevirtual 105, 3) := by decide +kernel
theorem dw_315 : decode code 315 = .ok (.istore 6, 2) := by decide +kernel
theorem dw_317 : decode code 317 = .ok (.aload_n 2, 1) := by decide +kernel
theorem dw_318 : decode code 318 = .ok (.invokevirtual 98, 3) := by decide +kernel
theorem dw_321 : decode code 321 = .ok (.iload 5, 2) := by decide +kernel
theorem dw_323 : decode code 323 = .ok (.if_icmp .eq 5, 3) := by decide +kernel
theorem dw_326 : decode code 326 = .ok (.iconst 0, 1) := by decide +kernel
theorem dw_327 : decode code 327 = .ok (.ireturn, 1) := by decide +kernel
theorem dw_328 : decode code 328 = .ok (.iload 5, 2) := by decide +kernel
theorem dw_330 : decode code 330 = .ok (.ifCond .ne 22, 3) := by decide +kernel
theorem dw_333 : decode code 333 = .ok (.aload_n 3, 1) := by decide +kernel
theorem dw_334 : decode code 334 = .ok (.iconst 0, 1) := by decide +kernel
theorem dw_335 : decode code 335 = .ok (.laload, 1) := by decide +kernel
theorem dw_336 : decode code 336 = .ok (.iload 6, 2) := by decide +kernel
theorem dw_338 : decode code 338 = .ok (.ifCond .eq 7, 3) := by decide +kernel
theorem dw_341 : decode code 341 = .ok (.lconst 1, 1) := by decide +kernel
theorem dw_342 : decode code 342 = .ok (.goto 4, 3) := by decide +kernel
theorem dw_345 : decode code 345 = .ok (.lconst 0, 1) := by decide +kernel
theorem dw_346 : decode code 346 = .ok (.lcmp, 1) := by decide +kernel
theorem dw_347 : decode code 347 = .ok (.ifCond .eq 5, 3) := by decide +kernel
theorem dw_350 : decode code 350 = .ok (.iconst 0, 1) := by decide +kernel
theorem dw_351 : decode code 351 = .ok (.ireturn, 1) := by decide +kernel
theorem dw_352 : decode code 352 = .ok (.goto 1349, 3) := by decide +kernel
theorem dw_355 : decode code 355 = .ok (.aload_n 1, 1) := by decide +kernel
theorem dw_356 : decode code 356 = .ok (.aload_n 0, 1) := by decide +kernel
theorem dw_357 : decode code 357 = .ok (.iload 4, 2) := by decide +kernel
theorem dw_359 : decode code 359 = .ok (.iconst 1, 1) := by decide +kernel
theorem dw_360 : decode code 360 = .ok (.iadd, 1) := by decide +kernel
theorem dw_361 : decode code 361 = .ok (.iaload, 1) := by decide +kernel
theorem dw_362 : decode code 362 = .ok (.aload_n 0, 1) := by decide +kernel
theorem dw_363 : decode code 363 = .ok (.iload 4, 2) := by decide +kernel
theorem dw_365 : decode code 365 = .ok (.iconst 2, 1) := by decide +kernel
theorem dw_366 : decode code 366 = .ok (.iadd, 1) := by decide +kernel
theorem dw_367 : decode code 367 = .ok (.iaload, 1) := by decide +kernel
theorem dw_368 : decode code 368 = .ok (.aload_n 3, 1) := by decide +kernel
theorem dw_369 : decode code 369 = .ok (.invokestatic 106, 3) := by decide +kernel
theorem dw_372 : decode code 372 = .ok (.istore 5, 2) := by decide +kernel
theorem dw_374 : decode code 374 = .ok (.aload_n 2, 1) := by decide +kernel
theorem dw_375 : decode code 375 = .ok (.aload_n 0, 1) := by decide +kernel
theorem dw_376 : decode code 376 = .ok (.iload 4, 2) := by decide +kernel
theorem dw_378 : decode code 378 = .ok (.iconst 1, 1) := by decide +kernel
theorem dw_379 : decode code 379 = .ok (.iadd, 1) := by decide +kernel
theorem dw_380 : decode code 380 = .ok (.iaload, 1) := by decide +kernel
theorem dw_381 : decode code 381 = .ok (.aload_n 0, 1) := by decide +kernel
theorem dw_382 : decode code 382 = .ok (.iload 4, 2) := by decide +kernel
theorem dw_384 : decode code 384 = .ok (.iconst 2, 1) := by decide +kernel
theorem dw_385 : decode code 385 = .ok (.iadd, 1) := by decide +kernel
theorem dw_386 : decode code 386 = .ok (.iaload, 1) := by decide +kernel
theorem dw_387 : decode code 387 = .ok (.invokevirtual 109, 3) := by decide +kernel
theorem dw_390 : decode code 390 = .ok (.istore 6, 2) := by decide +kernel
theorem dw_392 : decode code 392 = .ok (.aload_n 2, 1) := by decide +kernel
theorem dw_393 : decode code 393 = .ok (.invokevirtual 98, 3) := by decide +kernel
theorem dw_396 : decode code 396 = .ok (.iload 5, 2) := by decide +kernel
theorem dw_398 : decode code 398 = .ok (.if_icmp .eq 5, 3) := by decide +kernel
theorem dw_401 : decode code 401 = .ok (.iconst 0, 1) := by decide +kernel
theorem dw_402 : decode code 402 = .ok (.ireturn, 1) := by decide +kernel
theorem dw_403 : decode code 403 = .ok (.iload 5, 2) := by decide +kernel
theorem dw_405 : decode code 405 = .ok (.ifCond .ne 15, 3) := by decide +kernel
theorem dw_408 : decode code 408 = .ok (.aload_n 3, 1) := by decide +kernel
theorem dw_409 : decode code 409 = .ok (.iconst 0, 1) := by decide +kernel
theorem dw_410 : decode code 410 = .ok (.laload, 1) := by decide +kernel
theorem dw_411 : decode code 411 = .ok (.iload 6, 2) := by decide +kernel
theorem dw_413 : decode code 413 = .ok (.i2l, 1) := by decide +kernel
theorem dw_414 : decode code 414 = .ok (.lcmp, 1) := by decide +kernel
theorem dw_415 : decode code 415 = .ok (.ifCond .eq 5, 3) := by decide +kernel
theorem dw_418 : decode code 418 = .ok (.iconst 0, 1) := by decide +kernel
theorem dw_419 : decode code 419 = .ok (.ireturn, 1) := by decide +kernel
theorem dw_420 : decode code 420 = .ok (.goto 1281, 3) := by decide +kernel
theorem dw_423 : decode code 423 = .ok (.aload_n 1, 1) := by decide +kernel
theorem dw_424 : decode code 424 = .ok (.aload_n 0, 1) := by decide +kernel
theorem dw_425 : decode code 425 = .ok (.iload 4, 2) := by decide +kernel
theorem dw_427 : decode code 427 = .ok (.iconst 1, 1) := by decide +kernel
theorem dw_428 : decode code 428 = .ok (.iadd, 1) := by decide +kernel
theorem dw_429 : decode code 429 = .ok (.iaload, 1) := by decide +kernel
theorem dw_430 : decode code 430 = .ok (.aload_n 0, 1) := by decide +kernel
theorem dw_431 : decode code 431 = .ok (.iload 4, 2) := by decide +kernel
theorem dw_433 : decode code 433 = .ok (.iconst 2, 1) := by decide +kernel
theorem dw_434 : decode code 434 = .ok (.iadd, 1) := by decide +kernel
theorem dw_435 : decode code 435 = .ok (.iaload, 1) := by decide +kernel
theorem dw_436 : decode code 436 = .ok (.aload_n 3, 1) := by decide +kernel
theorem dw_437 : decode code 437 = .ok (.invokestatic 110, 3) := by decide +kernel
theorem dw_440 : decode code 440 = .ok (.istore 5, 2) := by decide +kernel
theorem dw_442 : decode code 442 = .ok (.aload_n 2, 1) := by decide +kernel
theorem dw_443 : decode code 443 = .ok (.aload_n 0, 1) := by decide +kernel
theorem dw_444 : decode code 444 = .ok (.iload 4, 2) := by decide +kernel
theorem dw_446 : decode code 446 = .ok (.iconst 1, 1) := by decide +kernel
theorem dw_447 : decode code 447 = .ok (.iadd, 1) := by decide +kernel
theorem dw_448 : decode code 448 = .ok (.iaload, 1) := by decide +kernel
theorem dw_449 : decode code 449 = .ok (.aload_n 0, 1) := by decide +kernel
theorem dw_450 : decode code 450 = .ok (.iload 4, 2) := by decide +kernel
theorem dw_452 : decode code 452 = .ok (.iconst 2, 1) := by decide +kernel
theorem dw_453 : decode code 453 = .ok (.iadd, 1) := by decide +kernel
theorem dw_454 : decode code 454 = .ok (.iaload, 1) := by decide +kernel
theorem dw_455 : decode code 455 = .ok (.invokevirtual 112, 3) := by decide +kernel
theorem dw_458 : decode code 458 = .ok (.istore 6, 2) := by decide +kernel
theorem dw_460 : decode code 460 = .ok (.aload_n 2, 1) := by decide +kernel
theorem dw_461 : decode code 461 = .ok (.invokevirtual 98, 3) := by decide +kernel
theorem dw_464 : decode code 464 = .ok (.iload 5, 2) := by decide +kernel
theorem dw_466 : decode code 466 = .ok (.if_icmp .eq 5, 3) := by decide +kernel
theorem dw_469 : decode code 469 = .ok (.iconst 0, 1) := by decide +kernel
theorem dw_470 : decode code 470 = .ok (.ireturn, 1) := by decide +kernel
theorem dw_471 : decode code 471 = .ok (.iload 5, 2) := by decide +kernel
theorem dw_473 : decode code 473 = .ok (.ifCond .ne 15, 3) := by decide +kernel
theorem dw_476 : decode code 476 = .ok (.aload_n 3, 1) := by decide +kernel
theorem dw_477 : decode code 477 = .ok (.iconst 0, 1) := by decide +kernel
theorem dw_478 : decode code 478 = .ok (.laload, 1) := by decide +kernel
theorem dw_479 : decode code 479 = .ok (.iload 6, 2) := by decide +kernel
theorem dw_481 : decode code 481 = .ok (.i2l, 1) := by decide +kernel
theorem dw_482 : decode code 482 = .ok (.lcmp, 1) := by decide +kernel
theorem dw_483 : decode code 483 = .ok (.ifCond .eq 5, 3) := by decide +kernel
theorem dw_486 : decode code 486 = .ok (.iconst 0, 1) := by decide +kernel
theorem dw_487 : decode code 487 = .ok (.ireturn, 1) := by decide +kernel
theorem dw_488 : decode code 488 = .ok (.goto 1213, 3) := by decide +kernel
theorem dw_491 : decode code 491 = .ok (.aload_n 1, 1) := by decide +kernel
theorem dw_492 : decode code 492 = .ok (.aload_n 0, 1) := by decide +kernel
theorem dw_493 : decode code 493 = .ok (.iload 4, 2) := by decide +kernel
theorem dw_495 : decode code 495 = .ok (.iconst 1, 1) := by decide +kernel
theorem dw_496 : decode code 496 = .ok (.iadd, 1) := by decide +kernel
theorem dw_497 : decode code 497 = .ok (.iaload, 1) := by decide +kernel
theorem dw_498 : decode code 498 = .ok (.aload_n 3, 1) := by decide +kernel
theorem dw_499 : decode code 499 = .ok (.invokestatic 113, 3) := by decide +kernel
theorem dw_502 : decode code 502 = .ok (.istore 5, 2) := by decide +kernel
theorem dw_504 : decode code 504 = .ok (.aload_n 2, 1) := by decide +kernel
theorem dw_505 : decode code 505 = .ok (.aload_n 0, 1) := by decide +kernel
theorem dw_506 : decode code 506 = .ok (.iload 4, 2) := by decide +kernel
theorem dw_508 : decode code 508 = .ok (.iconst 1, 1) := by decide +kernel
theorem dw_509 : decode code 509 = .ok (.iadd, 1) := by decide +kernel
theorem dw_510 : decode code 510 = .ok (.iaload, 1) := by decide +kernel
theorem dw_511 : decode code 511 = .ok (.invokevirtual 116, 3) := by decide +kernel
theorem dw_514 : decode code 514 = .ok (.istore 6, 2) := by decide +kernel
theorem dw_516 : decode code 516 = .ok (.aload_n 2, 1) := by decide +kernel
theorem dw_517 : decode code 517 = .ok (.invokevirtual 98, 3) := by decide +kernel
theorem dw_520 : decode code 520 = .ok (.iload 5, 2) := by decide +kernel
theorem dw_522 : decode code 522 = .ok (.if_icmp .eq 5, 3) := by decide +kernel
theorem dw_525 : decode code 525 = .ok (.iconst 0, 1) := by decide +kernel
theorem dw_526 : decode code 526 = .ok (.ireturn, 1) := by decide +kernel
theorem dw_527 : decode code 527 = .ok (.iload 5, 2) := by decide +kernel
