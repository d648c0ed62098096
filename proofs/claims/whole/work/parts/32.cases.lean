set_option maxRecDepth 100000 in
set_option maxHeartbeats 1000000 in
theorem lw_c0 {p : Program} {l : Launch} {e : Env} {s : State} {m : MethodId} {args : Array Value} {below : List Frame} {meth : Method} {c : Code} {w : hv_W} {Q : State → Prop} {cells slots : Nat} {Y : hv_H} {xs : Nat → Int32} {b L i xo oo : Nat} {gm : md_g} {A : ab_A} (hc : lw_cx p l s m args meth c w b L xs gm oo) (hi : i + 4 < L) (hY : lw_I w xo gm oo A Y) (hcs : cells + 410 ≤ 627379) (hss : slots + 4100 ≤ 7213967) (K : ∀ (A1 : ab_A) (Y1 : hv_H), lw_I w xo gm oo A1 Y1 → hv_V p l e room_1 s m args below meth c w 7 Q (cells + 410) (slots + 4100) Y1 (lw_lv b xo gm oo i) 1701 []) : hv_V p l e room_1 s m args below meth c w 7 Q cells slots Y (lw_lv b xo gm oo i) 172 [] := by
  obtain ⟨C, hlt, hX, hbl, hbw, hgm, ho1, ho2, hL⟩ := hc
  obtain ⟨hI, gc, Z, th, f, hg, hZ, hF, rfl, rfl⟩ := hY
  have hL31 : L < 2 ^ 31 := by omega
  refine hv_aload_n C dw_172 rfl 1 rfl ?_
  refine lw_arg C hX hbl hbw 1 (by decide) (by omega) hL31 rfl rfl dw_173 dw_174 dw_176 dw_177 dw_178 ?_
  refine lw_arg C hX hbl hbw 2 (by decide) (by omega) hL31 rfl rfl dw_179 dw_180 dw_182 dw_183 dw_184 ?_
  refine lw_arg C hX hbl hbw 3 (by decide) (by omega) hL31 rfl rfl dw_185 dw_186 dw_188 dw_189 dw_190 ?_
  refine lw_arg C hX hbl hbw 4 (by decide) (by omega) hL31 rfl rfl dw_191 dw_192 dw_194 dw_195 dw_196 ?_
  refine hv_aload_n C dw_197 rfl 3 rfl ?_
  refine hv_callSrH (As := [.ref (gc.1 0 0), .int (xs (i + 1)), .int (xs (i + 2)), .int (xs (i + 3)), .int (xs (i + 4)), .ref oo]) (rest := []) (n := 6) C (c_L_dig l w gc A Z (md_Y w gm A th (ob w oo f)) hg hlt hI hZ hF oo f ((md_oo ho1 ho2).trans ob_at) (xs (i + 1)) (xs (i + 2)) (xs (i + 3)) (xs (i + 4))) gL_law_L_dig rfl (by decide +kernel) ⟨(Nat.le_of_ble_eq_true rfl), (Nat.le_of_ble_eq_true rfl)⟩ rfl rfl (Nat.le_of_ble_eq_true rfl) dw_198 ⟨by show cells + 8 ≤ 627379; omega, by show slots + 100 ≤ 7213967; omega⟩ (fun r Y1 hr => ?_)
  obtain ⟨rfl, h3, f', hf', hS⟩ := hr
  obtain ⟨gc', Z', hg', hZ', hF', hxo, rfl⟩ := lw_wr ho1 ho2 hS
  refine hv_istore (lv1 := [(0, .ref b), (1, .ref (gc.1 0 0)), (2, .ref gm.1), (3, .ref oo), (4, .int (nI i)), (5, .int (nI (q_dig A (xs (i + 1)) (xs (i + 2)) (xs (i + 3)) (xs (i + 4))).1))]) C dw_201 (by decide) [1, 2, 3, 4, 5, 0] rfl ?_
  refine hv_aload_n C dw_203 rfl 2 rfl ?_
  refine lw_arg C hX hbl hbw 1 (by decide) (by omega) hL31 rfl rfl dw_204 dw_205 dw_207 dw_208 dw_209 ?_
  refine lw_arg C hX hbl hbw 2 (by decide) (by omega) hL31 rfl rfl dw_210 dw_211 dw_213 dw_214 dw_215 ?_
  refine lw_arg C hX hbl hbw 3 (by decide) (by omega) hL31 rfl rfl dw_216 dw_217 dw_219 dw_220 dw_221 ?_
  refine lw_arg C hX hbl hbw 4 (by decide) (by omega) hL31 rfl rfl dw_222 dw_223 dw_225 dw_226 dw_227 ?_
  refine hv_callVr (As := [.int (xs (i + 1)), .int (xs (i + 2)), .int (xs (i + 3)), .int (xs (i + 4))]) (rest := []) (n := 4) C (c_X5_dig l w gm hgm A th (cl_Y w gc' (q_dig A (xs (i + 1)) (xs (i + 2)) (xs (i + 3)) (xs (i + 4))).2.2 Z' (ob w oo f')) (xs (i + 1)) (xs (i + 2)) (xs (i + 3)) (xs (i + 4)) (I4 hI)) gL_law_X5_dig rfl (by decide +kernel) ⟨(Nat.le_of_ble_eq_true rfl), (Nat.le_of_ble_eq_true rfl)⟩ (hv_rcO md_o rfl) rfl rfl (Nat.le_of_ble_eq_true rfl) dw_228 ⟨by show cells + 8 + 0 ≤ 627379; omega, by show slots + 100 + 0 ≤ 7213967; omega⟩ (fun r Y1 hr => ?_)
  obtain ⟨rfl, rfl⟩ := hr
  refine lw_tailI (q := q_dig A (xs (i + 1)) (xs (i + 2)) (xs (i + 3)) (xs (i + 4))) (f := f') C hgm h3 (by rw [md_oo ho1 ho2, cl_oat (cl_out (w := w) (A := A) (Z := Z') hF' ((md_oo ho1 ho2).trans ob_at))]; exact ob_at) hf' (by show cells + 8 + 0 ≤ 627379; omega) (by show slots + 100 + 0 ≤ 7213967; omega) dw_231 dw_233 dw_234 dw_237 dw_239 dw_244 dw_246 dw_249 dw_250 dw_251 dw_252 dw_254 dw_255 dw_256 dw_261 (by decide) ?_
  exact hv_widen (k := cells + 410) (n := slots + 4100) (by show cells + 8 + 0 ≤ cells + 410; omega) (by show slots + 100 + 0 ≤ slots + 4100; omega) (K _ _ (lw_back (A := A) (th := th) (I_qdig hI (xs (i + 1)) (xs (i + 2)) (xs (i + 3)) (xs (i + 4))) hg' hZ' hF' hxo))
set_option maxRecDepth 100000 in
set_option maxHeartbeats 1000000 in
theorem lw_c1 {p : Program} {l : Launch} {e : Env} {s : State} {m : MethodId} {args : Array Value} {below : List Frame} {meth : Method} {c : Code} {w : hv_W} {Q : State → Prop} {cells slots : Nat} {Y : hv_H} {xs : Nat → Int32} {b L i xo oo : Nat} {gm : md_g} {A : ab_A} (hc : lw_cx p l s m args meth c w b L xs gm oo) (hi : i + 4 < L) (hY : lw_I w xo gm oo A Y) (hcs : cells + 410 ≤ 627379) (hss : slots + 4100 ≤ 7213967) (K : ∀ (A1 : ab_A) (Y1 : hv_H), lw_I w xo gm oo A1 Y1 → hv_V p l e room_1 s m args below meth c w 7 Q (cells + 410) (slots + 4100) Y1 (lw_lv b xo gm oo i) 1701 []) : hv_V p l e room_1 s m args below meth c w 7 Q cells slots Y (lw_lv b xo gm oo i) 264 [] := by
  obtain ⟨C, hlt, hX, hbl, hbw, hgm, ho1, ho2, hL⟩ := hc
  obtain ⟨hI, gc, Z, th, f, hg, hZ, hF, rfl, rfl⟩ := hY
  have hL31 : L < 2 ^ 31 := by omega
  refine hv_aload_n C dw_264 rfl 1 rfl ?_
  refine lw_arg C hX hbl hbw 1 (by decide) (by omega) hL31 rfl rfl dw_265 dw_266 dw_268 dw_269 dw_270 ?_
  refine lw_arg C hX hbl hbw 2 (by decide) (by omega) hL31 rfl rfl dw_271 dw_272 dw_274 dw_275 dw_276 ?_
  refine hv_bit (p1 := 280) (p2 := 281) (p3 := 284) (p4 := 285) C rfl rfl rfl rfl dw_277 dw_280 dw_281 dw_284 ?_
  refine hv_aload_n C dw_285 rfl 3 rfl ?_
  refine hv_callSrH (As := [.ref (gc.1 0 0), .int (xs (i + 1)), .int (nI (if xs (i + 2) = 0 then 0 else 1)), .ref oo]) (rest := []) (n := 4) C (c_L_setGate l w gc A Z (md_Y w gm A th (ob w oo f)) hg hlt hI hZ hF oo f ((md_oo ho1 ho2).trans ob_at) (xs (i + 1)) (if xs (i + 2) = 0 then 0 else 1) bit_le) gL_law_L_setGate rfl (by decide +kernel) ⟨(Nat.le_of_ble_eq_true rfl), (Nat.le_of_ble_eq_true rfl)⟩ rfl rfl (Nat.le_of_ble_eq_true rfl) dw_286 ⟨by show cells + 6 ≤ 627379; omega, by show slots + 40 ≤ 7213967; omega⟩ (fun r Y1 hr => ?_)
  obtain ⟨rfl, h3, f', hf', hS⟩ := hr
  obtain ⟨gc', Z', hg', hZ', hF', hxo, rfl⟩ := lw_wr ho1 ho2 hS
  refine hv_istore (lv1 := [(0, .ref b), (1, .ref (gc.1 0 0)), (2, .ref gm.1), (3, .ref oo), (4, .int (nI i)), (5, .int (nI (q_setGate A (xs (i + 1)) (if xs (i + 2) = 0 then 0 else 1)).1))]) C dw_289 (by decide) [1, 2, 3, 4, 5, 0] rfl ?_
  refine hv_aload_n C dw_291 rfl 2 rfl ?_
  refine lw_arg C hX hbl hbw 1 (by decide) (by omega) hL31 rfl rfl dw_292 dw_293 dw_295 dw_296 dw_297 ?_
  refine lw_arg C hX hbl hbw 2 (by decide) (by omega) hL31 rfl rfl dw_298 dw_299 dw_301 dw_302 dw_303 ?_
  refine hv_bit (p1 := 307) (p2 := 308) (p3 := 311) (p4 := 312) C rfl rfl rfl rfl dw_304 dw_307 dw_308 dw_311 ?_
  refine hv_callVr (As := [.int (xs (i + 1)), .int (nI (if xs (i + 2) = 0 then 0 else 1))]) (rest := []) (n := 2) C (c_X5_setGate l w gm hgm A th (cl_Y w gc' (q_setGate A (xs (i + 1)) (if xs (i + 2) = 0 then 0 else 1)).2.2 Z' (ob w oo f')) (xs (i + 1)) (if xs (i + 2) = 0 then 0 else 1) bit_le (I4 hI) (I9 hI)) gL_law_X5_setGate rfl (by decide +kernel) ⟨(Nat.le_of_ble_eq_true rfl), (Nat.le_of_ble_eq_true rfl)⟩ (hv_rcO md_o rfl) rfl rfl (Nat.le_of_ble_eq_true rfl) dw_312 ⟨by show cells + 6 + 0 ≤ 627379; omega, by show slots + 40 + 0 ≤ 7213967; omega⟩ (fun r Y1 hr => ?_)
  obtain ⟨rfl, rfl⟩ := hr
  refine lw_tailB (q := q_setGate A (xs (i + 1)) (if xs (i + 2) = 0 then 0 else 1)) (f := f') C hgm h3 (by rw [md_oo ho1 ho2, cl_oat (cl_out (w := w) (A := A) (Z := Z') hF' ((md_oo ho1 ho2).trans ob_at))]; exact ob_at) hf' (by show cells + 6 + 0 ≤ 627379; omega) (by show slots + 40 + 0 ≤ 7213967; omega) dw_315 dw_317 dw_318 dw_321 dw_323 dw_328 dw_330 dw_333 dw_334 dw_335 dw_336 dw_338 dw_341 dw_342 dw_345 dw_346 dw_347 dw_352 (by decide) ?_
  exact hv_widen (k := cells + 410) (n := slots + 4100) (by show cells + 6 + 0 ≤ cells + 410; omega) (by show slots + 40 + 0 ≤ slots + 4100; omega) (K _ _ (lw_back (A := A) (th := th) (I_qsetGate hI (xs (i + 1)) bit_le) hg' hZ' hF' hxo))
set_option maxRecDepth 100000 in
set_option maxHeartbeats 1000000 in
theorem lw_c2 {p : Program} {l : Launch} {e : Env} {s : State} {m : MethodId} {args : Array Value} {below : List Frame} {meth : Method} {c : Code} {w : hv_W} {Q : State → Prop} {cells slots : Nat} {Y : hv_H} {xs : Nat → Int32} {b L i xo oo : Nat} {gm : md_g} {A : ab_A} (hc : lw_cx p l s m args meth c w b L xs gm oo) (hi : i + 4 < L) (hY : lw_I w xo gm oo A Y) (hcs : cells + 410 ≤ 627379) (hss : slots + 4100 ≤ 7213967) (K : ∀ (A1 : ab_A) (Y1 : hv_H), lw_I w xo gm oo A1 Y1 → hv_V p l e room_1 s m args below meth c w 7 Q (cells + 410) (slots + 4100) Y1 (lw_lv b xo gm oo i) 1701 []) : hv_V p l e room_1 s m args below meth c w 7 Q cells slots Y (lw_lv b xo gm oo i) 355 [] := by
  obtain ⟨C, hlt, hX, hbl, hbw, hgm, ho1, ho2, hL⟩ := hc
  obtain ⟨hI, gc, Z, th, f, hg, hZ, hF, rfl, rfl⟩ := hY
  have hL31 : L < 2 ^ 31 := by omega
  refine hv_aload_n C dw_355 rfl 1 rfl ?_
  refine lw_arg C hX hbl hbw 1 (by decide) (by omega) hL31 rfl rfl dw_356 dw_357 dw_359 dw_360 dw_361 ?_
  refine lw_arg C hX hbl hbw 2 (by decide) (by omega) hL31 rfl rfl dw_362 dw_363 dw_365 dw_366 dw_367 ?_
  refine hv_aload_n C dw_368 rfl 3 rfl ?_
  refine hv_callSrH (As := [.ref (gc.1 0 0), .int (xs (i + 1)), .int (xs (i + 2)), .ref oo]) (rest := []) (n := 4) C (c_L_setMark l w gc A Z (md_Y w gm A th (ob w oo f)) hg hlt hI hZ hF oo f ((md_oo ho1 ho2).trans ob_at) (xs (i + 1)) (xs (i + 2))) gL_law_L_setMark rfl (by decide +kernel) ⟨(Nat.le_of_ble_eq_true rfl), (Nat.le_of_ble_eq_true rfl)⟩ rfl rfl (Nat.le_of_ble_eq_true rfl) dw_369 ⟨by show cells + 6 ≤ 627379; omega, by show slots + 40 ≤ 7213967; omega⟩ (fun r Y1 hr => ?_)
  obtain ⟨rfl, h3, f', hf', hS⟩ := hr
  obtain ⟨gc', Z', hg', hZ', hF', hxo, rfl⟩ := lw_wr ho1 ho2 hS
  refine hv_istore (lv1 := [(0, .ref b), (1, .ref (gc.1 0 0)), (2, .ref gm.1), (3, .ref oo), (4, .int (nI i)), (5, .int (nI (q_setMark A (xs (i + 1)) (xs (i + 2))).1))]) C dw_372 (by decide) [1, 2, 3, 4, 5, 0] rfl ?_
  refine hv_aload_n C dw_374 rfl 2 rfl ?_
  refine lw_arg C hX hbl hbw 1 (by decide) (by omega) hL31 rfl rfl dw_375 dw_376 dw_378 dw_379 dw_380 ?_
  refine lw_arg C hX hbl hbw 2 (by decide) (by omega) hL31 rfl rfl dw_381 dw_382 dw_384 dw_385 dw_386 ?_
  refine hv_callVr (As := [.int (xs (i + 1)), .int (xs (i + 2))]) (rest := []) (n := 2) C (c_X5_setMark l w gm hgm A th (cl_Y w gc' (q_setMark A (xs (i + 1)) (xs (i + 2))).2.2 Z' (ob w oo f')) (xs (i + 1)) (xs (i + 2)) ) gL_law_X5_setMark rfl (by decide +kernel) ⟨(Nat.le_of_ble_eq_true rfl), (Nat.le_of_ble_eq_true rfl)⟩ (hv_rcO md_o rfl) rfl rfl (Nat.le_of_ble_eq_true rfl) dw_387 ⟨by show cells + 6 + 0 ≤ 627379; omega, by show slots + 40 + 0 ≤ 7213967; omega⟩ (fun r Y1 hr => ?_)
  obtain ⟨rfl, rfl⟩ := hr
  refine lw_tailI (q := q_setMark A (xs (i + 1)) (xs (i + 2))) (f := f') C hgm h3 (by rw [md_oo ho1 ho2, cl_oat (cl_out (w := w) (A := A) (Z := Z') hF' ((md_oo ho1 ho2).trans ob_at))]; exact ob_at) hf' (by show cells + 6 + 0 ≤ 627379; omega) (by show slots + 40 + 0 ≤ 7213967; omega) dw_390 dw_392 dw_393 dw_396 dw_398 dw_403 dw_405 dw_408 dw_409 dw_410 dw_411 dw_413 dw_414 dw_415 dw_420 (by decide) ?_
  exact hv_widen (k := cells + 410) (n := slots + 4100) (by show cells + 6 + 0 ≤ cells + 410; omega) (by show slots + 40 + 0 ≤ slots + 4100; omega) (K _ _ (lw_back (A := A) (th := th) (I_qsetMark hI (xs (i + 1)) (xs (i + 2))) hg' hZ' hF' hxo))
set_option maxRecDepth 100000 in
set_option maxHeartbeats 1000000 in
theorem lw_c3 {p : Program} {l : Launch} {e : Env} {s : State} {m : MethodId} {args : Array Value} {below : List Frame} {meth : Method} {c : Code} {w : hv_W} {Q : State → Prop} {cells slots : Nat} {Y : hv_H} {xs : Nat → Int32} {b L i xo oo : Nat} {gm : md_g} {A : ab_A} (hc : lw_cx p l s m args meth c w b L xs gm oo) (hi : i + 4 < L) (hY : lw_I w xo gm oo A Y) (hcs : cells + 410 ≤ 627379) (hss : slots + 4100 ≤ 7213967) (K : ∀ (A1 : ab_A) (Y1 : hv_H), lw_I w xo gm oo A1 Y1 → hv_V p l e room_1 s m args below meth c w 7 Q (cells + 410) (slots + 4100) Y1 (lw_lv b xo gm oo i) 1701 []) : hv_V p l e room_1 s m args below meth c w 7 Q cells slots Y (lw_lv b xo gm oo i) 423 [] := by
  obtain ⟨C, hlt, hX, hbl, hbw, hgm, ho1, ho2, hL⟩ := hc
  obtain ⟨hI, gc, Z, th, f, hg, hZ, hF, rfl, rfl⟩ := hY
  have hL31 : L < 2 ^ 31 := by omega
  refine hv_aload_n C dw_423 rfl 1 rfl ?_
  refine lw_arg C hX hbl hbw 1 (by decide) (by omega) hL31 rfl rfl dw_424 dw_425 dw_427 dw_428 dw_429 ?_
  refine lw_arg C hX hbl hbw 2 (by decide) (by omega) hL31 rfl rfl dw_430 dw_431 dw_433 dw_434 dw_435 ?_
  refine hv_aload_n C dw_436 rfl 3 rfl ?_
  refine hv_callSrH (As := [.ref (gc.1 0 0), .int (xs (i + 1)), .int (xs (i + 2)), .ref oo]) (rest := []) (n := 4) C (c_L_rain l w gc A Z (md_Y w gm A th (ob w oo f)) hg hlt hI hZ hF oo f ((md_oo ho1 ho2).trans ob_at) (xs (i + 1)) (xs (i + 2))) gL_law_L_rain rfl (by decide +kernel) ⟨(Nat.le_of_ble_eq_true rfl), (Nat.le_of_ble_eq_true rfl)⟩ rfl rfl (Nat.le_of_ble_eq_true rfl) dw_437 ⟨by show cells + 6 ≤ 627379; omega, by show slots + 40 ≤ 7213967; omega⟩ (fun r Y1 hr => ?_)
  obtain ⟨rfl, h3, f', hf', hS⟩ := hr
  obtain ⟨gc', Z', hg', hZ', hF', hxo, rfl⟩ := lw_wr ho1 ho2 hS
  refine hv_istore (lv1 := [(0, .ref b), (1, .ref (gc.1 0 0)), (2, .ref gm.1), (3, .ref oo), (4, .int (nI i)), (5, .int (nI (q_rain A (xs (i + 1)) (xs (i + 2))).1))]) C dw_440 (by decide) [1, 2, 3, 4, 5, 0] rfl ?_
  refine hv_aload_n C dw_442 rfl 2 rfl ?_
  refine lw_arg C hX hbl hbw 1 (by decide) (by omega) hL31 rfl rfl dw_443 dw_444 dw_446 dw_447 dw_448 ?_
  refine lw_arg C hX hbl hbw 2 (by decide) (by omega) hL31 rfl rfl dw_449 dw_450 dw_452 dw_453 dw_454 ?_
  refine hv_callVr (As := [.int (xs (i + 1)), .int (xs (i + 2))]) (rest := []) (n := 2) C (c_X5_rain l w gm hgm A th (cl_Y w gc' (q_rain A (xs (i + 1)) (xs (i + 2))).2.2 Z' (ob w oo f')) (xs (i + 1)) (xs (i + 2)) (I0 hI)) gL_law_X5_rain rfl (by decide +kernel) ⟨(Nat.le_of_ble_eq_true rfl), (Nat.le_of_ble_eq_true rfl)⟩ (hv_rcO md_o rfl) rfl rfl (Nat.le_of_ble_eq_true rfl) dw_455 ⟨by show cells + 6 + 0 ≤ 627379; omega, by show slots + 40 + 0 ≤ 7213967; omega⟩ (fun r Y1 hr => ?_)
  obtain ⟨rfl, rfl⟩ := hr
  refine lw_tailI (q := q_rain A (xs (i + 1)) (xs (i + 2))) (f := f') C hgm h3 (by rw [md_oo ho1 ho2, cl_oat (cl_out (w := w) (A := A) (Z := Z') hF' ((md_oo ho1 ho2).trans ob_at))]; exact ob_at) hf' (by show cells + 6 + 0 ≤ 627379; omega) (by show slots + 40 + 0 ≤ 7213967; omega) dw_458 dw_460 dw_461 dw_464 dw_466 dw_471 dw_473 dw_476 dw_477 dw_478 dw_479 dw_481 dw_482 dw_483 dw_488 (by decide) ?_
  exact hv_widen (k := cells + 410) (n := slots + 4100) (by show cells + 6 + 0 ≤ cells + 410; omega) (by show slots + 40 + 0 ≤ slots + 4100; omega) (K _ _ (lw_back (A := A) (th := th) (I_qrain hI (xs (i + 1)) (xs (i + 2))) hg' hZ' hF' hxo))
set_option maxRecDepth 100000 in
set_option maxHeartbeats 1000000 in
theorem lw_c4 {p : Program} {l : Launch} {e : Env} {s : State} {m : MethodId} {args : Array Value} {below : List Frame} {meth : Method} {c : Code} {w : hv_W} {Q : State → Prop} {cells slots : Nat} {Y : hv_H} {xs : Nat → Int32} {b L i xo oo : Nat} {gm : md_g} {A : ab_A} (hc : lw_cx p l s m args meth c w b L xs gm oo) (hi : i + 4 < L) (hY : lw_I w xo gm oo A Y) (hcs : cells + 410 ≤ 627379) (hss : slots + 4100 ≤ 7213967) (K : ∀ (A1 : ab_A) (Y1 : hv_H), lw_I w xo gm oo A1 Y1 → hv_V p l e room_1 s m args below meth c w 7 Q (cells + 410) (slots + 4100) Y1 (lw_lv b xo gm oo i) 1701 []) : hv_V p l e room_1 s m args below meth c w 7 Q cells slots Y (lw_lv b xo gm oo i) 491 [] := by
  obtain ⟨C, hlt, hX, hbl, hbw, hgm, ho1, ho2, hL⟩ := hc
  obtain ⟨hI, gc, Z, th, f, hg, hZ, hF, rfl, rfl⟩ := hY
  have hL31 : L < 2 ^ 31 := by omega
  refine hv_aload_n C dw_491 rfl 1 rfl ?_
  refine lw_arg C hX hbl hbw 1 (by decide) (by omega) hL31 rfl rfl dw_492 dw_493 dw_495 dw_496 dw_497 ?_
  refine hv_aload_n C dw_498 rfl 3 rfl ?_
  refine hv_callSrH (As := [.ref (gc.1 0 0), .int (xs (i + 1)), .ref oo]) (rest := []) (n := 3) C (c_L_dry l w gc A Z (md_Y w gm A th (ob w oo f)) hg hlt hI hZ hF oo f ((md_oo ho1 ho2).trans ob_at) (xs (i + 1))) gL_law_L_dry rfl (by decide +kernel) ⟨(Nat.le_of_ble_eq_true rfl), (Nat.le_of_ble_eq_true rfl)⟩ rfl rfl (Nat.le_of_ble_eq_true rfl) dw_499 ⟨by show cells + 6 ≤ 627379; omega, by show slots + 40 ≤ 7213967; omega⟩ (fun r Y1 hr => ?_)
  obtain ⟨rfl, h3, f', hf', hS⟩ := hr
  obtain ⟨gc', Z', hg', hZ', hF', hxo, rfl⟩ := lw_wr ho1 ho2 hS
  refine hv_istore (lv1 := [(0, .ref b), (1, .ref (gc.1 0 0)), (2, .ref gm.1), (3, .ref oo), (4, .int (nI i)), (5, .int (nI (q_dry A (xs (i + 1))).1))]) C dw_502 (by decide) [1, 2, 3, 4, 5, 0] rfl ?_
  refine hv_aload_n C dw_504 rfl 2 rfl ?_
  refine lw_arg C hX hbl hbw 1 (by decide) (by omega) hL31 rfl rfl dw_505 dw_506 dw_508 dw_509 dw_510 ?_
  refine hv_callVr (As := [.int (xs (i + 1))]) (rest := []) (n := 1) C (c_X5_dry l w gm hgm A th (cl_Y w gc' (q_dry A (xs (i + 1))).2.2 Z' (ob w oo f')) (xs (i + 1)) (I0 hI)) gL_law_X5_dry rfl (by decide +kernel) ⟨(Nat.le_of_ble_eq_true rfl), (Nat.le_of_ble_eq_true rfl)⟩ (hv_rcO md_o rfl) rfl rfl (Nat.le_of_ble_eq_true rfl) dw_511 ⟨by show cells + 6 + 0 ≤ 627379; omega, by show slots + 40 + 0 ≤ 7213967; omega⟩ (fun r Y1 hr => ?_)
  obtain ⟨rfl, rfl⟩ := hr
  refine lw_tailI (q := q_dry A (xs (i + 1))) (f := f') C hgm h3 (by rw [md_oo ho1 ho2, cl_oat (cl_out (w := w) (A := A) (Z := Z') hF' ((md_oo ho1 ho2).trans ob_at))]; exact ob_at) hf' (by show cells + 6 + 0 ≤ 627379; omega) (by show slots + 40 + 0 ≤ 7213967; omega) dw_514 dw_516 dw_517 dw_520 dw_522 dw_527 dw_529 dw_532 dw_533 dw_534 dw_535 dw_537 dw_538 dw_539 dw_544 (by decide) ?_
  exact hv_widen (k := cells + 410) (n := slots + 4100) (by show cells + 6 + 0 ≤ cells + 410; omega) (by show slots + 40 + 0 ≤ slots + 4100; omega) (K _ _ (lw_back (A := A) (th := th) (I_qdry hI (xs (i + 1))) hg' hZ' hF' hxo))
set_option maxRecDepth 100000 in
set_option maxHeartbeats 1000000 in
theorem lw_c5 {p : Program} {l : Launch} {e : Env} {s : State} {m : MethodId} {args : Array Value} {below : List Frame} {meth : Method} {c : Code} {w : hv_W} {Q : State → Prop} {cells slots : Nat} {Y : hv_H} {xs : Nat → Int32} {b L i xo oo : Nat} {gm : md_g} {A : ab_A} (hc : lw_cx p l s m args meth c w b L xs gm oo) (hi : i + 4 < L) (hY : lw_I w xo gm oo A Y) (hcs : cells + 410 ≤ 627379) (hss : slots + 4100 ≤ 7213967) (K : ∀ (A1 : ab_A) (Y1 : hv_H), lw_I w xo gm oo A1 Y1 → hv_V p l e room_1 s m args below meth c w 7 Q (cells + 410) (slots + 4100) Y1 (lw_lv b xo gm oo i) 1701 []) : hv_V p l e room_1 s m args below meth c w 7 Q cells slots Y (lw_lv b xo gm oo i) 547 [] := by
  obtain ⟨C, hlt, hX, hbl, hbw, hgm, ho1, ho2, hL⟩ := hc
  obtain ⟨hI, gc, Z, th, f, hg, hZ, hF, rfl, rfl⟩ := hY
  have hL31 : L < 2 ^ 31 := by omega
  refine hv_aload_n C dw_547 rfl 1 rfl ?_
  refine lw_arg C hX hbl hbw 1 (by decide) (by omega) hL31 rfl rfl dw_548 dw_549 dw_551 dw_552 dw_553 ?_
  refine hv_aload_n C dw_554 rfl 3 rfl ?_
  refine hv_callSrH (As := [.ref (gc.1 0 0), .int (xs (i + 1)), .ref oo]) (rest := []) (n := 3) C (c_L_settle l w gc A Z (md_Y w gm A th (ob w oo f)) hg hlt hI hZ hF oo f ((md_oo ho1 ho2).trans ob_at) (xs (i + 1))) gL_law_L_settle rfl (by decide +kernel) ⟨(Nat.le_of_ble_eq_true rfl), (Nat.le_of_ble_eq_true rfl)⟩ rfl rfl (Nat.le_of_ble_eq_true rfl) dw_555 ⟨by show cells + 6 ≤ 627379; omega, by show slots + 40 ≤ 7213967; omega⟩ (fun r Y1 hr => ?_)
  obtain ⟨rfl, h3, f', hf', hS⟩ := hr
  obtain ⟨gc', Z', hg', hZ', hF', hxo, rfl⟩ := lw_wr ho1 ho2 hS
  refine hv_istore (lv1 := [(0, .ref b), (1, .ref (gc.1 0 0)), (2, .ref gm.1), (3, .ref oo), (4, .int (nI i)), (5, .int (nI (q_settle A (xs (i + 1))).1))]) C dw_558 (by decide) [1, 2, 3, 4, 5, 0] rfl ?_
  refine hv_aload_n C dw_560 rfl 2 rfl ?_
  refine lw_arg C hX hbl hbw 1 (by decide) (by omega) hL31 rfl rfl dw_561 dw_562 dw_564 dw_565 dw_566 ?_
  refine hv_callVr (As := [.int (xs (i + 1))]) (rest := []) (n := 1) C (c_X5_settle l w gm hgm A th (cl_Y w gc' (q_settle A (xs (i + 1))).2.2 Z' (ob w oo f')) (xs (i + 1)) (I4 hI) (IWt hI) (I0 hI) (I11 hI) (I12 hI)) gL_law_X5_settle rfl (by decide +kernel) ⟨(Nat.le_of_ble_eq_true rfl), (Nat.le_of_ble_eq_true rfl)⟩ (hv_rcO md_o rfl) rfl rfl (Nat.le_of_ble_eq_true rfl) dw_567 ⟨by show cells + 6 + 0 ≤ 627379; omega, by show slots + 40 + 0 ≤ 7213967; omega⟩ (fun r Y1 hr => ?_)
  obtain ⟨rfl, rfl⟩ := hr
  refine lw_tailI (q := q_settle A (xs (i + 1))) (f := f') C hgm h3 (by rw [md_oo ho1 ho2, cl_oat (cl_out (w := w) (A := A) (Z := Z') hF' ((md_oo ho1 ho2).trans ob_at))]; exact ob_at) hf' (by show cells + 6 + 0 ≤ 627379; omega) (by show slots + 40 + 0 ≤ 7213967; omega) dw_570 dw_572 dw_573 dw_576 dw_578 dw_583 dw_585 dw_588 dw_589 dw_590 dw_591 dw_593 dw_594 dw_595 dw_600 (by decide) ?_
  exact hv_widen (k := cells + 410) (n := slots + 4100) (by show cells + 6 + 0 ≤ cells + 410; omega) (by show slots + 40 + 0 ≤ slots + 4100; omega) (K _ _ (lw_back (A := A) (th := th) (I_qsettle hI (xs (i + 1))) hg' hZ' hF' hxo))
set_option maxRecDepth 100000 in
set_option maxHeartbeats 1000000 in
theorem lw_c6 {p : Program} {l : Launch} {e : Env} {s : State} {m : MethodId} {args : Array Value} {below : List Frame} {meth : Method} {c : Code} {w : hv_W} {Q : State → Prop} {cells slots : Nat} {Y : hv_H} {xs : Nat → Int32} {b L i xo oo : Nat} {gm : md_g} {A : ab_A} (hc : lw_cx p l s m args meth c w b L xs gm oo) (hi : i + 4 < L) (hY : lw_I w xo gm oo A Y) (hcs : cells + 410 ≤ 627379) (hss : slots + 4100 ≤ 7213967) (K : ∀ (A1 : ab_A) (Y1 : hv_H), lw_I w xo gm oo A1 Y1 → hv_V p l e room_1 s m args below meth c w 7 Q (cells + 410) (slots + 4100) Y1 (lw_lv b xo gm oo i) 1701 []) : hv_V p l e room_1 s m args below meth c w 7 Q cells slots Y (lw_lv b xo gm oo i) 603 [] := by
  obtain ⟨C, hlt, hX, hbl, hbw, hgm, ho1, ho2, hL⟩ := hc
  obtain ⟨hI, gc, Z, th, f, hg, hZ, hF, rfl, rfl⟩ := hY
  have hL31 : L < 2 ^ 31 := by omega
  refine hv_aload_n C dw_603 rfl 1 rfl ?_
  refine lw_arg C hX hbl hbw 1 (by decide) (by omega) hL31 rfl rfl dw_604 dw_605 dw_607 dw_608 dw_609 ?_
  refine lw_arg C hX hbl hbw 2 (by decide) (by omega) hL31 rfl rfl dw_610 dw_611 dw_613 dw_614 dw_615 ?_
  refine lw_arg C hX hbl hbw 3 (by decide) (by omega) hL31 rfl rfl dw_616 dw_617 dw_619 dw_620 dw_621 ?_
  refine hv_aload_n C dw_622 rfl 3 rfl ?_
  refine hv_callSrH (As := [.ref (gc.1 0 0), .int (xs (i + 1)), .int (xs (i + 2)), .int (xs (i + 3)), .ref oo]) (rest := []) (n := 5) C (c_L_setOut l w gc A Z (md_Y w gm A th (ob w oo f)) hg hlt hI hZ hF oo f ((md_oo ho1 ho2).trans ob_at) (xs (i + 1)) (xs (i + 2)) (xs (i + 3))) gL_law_L_setOut rfl (by decide +kernel) ⟨(Nat.le_of_ble_eq_true rfl), (Nat.le_of_ble_eq_true rfl)⟩ rfl rfl (Nat.le_of_ble_eq_true rfl) dw_623 ⟨by show cells + 16 ≤ 627379; omega, by show slots + 220 ≤ 7213967; omega⟩ (fun r Y1 hr => ?_)
  obtain ⟨rfl, h3, f', hf', hS⟩ := hr
  obtain ⟨gc', Z', hg', hZ', hF', hxo, rfl⟩ := lw_wr ho1 ho2 hS
  refine hv_istore (lv1 := [(0, .ref b), (1, .ref (gc.1 0 0)), (2, .ref gm.1), (3, .ref oo), (4, .int (nI i)), (5, .int (nI (q_setOut A (xs (i + 1)) (xs (i + 2)) (xs (i + 3))).1))]) C dw_626 (by decide) [1, 2, 3, 4, 5, 0] rfl ?_
  refine hv_aload_n C dw_628 rfl 2 rfl ?_
  refine lw_arg C hX hbl hbw 1 (by decide) (by omega) hL31 rfl rfl dw_629 dw_630 dw_632 dw_633 dw_634 ?_
  refine lw_arg C hX hbl hbw 2 (by decide) (by omega) hL31 rfl rfl dw_635 dw_636 dw_638 dw_639 dw_640 ?_
  refine lw_arg C hX hbl hbw 3 (by decide) (by omega) hL31 rfl rfl dw_641 dw_642 dw_644 dw_645 dw_646 ?_
  refine hv_callVr (As := [.int (xs (i + 1)), .int (xs (i + 2)), .int (xs (i + 3))]) (rest := []) (n := 3) C (c_X5_setOut l w gm hgm A th (cl_Y w gc' (q_setOut A (xs (i + 1)) (xs (i + 2)) (xs (i + 3))).2.2 Z' (ob w oo f')) (xs (i + 1)) (xs (i + 2)) (xs (i + 3)) (I15 hI) (I2 hI)) gL_law_X5_setOut rfl (by decide +kernel) ⟨(Nat.le_of_ble_eq_true rfl), (Nat.le_of_ble_eq_true rfl)⟩ (hv_rcO md_o rfl) rfl rfl (Nat.le_of_ble_eq_true rfl) dw_647 ⟨by show cells + 16 + 0 ≤ 627379; omega, by show slots + 220 + 0 ≤ 7213967; omega⟩ (fun r Y1 hr => ?_)
  obtain ⟨rfl, rfl⟩ := hr
  refine lw_tailI (q := q_setOut A (xs (i + 1)) (xs (i + 2)) (xs (i + 3))) (f := f') C hgm h3 (by rw [md_oo ho1 ho2, cl_oat (cl_out (w := w) (A := A) (Z := Z') hF' ((md_oo ho1 ho2).trans ob_at))]; exact ob_at) hf' (by show cells + 16 + 0 ≤ 627379; omega) (by show slots + 220 + 0 ≤ 7213967; omega) dw_650 dw_652 dw_653 dw_656 dw_658 dw_663 dw_665 dw_668 dw_669 dw_670 dw_671 dw_673 dw_674 dw_675 dw_680 (by decide) ?_
  exact hv_widen (k := cells + 410) (n := slots + 4100) (by show cells + 16 + 0 ≤ cells + 410; omega) (by show slots + 220 + 0 ≤ slots + 4100; omega) (K _ _ (lw_back (A := A) (th := th) (I_qsetOut hI (xs (i + 1)) (xs (i + 2)) (xs (i + 3))) hg' hZ' hF' hxo))
set_option maxRecDepth 100000 in
set_option maxHeartbeats 1000000 in
theorem lw_c7 {p : Program} {l : Launch} {e : Env} {s : State} {m : MethodId} {args : Array Value} {below : List Frame} {meth : Method} {c : Code} {w : hv_W} {Q : State → Prop} {cells slots : Nat} {Y : hv_H} {xs : Nat → Int32} {b L i xo oo : Nat} {gm : md_g} {A : ab_A} (hc : lw_cx p l s m args meth c w b L xs gm oo) (hi : i + 4 < L) (hY : lw_I w xo gm oo A Y) (hcs : cells + 410 ≤ 627379) (hss : slots + 4100 ≤ 7213967) (K : ∀ (A1 : ab_A) (Y1 : hv_H), lw_I w xo gm oo A1 Y1 → hv_V p l e room_1 s m args below meth c w 7 Q (cells + 410) (slots + 4100) Y1 (lw_lv b xo gm oo i) 1701 []) : hv_V p l e room_1 s m args below meth c w 7 Q cells slots Y (lw_lv b xo gm oo i) 683 [] := by
  obtain ⟨C, hlt, hX, hbl, hbw, hgm, ho1, ho2, hL⟩ := hc
  obtain ⟨hI, gc, Z, th, f, hg, hZ, hF, rfl, rfl⟩ := hY
  have hL31 : L < 2 ^ 31 := by omega
  refine hv_aload_n C dw_683 rfl 1 rfl ?_
  refine lw_arg C hX hbl hbw 1 (by decide) (by omega) hL31 rfl rfl dw_684 dw_685 dw_687 dw_688 dw_689 ?_
  refine hv_aload_n C dw_690 rfl 3 rfl ?_
  refine hv_callSrH (As := [.ref (gc.1 0 0), .int (xs (i + 1)), .ref oo]) (rest := []) (n := 3) C (c_L_move l w gc A Z (md_Y w gm A th (ob w oo f)) hg hlt hI hZ hF oo f ((md_oo ho1 ho2).trans ob_at) (xs (i + 1))) gL_law_L_move rfl (by decide +kernel) ⟨(Nat.le_of_ble_eq_true rfl), (Nat.le_of_ble_eq_true rfl)⟩ rfl rfl (Nat.le_of_ble_eq_true rfl) dw_691 ⟨by show cells + 401 ≤ 627379; omega, by show slots + 4006 ≤ 7213967; omega⟩ (fun r Y1 hr => ?_)
  obtain ⟨rfl, h3, f', hf', hS⟩ := hr
  obtain ⟨gc', Z', hg', hZ', hF', hxo, rfl⟩ := lw_wr ho1 ho2 hS
  refine hv_istore (lv1 := [(0, .ref b), (1, .ref (gc.1 0 0)), (2, .ref gm.1), (3, .ref oo), (4, .int (nI i)), (5, .int (nI (q_move A (xs (i + 1))).1))]) C dw_694 (by decide) [1, 2, 3, 4, 5, 0] rfl ?_
  refine hv_aload_n C dw_696 rfl 2 rfl ?_
  refine lw_arg C hX hbl hbw 1 (by decide) (by omega) hL31 rfl rfl dw_697 dw_698 dw_700 dw_701 dw_702 ?_
  refine hv_callVr (As := [.int (xs (i + 1))]) (rest := []) (n := 1) C (c_X5_move l w gm hgm A th (cl_Y w gc' (q_move A (xs (i + 1))).2.2 Z' (ob w oo f')) (xs (i + 1)) hI) gL_law_X5_move rfl (by decide +kernel) ⟨(Nat.le_of_ble_eq_true rfl), (Nat.le_of_ble_eq_true rfl)⟩ (hv_rcO md_o rfl) rfl rfl (Nat.le_of_ble_eq_true rfl) dw_703 ⟨by show cells + 401 + 0 ≤ 627379; omega, by show slots + 4006 + 0 ≤ 7213967; omega⟩ (fun r Y1 hr => ?_)
  obtain ⟨rfl, rfl⟩ := hr
  refine lw_tailI (q := q_move A (xs (i + 1))) (f := f') C hgm h3 (by rw [md_oo ho1 ho2, cl_oat (cl_out (w := w) (A := A) (Z := Z') hF' ((md_oo ho1 ho2).trans ob_at))]; exact ob_at) hf' (by show cells + 401 + 0 ≤ 627379; omega) (by show slots + 4006 + 0 ≤ 7213967; omega) dw_706 dw_708 dw_709 dw_712 dw_714 dw_719 dw_721 dw_724 dw_725 dw_726 dw_727 dw_729 dw_730 dw_731 dw_736 (by decide) ?_
  exact hv_widen (k := cells + 410) (n := slots + 4100) (by show cells + 401 + 0 ≤ cells + 410; omega) (by show slots + 4006 + 0 ≤ slots + 4100; omega) (K _ _ (lw_back (A := A) (th := th) (I_qmove hI (xs (i + 1))) hg' hZ' hF' hxo))
set_option maxRecDepth 100000 in
set_option maxHeartbeats 1000000 in
theorem lw_c8 {p : Program} {l : Launch} {e : Env} {s : State} {m : MethodId} {args : Array Value} {below : List Frame} {meth : Method} {c : Code} {w : hv_W} {Q : State → Prop} {cells slots : Nat} {Y : hv_H} {xs : Nat → Int32} {b L i xo oo : Nat} {gm : md_g} {A : ab_A} (hc : lw_cx p l s m args meth c w b L xs gm oo) (hi : i + 4 < L) (hY : lw_I w xo gm oo A Y) (hcs : cells + 410 ≤ 627379) (hss : slots + 4100 ≤ 7213967) (K : ∀ (A1 : ab_A) (Y1 : hv_H), lw_I w xo gm oo A1 Y1 → hv_V p l e room_1 s m args below meth c w 7 Q (cells + 410) (slots + 4100) Y1 (lw_lv b xo gm oo i) 1701 []) : hv_V p l e room_1 s m args below meth c w 7 Q cells slots Y (lw_lv b xo gm oo i) 739 [] := by
  obtain ⟨C, hlt, hX, hbl, hbw, hgm, ho1, ho2, hL⟩ := hc
  obtain ⟨hI, gc, Z, th, f, hg, hZ, hF, rfl, rfl⟩ := hY
  refine hv_aload_n C dw_739 rfl 1 rfl ?_
  refine hv_callVr (As := []) (rest := []) (n := 0) C (c_X4_canals l w gc A Z (md_Y w gm A th (ob w oo f)) hg) gL_law_X4_canals rfl (by decide +kernel) ⟨(Nat.le_of_ble_eq_true rfl), (Nat.le_of_ble_eq_true rfl)⟩ (cl_rc hg (Or.inl ⟨by decide, rfl⟩) rfl rfl) rfl rfl (Nat.le_of_ble_eq_true rfl) dw_740 ⟨by show cells + 0 ≤ 627379; omega, by show slots + 0 ≤ 7213967; omega⟩ (fun r Y1 hr => ?_)
  obtain ⟨rfl, rfl⟩ := hr
  refine hv_eqY (md_sw hF) ?_
  refine hv_aload_n C dw_743 rfl 2 rfl ?_
  refine hv_callVr (As := []) (rest := [.int (nI (A 4 0))]) (n := 0) C (c_X5_canals l w gm hgm A th (cl_Y w gc A Z (ob w oo f)) ) gL_law_X5_canals rfl (by decide +kernel) ⟨(Nat.le_of_ble_eq_true rfl), (Nat.le_of_ble_eq_true rfl)⟩ (hv_rcO md_o rfl) rfl rfl (Nat.le_of_ble_eq_true rfl) dw_744 ⟨by show cells + 0 + 0 ≤ 627379; omega, by show slots + 0 + 0 ≤ 7213967; omega⟩ (fun r Y1 hr => ?_)
  obtain ⟨rfl, rfl⟩ := hr
  refine hv_icmp_eq (tgt := 1701) C dw_747 (by decide) (fun _ => ?_) (fun h => absurd rfl h)
  exact hv_widen (k := cells + 410) (n := slots + 4100) (by show cells + 0 + 0 ≤ cells + 410; omega) (by show slots + 0 + 0 ≤ slots + 4100; omega) (K A _ (lw_back (A := A) (th := th) hI hg hZ hF rfl))
set_option maxRecDepth 100000 in
set_option maxHeartbeats 1000000 in
theorem lw_c9 {p : Program} {l : Launch} {e : Env} {s : State} {m : MethodId} {args : Array Value} {below : List Frame} {meth : Method} {c : Code} {w : hv_W} {Q : State → Prop} {cells slots : Nat} {Y : hv_H} {xs : Nat → Int32} {b L i xo oo : Nat} {gm : md_g} {A : ab_A} (hc : lw_cx p l s m args meth c w b L xs gm oo) (hi : i + 4 < L) (hY : lw_I w xo gm oo A Y) (hcs : cells + 410 ≤ 627379) (hss : slots + 4100 ≤ 7213967) (K : ∀ (A1 : ab_A) (Y1 : hv_H), lw_I w xo gm oo A1 Y1 → hv_V p l e room_1 s m args below meth c w 7 Q (cells + 410) (slots + 4100) Y1 (lw_lv b xo gm oo i) 1701 []) : hv_V p l e room_1 s m args below meth c w 7 Q cells slots Y (lw_lv b xo gm oo i) 752 [] := by
  obtain ⟨C, hlt, hX, hbl, hbw, hgm, ho1, ho2, hL⟩ := hc
  obtain ⟨hI, gc, Z, th, f, hg, hZ, hF, rfl, rfl⟩ := hY
  have hL31 : L < 2 ^ 31 := by omega
  refine hv_aload_n C dw_752 rfl 1 rfl ?_
  refine lw_arg C hX hbl hbw 1 (by decide) (by omega) hL31 rfl rfl dw_753 dw_754 dw_756 dw_757 dw_758 ?_
  refine hv_aload_n C dw_759 rfl 3 rfl ?_
  refine hv_callSrH (As := [.ref (gc.1 0 0), .int (xs (i + 1)), .ref oo]) (rest := []) (n := 3) C (c_L_water l w gc A Z (md_Y w gm A th (ob w oo f)) hg hlt hI hZ hF oo f ((md_oo ho1 ho2).trans ob_at) (xs (i + 1))) gL_law_L_water rfl (by decide +kernel) ⟨(Nat.le_of_ble_eq_true rfl), (Nat.le_of_ble_eq_true rfl)⟩ rfl rfl (Nat.le_of_ble_eq_true rfl) dw_760 ⟨by show cells + 6 ≤ 627379; omega, by show slots + 40 ≤ 7213967; omega⟩ (fun r Y1 hr => ?_)
  obtain ⟨rfl, h3, f', hf', hS⟩ := hr
  obtain ⟨gc', Z', hg', hZ', hF', hxo, rfl⟩ := lw_wr ho1 ho2 hS
  refine hv_istore (lv1 := [(0, .ref b), (1, .ref (gc.1 0 0)), (2, .ref gm.1), (3, .ref oo), (4, .int (nI i)), (5, .int (nI (q_water A (xs (i + 1))).1))]) C dw_763 (by decide) [1, 2, 3, 4, 5, 0] rfl ?_
  refine hv_aload_n C dw_765 rfl 2 rfl ?_
  refine lw_arg C hX hbl hbw 1 (by decide) (by omega) hL31 rfl rfl dw_766 dw_767 dw_769 dw_770 dw_771 ?_
  refine hv_callVr (As := [.int (xs (i + 1))]) (rest := []) (n := 1) C (c_X5_water l w gm hgm A th (cl_Y w gc' (q_water A (xs (i + 1))).2.2 Z' (ob w oo f')) (xs (i + 1)) ) gL_law_X5_water rfl (by decide +kernel) ⟨(Nat.le_of_ble_eq_true rfl), (Nat.le_of_ble_eq_true rfl)⟩ (hv_rcO md_o rfl) rfl rfl (Nat.le_of_ble_eq_true rfl) dw_772 ⟨by show cells + 6 + 0 ≤ 627379; omega, by show slots + 40 + 0 ≤ 7213967; omega⟩ (fun r Y1 hr => ?_)
  obtain ⟨rfl, rfl⟩ := hr
  refine lw_tailI (q := q_water A (xs (i + 1))) (f := f') C hgm h3 (by rw [md_oo ho1 ho2, cl_oat (cl_out (w := w) (A := A) (Z := Z') hF' ((md_oo ho1 ho2).trans ob_at))]; exact ob_at) hf' (by show cells + 6 + 0 ≤ 627379; omega) (by show slots + 40 + 0 ≤ 7213967; omega) dw_775 dw_777 dw_778 dw_781 dw_783 dw_788 dw_790 dw_793 dw_794 dw_795 dw_796 dw_798 dw_799 dw_800 dw_805 (by decide) ?_
  exact hv_widen (k := cells + 410) (n := slots + 4100) (by show cells + 6 + 0 ≤ cells + 410; omega) (by show slots + 40 + 0 ≤ slots + 4100; omega) (K _ _ (lw_back (A := A) (th := th) (I_qwater hI (xs (i + 1))) hg' hZ' hF' hxo))
set_option maxRecDepth 100000 in
set_option maxHeartbeats 1000000 in
theorem lw_c10 {p : Program} {l : Launch} {e : Env} {s : State} {m : MethodId} {args : Array Value} {below : List Frame} {meth : Method} {c : Code} {w : hv_W} {Q : State → Prop} {cells slots : Nat} {Y : hv_H} {xs : Nat → Int32} {b L i xo oo : Nat} {gm : md_g} {A : ab_A} (hc : lw_cx p l s m args meth c w b L xs gm oo) (hi : i + 4 < L) (hY : lw_I w xo gm oo A Y) (hcs : cells + 410 ≤ 627379) (hss : slots + 4100 ≤ 7213967) (K : ∀ (A1 : ab_A) (Y1 : hv_H), lw_I w xo gm oo A1 Y1 → hv_V p l e room_1 s m args below meth c w 7 Q (cells + 410) (slots + 4100) Y1 (lw_lv b xo gm oo i) 1701 []) : hv_V p l e room_1 s m args below meth c w 7 Q cells slots Y (lw_lv b xo gm oo i) 808 [] := by
  obtain ⟨C, hlt, hX, hbl, hbw, hgm, ho1, ho2, hL⟩ := hc
  obtain ⟨hI, gc, Z, th, f, hg, hZ, hF, rfl, rfl⟩ := hY
  refine hv_aload_n C dw_808 rfl 1 rfl ?_
  refine hv_callVr (As := []) (rest := []) (n := 0) C (c_X4_allWater l w gc A Z (md_Y w gm A th (ob w oo f)) hg) gL_law_X4_allWater rfl (by decide +kernel) ⟨(Nat.le_of_ble_eq_true rfl), (Nat.le_of_ble_eq_true rfl)⟩ (cl_rc hg (Or.inl ⟨by decide, rfl⟩) rfl rfl) rfl rfl (Nat.le_of_ble_eq_true rfl) dw_809 ⟨by show cells + 0 ≤ 627379; omega, by show slots + 0 ≤ 7213967; omega⟩ (fun r Y1 hr => ?_)
  obtain ⟨rfl, rfl⟩ := hr
  refine hv_eqY (md_sw hF) ?_
  refine hv_aload_n C dw_812 rfl 2 rfl ?_
  refine hv_callVr (As := []) (rest := [.int (nI (f_all A 8))]) (n := 0) C (c_X5_allWater l w gm hgm A th (cl_Y w gc A Z (ob w oo f)) ) gL_law_X5_allWater rfl (by decide +kernel) ⟨(Nat.le_of_ble_eq_true rfl), (Nat.le_of_ble_eq_true rfl)⟩ (hv_rcO md_o rfl) rfl rfl (Nat.le_of_ble_eq_true rfl) dw_813 ⟨by show cells + 0 + 0 ≤ 627379; omega, by show slots + 0 + 0 ≤ 7213967; omega⟩ (fun r Y1 hr => ?_)
  obtain ⟨rfl, rfl⟩ := hr
  refine hv_icmp_eq (tgt := 1701) C dw_816 (by decide) (fun _ => ?_) (fun h => absurd rfl h)
  exact hv_widen (k := cells + 410) (n := slots + 4100) (by show cells + 0 + 0 ≤ cells + 410; omega) (by show slots + 0 + 0 ≤ slots + 4100; omega) (K A _ (lw_back (A := A) (th := th) hI hg hZ hF rfl))
set_option maxRecDepth 100000 in
set_option maxHeartbeats 1000000 in
theorem lw_c11 {p : Program} {l : Launch} {e : Env} {s : State} {m : MethodId} {args : Array Value} {below : List Frame} {meth : Method} {c : Code} {w : hv_W} {Q : State → Prop} {cells slots : Nat} {Y : hv_H} {xs : Nat → Int32} {b L i xo oo : Nat} {gm : md_g} {A : ab_A} (hc : lw_cx p l s m args meth c w b L xs gm oo) (hi : i + 4 < L) (hY : lw_I w xo gm oo A Y) (hcs : cells + 410 ≤ 627379) (hss : slots + 4100 ≤ 7213967) (K : ∀ (A1 : ab_A) (Y1 : hv_H), lw_I w xo gm oo A1 Y1 → hv_V p l e room_1 s m args below meth c w 7 Q (cells + 410) (slots + 4100) Y1 (lw_lv b xo gm oo i) 1701 []) : hv_V p l e room_1 s m args below meth c w 7 Q cells slots Y (lw_lv b xo gm oo i) 821 [] := by
  obtain ⟨C, hlt, hX, hbl, hbw, hgm, ho1, ho2, hL⟩ := hc
  obtain ⟨hI, gc, Z, th, f, hg, hZ, hF, rfl, rfl⟩ := hY
  refine hv_aload_n C dw_821 rfl 1 rfl ?_
  refine hv_callVr (As := []) (rest := []) (n := 0) C (c_X4_spilt l w gc A Z (md_Y w gm A th (ob w oo f)) hg) gL_law_X4_spilt rfl (by decide +kernel) ⟨(Nat.le_of_ble_eq_true rfl), (Nat.le_of_ble_eq_true rfl)⟩ (cl_rc hg (Or.inl ⟨by decide, rfl⟩) rfl rfl) rfl rfl (Nat.le_of_ble_eq_true rfl) dw_822 ⟨by show cells + 0 ≤ 627379; omega, by show slots + 0 ≤ 7213967; omega⟩ (fun r Y1 hr => ?_)
  obtain ⟨rfl, rfl⟩ := hr
  refine hv_eqY (md_sw hF) ?_
  refine hv_aload_n C dw_825 rfl 2 rfl ?_
  refine hv_callVr (As := []) (rest := [.int (nI (A 10 0))]) (n := 0) C (c_X5_spilt l w gm hgm A th (cl_Y w gc A Z (ob w oo f)) ) gL_law_X5_spilt rfl (by decide +kernel) ⟨(Nat.le_of_ble_eq_true rfl), (Nat.le_of_ble_eq_true rfl)⟩ (hv_rcO md_o rfl) rfl rfl (Nat.le_of_ble_eq_true rfl) dw_826 ⟨by show cells + 0 + 0 ≤ 627379; omega, by show slots + 0 + 0 ≤ 7213967; omega⟩ (fun r Y1 hr => ?_)
  obtain ⟨rfl, rfl⟩ := hr
  refine hv_icmp_eq (tgt := 1701) C dw_829 (by decide) (fun _ => ?_) (fun h => absurd rfl h)
  exact hv_widen (k := cells + 410) (n := slots + 4100) (by show cells + 0 + 0 ≤ cells + 410; omega) (by show slots + 0 + 0 ≤ slots + 4100; omega) (K A _ (lw_back (A := A) (th := th) hI hg hZ hF rfl))
set_option maxRecDepth 100000 in
set_option maxHeartbeats 1000000 in
theorem lw_c12 {p : Program} {l : Launch} {e : Env} {s : State} {m : MethodId} {args : Array Value} {below : List Frame} {meth : Method} {c : Code} {w : hv_W} {Q : State → Prop} {cells slots : Nat} {Y : hv_H} {xs : Nat → Int32} {b L i xo oo : Nat} {gm : md_g} {A : ab_A} (hc : lw_cx p l s m args meth c w b L xs gm oo) (hi : i + 4 < L) (hY : lw_I w xo gm oo A Y) (hcs : cells + 410 ≤ 627379) (hss : slots + 4100 ≤ 7213967) (K : ∀ (A1 : ab_A) (Y1 : hv_H), lw_I w xo gm oo A1 Y1 → hv_V p l e room_1 s m args below meth c w 7 Q (cells + 410) (slots + 4100) Y1 (lw_lv b xo gm oo i) 1701 []) : hv_V p l e room_1 s m args below meth c w 7 Q cells slots Y (lw_lv b xo gm oo i) 834 [] := by
  obtain ⟨C, hlt, hX, hbl, hbw, hgm, ho1, ho2, hL⟩ := hc
  obtain ⟨hI, gc, Z, th, f, hg, hZ, hF, rfl, rfl⟩ := hY
  have hL31 : L < 2 ^ 31 := by omega
  refine hv_aload_n C dw_834 rfl 1 rfl ?_
  refine lw_arg C hX hbl hbw 1 (by decide) (by omega) hL31 rfl rfl dw_835 dw_836 dw_838 dw_839 dw_840 ?_
  refine hv_aload_n C dw_841 rfl 3 rfl ?_
  refine hv_callSrH (As := [.ref (gc.1 0 0), .int (xs (i + 1)), .ref oo]) (rest := []) (n := 3) C (c_L_cost l w gc A Z (md_Y w gm A th (ob w oo f)) hg hlt hI hZ hF oo f ((md_oo ho1 ho2).trans ob_at) (xs (i + 1))) gL_law_L_cost rfl (by decide +kernel) ⟨(Nat.le_of_ble_eq_true rfl), (Nat.le_of_ble_eq_true rfl)⟩ rfl rfl (Nat.le_of_ble_eq_true rfl) dw_842 ⟨by show cells + 6 ≤ 627379; omega, by show slots + 40 ≤ 7213967; omega⟩ (fun r Y1 hr => ?_)
  obtain ⟨rfl, h3, f', hf', hS⟩ := hr
  obtain ⟨gc', Z', hg', hZ', hF', hxo, rfl⟩ := lw_wr ho1 ho2 hS
  refine hv_istore (lv1 := [(0, .ref b), (1, .ref (gc.1 0 0)), (2, .ref gm.1), (3, .ref oo), (4, .int (nI i)), (5, .int (nI (q_cost A (xs (i + 1))).1))]) C dw_845 (by decide) [1, 2, 3, 4, 5, 0] rfl ?_
  refine hv_aload_n C dw_847 rfl 2 rfl ?_
  refine lw_arg C hX hbl hbw 1 (by decide) (by omega) hL31 rfl rfl dw_848 dw_849 dw_851 dw_852 dw_853 ?_
  refine hv_callVr (As := [.int (xs (i + 1))]) (rest := []) (n := 1) C (c_X5_cost l w gm hgm A th (cl_Y w gc' (q_cost A (xs (i + 1))).2.2 Z' (ob w oo f')) (xs (i + 1)) (I4 hI) (IWc hI) (I0 hI)) gL_law_X5_cost rfl (by decide +kernel) ⟨(Nat.le_of_ble_eq_true rfl), (Nat.le_of_ble_eq_true rfl)⟩ (hv_rcO md_o rfl) rfl rfl (Nat.le_of_ble_eq_true rfl) dw_854 ⟨by show cells + 6 + 0 ≤ 627379; omega, by show slots + 40 + 0 ≤ 7213967; omega⟩ (fun r Y1 hr => ?_)
  obtain ⟨rfl, rfl⟩ := hr
  refine lw_tailI (q := q_cost A (xs (i + 1))) (f := f') C hgm h3 (by rw [md_oo ho1 ho2, cl_oat (cl_out (w := w) (A := A) (Z := Z') hF' ((md_oo ho1 ho2).trans ob_at))]; exact ob_at) hf' (by show cells + 6 + 0 ≤ 627379; omega) (by show slots + 40 + 0 ≤ 7213967; omega) dw_857 dw_859 dw_860 dw_863 dw_865 dw_870 dw_872 dw_875 dw_876 dw_877 dw_878 dw_880 dw_881 dw_882 dw_887 (by decide) ?_
  exact hv_widen (k := cells + 410) (n := slots + 4100) (by show cells + 6 + 0 ≤ cells + 410; omega) (by show slots + 40 + 0 ≤ slots + 4100; omega) (K _ _ (lw_back (A := A) (th := th) (I_qcost hI (xs (i + 1))) hg' hZ' hF' hxo))
set_option maxRecDepth 100000 in
set_option maxHeartbeats 1000000 in
theorem lw_c13 {p : Program} {l : Launch} {e : Env} {s : State} {m : MethodId} {args : Array Value} {below : List Frame} {meth : Method} {c : Code} {w : hv_W} {Q : State → Prop} {cells slots : Nat} {Y : hv_H} {xs : Nat → Int32} {b L i xo oo : Nat} {gm : md_g} {A : ab_A} (hc : lw_cx p l s m args meth c w b L xs gm oo) (hi : i + 4 < L) (hY : lw_I w xo gm oo A Y) (hcs : cells + 410 ≤ 627379) (hss : slots + 4100 ≤ 7213967) (K : ∀ (A1 : ab_A) (Y1 : hv_H), lw_I w xo gm oo A1 Y1 → hv_V p l e room_1 s m args below meth c w 7 Q (cells + 410) (slots + 4100) Y1 (lw_lv b xo gm oo i) 1701 []) : hv_V p l e room_1 s m args below meth c w 7 Q cells slots Y (lw_lv b xo gm oo i) 890 [] := by
  obtain ⟨C, hlt, hX, hbl, hbw, hgm, ho1, ho2, hL⟩ := hc
  obtain ⟨hI, gc, Z, th, f, hg, hZ, hF, rfl, rfl⟩ := hY
  have hL31 : L < 2 ^ 31 := by omega
  refine hv_aload_n C dw_890 rfl 1 rfl ?_
  refine lw_arg C hX hbl hbw 1 (by decide) (by omega) hL31 rfl rfl dw_891 dw_892 dw_894 dw_895 dw_896 ?_
  refine hv_aload_n C dw_897 rfl 3 rfl ?_
  refine hv_callSrH (As := [.ref (gc.1 0 0), .int (xs (i + 1)), .ref oo]) (rest := []) (n := 3) C (c_L_canPass l w gc A Z (md_Y w gm A th (ob w oo f)) hg hlt hI hZ hF oo f ((md_oo ho1 ho2).trans ob_at) (xs (i + 1))) gL_law_L_canPass rfl (by decide +kernel) ⟨(Nat.le_of_ble_eq_true rfl), (Nat.le_of_ble_eq_true rfl)⟩ rfl rfl (Nat.le_of_ble_eq_true rfl) dw_898 ⟨by show cells + 6 ≤ 627379; omega, by show slots + 40 ≤ 7213967; omega⟩ (fun r Y1 hr => ?_)
  obtain ⟨rfl, h3, f', hf', hS⟩ := hr
  obtain ⟨gc', Z', hg', hZ', hF', hxo, rfl⟩ := lw_wr ho1 ho2 hS
  refine hv_istore (lv1 := [(0, .ref b), (1, .ref (gc.1 0 0)), (2, .ref gm.1), (3, .ref oo), (4, .int (nI i)), (5, .int (nI (q_canPass A (xs (i + 1))).1))]) C dw_901 (by decide) [1, 2, 3, 4, 5, 0] rfl ?_
  refine hv_aload_n C dw_903 rfl 2 rfl ?_
  refine lw_arg C hX hbl hbw 1 (by decide) (by omega) hL31 rfl rfl dw_904 dw_905 dw_907 dw_908 dw_909 ?_
  refine hv_callVr (As := [.int (xs (i + 1))]) (rest := []) (n := 1) C (c_X5_canPass l w gm hgm A th (cl_Y w gc' (q_canPass A (xs (i + 1))).2.2 Z' (ob w oo f')) (xs (i + 1)) (I4 hI) (IWp hI) (I0 hI)) gL_law_X5_canPass rfl (by decide +kernel) ⟨(Nat.le_of_ble_eq_true rfl), (Nat.le_of_ble_eq_true rfl)⟩ (hv_rcO md_o rfl) rfl rfl (Nat.le_of_ble_eq_true rfl) dw_910 ⟨by show cells + 6 + 0 ≤ 627379; omega, by show slots + 40 + 0 ≤ 7213967; omega⟩ (fun r Y1 hr => ?_)
  obtain ⟨rfl, rfl⟩ := hr
  refine lw_tailB (q := q_canPass A (xs (i + 1))) (f := f') C hgm h3 (by rw [md_oo ho1 ho2, cl_oat (cl_out (w := w) (A := A) (Z := Z') hF' ((md_oo ho1 ho2).trans ob_at))]; exact ob_at) hf' (by show cells + 6 + 0 ≤ 627379; omega) (by show slots + 40 + 0 ≤ 7213967; omega) dw_913 dw_915 dw_916 dw_919 dw_921 dw_926 dw_928 dw_931 dw_932 dw_933 dw_934 dw_936 dw_939 dw_940 dw_943 dw_944 dw_945 dw_950 (by decide) ?_
  exact hv_widen (k := cells + 410) (n := slots + 4100) (by show cells + 6 + 0 ≤ cells + 410; omega) (by show slots + 40 + 0 ≤ slots + 4100; omega) (K _ _ (lw_back (A := A) (th := th) (I_qcanPass hI (xs (i + 1))) hg' hZ' hF' hxo))
set_option maxRecDepth 100000 in
set_option maxHeartbeats 1000000 in
theorem lw_c14 {p : Program} {l : Launch} {e : Env} {s : State} {m : MethodId} {args : Array Value} {below : List Frame} {meth : Method} {c : Code} {w : hv_W} {Q : State → Prop} {cells slots : Nat} {Y : hv_H} {xs : Nat → Int32} {b L i xo oo : Nat} {gm : md_g} {A : ab_A} (hc : lw_cx p l s m args meth c w b L xs gm oo) (hi : i + 4 < L) (hY : lw_I w xo gm oo A Y) (hcs : cells + 410 ≤ 627379) (hss : slots + 4100 ≤ 7213967) (K : ∀ (A1 : ab_A) (Y1 : hv_H), lw_I w xo gm oo A1 Y1 → hv_V p l e room_1 s m args below meth c w 7 Q (cells + 410) (slots + 4100) Y1 (lw_lv b xo gm oo i) 1701 []) : hv_V p l e room_1 s m args below meth c w 7 Q cells slots Y (lw_lv b xo gm oo i) 953 [] := by
  obtain ⟨C, hlt, hX, hbl, hbw, hgm, ho1, ho2, hL⟩ := hc
  obtain ⟨hI, gc, Z, th, f, hg, hZ, hF, rfl, rfl⟩ := hY
  have hL31 : L < 2 ^ 31 := by omega
  refine hv_aload_n C dw_953 rfl 1 rfl ?_
  refine lw_arg C hX hbl hbw 1 (by decide) (by omega) hL31 rfl rfl dw_954 dw_955 dw_957 dw_958 dw_959 ?_
  refine lw_arg C hX hbl hbw 2 (by decide) (by omega) hL31 rfl rfl dw_960 dw_961 dw_963 dw_964 dw_965 ?_
  refine hv_aload_n C dw_966 rfl 3 rfl ?_
  refine hv_callSrH (As := [.ref (gc.1 0 0), .int (xs (i + 1)), .int (xs (i + 2)), .ref oo]) (rest := []) (n := 4) C (c_L_distance l w gc A Z (md_Y w gm A th (ob w oo f)) hg hlt hI hZ hF oo f ((md_oo ho1 ho2).trans ob_at) (xs (i + 1)) (xs (i + 2))) gL_law_L_distance rfl (by decide +kernel) ⟨(Nat.le_of_ble_eq_true rfl), (Nat.le_of_ble_eq_true rfl)⟩ rfl rfl (Nat.le_of_ble_eq_true rfl) dw_967 ⟨by show cells + 6 ≤ 627379; omega, by show slots + 40 ≤ 7213967; omega⟩ (fun r Y1 hr => ?_)
  obtain ⟨rfl, h3, f', hf', hS⟩ := hr
  obtain ⟨gc', Z', hg', hZ', hF', hxo, rfl⟩ := lw_wr ho1 ho2 hS
  refine hv_istore (lv1 := [(0, .ref b), (1, .ref (gc.1 0 0)), (2, .ref gm.1), (3, .ref oo), (4, .int (nI i)), (5, .int (nI (q_distance A (xs (i + 1)) (xs (i + 2))).1))]) C dw_970 (by decide) [1, 2, 3, 4, 5, 0] rfl ?_
  refine hv_aload_n C dw_972 rfl 2 rfl ?_
  refine lw_arg C hX hbl hbw 1 (by decide) (by omega) hL31 rfl rfl dw_973 dw_974 dw_976 dw_977 dw_978 ?_
  refine lw_arg C hX hbl hbw 2 (by decide) (by omega) hL31 rfl rfl dw_979 dw_980 dw_982 dw_983 dw_984 ?_
  refine hv_callVr (As := [.int (xs (i + 1)), .int (xs (i + 2))]) (rest := []) (n := 2) C (c_X5_distance l w gm hgm A th (cl_Y w gc' (q_distance A (xs (i + 1)) (xs (i + 2))).2.2 Z' (ob w oo f')) (xs (i + 1)) (xs (i + 2)) ) gL_law_X5_distance rfl (by decide +kernel) ⟨(Nat.le_of_ble_eq_true rfl), (Nat.le_of_ble_eq_true rfl)⟩ (hv_rcO md_o rfl) rfl rfl (Nat.le_of_ble_eq_true rfl) dw_985 ⟨by show cells + 6 + 0 ≤ 627379; omega, by show slots + 40 + 0 ≤ 7213967; omega⟩ (fun r Y1 hr => ?_)
  obtain ⟨rfl, rfl⟩ := hr
  refine lw_tailI (q := q_distance A (xs (i + 1)) (xs (i + 2))) (f := f') C hgm h3 (by rw [md_oo ho1 ho2, cl_oat (cl_out (w := w) (A := A) (Z := Z') hF' ((md_oo ho1 ho2).trans ob_at))]; exact ob_at) hf' (by show cells + 6 + 0 ≤ 627379; omega) (by show slots + 40 + 0 ≤ 7213967; omega) dw_988 dw_990 dw_991 dw_994 dw_996 dw_1001 dw_1003 dw_1006 dw_1007 dw_1008 dw_1009 dw_1011 dw_1012 dw_1013 dw_1018 (by decide) ?_
  exact hv_widen (k := cells + 410) (n := slots + 4100) (by show cells + 6 + 0 ≤ cells + 410; omega) (by show slots + 40 + 0 ≤ slots + 4100; omega) (K _ _ (lw_back (A := A) (th := th) (I_qdistance hI (xs (i + 1)) (xs (i + 2))) hg' hZ' hF' hxo))
set_option maxRecDepth 100000 in
set_option maxHeartbeats 1000000 in
theorem lw_c15 {p : Program} {l : Launch} {e : Env} {s : State} {m : MethodId} {args : Array Value} {below : List Frame} {meth : Method} {c : Code} {w : hv_W} {Q : State → Prop} {cells slots : Nat} {Y : hv_H} {xs : Nat → Int32} {b L i xo oo : Nat} {gm : md_g} {A : ab_A} (hc : lw_cx p l s m args meth c w b L xs gm oo) (hi : i + 4 < L) (hY : lw_I w xo gm oo A Y) (hcs : cells + 410 ≤ 627379) (hss : slots + 4100 ≤ 7213967) (K : ∀ (A1 : ab_A) (Y1 : hv_H), lw_I w xo gm oo A1 Y1 → hv_V p l e room_1 s m args below meth c w 7 Q (cells + 410) (slots + 4100) Y1 (lw_lv b xo gm oo i) 1701 []) : hv_V p l e room_1 s m args below meth c w 7 Q cells slots Y (lw_lv b xo gm oo i) 1021 [] := by
  obtain ⟨C, hlt, hX, hbl, hbw, hgm, ho1, ho2, hL⟩ := hc
  obtain ⟨hI, gc, Z, th, f, hg, hZ, hF, rfl, rfl⟩ := hY
  have hL31 : L < 2 ^ 31 := by omega
  refine hv_aload_n C dw_1021 rfl 1 rfl ?_
  refine lw_arg C hX hbl hbw 1 (by decide) (by omega) hL31 rfl rfl dw_1022 dw_1023 dw_1025 dw_1026 dw_1027 ?_
  refine lw_arg C hX hbl hbw 2 (by decide) (by omega) hL31 rfl rfl dw_1028 dw_1029 dw_1031 dw_1032 dw_1033 ?_
  refine hv_aload_n C dw_1034 rfl 3 rfl ?_
  refine hv_callSrH (As := [.ref (gc.1 0 0), .int (xs (i + 1)), .int (xs (i + 2)), .ref oo]) (rest := []) (n := 4) C (c_L_canalTo l w gc A Z (md_Y w gm A th (ob w oo f)) hg hlt hI hZ hF oo f ((md_oo ho1 ho2).trans ob_at) (xs (i + 1)) (xs (i + 2))) gL_law_L_canalTo rfl (by decide +kernel) ⟨(Nat.le_of_ble_eq_true rfl), (Nat.le_of_ble_eq_true rfl)⟩ rfl rfl (Nat.le_of_ble_eq_true rfl) dw_1035 ⟨by show cells + 6 ≤ 627379; omega, by show slots + 40 ≤ 7213967; omega⟩ (fun r Y1 hr => ?_)
  obtain ⟨rfl, h3, f', hf', hS⟩ := hr
  obtain ⟨gc', Z', hg', hZ', hF', hxo, rfl⟩ := lw_wr ho1 ho2 hS
  refine hv_istore (lv1 := [(0, .ref b), (1, .ref (gc.1 0 0)), (2, .ref gm.1), (3, .ref oo), (4, .int (nI i)), (5, .int (nI (q_canalTo A (xs (i + 1)) (xs (i + 2))).1))]) C dw_1038 (by decide) [1, 2, 3, 4, 5, 0] rfl ?_
  refine hv_aload_n C dw_1040 rfl 2 rfl ?_
  refine lw_arg C hX hbl hbw 1 (by decide) (by omega) hL31 rfl rfl dw_1041 dw_1042 dw_1044 dw_1045 dw_1046 ?_
  refine lw_arg C hX hbl hbw 2 (by decide) (by omega) hL31 rfl rfl dw_1047 dw_1048 dw_1050 dw_1051 dw_1052 ?_
  refine hv_callVr (As := [.int (xs (i + 1)), .int (xs (i + 2))]) (rest := []) (n := 2) C (c_X5_canalTo l w gm hgm A th (cl_Y w gc' (q_canalTo A (xs (i + 1)) (xs (i + 2))).2.2 Z' (ob w oo f')) (xs (i + 1)) (xs (i + 2)) ) gL_law_X5_canalTo rfl (by decide +kernel) ⟨(Nat.le_of_ble_eq_true rfl), (Nat.le_of_ble_eq_true rfl)⟩ (hv_rcO md_o rfl) rfl rfl (Nat.le_of_ble_eq_true rfl) dw_1053 ⟨by show cells + 6 + 0 ≤ 627379; omega, by show slots + 40 + 0 ≤ 7213967; omega⟩ (fun r Y1 hr => ?_)
  obtain ⟨rfl, rfl⟩ := hr
  refine lw_tailI (q := q_canalTo A (xs (i + 1)) (xs (i + 2))) (f := f') C hgm h3 (by rw [md_oo ho1 ho2, cl_oat (cl_out (w := w) (A := A) (Z := Z') hF' ((md_oo ho1 ho2).trans ob_at))]; exact ob_at) hf' (by show cells + 6 + 0 ≤ 627379; omega) (by show slots + 40 + 0 ≤ 7213967; omega) dw_1056 dw_1058 dw_1059 dw_1062 dw_1064 dw_1069 dw_1071 dw_1074 dw_1075 dw_1076 dw_1077 dw_1079 dw_1080 dw_1081 dw_1086 (by decide) ?_
  exact hv_widen (k := cells + 410) (n := slots + 4100) (by show cells + 6 + 0 ≤ cells + 410; omega) (by show slots + 40 + 0 ≤ slots + 4100; omega) (K _ _ (lw_back (A := A) (th := th) (I_qcanalTo hI (xs (i + 1)) (xs (i + 2))) hg' hZ' hF' hxo))
set_option maxRecDepth 100000 in
set_option maxHeartbeats 1000000 in
theorem lw_c16 {p : Program} {l : Launch} {e : Env} {s : State} {m : MethodId} {args : Array Value} {below : List Frame} {meth : Method} {c : Code} {w : hv_W} {Q : State → Prop} {cells slots : Nat} {Y : hv_H} {xs : Nat → Int32} {b L i xo oo : Nat} {gm : md_g} {A : ab_A} (hc : lw_cx p l s m args meth c w b L xs gm oo) (hi : i + 4 < L) (hY : lw_I w xo gm oo A Y) (hcs : cells + 410 ≤ 627379) (hss : slots + 4100 ≤ 7213967) (K : ∀ (A1 : ab_A) (Y1 : hv_H), lw_I w xo gm oo A1 Y1 → hv_V p l e room_1 s m args below meth c w 7 Q (cells + 410) (slots + 4100) Y1 (lw_lv b xo gm oo i) 1701 []) : hv_V p l e room_1 s m args below meth c w 7 Q cells slots Y (lw_lv b xo gm oo i) 1089 [] := by
  obtain ⟨C, hlt, hX, hbl, hbw, hgm, ho1, ho2, hL⟩ := hc
  obtain ⟨hI, gc, Z, th, f, hg, hZ, hF, rfl, rfl⟩ := hY
  refine hv_aload_n C dw_1089 rfl 1 rfl ?_
  refine hv_callVr (As := []) (rest := []) (n := 0) C (c_X4_areStill l w gc A Z (md_Y w gm A th (ob w oo f)) hg hI hZ hF) gL_law_X4_areStill rfl (by decide +kernel) ⟨(Nat.le_of_ble_eq_true rfl), (Nat.le_of_ble_eq_true rfl)⟩ (cl_rc hg (Or.inl ⟨by decide, rfl⟩) rfl rfl) rfl rfl (Nat.le_of_ble_eq_true rfl) dw_1090 ⟨by show cells + 0 ≤ 627379; omega, by show slots + 0 ≤ 7213967; omega⟩ (fun r Y1 hr => ?_)
  obtain ⟨rfl, gc', Z', hg', hZ', hF', hxo, rfl⟩ := hr
  refine hv_eqY (md_sw hF') ?_
  refine hv_aload_n C dw_1093 rfl 2 rfl ?_
  refine hv_callVr (As := []) (rest := [.int (nI (b2 (f_chg A 64 = 0)))]) (n := 0) C (c_X5_areStill l w gm hgm A th (cl_Y w gc' A Z' (ob w oo f)) (I4 hI) (IWt hI) (I0 hI) (I11 hI) (I12 hI)) gL_law_X5_areStill rfl (by decide +kernel) ⟨(Nat.le_of_ble_eq_true rfl), (Nat.le_of_ble_eq_true rfl)⟩ (hv_rcO md_o rfl) rfl rfl (Nat.le_of_ble_eq_true rfl) dw_1094 ⟨by show cells + 0 + 0 ≤ 627379; omega, by show slots + 0 + 0 ≤ 7213967; omega⟩ (fun r Y1 hr => ?_)
  obtain ⟨rfl, rfl⟩ := hr
  refine hv_icmp_eq (tgt := 1701) C dw_1097 (by decide) (fun _ => ?_) (fun h => absurd rfl h)
  refine hv_eqY (congrArg (md_Y w gm (f_look A 64) 0) (cl_13 (w := w) (A := A) (A' := f_look A 64) (Z := Z') (Y0 := ob w oo f) hg' (fun s h1 h2 => f_look_k A 64 h1 h2)).symm) ?_
  refine hv_widen (k := cells + 410) (n := slots + 4100) (by show cells + 0 + 0 ≤ cells + 410; omega) (by show slots + 0 + 0 ≤ slots + 4100; omega) (K (f_look A 64) _ (lw_back (A := A) (th := th) (I_look hI 64) (by rw [f_look_k A 64 (by decide) (by decide), f_look_k A 64 (by decide) (by decide)]; exact hg') ⟨hZ'.1, fun k hk => by rw [f_look_k A 64 (by decide) (by decide)]; exact hZ'.2 k hk⟩ hF' hxo))
set_option maxRecDepth 100000 in
set_option maxHeartbeats 1000000 in
theorem lw_c17 {p : Program} {l : Launch} {e : Env} {s : State} {m : MethodId} {args : Array Value} {below : List Frame} {meth : Method} {c : Code} {w : hv_W} {Q : State → Prop} {cells slots : Nat} {Y : hv_H} {xs : Nat → Int32} {b L i xo oo : Nat} {gm : md_g} {A : ab_A} (hc : lw_cx p l s m args meth c w b L xs gm oo) (hi : i + 4 < L) (hY : lw_I w xo gm oo A Y) (hcs : cells + 410 ≤ 627379) (hss : slots + 4100 ≤ 7213967) (K : ∀ (A1 : ab_A) (Y1 : hv_H), lw_I w xo gm oo A1 Y1 → hv_V p l e room_1 s m args below meth c w 7 Q (cells + 410) (slots + 4100) Y1 (lw_lv b xo gm oo i) 1701 []) : hv_V p l e room_1 s m args below meth c w 7 Q cells slots Y (lw_lv b xo gm oo i) 1102 [] := by
  obtain ⟨C, hlt, hX, hbl, hbw, hgm, ho1, ho2, hL⟩ := hc
  obtain ⟨hI, gc, Z, th, f, hg, hZ, hF, rfl, rfl⟩ := hY
  have hL31 : L < 2 ^ 31 := by omega
  refine hv_aload_n C dw_1102 rfl 1 rfl ?_
  refine lw_arg C hX hbl hbw 1 (by decide) (by omega) hL31 rfl rfl dw_1103 dw_1104 dw_1106 dw_1107 dw_1108 ?_
  refine lw_arg C hX hbl hbw 2 (by decide) (by omega) hL31 rfl rfl dw_1109 dw_1110 dw_1112 dw_1113 dw_1114 ?_
  refine hv_aload_n C dw_1115 rfl 3 rfl ?_
  refine hv_callSrH (As := [.ref (gc.1 0 0), .int (xs (i + 1)), .int (xs (i + 2)), .ref oo]) (rest := []) (n := 4) C (c_L_cheapest l w gc A Z (md_Y w gm A th (ob w oo f)) hg hlt hI hZ hF oo f ((md_oo ho1 ho2).trans ob_at) (xs (i + 1)) (xs (i + 2))) gL_law_L_cheapest rfl (by decide +kernel) ⟨(Nat.le_of_ble_eq_true rfl), (Nat.le_of_ble_eq_true rfl)⟩ rfl rfl (Nat.le_of_ble_eq_true rfl) dw_1116 ⟨by show cells + 6 ≤ 627379; omega, by show slots + 40 ≤ 7213967; omega⟩ (fun r Y1 hr => ?_)
  obtain ⟨rfl, h3, f', hf', hS⟩ := hr
  obtain ⟨gc', Z', hg', hZ', hF', hxo, rfl⟩ := lw_wr ho1 ho2 hS
  refine hv_istore (lv1 := [(0, .ref b), (1, .ref (gc.1 0 0)), (2, .ref gm.1), (3, .ref oo), (4, .int (nI i)), (5, .int (nI (q_cheapest A (xs (i + 1)) (xs (i + 2))).1))]) C dw_1119 (by decide) [1, 2, 3, 4, 5, 0] rfl ?_
  refine hv_aload_n C dw_1121 rfl 2 rfl ?_
  refine lw_arg C hX hbl hbw 1 (by decide) (by omega) hL31 rfl rfl dw_1122 dw_1123 dw_1125 dw_1126 dw_1127 ?_
  refine lw_arg C hX hbl hbw 2 (by decide) (by omega) hL31 rfl rfl dw_1128 dw_1129 dw_1131 dw_1132 dw_1133 ?_
  refine hv_callVr (As := [.int (xs (i + 1)), .int (xs (i + 2))]) (rest := []) (n := 2) C (c_X5_cheapest l w gm hgm A th (cl_Y w gc' (q_cheapest A (xs (i + 1)) (xs (i + 2))).2.2 Z' (ob w oo f')) (xs (i + 1)) (xs (i + 2)) hI) gL_law_X5_cheapest rfl (by decide +kernel) ⟨(Nat.le_of_ble_eq_true rfl), (Nat.le_of_ble_eq_true rfl)⟩ (hv_rcO md_o rfl) rfl rfl (Nat.le_of_ble_eq_true rfl) dw_1134 ⟨by show cells + 6 + 0 ≤ 627379; omega, by show slots + 40 + 0 ≤ 7213967; omega⟩ (fun r Y1 hr => ?_)
  obtain ⟨rfl, rfl⟩ := hr
  refine lw_tailI (q := q_cheapest A (xs (i + 1)) (xs (i + 2))) (f := f') C hgm h3 (by rw [md_oo ho1 ho2, cl_oat (cl_out (w := w) (A := A) (Z := Z') hF' ((md_oo ho1 ho2).trans ob_at))]; exact ob_at) hf' (by show cells + 6 + 0 ≤ 627379; omega) (by show slots + 40 + 0 ≤ 7213967; omega) dw_1137 dw_1139 dw_1140 dw_1143 dw_1145 dw_1150 dw_1152 dw_1155 dw_1156 dw_1157 dw_1158 dw_1160 dw_1161 dw_1162 dw_1167 (by decide) ?_
  exact hv_widen (k := cells + 410) (n := slots + 4100) (by show cells + 6 + 0 ≤ cells + 410; omega) (by show slots + 40 + 0 ≤ slots + 4100; omega) (K _ _ (lw_back (A := A) (th := th) (I_qcheapest hI (xs (i + 1)) (xs (i + 2))) hg' hZ' hF' hxo))
set_option maxRecDepth 100000 in
set_option maxHeartbeats 1000000 in
theorem lw_c18 {p : Program} {l : Launch} {e : Env} {s : State} {m : MethodId} {args : Array Value} {below : List Frame} {meth : Method} {c : Code} {w : hv_W} {Q : State → Prop} {cells slots : Nat} {Y : hv_H} {xs : Nat → Int32} {b L i xo oo : Nat} {gm : md_g} {A : ab_A} (hc : lw_cx p l s m args meth c w b L xs gm oo) (hi : i + 4 < L) (hY : lw_I w xo gm oo A Y) (hcs : cells + 410 ≤ 627379) (hss : slots + 4100 ≤ 7213967) (K : ∀ (A1 : ab_A) (Y1 : hv_H), lw_I w xo gm oo A1 Y1 → hv_V p l e room_1 s m args below meth c w 7 Q (cells + 410) (slots + 4100) Y1 (lw_lv b xo gm oo i) 1701 []) : hv_V p l e room_1 s m args below meth c w 7 Q cells slots Y (lw_lv b xo gm oo i) 1170 [] := by
  obtain ⟨C, hlt, hX, hbl, hbw, hgm, ho1, ho2, hL⟩ := hc
  obtain ⟨hI, gc, Z, th, f, hg, hZ, hF, rfl, rfl⟩ := hY
  have hL31 : L < 2 ^ 31 := by omega
  refine hv_aload_n C dw_1170 rfl 1 rfl ?_
  refine lw_arg C hX hbl hbw 1 (by decide) (by omega) hL31 rfl rfl dw_1171 dw_1172 dw_1174 dw_1175 dw_1176 ?_
  refine lw_arg C hX hbl hbw 2 (by decide) (by omega) hL31 rfl rfl dw_1177 dw_1178 dw_1180 dw_1181 dw_1182 ?_
  refine hv_aload_n C dw_1183 rfl 3 rfl ?_
  refine hv_callSrH (As := [.ref (gc.1 0 0), .int (xs (i + 1)), .int (xs (i + 2)), .ref oo]) (rest := []) (n := 4) C (c_L_isLoop l w gc A Z (md_Y w gm A th (ob w oo f)) hg hlt hI hZ hF oo f ((md_oo ho1 ho2).trans ob_at) (xs (i + 1)) (xs (i + 2))) gL_law_L_isLoop rfl (by decide +kernel) ⟨(Nat.le_of_ble_eq_true rfl), (Nat.le_of_ble_eq_true rfl)⟩ rfl rfl (Nat.le_of_ble_eq_true rfl) dw_1184 ⟨by show cells + 6 ≤ 627379; omega, by show slots + 40 ≤ 7213967; omega⟩ (fun r Y1 hr => ?_)
  obtain ⟨rfl, h3, f', hf', hS⟩ := hr
  obtain ⟨gc', Z', hg', hZ', hF', hxo, rfl⟩ := lw_wr ho1 ho2 hS
  refine hv_istore (lv1 := [(0, .ref b), (1, .ref (gc.1 0 0)), (2, .ref gm.1), (3, .ref oo), (4, .int (nI i)), (5, .int (nI (q_isLoop A (xs (i + 1)) (xs (i + 2))).1))]) C dw_1187 (by decide) [1, 2, 3, 4, 5, 0] rfl ?_
  refine hv_aload_n C dw_1189 rfl 2 rfl ?_
  refine lw_arg C hX hbl hbw 1 (by decide) (by omega) hL31 rfl rfl dw_1190 dw_1191 dw_1193 dw_1194 dw_1195 ?_
  refine lw_arg C hX hbl hbw 2 (by decide) (by omega) hL31 rfl rfl dw_1196 dw_1197 dw_1199 dw_1200 dw_1201 ?_
  refine hv_callVr (As := [.int (xs (i + 1)), .int (xs (i + 2))]) (rest := []) (n := 2) C (c_X5_isLoop l w gm hgm A th (cl_Y w gc' (q_isLoop A (xs (i + 1)) (xs (i + 2))).2.2 Z' (ob w oo f')) (xs (i + 1)) (xs (i + 2)) hI) gL_law_X5_isLoop rfl (by decide +kernel) ⟨(Nat.le_of_ble_eq_true rfl), (Nat.le_of_ble_eq_true rfl)⟩ (hv_rcO md_o rfl) rfl rfl (Nat.le_of_ble_eq_true rfl) dw_1202 ⟨by show cells + 6 + 0 ≤ 627379; omega, by show slots + 40 + 0 ≤ 7213967; omega⟩ (fun r Y1 hr => ?_)
  obtain ⟨rfl, rfl⟩ := hr
  refine lw_tailB (q := q_isLoop A (xs (i + 1)) (xs (i + 2))) (f := f') C hgm h3 (by rw [md_oo ho1 ho2, cl_oat (cl_out (w := w) (A := A) (Z := Z') hF' ((md_oo ho1 ho2).trans ob_at))]; exact ob_at) hf' (by show cells + 6 + 0 ≤ 627379; omega) (by show slots + 40 + 0 ≤ 7213967; omega) dw_1205 dw_1207 dw_1208 dw_1211 dw_1213 dw_1218 dw_1220 dw_1223 dw_1224 dw_1225 dw_1226 dw_1228 dw_1231 dw_1232 dw_1235 dw_1236 dw_1237 dw_1242 (by decide) ?_
  exact hv_widen (k := cells + 410) (n := slots + 4100) (by show cells + 6 + 0 ≤ cells + 410; omega) (by show slots + 40 + 0 ≤ slots + 4100; omega) (K _ _ (lw_back (A := A) (th := th) (I_qisLoop hI (xs (i + 1)) (xs (i + 2))) hg' hZ' hF' hxo))
set_option maxRecDepth 100000 in
set_option maxHeartbeats 1000000 in
theorem lw_c19 {p : Program} {l : Launch} {e : Env} {s : State} {m : MethodId} {args : Array Value} {below : List Frame} {meth : Method} {c : Code} {w : hv_W} {Q : State → Prop} {cells slots : Nat} {Y : hv_H} {xs : Nat → Int32} {b L i xo oo : Nat} {gm : md_g} {A : ab_A} (hc : lw_cx p l s m args meth c w b L xs gm oo) (hi : i + 4 < L) (hY : lw_I w xo gm oo A Y) (hcs : cells + 410 ≤ 627379) (hss : slots + 4100 ≤ 7213967) (K : ∀ (A1 : ab_A) (Y1 : hv_H), lw_I w xo gm oo A1 Y1 → hv_V p l e room_1 s m args below meth c w 7 Q (cells + 410) (slots + 4100) Y1 (lw_lv b xo gm oo i) 1701 []) : hv_V p l e room_1 s m args below meth c w 7 Q cells slots Y (lw_lv b xo gm oo i) 1245 [] := by
  obtain ⟨C, hlt, hX, hbl, hbw, hgm, ho1, ho2, hL⟩ := hc
  obtain ⟨hI, gc, Z, th, f, hg, hZ, hF, rfl, rfl⟩ := hY
  refine hv_aload_n C dw_1245 rfl 1 rfl ?_
  refine hv_callVr (As := []) (rest := []) (n := 0) C (c_X4_loops l w gc A Z (md_Y w gm A th (ob w oo f)) hg hI hZ) gL_law_X4_loops rfl (by decide +kernel) ⟨(Nat.le_of_ble_eq_true rfl), (Nat.le_of_ble_eq_true rfl)⟩ (cl_rc hg (Or.inl ⟨by decide, rfl⟩) rfl rfl) rfl rfl (Nat.le_of_ble_eq_true rfl) dw_1246 ⟨by show cells + 0 ≤ 627379; omega, by show slots + 0 ≤ 7213967; omega⟩ (fun r Y1 hr => ?_)
  obtain ⟨rfl, rfl⟩ := hr
  refine hv_eqY (md_sw hF) ?_
  refine hv_aload_n C dw_1249 rfl 2 rfl ?_
  refine hv_callVr (As := []) (rest := [.int (nI (f_loops A 64))]) (n := 0) C (c_X5_loops l w gm hgm A th (cl_Y w gc A Z (ob w oo f)) hI) gL_law_X5_loops rfl (by decide +kernel) ⟨(Nat.le_of_ble_eq_true rfl), (Nat.le_of_ble_eq_true rfl)⟩ (hv_rcO md_o rfl) rfl rfl (Nat.le_of_ble_eq_true rfl) dw_1250 ⟨by show cells + 0 + 0 ≤ 627379; omega, by show slots + 0 + 0 ≤ 7213967; omega⟩ (fun r Y1 hr => ?_)
  obtain ⟨rfl, rfl⟩ := hr
  refine hv_icmp_eq (tgt := 1701) C dw_1253 (by decide) (fun _ => ?_) (fun h => absurd rfl h)
  exact hv_widen (k := cells + 410) (n := slots + 4100) (by show cells + 0 + 0 ≤ cells + 410; omega) (by show slots + 0 + 0 ≤ slots + 4100; omega) (K A _ (lw_back (A := A) (th := th) hI hg hZ hF rfl))
set_option maxRecDepth 100000 in
set_option maxHeartbeats 1000000 in
theorem lw_c20 {p : Program} {l : Launch} {e : Env} {s : State} {m : MethodId} {args : Array Value} {below : List Frame} {meth : Method} {c : Code} {w : hv_W} {Q : State → Prop} {cells slots : Nat} {Y : hv_H} {xs : Nat → Int32} {b L i xo oo : Nat} {gm : md_g} {A : ab_A} (hc : lw_cx p l s m args meth c w b L xs gm oo) (hi : i + 4 < L) (hY : lw_I w xo gm oo A Y) (hcs : cells + 410 ≤ 627379) (hss : slots + 4100 ≤ 7213967) (K : ∀ (A1 : ab_A) (Y1 : hv_H), lw_I w xo gm oo A1 Y1 → hv_V p l e room_1 s m args below meth c w 7 Q (cells + 410) (slots + 4100) Y1 (lw_lv b xo gm oo i) 1701 []) : hv_V p l e room_1 s m args below meth c w 7 Q cells slots Y (lw_lv b xo gm oo i) 1258 [] := by
  obtain ⟨C, hlt, hX, hbl, hbw, hgm, ho1, ho2, hL⟩ := hc
  obtain ⟨hI, gc, Z, th, f, hg, hZ, hF, rfl, rfl⟩ := hY
  refine hv_aload_n C dw_1258 rfl 1 rfl ?_
  refine hv_callVr (As := []) (rest := []) (n := 0) C (c_X4_barges l w gc A Z (md_Y w gm A th (ob w oo f)) hg) gL_law_X4_barges rfl (by decide +kernel) ⟨(Nat.le_of_ble_eq_true rfl), (Nat.le_of_ble_eq_true rfl)⟩ (cl_rc hg (Or.inl ⟨by decide, rfl⟩) rfl rfl) rfl rfl (Nat.le_of_ble_eq_true rfl) dw_1259 ⟨by show cells + 0 ≤ 627379; omega, by show slots + 0 ≤ 7213967; omega⟩ (fun r Y1 hr => ?_)
  obtain ⟨rfl, rfl⟩ := hr
  refine hv_eqY (md_sw hF) ?_
  refine hv_aload_n C dw_1262 rfl 2 rfl ?_
  refine hv_callVr (As := []) (rest := [.int (nI (A 15 0))]) (n := 0) C (c_X5_barges l w gm hgm A th (cl_Y w gc A Z (ob w oo f)) ) gL_law_X5_barges rfl (by decide +kernel) ⟨(Nat.le_of_ble_eq_true rfl), (Nat.le_of_ble_eq_true rfl)⟩ (hv_rcO md_o rfl) rfl rfl (Nat.le_of_ble_eq_true rfl) dw_1263 ⟨by show cells + 0 + 0 ≤ 627379; omega, by show slots + 0 + 0 ≤ 7213967; omega⟩ (fun r Y1 hr => ?_)
  obtain ⟨rfl, rfl⟩ := hr
  refine hv_icmp_eq (tgt := 1701) C dw_1266 (by decide) (fun _ => ?_) (fun h => absurd rfl h)
  exact hv_widen (k := cells + 410) (n := slots + 4100) (by show cells + 0 + 0 ≤ cells + 410; omega) (by show slots + 0 + 0 ≤ slots + 4100; omega) (K A _ (lw_back (A := A) (th := th) hI hg hZ hF rfl))
set_option maxRecDepth 100000 in
set_option maxHeartbeats 1000000 in
theorem lw_c21 {p : Program} {l : Launch} {e : Env} {s : State} {m : MethodId} {args : Array Value} {below : List Frame} {meth : Method} {c : Code} {w : hv_W} {Q : State → Prop} {cells slots : Nat} {Y : hv_H} {xs : Nat → Int32} {b L i xo oo : Nat} {gm : md_g} {A : ab_A} (hc : lw_cx p l s m args meth c w b L xs gm oo) (hi : i + 4 < L) (hY : lw_I w xo gm oo A Y) (hcs : cells + 410 ≤ 627379) (hss : slots + 4100 ≤ 7213967) (K : ∀ (A1 : ab_A) (Y1 : hv_H), lw_I w xo gm oo A1 Y1 → hv_V p l e room_1 s m args below meth c w 7 Q (cells + 410) (slots + 4100) Y1 (lw_lv b xo gm oo i) 1701 []) : hv_V p l e room_1 s m args below meth c w 7 Q cells slots Y (lw_lv b xo gm oo i) 1271 [] := by
  obtain ⟨C, hlt, hX, hbl, hbw, hgm, ho1, ho2, hL⟩ := hc
  obtain ⟨hI, gc, Z, th, f, hg, hZ, hF, rfl, rfl⟩ := hY
  refine hv_aload_n C dw_1271 rfl 1 rfl ?_
  refine hv_callVr (As := []) (rest := []) (n := 0) C (c_X4_ticks l w gc A Z (md_Y w gm A th (ob w oo f)) hg) gL_law_X4_ticks rfl (by decide +kernel) ⟨(Nat.le_of_ble_eq_true rfl), (Nat.le_of_ble_eq_true rfl)⟩ (cl_rc hg (Or.inl ⟨by decide, rfl⟩) rfl rfl) rfl rfl (Nat.le_of_ble_eq_true rfl) dw_1272 ⟨by show cells + 0 ≤ 627379; omega, by show slots + 0 ≤ 7213967; omega⟩ (fun r Y1 hr => ?_)
  obtain ⟨rfl, rfl⟩ := hr
  refine hv_eqY (md_sw hF) ?_
  refine hv_aload_n C dw_1275 rfl 2 rfl ?_
  refine hv_callVr (As := []) (rest := [.int (nI (A 16 0))]) (n := 0) C (c_X5_ticks l w gm hgm A th (cl_Y w gc A Z (ob w oo f)) ) gL_law_X5_ticks rfl (by decide +kernel) ⟨(Nat.le_of_ble_eq_true rfl), (Nat.le_of_ble_eq_true rfl)⟩ (hv_rcO md_o rfl) rfl rfl (Nat.le_of_ble_eq_true rfl) dw_1276 ⟨by show cells + 0 + 0 ≤ 627379; omega, by show slots + 0 + 0 ≤ 7213967; omega⟩ (fun r Y1 hr => ?_)
  obtain ⟨rfl, rfl⟩ := hr
  refine hv_icmp_eq (tgt := 1701) C dw_1279 (by decide) (fun _ => ?_) (fun h => absurd rfl h)
  exact hv_widen (k := cells + 410) (n := slots + 4100) (by show cells + 0 + 0 ≤ cells + 410; omega) (by show slots + 0 + 0 ≤ slots + 4100; omega) (K A _ (lw_back (A := A) (th := th) hI hg hZ hF rfl))
set_option maxRecDepth 100000 in
set_option maxHeartbeats 1000000 in
theorem lw_c22 {p : Program} {l : Launch} {e : Env} {s : State} {m : MethodId} {args : Array Value} {below : List Frame} {meth : Method} {c : Code} {w : hv_W} {Q : State → Prop} {cells slots : Nat} {Y : hv_H} {xs : Nat → Int32} {b L i xo oo : Nat} {gm : md_g} {A : ab_A} (hc : lw_cx p l s m args meth c w b L xs gm oo) (hi : i + 4 < L) (hY : lw_I w xo gm oo A Y) (hcs : cells + 410 ≤ 627379) (hss : slots + 4100 ≤ 7213967) (K : ∀ (A1 : ab_A) (Y1 : hv_H), lw_I w xo gm oo A1 Y1 → hv_V p l e room_1 s m args below meth c w 7 Q (cells + 410) (slots + 4100) Y1 (lw_lv b xo gm oo i) 1701 []) : hv_V p l e room_1 s m args below meth c w 7 Q cells slots Y (lw_lv b xo gm oo i) 1284 [] := by
  obtain ⟨C, hlt, hX, hbl, hbw, hgm, ho1, ho2, hL⟩ := hc
  obtain ⟨hI, gc, Z, th, f, hg, hZ, hF, rfl, rfl⟩ := hY
  have hL31 : L < 2 ^ 31 := by omega
  refine hv_aload_n C dw_1284 rfl 1 rfl ?_
  refine lw_arg C hX hbl hbw 1 (by decide) (by omega) hL31 rfl rfl dw_1285 dw_1286 dw_1288 dw_1289 dw_1290 ?_
  refine hv_aload_n C dw_1291 rfl 3 rfl ?_
  refine hv_callSrH (As := [.ref (gc.1 0 0), .int (xs (i + 1)), .ref oo]) (rest := []) (n := 3) C (c_L_state l w gc A Z (md_Y w gm A th (ob w oo f)) hg hlt hI hZ hF oo f ((md_oo ho1 ho2).trans ob_at) (xs (i + 1))) gL_law_L_state rfl (by decide +kernel) ⟨(Nat.le_of_ble_eq_true rfl), (Nat.le_of_ble_eq_true rfl)⟩ rfl rfl (Nat.le_of_ble_eq_true rfl) dw_1292 ⟨by show cells + 6 ≤ 627379; omega, by show slots + 40 ≤ 7213967; omega⟩ (fun r Y1 hr => ?_)
  obtain ⟨rfl, h3, f', hf', hS⟩ := hr
  obtain ⟨gc', Z', hg', hZ', hF', hxo, rfl⟩ := lw_wr ho1 ho2 hS
  refine hv_istore (lv1 := [(0, .ref b), (1, .ref (gc.1 0 0)), (2, .ref gm.1), (3, .ref oo), (4, .int (nI i)), (5, .int (nI (q_barge A (xs (i + 1)) 21).1))]) C dw_1295 (by decide) [1, 2, 3, 4, 5, 0] rfl ?_
  refine hv_aload_n C dw_1297 rfl 2 rfl ?_
  refine lw_arg C hX hbl hbw 1 (by decide) (by omega) hL31 rfl rfl dw_1298 dw_1299 dw_1301 dw_1302 dw_1303 ?_
  refine hv_callVr (As := [.int (xs (i + 1))]) (rest := []) (n := 1) C (c_X5_state l w gm hgm A th (cl_Y w gc' (q_barge A (xs (i + 1)) 21).2.2 Z' (ob w oo f')) (xs (i + 1)) (I15 hI)) gL_law_X5_state rfl (by decide +kernel) ⟨(Nat.le_of_ble_eq_true rfl), (Nat.le_of_ble_eq_true rfl)⟩ (hv_rcO md_o rfl) rfl rfl (Nat.le_of_ble_eq_true rfl) dw_1304 ⟨by show cells + 6 + 0 ≤ 627379; omega, by show slots + 40 + 0 ≤ 7213967; omega⟩ (fun r Y1 hr => ?_)
  obtain ⟨rfl, rfl⟩ := hr
  refine lw_tailI (q := q_barge A (xs (i + 1)) 21) (f := f') C hgm h3 (by rw [md_oo ho1 ho2, cl_oat (cl_out (w := w) (A := A) (Z := Z') hF' ((md_oo ho1 ho2).trans ob_at))]; exact ob_at) hf' (by show cells + 6 + 0 ≤ 627379; omega) (by show slots + 40 + 0 ≤ 7213967; omega) dw_1307 dw_1309 dw_1310 dw_1313 dw_1315 dw_1320 dw_1322 dw_1325 dw_1326 dw_1327 dw_1328 dw_1330 dw_1331 dw_1332 dw_1337 (by decide) ?_
  exact hv_widen (k := cells + 410) (n := slots + 4100) (by show cells + 6 + 0 ≤ cells + 410; omega) (by show slots + 40 + 0 ≤ slots + 4100; omega) (K _ _ (lw_back (A := A) (th := th) (I_qbarge hI (xs (i + 1)) 21) hg' hZ' hF' hxo))
set_option maxRecDepth 100000 in
set_option maxHeartbeats 1000000 in
theorem lw_c23 {p : Program} {l : Launch} {e : Env} {s : State} {m : MethodId} {args : Array Value} {below : List Frame} {meth : Method} {c : Code} {w : hv_W} {Q : State → Prop} {cells slots : Nat} {Y : hv_H} {xs : Nat → Int32} {b L i xo oo : Nat} {gm : md_g} {A : ab_A} (hc : lw_cx p l s m args meth c w b L xs gm oo) (hi : i + 4 < L) (hY : lw_I w xo gm oo A Y) (hcs : cells + 410 ≤ 627379) (hss : slots + 4100 ≤ 7213967) (K : ∀ (A1 : ab_A) (Y1 : hv_H), lw_I w xo gm oo A1 Y1 → hv_V p l e room_1 s m args below meth c w 7 Q (cells + 410) (slots + 4100) Y1 (lw_lv b xo gm oo i) 1701 []) : hv_V p l e room_1 s m args below meth c w 7 Q cells slots Y (lw_lv b xo gm oo i) 1340 [] := by
  obtain ⟨C, hlt, hX, hbl, hbw, hgm, ho1, ho2, hL⟩ := hc
  obtain ⟨hI, gc, Z, th, f, hg, hZ, hF, rfl, rfl⟩ := hY
  have hL31 : L < 2 ^ 31 := by omega
  refine hv_aload_n C dw_1340 rfl 1 rfl ?_
  refine lw_arg C hX hbl hbw 1 (by decide) (by omega) hL31 rfl rfl dw_1341 dw_1342 dw_1344 dw_1345 dw_1346 ?_
  refine hv_aload_n C dw_1347 rfl 3 rfl ?_
  refine hv_callSrH (As := [.ref (gc.1 0 0), .int (xs (i + 1)), .ref oo]) (rest := []) (n := 3) C (c_L_basinOf l w gc A Z (md_Y w gm A th (ob w oo f)) hg hlt hI hZ hF oo f ((md_oo ho1 ho2).trans ob_at) (xs (i + 1))) gL_law_L_basinOf rfl (by decide +kernel) ⟨(Nat.le_of_ble_eq_true rfl), (Nat.le_of_ble_eq_true rfl)⟩ rfl rfl (Nat.le_of_ble_eq_true rfl) dw_1348 ⟨by show cells + 6 ≤ 627379; omega, by show slots + 40 ≤ 7213967; omega⟩ (fun r Y1 hr => ?_)
  obtain ⟨rfl, h3, f', hf', hS⟩ := hr
  obtain ⟨gc', Z', hg', hZ', hF', hxo, rfl⟩ := lw_wr ho1 ho2 hS
  refine hv_istore (lv1 := [(0, .ref b), (1, .ref (gc.1 0 0)), (2, .ref gm.1), (3, .ref oo), (4, .int (nI i)), (5, .int (nI (q_barge A (xs (i + 1)) 22).1))]) C dw_1351 (by decide) [1, 2, 3, 4, 5, 0] rfl ?_
  refine hv_aload_n C dw_1353 rfl 2 rfl ?_
  refine lw_arg C hX hbl hbw 1 (by decide) (by omega) hL31 rfl rfl dw_1354 dw_1355 dw_1357 dw_1358 dw_1359 ?_
  refine hv_callVr (As := [.int (xs (i + 1))]) (rest := []) (n := 1) C (c_X5_basinOf l w gm hgm A th (cl_Y w gc' (q_barge A (xs (i + 1)) 22).2.2 Z' (ob w oo f')) (xs (i + 1)) (I15 hI)) gL_law_X5_basinOf rfl (by decide +kernel) ⟨(Nat.le_of_ble_eq_true rfl), (Nat.le_of_ble_eq_true rfl)⟩ (hv_rcO md_o rfl) rfl rfl (Nat.le_of_ble_eq_true rfl) dw_1360 ⟨by show cells + 6 + 0 ≤ 627379; omega, by show slots + 40 + 0 ≤ 7213967; omega⟩ (fun r Y1 hr => ?_)
  obtain ⟨rfl, rfl⟩ := hr
  refine lw_tailI (q := q_barge A (xs (i + 1)) 22) (f := f') C hgm h3 (by rw [md_oo ho1 ho2, cl_oat (cl_out (w := w) (A := A) (Z := Z') hF' ((md_oo ho1 ho2).trans ob_at))]; exact ob_at) hf' (by show cells + 6 + 0 ≤ 627379; omega) (by show slots + 40 + 0 ≤ 7213967; omega) dw_1363 dw_1365 dw_1366 dw_1369 dw_1371 dw_1376 dw_1378 dw_1381 dw_1382 dw_1383 dw_1384 dw_1386 dw_1387 dw_1388 dw_1393 (by decide) ?_
  exact hv_widen (k := cells + 410) (n := slots + 4100) (by show cells + 6 + 0 ≤ cells + 410; omega) (by show slots + 40 + 0 ≤ slots + 4100; omega) (K _ _ (lw_back (A := A) (th := th) (I_qbarge hI (xs (i + 1)) 22) hg' hZ' hF' hxo))
set_option maxRecDepth 100000 in
set_option maxHeartbeats 1000000 in
theorem lw_c24 {p : Program} {l : Launch} {e : Env} {s : State} {m : MethodId} {args : Array Value} {below : List Frame} {meth : Method} {c : Code} {w : hv_W} {Q : State → Prop} {cells slots : Nat} {Y : hv_H} {xs : Nat → Int32} {b L i xo oo : Nat} {gm : md_g} {A : ab_A} (hc : lw_cx p l s m args meth c w b L xs gm oo) (hi : i + 4 < L) (hY : lw_I w xo gm oo A Y) (hcs : cells + 410 ≤ 627379) (hss : slots + 4100 ≤ 7213967) (K : ∀ (A1 : ab_A) (Y1 : hv_H), lw_I w xo gm oo A1 Y1 → hv_V p l e room_1 s m args below meth c w 7 Q (cells + 410) (slots + 4100) Y1 (lw_lv b xo gm oo i) 1701 []) : hv_V p l e room_1 s m args below meth c w 7 Q cells slots Y (lw_lv b xo gm oo i) 1396 [] := by
  obtain ⟨C, hlt, hX, hbl, hbw, hgm, ho1, ho2, hL⟩ := hc
  obtain ⟨hI, gc, Z, th, f, hg, hZ, hF, rfl, rfl⟩ := hY
  have hL31 : L < 2 ^ 31 := by omega
  refine hv_aload_n C dw_1396 rfl 1 rfl ?_
  refine lw_arg C hX hbl hbw 1 (by decide) (by omega) hL31 rfl rfl dw_1397 dw_1398 dw_1400 dw_1401 dw_1402 ?_
  refine hv_aload_n C dw_1403 rfl 3 rfl ?_
  refine hv_callSrH (As := [.ref (gc.1 0 0), .int (xs (i + 1)), .ref oo]) (rest := []) (n := 3) C (c_L_hops l w gc A Z (md_Y w gm A th (ob w oo f)) hg hlt hI hZ hF oo f ((md_oo ho1 ho2).trans ob_at) (xs (i + 1))) gL_law_L_hops rfl (by decide +kernel) ⟨(Nat.le_of_ble_eq_true rfl), (Nat.le_of_ble_eq_true rfl)⟩ rfl rfl (Nat.le_of_ble_eq_true rfl) dw_1404 ⟨by show cells + 6 ≤ 627379; omega, by show slots + 40 ≤ 7213967; omega⟩ (fun r Y1 hr => ?_)
  obtain ⟨rfl, h3, f', hf', hS⟩ := hr
  obtain ⟨gc', Z', hg', hZ', hF', hxo, rfl⟩ := lw_wr ho1 ho2 hS
  refine hv_istore (lv1 := [(0, .ref b), (1, .ref (gc.1 0 0)), (2, .ref gm.1), (3, .ref oo), (4, .int (nI i)), (5, .int (nI (q_barge A (xs (i + 1)) 19).1))]) C dw_1407 (by decide) [1, 2, 3, 4, 5, 0] rfl ?_
  refine hv_aload_n C dw_1409 rfl 2 rfl ?_
  refine lw_arg C hX hbl hbw 1 (by decide) (by omega) hL31 rfl rfl dw_1410 dw_1411 dw_1413 dw_1414 dw_1415 ?_
  refine hv_callVr (As := [.int (xs (i + 1))]) (rest := []) (n := 1) C (c_X5_hops l w gm hgm A th (cl_Y w gc' (q_barge A (xs (i + 1)) 19).2.2 Z' (ob w oo f')) (xs (i + 1)) (I15 hI)) gL_law_X5_hops rfl (by decide +kernel) ⟨(Nat.le_of_ble_eq_true rfl), (Nat.le_of_ble_eq_true rfl)⟩ (hv_rcO md_o rfl) rfl rfl (Nat.le_of_ble_eq_true rfl) dw_1416 ⟨by show cells + 6 + 0 ≤ 627379; omega, by show slots + 40 + 0 ≤ 7213967; omega⟩ (fun r Y1 hr => ?_)
  obtain ⟨rfl, rfl⟩ := hr
  refine lw_tailI (q := q_barge A (xs (i + 1)) 19) (f := f') C hgm h3 (by rw [md_oo ho1 ho2, cl_oat (cl_out (w := w) (A := A) (Z := Z') hF' ((md_oo ho1 ho2).trans ob_at))]; exact ob_at) hf' (by show cells + 6 + 0 ≤ 627379; omega) (by show slots + 40 + 0 ≤ 7213967; omega) dw_1419 dw_1421 dw_1422 dw_1425 dw_1427 dw_1432 dw_1434 dw_1437 dw_1438 dw_1439 dw_1440 dw_1442 dw_1443 dw_1444 dw_1449 (by decide) ?_
  exact hv_widen (k := cells + 410) (n := slots + 4100) (by show cells + 6 + 0 ≤ cells + 410; omega) (by show slots + 40 + 0 ≤ slots + 4100; omega) (K _ _ (lw_back (A := A) (th := th) (I_qbarge hI (xs (i + 1)) 19) hg' hZ' hF' hxo))
set_option maxRecDepth 100000 in
set_option maxHeartbeats 1000000 in
theorem lw_c25 {p : Program} {l : Launch} {e : Env} {s : State} {m : MethodId} {args : Array Value} {below : List Frame} {meth : Method} {c : Code} {w : hv_W} {Q : State → Prop} {cells slots : Nat} {Y : hv_H} {xs : Nat → Int32} {b L i xo oo : Nat} {gm : md_g} {A : ab_A} (hc : lw_cx p l s m args meth c w b L xs gm oo) (hi : i + 4 < L) (hY : lw_I w xo gm oo A Y) (hcs : cells + 410 ≤ 627379) (hss : slots + 4100 ≤ 7213967) (K : ∀ (A1 : ab_A) (Y1 : hv_H), lw_I w xo gm oo A1 Y1 → hv_V p l e room_1 s m args below meth c w 7 Q (cells + 410) (slots + 4100) Y1 (lw_lv b xo gm oo i) 1701 []) : hv_V p l e room_1 s m args below meth c w 7 Q cells slots Y (lw_lv b xo gm oo i) 1452 [] := by
  obtain ⟨C, hlt, hX, hbl, hbw, hgm, ho1, ho2, hL⟩ := hc
  obtain ⟨hI, gc, Z, th, f, hg, hZ, hF, rfl, rfl⟩ := hY
  have hL31 : L < 2 ^ 31 := by omega
  refine hv_aload_n C dw_1452 rfl 1 rfl ?_
  refine lw_arg C hX hbl hbw 1 (by decide) (by omega) hL31 rfl rfl dw_1453 dw_1454 dw_1456 dw_1457 dw_1458 ?_
  refine hv_aload_n C dw_1459 rfl 3 rfl ?_
  refine hv_callSrH (As := [.ref (gc.1 0 0), .int (xs (i + 1)), .ref oo]) (rest := []) (n := 3) C (c_L_life l w gc A Z (md_Y w gm A th (ob w oo f)) hg hlt hI hZ hF oo f ((md_oo ho1 ho2).trans ob_at) (xs (i + 1))) gL_law_L_life rfl (by decide +kernel) ⟨(Nat.le_of_ble_eq_true rfl), (Nat.le_of_ble_eq_true rfl)⟩ rfl rfl (Nat.le_of_ble_eq_true rfl) dw_1460 ⟨by show cells + 6 ≤ 627379; omega, by show slots + 40 ≤ 7213967; omega⟩ (fun r Y1 hr => ?_)
  obtain ⟨rfl, h3, f', hf', hS⟩ := hr
  obtain ⟨gc', Z', hg', hZ', hF', hxo, rfl⟩ := lw_wr ho1 ho2 hS
  refine hv_istore (lv1 := [(0, .ref b), (1, .ref (gc.1 0 0)), (2, .ref gm.1), (3, .ref oo), (4, .int (nI i)), (5, .int (nI (q_barge A (xs (i + 1)) 18).1))]) C dw_1463 (by decide) [1, 2, 3, 4, 5, 0] rfl ?_
  refine hv_aload_n C dw_1465 rfl 2 rfl ?_
  refine lw_arg C hX hbl hbw 1 (by decide) (by omega) hL31 rfl rfl dw_1466 dw_1467 dw_1469 dw_1470 dw_1471 ?_
  refine hv_callVr (As := [.int (xs (i + 1))]) (rest := []) (n := 1) C (c_X5_life l w gm hgm A th (cl_Y w gc' (q_barge A (xs (i + 1)) 18).2.2 Z' (ob w oo f')) (xs (i + 1)) (I15 hI)) gL_law_X5_life rfl (by decide +kernel) ⟨(Nat.le_of_ble_eq_true rfl), (Nat.le_of_ble_eq_true rfl)⟩ (hv_rcO md_o rfl) rfl rfl (Nat.le_of_ble_eq_true rfl) dw_1472 ⟨by show cells + 6 + 0 ≤ 627379; omega, by show slots + 40 + 0 ≤ 7213967; omega⟩ (fun r Y1 hr => ?_)
  obtain ⟨rfl, rfl⟩ := hr
  refine lw_tailI (q := q_barge A (xs (i + 1)) 18) (f := f') C hgm h3 (by rw [md_oo ho1 ho2, cl_oat (cl_out (w := w) (A := A) (Z := Z') hF' ((md_oo ho1 ho2).trans ob_at))]; exact ob_at) hf' (by show cells + 6 + 0 ≤ 627379; omega) (by show slots + 40 + 0 ≤ 7213967; omega) dw_1475 dw_1477 dw_1478 dw_1481 dw_1483 dw_1488 dw_1490 dw_1493 dw_1494 dw_1495 dw_1496 dw_1498 dw_1499 dw_1500 dw_1505 (by decide) ?_
  exact hv_widen (k := cells + 410) (n := slots + 4100) (by show cells + 6 + 0 ≤ cells + 410; omega) (by show slots + 40 + 0 ≤ slots + 4100; omega) (K _ _ (lw_back (A := A) (th := th) (I_qbarge hI (xs (i + 1)) 18) hg' hZ' hF' hxo))
set_option maxRecDepth 100000 in
set_option maxHeartbeats 1000000 in
theorem lw_c26 {p : Program} {l : Launch} {e : Env} {s : State} {m : MethodId} {args : Array Value} {below : List Frame} {meth : Method} {c : Code} {w : hv_W} {Q : State → Prop} {cells slots : Nat} {Y : hv_H} {xs : Nat → Int32} {b L i xo oo : Nat} {gm : md_g} {A : ab_A} (hc : lw_cx p l s m args meth c w b L xs gm oo) (hi : i + 4 < L) (hY : lw_I w xo gm oo A Y) (hcs : cells + 410 ≤ 627379) (hss : slots + 4100 ≤ 7213967) (K : ∀ (A1 : ab_A) (Y1 : hv_H), lw_I w xo gm oo A1 Y1 → hv_V p l e room_1 s m args below meth c w 7 Q (cells + 410) (slots + 4100) Y1 (lw_lv b xo gm oo i) 1701 []) : hv_V p l e room_1 s m args below meth c w 7 Q cells slots Y (lw_lv b xo gm oo i) 1508 [] := by
  obtain ⟨C, hlt, hX, hbl, hbw, hgm, ho1, ho2, hL⟩ := hc
  obtain ⟨hI, gc, Z, th, f, hg, hZ, hF, rfl, rfl⟩ := hY
  have hL31 : L < 2 ^ 31 := by omega
  refine hv_aload_n C dw_1508 rfl 1 rfl ?_
  refine lw_arg C hX hbl hbw 1 (by decide) (by omega) hL31 rfl rfl dw_1509 dw_1510 dw_1512 dw_1513 dw_1514 ?_
  refine hv_aload_n C dw_1515 rfl 3 rfl ?_
  refine hv_callSrH (As := [.ref (gc.1 0 0), .int (xs (i + 1)), .ref oo]) (rest := []) (n := 3) C (c_L_repeats l w gc A Z (md_Y w gm A th (ob w oo f)) hg hlt hI hZ hF oo f ((md_oo ho1 ho2).trans ob_at) (xs (i + 1))) gL_law_L_repeats rfl (by decide +kernel) ⟨(Nat.le_of_ble_eq_true rfl), (Nat.le_of_ble_eq_true rfl)⟩ rfl rfl (Nat.le_of_ble_eq_true rfl) dw_1516 ⟨by show cells + 6 ≤ 627379; omega, by show slots + 40 ≤ 7213967; omega⟩ (fun r Y1 hr => ?_)
  obtain ⟨rfl, h3, f', hf', hS⟩ := hr
  obtain ⟨gc', Z', hg', hZ', hF', hxo, rfl⟩ := lw_wr ho1 ho2 hS
  refine hv_istore (lv1 := [(0, .ref b), (1, .ref (gc.1 0 0)), (2, .ref gm.1), (3, .ref oo), (4, .int (nI i)), (5, .int (nI (q_barge A (xs (i + 1)) 20).1))]) C dw_1519 (by decide) [1, 2, 3, 4, 5, 0] rfl ?_
  refine hv_aload_n C dw_1521 rfl 2 rfl ?_
  refine lw_arg C hX hbl hbw 1 (by decide) (by omega) hL31 rfl rfl dw_1522 dw_1523 dw_1525 dw_1526 dw_1527 ?_
  refine hv_callVr (As := [.int (xs (i + 1))]) (rest := []) (n := 1) C (c_X5_repeats l w gm hgm A th (cl_Y w gc' (q_barge A (xs (i + 1)) 20).2.2 Z' (ob w oo f')) (xs (i + 1)) (I15 hI)) gL_law_X5_repeats rfl (by decide +kernel) ⟨(Nat.le_of_ble_eq_true rfl), (Nat.le_of_ble_eq_true rfl)⟩ (hv_rcO md_o rfl) rfl rfl (Nat.le_of_ble_eq_true rfl) dw_1528 ⟨by show cells + 6 + 0 ≤ 627379; omega, by show slots + 40 + 0 ≤ 7213967; omega⟩ (fun r Y1 hr => ?_)
  obtain ⟨rfl, rfl⟩ := hr
  refine lw_tailI (q := q_barge A (xs (i + 1)) 20) (f := f') C hgm h3 (by rw [md_oo ho1 ho2, cl_oat (cl_out (w := w) (A := A) (Z := Z') hF' ((md_oo ho1 ho2).trans ob_at))]; exact ob_at) hf' (by show cells + 6 + 0 ≤ 627379; omega) (by show slots + 40 + 0 ≤ 7213967; omega) dw_1531 dw_1533 dw_1534 dw_1537 dw_1539 dw_1544 dw_1546 dw_1549 dw_1550 dw_1551 dw_1552 dw_1554 dw_1555 dw_1556 dw_1561 (by decide) ?_
  exact hv_widen (k := cells + 410) (n := slots + 4100) (by show cells + 6 + 0 ≤ cells + 410; omega) (by show slots + 40 + 0 ≤ slots + 4100; omega) (K _ _ (lw_back (A := A) (th := th) (I_qbarge hI (xs (i + 1)) 20) hg' hZ' hF' hxo))
set_option maxRecDepth 100000 in
set_option maxHeartbeats 1000000 in
theorem lw_c27 {p : Program} {l : Launch} {e : Env} {s : State} {m : MethodId} {args : Array Value} {below : List Frame} {meth : Method} {c : Code} {w : hv_W} {Q : State → Prop} {cells slots : Nat} {Y : hv_H} {xs : Nat → Int32} {b L i xo oo : Nat} {gm : md_g} {A : ab_A} (hc : lw_cx p l s m args meth c w b L xs gm oo) (hi : i + 4 < L) (hY : lw_I w xo gm oo A Y) (hcs : cells + 410 ≤ 627379) (hss : slots + 4100 ≤ 7213967) (K : ∀ (A1 : ab_A) (Y1 : hv_H), lw_I w xo gm oo A1 Y1 → hv_V p l e room_1 s m args below meth c w 7 Q (cells + 410) (slots + 4100) Y1 (lw_lv b xo gm oo i) 1701 []) : hv_V p l e room_1 s m args below meth c w 7 Q cells slots Y (lw_lv b xo gm oo i) 1564 [] := by
  obtain ⟨C, hlt, hX, hbl, hbw, hgm, ho1, ho2, hL⟩ := hc
  obtain ⟨hI, gc, Z, th, f, hg, hZ, hF, rfl, rfl⟩ := hY
  have hL31 : L < 2 ^ 31 := by omega
  refine hv_aload_n C dw_1564 rfl 1 rfl ?_
  refine lw_arg C hX hbl hbw 1 (by decide) (by omega) hL31 rfl rfl dw_1565 dw_1566 dw_1568 dw_1569 dw_1570 ?_
  refine hv_aload_n C dw_1571 rfl 3 rfl ?_
  refine hv_callSrH (As := [.ref (gc.1 0 0), .int (xs (i + 1)), .ref oo]) (rest := []) (n := 3) C (c_L_queue l w gc A Z (md_Y w gm A th (ob w oo f)) hg hlt hI hZ hF oo f ((md_oo ho1 ho2).trans ob_at) (xs (i + 1))) gL_law_L_queue rfl (by decide +kernel) ⟨(Nat.le_of_ble_eq_true rfl), (Nat.le_of_ble_eq_true rfl)⟩ rfl rfl (Nat.le_of_ble_eq_true rfl) dw_1572 ⟨by show cells + 6 ≤ 627379; omega, by show slots + 40 ≤ 7213967; omega⟩ (fun r Y1 hr => ?_)
  obtain ⟨rfl, h3, f', hf', hS⟩ := hr
  obtain ⟨gc', Z', hg', hZ', hF', hxo, rfl⟩ := lw_wr ho1 ho2 hS
  refine hv_istore (lv1 := [(0, .ref b), (1, .ref (gc.1 0 0)), (2, .ref gm.1), (3, .ref oo), (4, .int (nI i)), (5, .int (nI (q_queue A (xs (i + 1))).1))]) C dw_1575 (by decide) [1, 2, 3, 4, 5, 0] rfl ?_
  refine hv_aload_n C dw_1577 rfl 2 rfl ?_
  refine lw_arg C hX hbl hbw 1 (by decide) (by omega) hL31 rfl rfl dw_1578 dw_1579 dw_1581 dw_1582 dw_1583 ?_
  refine hv_callVr (As := [.int (xs (i + 1))]) (rest := []) (n := 1) C (c_X5_queue l w gm hgm A th (cl_Y w gc' (q_queue A (xs (i + 1))).2.2 Z' (ob w oo f')) (xs (i + 1)) ) gL_law_X5_queue rfl (by decide +kernel) ⟨(Nat.le_of_ble_eq_true rfl), (Nat.le_of_ble_eq_true rfl)⟩ (hv_rcO md_o rfl) rfl rfl (Nat.le_of_ble_eq_true rfl) dw_1584 ⟨by show cells + 6 + 0 ≤ 627379; omega, by show slots + 40 + 0 ≤ 7213967; omega⟩ (fun r Y1 hr => ?_)
  obtain ⟨rfl, rfl⟩ := hr
  refine lw_tailI (q := q_queue A (xs (i + 1))) (f := f') C hgm h3 (by rw [md_oo ho1 ho2, cl_oat (cl_out (w := w) (A := A) (Z := Z') hF' ((md_oo ho1 ho2).trans ob_at))]; exact ob_at) hf' (by show cells + 6 + 0 ≤ 627379; omega) (by show slots + 40 + 0 ≤ 7213967; omega) dw_1587 dw_1589 dw_1590 dw_1593 dw_1595 dw_1600 dw_1602 dw_1605 dw_1606 dw_1607 dw_1608 dw_1610 dw_1611 dw_1612 dw_1617 (by decide) ?_
  exact hv_widen (k := cells + 410) (n := slots + 4100) (by show cells + 6 + 0 ≤ cells + 410; omega) (by show slots + 40 + 0 ≤ slots + 4100; omega) (K _ _ (lw_back (A := A) (th := th) (I_qqueue hI (xs (i + 1))) hg' hZ' hF' hxo))
set_option maxRecDepth 100000 in
set_option maxHeartbeats 1000000 in
theorem lw_c28 {p : Program} {l : Launch} {e : Env} {s : State} {m : MethodId} {args : Array Value} {below : List Frame} {meth : Method} {c : Code} {w : hv_W} {Q : State → Prop} {cells slots : Nat} {Y : hv_H} {xs : Nat → Int32} {b L i xo oo : Nat} {gm : md_g} {A : ab_A} (hc : lw_cx p l s m args meth c w b L xs gm oo) (hi : i + 4 < L) (hY : lw_I w xo gm oo A Y) (hcs : cells + 410 ≤ 627379) (hss : slots + 4100 ≤ 7213967) (K : ∀ (A1 : ab_A) (Y1 : hv_H), lw_I w xo gm oo A1 Y1 → hv_V p l e room_1 s m args below meth c w 7 Q (cells + 410) (slots + 4100) Y1 (lw_lv b xo gm oo i) 1701 []) : hv_V p l e room_1 s m args below meth c w 7 Q cells slots Y (lw_lv b xo gm oo i) 1620 [] := by
  obtain ⟨C, hlt, hX, hbl, hbw, hgm, ho1, ho2, hL⟩ := hc
  obtain ⟨hI, gc, Z, th, f, hg, hZ, hF, rfl, rfl⟩ := hY
  have hL31 : L < 2 ^ 31 := by omega
  refine hv_aload_n C dw_1620 rfl 1 rfl ?_
  refine lw_arg C hX hbl hbw 1 (by decide) (by omega) hL31 rfl rfl dw_1621 dw_1622 dw_1624 dw_1625 dw_1626 ?_
  refine lw_arg C hX hbl hbw 2 (by decide) (by omega) hL31 rfl rfl dw_1627 dw_1628 dw_1630 dw_1631 dw_1632 ?_
  refine hv_aload_n C dw_1633 rfl 3 rfl ?_
  refine hv_callSrH (As := [.ref (gc.1 0 0), .int (xs (i + 1)), .int (xs (i + 2)), .ref oo]) (rest := []) (n := 4) C (c_L_queued l w gc A Z (md_Y w gm A th (ob w oo f)) hg hlt hI hZ hF oo f ((md_oo ho1 ho2).trans ob_at) (xs (i + 1)) (xs (i + 2))) gL_law_L_queued rfl (by decide +kernel) ⟨(Nat.le_of_ble_eq_true rfl), (Nat.le_of_ble_eq_true rfl)⟩ rfl rfl (Nat.le_of_ble_eq_true rfl) dw_1634 ⟨by show cells + 6 ≤ 627379; omega, by show slots + 40 ≤ 7213967; omega⟩ (fun r Y1 hr => ?_)
  obtain ⟨rfl, h3, f', hf', hS⟩ := hr
  obtain ⟨gc', Z', hg', hZ', hF', hxo, rfl⟩ := lw_wr ho1 ho2 hS
  refine hv_istore (lv1 := [(0, .ref b), (1, .ref (gc.1 0 0)), (2, .ref gm.1), (3, .ref oo), (4, .int (nI i)), (5, .int (nI (q_queued A (xs (i + 1)) (xs (i + 2))).1))]) C dw_1637 (by decide) [1, 2, 3, 4, 5, 0] rfl ?_
  refine hv_aload_n C dw_1639 rfl 2 rfl ?_
  refine lw_arg C hX hbl hbw 1 (by decide) (by omega) hL31 rfl rfl dw_1640 dw_1641 dw_1643 dw_1644 dw_1645 ?_
  refine lw_arg C hX hbl hbw 2 (by decide) (by omega) hL31 rfl rfl dw_1646 dw_1647 dw_1649 dw_1650 dw_1651 ?_
  refine hv_callVr (As := [.int (xs (i + 1)), .int (xs (i + 2))]) (rest := []) (n := 2) C (c_X5_queued l w gm hgm A th (cl_Y w gc' (q_queued A (xs (i + 1)) (xs (i + 2))).2.2 Z' (ob w oo f')) (xs (i + 1)) (xs (i + 2)) (I2 hI)) gL_law_X5_queued rfl (by decide +kernel) ⟨(Nat.le_of_ble_eq_true rfl), (Nat.le_of_ble_eq_true rfl)⟩ (hv_rcO md_o rfl) rfl rfl (Nat.le_of_ble_eq_true rfl) dw_1652 ⟨by show cells + 6 + 0 ≤ 627379; omega, by show slots + 40 + 0 ≤ 7213967; omega⟩ (fun r Y1 hr => ?_)
  obtain ⟨rfl, rfl⟩ := hr
  refine lw_tailI (q := q_queued A (xs (i + 1)) (xs (i + 2))) (f := f') C hgm h3 (by rw [md_oo ho1 ho2, cl_oat (cl_out (w := w) (A := A) (Z := Z') hF' ((md_oo ho1 ho2).trans ob_at))]; exact ob_at) hf' (by show cells + 6 + 0 ≤ 627379; omega) (by show slots + 40 + 0 ≤ 7213967; omega) dw_1655 dw_1657 dw_1658 dw_1661 dw_1663 dw_1668 dw_1670 dw_1673 dw_1674 dw_1675 dw_1676 dw_1678 dw_1679 dw_1680 dw_1685 (by decide) ?_
  exact hv_widen (k := cells + 410) (n := slots + 4100) (by show cells + 6 + 0 ≤ cells + 410; omega) (by show slots + 40 + 0 ≤ slots + 4100; omega) (K _ _ (lw_back (A := A) (th := th) (I_qqueued hI (xs (i + 1)) (xs (i + 2))) hg' hZ' hF' hxo))
set_option maxRecDepth 100000 in
set_option maxHeartbeats 1000000 in
theorem lw_c29 {p : Program} {l : Launch} {e : Env} {s : State} {m : MethodId} {args : Array Value} {below : List Frame} {meth : Method} {c : Code} {w : hv_W} {Q : State → Prop} {cells slots : Nat} {Y : hv_H} {xs : Nat → Int32} {b L i xo oo : Nat} {gm : md_g} {A : ab_A} (hc : lw_cx p l s m args meth c w b L xs gm oo) (hi : i + 4 < L) (hY : lw_I w xo gm oo A Y) (hcs : cells + 410 ≤ 627379) (hss : slots + 4100 ≤ 7213967) (K : ∀ (A1 : ab_A) (Y1 : hv_H), lw_I w xo gm oo A1 Y1 → hv_V p l e room_1 s m args below meth c w 7 Q (cells + 410) (slots + 4100) Y1 (lw_lv b xo gm oo i) 1701 []) : hv_V p l e room_1 s m args below meth c w 7 Q cells slots Y (lw_lv b xo gm oo i) 1688 [] := by
  obtain ⟨C, hlt, hX, hbl, hbw, hgm, ho1, ho2, hL⟩ := hc
  obtain ⟨hI, gc, Z, th, f, hg, hZ, hF, rfl, rfl⟩ := hY
  refine hv_aload_n C dw_1688 rfl 1 rfl ?_
  refine hv_callVr (As := []) (rest := []) (n := 0) C (c_X4_laidBy l w gc A Z (md_Y w gm A th (ob w oo f)) hg hI) gL_law_X4_laidBy rfl (by decide +kernel) ⟨(Nat.le_of_ble_eq_true rfl), (Nat.le_of_ble_eq_true rfl)⟩ (cl_rc hg (Or.inl ⟨by decide, rfl⟩) rfl rfl) rfl rfl (Nat.le_of_ble_eq_true rfl) dw_1689 ⟨by show cells + 0 ≤ 627379; omega, by show slots + 0 ≤ 7213967; omega⟩ (fun r Y1 hr => ?_)
  obtain ⟨rfl, rfl⟩ := hr
  refine hv_eqY (md_sw hF) ?_
  refine hv_aload_n C dw_1692 rfl 2 rfl ?_
  refine hv_callVr (As := []) (rest := [.int (nI (f_laid A (A 15 0)))]) (n := 0) C (c_X5_laidBy l w gm hgm A th (cl_Y w gc A Z (ob w oo f)) (I15 hI) (I21 hI)) gL_law_X5_laidBy rfl (by decide +kernel) ⟨(Nat.le_of_ble_eq_true rfl), (Nat.le_of_ble_eq_true rfl)⟩ (hv_rcO md_o rfl) rfl rfl (Nat.le_of_ble_eq_true rfl) dw_1693 ⟨by show cells + 0 + 0 ≤ 627379; omega, by show slots + 0 + 0 ≤ 7213967; omega⟩ (fun r Y1 hr => ?_)
  obtain ⟨rfl, rfl⟩ := hr
  refine hv_icmp_eq (tgt := 1701) C dw_1696 (by decide) (fun _ => ?_) (fun h => absurd rfl h)
  exact hv_widen (k := cells + 410) (n := slots + 4100) (by show cells + 0 + 0 ≤ cells + 410; omega) (by show slots + 0 + 0 ≤ slots + 4100; omega) (K A _ (lw_back (A := A) (th := th) hI hg hZ hF rfl))
