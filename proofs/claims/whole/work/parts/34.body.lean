/-! THE LAW'S BODY -/
section LE
variable {p : Program} {l : Launch} {e : Env} {s : State} {m : MethodId} {below : List Frame} {meth : Method} {c : Code} {w : hv_W} {cells slots : Nat} {Y : hv_H} {lv : List (Nat × Value)} {pc : Nat} {Ts : List Cond} {xs : Nat → Int32} {b L : Nat}
theorem hv_lwret (C : hv_C RL code 7 Ts w p s m #[Value.ref b] meth c) (hr : meth.sig.returnType = ret) (hbw : hv_b w = s.heap.size) (hcs : cells ≤ 627379) (hss : slots ≤ 7213967) (hdg : decode code pc = .ok (.ireturn, 1)) : hv_V p l e room_1 s m #[Value.ref b] below meth c w 7 (lw_Z below #[Value.ref b] s) cells slots Y lv pc [.int 1] := fun H locs ls hR hS hl =>
  va_forget (fun q hq => by rw [← hbw]; exact hS.2.2 q hq) (W.widen hcs hss (lw_ret C.1 C.2.1 hr C.2.2.2.2.2.1 hdg))
theorem lw_cmpT (hL : L ≤ 2560) : nI L - nI 5 < nI (5 * (L / 5)) := by
  by_cases h : 5 ≤ L
  · rw [pk_sub h]
    exact (nI_ltI (by omega) (by omega)).mpr (by omega)
  · rcases (show L = 0 ∨ L = 1 ∨ L = 2 ∨ L = 3 ∨ L = 4 from by omega) with rfl | rfl | rfl | rfl | rfl <;> decide
theorem lw_cmpF {k : Nat} (hL : L ≤ 2560) (hk : k < L / 5) : ¬ nI L - nI 5 < nI (5 * k) := by
  have h : 5 ≤ L := by omega
  rw [pk_sub h]
  intro q
  have := (nI_ltI (by omega) (by omega)).mp q
  omega
theorem md_base {g : md_g} {A : ab_A} {th : Nat} {Y0 : hv_H} {e0 : hv_E} : md_Y w g A th (hv_up Y0 g.1 e0) = md_Y w g A th Y0 := by
  funext a
  unfold md_Y
  by_cases ha : a = g.1
  · rw [if_pos ha, if_pos ha]
  · rw [if_neg ha, if_neg ha]
    cases z : g.2.2 a with
    | none => exact hv_up_n ha
    | some k => rfl
theorem md_none {g : md_g} {A : ab_A} {th a : Nat} {Y0 : hv_H} (h : md_Y w g A th Y0 a = none) : a ≠ g.1 ∧ g.2.2 a = none ∧ Y0 a = none := by
  unfold md_Y at h
  by_cases ha : a = g.1
  · rw [if_pos ha] at h
    cases h
  · rw [if_neg ha] at h
    cases z : g.2.2 a with
    | none => rw [z] at h; exact ⟨ha, rfl, h⟩
    | some k => rw [z] at h; cases h
set_option maxRecDepth 100000 in
set_option maxHeartbeats 1000000 in
/-- the loop over the script -/
theorem lw_loop {gm : md_g} {xo oo : Nat} (hc : lw_cx p l s m #[Value.ref b] meth c w b L xs gm oo) (hr : meth.sig.returnType = ret) {A0 : ab_A} (hY0 : lw_I w xo gm oo A0 Y) : hv_V p l e room_1 s m #[Value.ref b] below meth c w 7 (lw_Z below #[Value.ref b] s) (130 + 410 * 0) (1300 + 4100 * 0) Y (lw_lv b xo gm oo (5 * 0)) 23 [] := by
  obtain ⟨C, hlt, hX, hbl, hbw, hgm, ho1, ho2, hL⟩ := id hc
  refine hv_loopG (σ := hv_H) (L / 5) (fun k => 130 + 410 * k) (fun k => 1300 + 4100 * k) (fun _ Y => Y) (fun k _ => lw_lv b xo gm oo (5 * k)) (fun _ Y => ∃ A, lw_I w xo gm oo A Y) ?_ ?_ Y ⟨A0, hY0⟩
  · rintro Y -
    refine hv_iload C dw_23 4 rfl ?_
    refine hv_aload_n C dw_25 rfl 0 rfl ?_
    refine hv_slen C hX hbl hbw dw_26 ?_
    refine hv_iconst (v := nI 5) C dw_27 (by decide) ?_
    refine hv_isub C dw_28 ?_
    refine hv_icmp_gt (tgt := 1707) C dw_29 (by decide) (fun _ => ?_) (fun h => absurd (lw_cmpT hL) h)
    refine hv_iconst (v := 1) C dw_1707 (by decide) ?_
    exact hv_lwret C hr hbw (by show 130 + 410 * (L / 5) ≤ 627379; omega) (by show 1300 + 4100 * (L / 5) ≤ 7213967; omega) dw_1708
  · rintro k Y hk ⟨A, hY⟩ ih
    have hi4 : 5 * k + 4 < L := by omega
    have hcs : 130 + 410 * k + 410 ≤ 627379 := by omega
    have hss : 1300 + 4100 * k + 4100 ≤ 7213967 := by omega
    have K : ∀ (A1 : ab_A) (Y1 : hv_H), lw_I w xo gm oo A1 Y1 → hv_V p l e room_1 s m #[Value.ref b] below meth c w 7 (lw_Z below #[Value.ref b] s) (130 + 410 * k + 410) (1300 + 4100 * k + 4100) Y1 (lw_lv b xo gm oo (5 * k)) 1701 [] := by
      intro A1 Y1 h1
      refine hv_iinc (v := nI (5 * (k + 1))) (lv1 := lw_lv b xo gm oo (5 * (k + 1))) C dw_1701 (k := 4) rfl (nI_add _ 5) (by decide) [1, 2, 3, 4, 0] rfl ?_
      refine hv_goto (tgt := 23) C dw_1704 (by decide) ?_
      exact hv_widen (k := 130 + 410 * (k + 1)) (n := 1300 + 4100 * (k + 1)) (by omega) (by omega) (ih Y1 ⟨A1, h1⟩)
    refine hv_iload C dw_23 4 rfl ?_
    refine hv_aload_n C dw_25 rfl 0 rfl ?_
    refine hv_slen C hX hbl hbw dw_26 ?_
    refine hv_iconst (v := nI 5) C dw_27 (by decide) ?_
    refine hv_isub C dw_28 ?_
    refine hv_icmp_gt (tgt := 1707) C dw_29 (by decide) (fun h => absurd h (lw_cmpF hL hk)) (fun _ => ?_)
    refine hv_aload_n C dw_32 rfl 0 rfl ?_
    refine hv_iload C dw_33 4 rfl ?_
    refine hv_sld C hX hbl hbw (by omega) (by omega) dw_35 ?_
    refine hv_bipush (v := 31) C dw_36 (by decide) ?_
    refine hv_iand C dw_38 ?_
    obtain ⟨j, hj, hxj⟩ := pk_andE (xs (5 * k)) (m := 31) 5 (by decide)
    refine hv_top hxj ?_
    clear hxj
    rcases (show j = 0 ∨ j = 1 ∨ j = 2 ∨ j = 3 ∨ j = 4 ∨ j = 5 ∨ j = 6 ∨ j = 7 ∨ j = 8 ∨ j = 9 ∨ j = 10 ∨ j = 11 ∨ j = 12 ∨ j = 13 ∨ j = 14 ∨ j = 15 ∨ j = 16 ∨ j = 17 ∨ j = 18 ∨ j = 19 ∨ j = 20 ∨ j = 21 ∨ j = 22 ∨ j = 23 ∨ j = 24 ∨ j = 25 ∨ j = 26 ∨ j = 27 ∨ j = 28 ∨ j = 29 ∨ j = 30 ∨ j = 31 from by omega) with rfl | rfl | rfl | rfl | rfl | rfl | rfl | rfl | rfl | rfl | rfl | rfl | rfl | rfl | rfl | rfl | rfl | rfl | rfl | rfl | rfl | rfl | rfl | rfl | rfl | rfl | rfl | rfl | rfl | rfl | rfl | rfl
    · exact hv_tableIn (off := 133) (tgt := 172) C dw_39 (by decide) (by decide) rfl (by decide) (lw_c0 hc hi4 hY hcs hss K)
    · exact hv_tableIn (off := 225) (tgt := 264) C dw_39 (by decide) (by decide) rfl (by decide) (lw_c1 hc hi4 hY hcs hss K)
    · exact hv_tableIn (off := 316) (tgt := 355) C dw_39 (by decide) (by decide) rfl (by decide) (lw_c2 hc hi4 hY hcs hss K)
    · exact hv_tableIn (off := 384) (tgt := 423) C dw_39 (by decide) (by decide) rfl (by decide) (lw_c3 hc hi4 hY hcs hss K)
    · exact hv_tableIn (off := 452) (tgt := 491) C dw_39 (by decide) (by decide) rfl (by decide) (lw_c4 hc hi4 hY hcs hss K)
    · exact hv_tableIn (off := 508) (tgt := 547) C dw_39 (by decide) (by decide) rfl (by decide) (lw_c5 hc hi4 hY hcs hss K)
    · exact hv_tableIn (off := 564) (tgt := 603) C dw_39 (by decide) (by decide) rfl (by decide) (lw_c6 hc hi4 hY hcs hss K)
    · exact hv_tableIn (off := 644) (tgt := 683) C dw_39 (by decide) (by decide) rfl (by decide) (lw_c7 hc hi4 hY hcs hss K)
    · exact hv_tableIn (off := 700) (tgt := 739) C dw_39 (by decide) (by decide) rfl (by decide) (lw_c8 hc hi4 hY hcs hss K)
    · exact hv_tableIn (off := 713) (tgt := 752) C dw_39 (by decide) (by decide) rfl (by decide) (lw_c9 hc hi4 hY hcs hss K)
    · exact hv_tableIn (off := 769) (tgt := 808) C dw_39 (by decide) (by decide) rfl (by decide) (lw_c10 hc hi4 hY hcs hss K)
    · exact hv_tableIn (off := 782) (tgt := 821) C dw_39 (by decide) (by decide) rfl (by decide) (lw_c11 hc hi4 hY hcs hss K)
    · exact hv_tableIn (off := 795) (tgt := 834) C dw_39 (by decide) (by decide) rfl (by decide) (lw_c12 hc hi4 hY hcs hss K)
    · exact hv_tableIn (off := 851) (tgt := 890) C dw_39 (by decide) (by decide) rfl (by decide) (lw_c13 hc hi4 hY hcs hss K)
    · exact hv_tableIn (off := 914) (tgt := 953) C dw_39 (by decide) (by decide) rfl (by decide) (lw_c14 hc hi4 hY hcs hss K)
    · exact hv_tableIn (off := 982) (tgt := 1021) C dw_39 (by decide) (by decide) rfl (by decide) (lw_c15 hc hi4 hY hcs hss K)
    · exact hv_tableIn (off := 1050) (tgt := 1089) C dw_39 (by decide) (by decide) rfl (by decide) (lw_c16 hc hi4 hY hcs hss K)
    · exact hv_tableIn (off := 1063) (tgt := 1102) C dw_39 (by decide) (by decide) rfl (by decide) (lw_c17 hc hi4 hY hcs hss K)
    · exact hv_tableIn (off := 1131) (tgt := 1170) C dw_39 (by decide) (by decide) rfl (by decide) (lw_c18 hc hi4 hY hcs hss K)
    · exact hv_tableIn (off := 1206) (tgt := 1245) C dw_39 (by decide) (by decide) rfl (by decide) (lw_c19 hc hi4 hY hcs hss K)
    · exact hv_tableIn (off := 1219) (tgt := 1258) C dw_39 (by decide) (by decide) rfl (by decide) (lw_c20 hc hi4 hY hcs hss K)
    · exact hv_tableIn (off := 1232) (tgt := 1271) C dw_39 (by decide) (by decide) rfl (by decide) (lw_c21 hc hi4 hY hcs hss K)
    · exact hv_tableIn (off := 1245) (tgt := 1284) C dw_39 (by decide) (by decide) rfl (by decide) (lw_c22 hc hi4 hY hcs hss K)
    · exact hv_tableIn (off := 1301) (tgt := 1340) C dw_39 (by decide) (by decide) rfl (by decide) (lw_c23 hc hi4 hY hcs hss K)
    · exact hv_tableIn (off := 1357) (tgt := 1396) C dw_39 (by decide) (by decide) rfl (by decide) (lw_c24 hc hi4 hY hcs hss K)
    · exact hv_tableIn (off := 1413) (tgt := 1452) C dw_39 (by decide) (by decide) rfl (by decide) (lw_c25 hc hi4 hY hcs hss K)
    · exact hv_tableIn (off := 1469) (tgt := 1508) C dw_39 (by decide) (by decide) rfl (by decide) (lw_c26 hc hi4 hY hcs hss K)
    · exact hv_tableIn (off := 1525) (tgt := 1564) C dw_39 (by decide) (by decide) rfl (by decide) (lw_c27 hc hi4 hY hcs hss K)
    · exact hv_tableIn (off := 1581) (tgt := 1620) C dw_39 (by decide) (by decide) rfl (by decide) (lw_c28 hc hi4 hY hcs hss K)
    · exact hv_tableIn (off := 1649) (tgt := 1688) C dw_39 (by decide) (by decide) rfl (by decide) (lw_c29 hc hi4 hY hcs hss K)
    · exact hv_tableOut (tgt := 1701) C dw_39 (by decide) (by decide) (hv_widen (k := 130 + 410 * k + 410) (n := 1300 + 4100 * k + 4100) (by omega) (by omega) (K A Y hY))
    · exact hv_tableOut (tgt := 1701) C dw_39 (by decide) (by decide) (hv_widen (k := 130 + 410 * k + 410) (n := 1300 + 4100 * k + 4100) (by omega) (by omega) (K A Y hY))
set_option maxRecDepth 100000 in
set_option maxHeartbeats 1000000 in
theorem lw_body (C : hv_C RL code 7 wsL_law w p s m #[Value.ref b] meth c) (hr : meth.sig.returnType = ret) (hlt : l.stackTraces = false) (hX : va_X b L xs s s.heap) (hbl : b < s.heap.size) (hbw : hv_b w = s.heap.size) (hL : L ≤ 2560) : hv_V p l e room_1 s m #[Value.ref b] below meth c w 7 (lw_Z below #[Value.ref b] s) 0 0 (fun _ => none) [(0, .ref b)] 0 [] := by
  refine hv_new (fs := [.null, .null, .null, .null, .int (nI 0), .int (nI 0)]) C inlX4 tyX4 tyX4_ok (by decide +kernel) (by decide +kernel) (by decide +kernel) (show vwCl[5]? = some (RX4, TX4, 6) from rfl) (fun j hj => by rcases (show j = 0 ∨ j = 1 ∨ j = 2 ∨ j = 3 ∨ j = 4 ∨ j = 5 from by omega) with rfl | rfl | rfl | rfl | rfl | rfl <;> rfl) (Nat.le_of_ble_eq_true rfl) (Nat.le_of_ble_eq_true rfl) dw_0 (fun q hq => ?_)
  refine hv_dup C dw_3 rfl ?_
  refine hv_callIv (As := []) (rest := [.ref q]) (n := 0) C (c_X4_init l w (fun _ => none) q rfl) gL_law_X4_init rfl (by decide +kernel) (by decide +kernel) (by decide +kernel) rfl (by decide +kernel) ⟨Nat.le_of_ble_eq_true rfl, Nat.le_of_ble_eq_true rfl⟩ rfl rfl (Nat.le_of_ble_eq_true rfl) dw_4 ⟨Nat.le_of_ble_eq_true rfl, Nat.le_of_ble_eq_true rfl⟩ (fun Y1 hr1 => ?_)
  obtain ⟨gc, Z, hg, hZ, hF, hxo, rfl⟩ := hr1
  refine hv_astore_n (lv1 := [(0, .ref b), (1, .ref q)]) C dw_7 rfl (by decide) [1, 0] rfl ?_
  refine hv_new (fs := cn_fs (fun _ => 0) 0) C inlX5 tyX5 tyX5_ok (by decide +kernel) (by decide +kernel) (by decide +kernel) (show vwCl[6]? = some (RX5, TX5, 26) from rfl) (fun j hj => by rcases (show j = 0 ∨ j = 1 ∨ j = 2 ∨ j = 3 ∨ j = 4 ∨ j = 5 ∨ j = 6 ∨ j = 7 ∨ j = 8 ∨ j = 9 ∨ j = 10 ∨ j = 11 ∨ j = 12 ∨ j = 13 ∨ j = 14 ∨ j = 15 ∨ j = 16 ∨ j = 17 ∨ j = 18 ∨ j = 19 ∨ j = 20 ∨ j = 21 ∨ j = 22 ∨ j = 23 ∨ j = 24 ∨ j = 25 from by omega) with rfl | rfl | rfl | rfl | rfl | rfl | rfl | rfl | rfl | rfl | rfl | rfl | rfl | rfl | rfl | rfl | rfl | rfl | rfl | rfl | rfl | rfl | rfl | rfl | rfl | rfl <;> rfl) (Nat.le_of_ble_eq_true rfl) (Nat.le_of_ble_eq_true rfl) dw_8 (fun q2 hq2 => ?_)
  refine hv_dup C dw_11 rfl ?_
  refine hv_callIv (As := []) (rest := [.ref q2]) (n := 0) C (c_X5_init l w _ q2 hv_up_s) gL_law_X5_init rfl (by decide +kernel) (by decide +kernel) (by decide +kernel) rfl (by decide +kernel) ⟨Nat.le_of_ble_eq_true rfl, Nat.le_of_ble_eq_true rfl⟩ rfl rfl (Nat.le_of_ble_eq_true rfl) dw_12 ⟨Nat.le_of_ble_eq_true rfl, Nat.le_of_ble_eq_true rfl⟩ (fun Y1 hr1 => ?_)
  obtain ⟨gm, hgm, rfl, hno, rfl⟩ := hr1
  refine hv_eqY md_base ?_
  refine hv_astore_n (lv1 := [(0, .ref b), (1, .ref q), (2, .ref gm.1)]) C dw_15 rfl (by decide) [1, 2, 0] rfl ?_
  refine hv_iconst (v := nI 1) C dw_16 (by decide) ?_
  refine hv_newl (N := 1) C (by decide +kernel) (by decide) (by decide) (by decide) (Nat.le_of_ble_eq_true rfl) (Nat.le_of_ble_eq_true rfl) dw_17 (fun q3 hq3 => ?_)
  obtain ⟨h1, h2, h3⟩ := md_none hq3
  have h4 : gc.2 q3 = none := (cl_none h3).1
  have h5 : gc.2 gm.1 = none := (cl_none hq2).1
  refine hv_eqY (Y1 := md_Y w gm ab_0 0 (cl_Y w gc ab_0 Z (ob w q3 (fun _ => 0)))) ((md_oup h1 h2).trans (congrArg (md_Y w gm ab_0 0) (cl_oup h4))) ?_
  refine hv_astore_n (lv1 := [(0, .ref b), (1, .ref q), (2, .ref gm.1), (3, .ref q3)]) C dw_19 rfl (by decide) [1, 2, 3, 0] rfl ?_
  refine hv_iconst (v := nI 0) C dw_20 (by decide) ?_
  refine hv_istore (lv1 := lw_lv b q gm q3 0) C dw_21 (by decide) [1, 2, 3, 4, 0] rfl ?_
  have hF2 : cl_F gc (md_Y w gm ab_0 0 (ob w q3 (fun _ => 0))) := by
    intro a z ha
    have e1 : a ≠ gm.1 := by intro y; rw [y, h5] at ha; cases ha
    have e3 : a ≠ q3 := by intro y; rw [y, h4] at ha; cases ha
    have e2 : gm.2.2 a = none := by
      cases y : gm.2.2 a with
      | none => rfl
      | some k =>
        have h6 := hno a k y
        rw [hv_up_n e1] at h6
        rw [(cl_none h6).1] at ha
        cases ha
    unfold md_Y
    rw [if_neg e1, e2]
    exact hv_up_n e3
  refine hv_widen (k := 130 + 410 * 0) (n := 1300 + 4100 * 0) (Nat.le_of_ble_eq_true rfl) (Nat.le_of_ble_eq_true rfl) ?_
  exact lw_loop ⟨C, hlt, hX, hbl, hbw, hgm, h1, h2, hL⟩ hr (lw_back (A := ab_0) (th := 0) I_0 hg hZ hF2 hxo)
end LE
/-- from the entry, for every script of at most 2560 ints, the law comes to its end with true -/
theorem whole_start {p : Program} {e : Env} {s : State} {m : MethodId} {below : List Frame} {meth : Method} {c : Code} (l : Launch) (hflags : l.flags = flags0) {b L : Nat} {xs : Nat → Int32} (hL : L ≤ 2560) (C0 : lw_At p s m meth c b L xs) : W p l e room_1 s m #[Value.ref b] below meth c s.heap [] 0 0 (lw_Z below #[Value.ref b] s) (entryFrame m ([Value.ref b] : List Value).toArray 7) := by
  obtain ⟨hx, hb, hr, hml, hown, hts, hX, hbl, hlocks, hgv⟩ := id C0
  obtain ⟨w, hbw, hWD, htb⟩ := lw_WD hts hgv
  have hlt : l.stackTraces = false := by
    unfold Launch.stackTraces
    rw [hflags]
    decide +kernel
  have C : hv_C RL code 7 wsL_law w p s m #[Value.ref b] meth c := ⟨hx, hb, hml, hown, fun t ht => hts t (wsL_law_in t ht), hlocks, hWD, by rw [hbw]; exact Nat.le_refl _⟩
  have hl := lv_entry ([.ref b]) (n := 7) (Nat.le_of_ble_eq_true rfl)
  rw [lg_entry_eq]
  have hR : hv_R w (fun _ => none) s.heap := ⟨⟨by rw [hbw]; exact htb, by rw [hbw]; exact Nat.le_refl _⟩, fun _ => none, fun _ => 0, fun a e h => (by cases h), fun a e h => (by cases h), fun a L h => (by cases h)⟩
  exact lw_body C hr hlt hX hbl hbw hL s.heap [] _ hR va_S.rf hl
