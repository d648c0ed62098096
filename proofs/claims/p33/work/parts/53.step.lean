set_option maxRecDepth 100000 in
set_option maxHeartbeats 4000000 in
theorem c_L_step (l : Launch) (w : hv_W) (o : Nat) (q : Nat → Nat) (iv : Nat → Option Nat) (F : Nat → Nat → Int32) (A : ab_A) (Y : hv_H) (hq : lok q iv) (hS : zLS w o iv F A Y) {M what x y : Nat} (hlt : l.stackTraces = false) (hL : zLI A F M) (hwh : what < 22) (hx : x < 2 ^ 30) (hy : y < 2 ^ 30) (hM9 : M + 200 ≤ 1000000) : hv_Mr l yL_step wsL_step ({ frames := 12, cells := 401, slots := 4006, locals := 320 }) w [.ref (o), .int (nI what), .int (nI x), .int (nI y), .ref (q 0), .ref (q 1), .ref (q 2), .ref (q 3), .ref (q 4)] Y (fun r Y1 => r = .int (nI 1) ∧ zPost w o iv (M + 200) Y1) := by
  refine hv_ofV (cc := cL_step) (own := RL) (by decide) rfl rfl (Nat.le_of_ble_eq_true rfl) rfl ?_
  intro p e s m below meth c C hret hnm
  obtain ⟨hI, hJ, ⟨hM, hM2⟩, hG, hB, hc0, hc1, hc2⟩ := id hL
  have i4 := hI.2.2.2.1
  refine hv_iload_n C dL_step_0 rfl 1 rfl ?_
  refine hv_iconst (v := nI 3) C dL_step_1 (by decide) ?_
  refine hv_icmpN_ge (tgt := 142) C dL_step_2 (by decide) (by omega) (by omega) (fun h1 => ?_) (fun h1 => ?_)
  · skip
    refine hv_iload_n C dL_step_142 rfl 1 rfl ?_
    refine hv_iconst (v := nI 3) C dL_step_143 (by decide) ?_
    refine hv_icmpN_ne (tgt := 242) C dL_step_144 (by decide) (by omega) (by omega) (fun h2 => ?_) (fun h2 => ?_)
    · skip
      refine hv_iload_n C dL_step_242 rfl 1 rfl ?_
      refine hv_iconst (v := nI 4) C dL_step_243 (by decide) ?_
      refine hv_icmpN_ne (tgt := 304) C dL_step_244 (by decide) (by omega) (by omega) (fun h3 => ?_) (fun h3 => ?_)
      · skip
        refine hv_iload_n C dL_step_304 rfl 1 rfl ?_
        refine hv_iconst (v := nI 5) C dL_step_305 (by decide) ?_
        refine hv_icmpN_ne (tgt := 421) C dL_step_306 (by decide) (by omega) (by omega) (fun h4 => ?_) (fun h4 => ?_)
        · skip
          refine hv_iload_n C dL_step_421 rfl 1 rfl ?_
          refine hv_bipush (v := nI 6) C dL_step_422 (by decide) ?_
          refine hv_icmpN_ne (tgt := 549) C dL_step_424 (by decide) (by omega) (by omega) (fun h5 => ?_) (fun h5 => ?_)
          · skip
            refine hv_iload_n C dL_step_549 rfl 1 rfl ?_
            refine hv_bipush (v := nI 12) C dL_step_550 (by decide) ?_
            refine hv_icmpN_ge (tgt := 568) C dL_step_552 (by decide) (by omega) (by omega) (fun h6 => ?_) (fun h6 => ?_)
            · skip
              refine hv_iload_n C dL_step_568 rfl 1 rfl ?_
              refine hv_bipush (v := nI 12) C dL_step_569 (by decide) ?_
              refine hv_icmpN_ne (tgt := 606) C dL_step_571 (by decide) (by omega) (by omega) (fun h7 => ?_) (fun h7 => ?_)
              · skip
                refine hv_iload_n C dL_step_606 rfl 1 rfl ?_
                refine hv_bipush (v := nI 17) C dL_step_607 (by decide) ?_
                refine hv_icmpN_ge (tgt := 623) C dL_step_609 (by decide) (by omega) (by omega) (fun h8 => ?_) (fun h8 => ?_)
                · skip
                  refine hv_aload_n C dL_step_623 rfl 0 rfl ?_
                  refine hv_iconst (v := nI 1) C dL_step_624 (by decide) ?_
                  refine hv_iload_n C dL_step_625 rfl 3 rfl ?_
                  refine hv_iconst (v := nI 3) C dL_step_626 (by decide) ?_
                  refine hv_iremN C dL_step_627 (by omega) (by omega) (by omega) ?_
                  refine hv_iaddN C dL_step_628 ?_
                  refine hv_aload C dL_step_629 6 rfl ?_
                  refine hv_callSr (As := [.ref (o), .int (nI (1 + (y % 3))), .ref (q 2)]) (rest := []) (n := 3) C (c_L_moves l w o q iv F A Y hq hS hlt hL (by omega) (by omega)) gL_step_L_moves rfl (by decide +kernel) ⟨(Nat.le_of_ble_eq_true rfl), (Nat.le_of_ble_eq_true rfl)⟩ rfl rfl (Nat.le_of_ble_eq_true rfl) dL_step_631 ⟨by first | exact Nat.le_of_ble_eq_true rfl | omega | (simp; done), by first | exact Nat.le_of_ble_eq_true rfl | omega | (simp; done)⟩ (fun r9 Y9 hr => ?_)
                  obtain ⟨rfl, hr⟩ := hr
                  exact hv_zret C hret (by decide) dL_step_634 (by first | exact Nat.le_refl _ | decide | omega | (simp; done) | (simp; omega)) (by first | exact Nat.le_refl _ | decide | omega | (simp; done) | (simp; omega)) ⟨rfl, zPost_le hr (by omega) hM9⟩
                · skip
                  refine hv_aload_n C dL_step_612 rfl 0 rfl ?_
                  refine hv_iload_n C dL_step_613 rfl 2 rfl ?_
                  refine hv_iload_n C dL_step_614 rfl 3 rfl ?_
                  refine hv_aload C dL_step_615 5 rfl ?_
                  refine hv_aload C dL_step_617 6 rfl ?_
                  refine hv_callSr (As := [.ref (o), .int (nI x), .int (nI y), .ref (q 1), .ref (q 2)]) (rest := []) (n := 5) C (c_L_sets l w o q iv F A Y hq hS hlt hL (by omega) (by omega)) gL_step_L_sets rfl (by decide +kernel) ⟨(Nat.le_of_ble_eq_true rfl), (Nat.le_of_ble_eq_true rfl)⟩ rfl rfl (Nat.le_of_ble_eq_true rfl) dL_step_619 ⟨by first | exact Nat.le_of_ble_eq_true rfl | omega | (simp; done), by first | exact Nat.le_of_ble_eq_true rfl | omega | (simp; done)⟩ (fun r9 Y9 hr => ?_)
                  obtain ⟨rfl, hr⟩ := hr
                  exact hv_zret C hret (by decide) dL_step_622 (by first | exact Nat.le_refl _ | decide | omega | (simp; done) | (simp; omega)) (by first | exact Nat.le_refl _ | decide | omega | (simp; done) | (simp; omega)) ⟨rfl, zPost_le hr (by omega) hM9⟩
              · skip
                have hch := f_chg_le (f_ticks A (1 + y % 12 - 1)) 64
                refine hv_aload_n C dL_step_574 rfl 0 rfl ?_
                refine hv_iconst (v := nI 1) C dL_step_575 (by decide) ?_
                refine hv_iload_n C dL_step_576 rfl 3 rfl ?_
                refine hv_bipush (v := nI 12) C dL_step_577 (by decide) ?_
                refine hv_iremN C dL_step_579 (by omega) (by omega) (by omega) ?_
                refine hv_iaddN C dL_step_580 ?_
                refine hv_callVr (As := [.int (nI (1 + (y % 12)))]) (rest := []) (n := 1) C (k_settle l w o (lY w iv F) A Y hS hI (1 + y % 12) (by omega) (by omega)) gL_step_X4_settle rfl (by decide +kernel) ⟨(Nat.le_of_ble_eq_true rfl), (Nat.le_of_ble_eq_true rfl)⟩ (zLS_rc hS) rfl rfl (Nat.le_of_ble_eq_true rfl) dL_step_581 ⟨by first | exact Nat.le_of_ble_eq_true rfl | omega | (simp; done), by first | exact Nat.le_of_ble_eq_true rfl | omega | (simp; done)⟩ (fun r9 Y9 hr => ?_)
                obtain ⟨rfl, hr⟩ := hr
                have hS10 : zLS w o iv F (f_ticks A (1 + y % 12)) Y9 := hr
                refine hv_ifN_lt (tgt := 604) C dL_step_584 (by decide) (by omega) (fun h11 => ?_) (fun h11 => ?_)
                · skip
                  exact (h11).elim
                · skip
                  refine hv_aload_n C dL_step_587 rfl 0 rfl ?_
                  refine hv_aload C dL_step_588 4 rfl ?_
                  refine hv_aload C dL_step_590 7 rfl ?_
                  refine hv_aload C dL_step_592 8 rfl ?_
                  refine hv_callSr (As := [.ref (o), .ref (q 0), .ref (q 3), .ref (q 4)]) (rest := []) (n := 4) C (c_L_areWays l w o q iv F (f_ticks A (1 + y % 12)) Y9 hq hS10 (L_ticks hL _)) gL_step_L_areWays rfl (by decide +kernel) ⟨(Nat.le_of_ble_eq_true rfl), (Nat.le_of_ble_eq_true rfl)⟩ rfl rfl (Nat.le_of_ble_eq_true rfl) dL_step_594 ⟨by first | exact Nat.le_of_ble_eq_true rfl | omega | (simp; done), by first | exact Nat.le_of_ble_eq_true rfl | omega | (simp; done)⟩ (fun r9 Y9 hr => ?_)
                  obtain ⟨rfl, hr⟩ := hr
                  refine hv_ifN_eq (tgt := 604) C dL_step_597 (by decide) (by omega) (fun h => absurd h (by decide)) (fun _ => ?_)
                  refine hv_iconst (v := nI 1) C dL_step_600 (by decide) ?_
                  refine hv_goto (tgt := 605) C dL_step_601 (by decide) ?_
                  exact hv_zret C hret (by decide) dL_step_605 (by first | exact Nat.le_refl _ | decide | omega | (simp; done) | (simp; omega)) (by first | exact Nat.le_refl _ | decide | omega | (simp; done) | (simp; omega)) ⟨rfl, zPost_le ⟨_, _, hr, L_not (L_ticks hL _)⟩ (by omega) hM9⟩
            · skip
              refine hv_aload_n C dL_step_555 rfl 0 rfl ?_
              refine hv_aload C dL_step_556 4 rfl ?_
              refine hv_aload C dL_step_558 6 rfl ?_
              refine hv_aload C dL_step_560 7 rfl ?_
              refine hv_aload C dL_step_562 8 rfl ?_
              refine hv_callSr (As := [.ref (o), .ref (q 0), .ref (q 2), .ref (q 3), .ref (q 4)]) (rest := []) (n := 5) C (c_L_settles l w o q iv F A Y hq hS hL) gL_step_L_settles rfl (by decide +kernel) ⟨(Nat.le_of_ble_eq_true rfl), (Nat.le_of_ble_eq_true rfl)⟩ rfl rfl (Nat.le_of_ble_eq_true rfl) dL_step_564 ⟨by first | exact Nat.le_of_ble_eq_true rfl | omega | (simp; done), by first | exact Nat.le_of_ble_eq_true rfl | omega | (simp; done)⟩ (fun r9 Y9 hr => ?_)
              obtain ⟨rfl, hr⟩ := hr
              exact hv_zret C hret (by decide) dL_step_567 (by first | exact Nat.le_refl _ | decide | omega | (simp; done) | (simp; omega)) (by first | exact Nat.le_refl _ | decide | omega | (simp; done) | (simp; omega)) ⟨rfl, zPost_le ⟨_, _, hr, L_set hL⟩ (by omega) hM9⟩
          · skip
            obtain ⟨wa1, wa2, wa3, wa4, wa5⟩ := hI.1 (x % 8) (by omega)
            refine hv_aload_n C dL_step_427 rfl 0 rfl ?_
            refine hv_iload_n C dL_step_428 rfl 2 rfl ?_
            refine hv_bipush (v := nI 8) C dL_step_429 (by decide) ?_
            refine hv_iremN C dL_step_431 (by omega) (by omega) (by omega) ?_
            refine hv_callVr (As := [.int (nI (x % 8))]) (rest := []) (n := 1) C (k_water l w o (lY w iv F) A Y hS hI (x % 8) (by omega)) gL_step_X4_water rfl (by decide +kernel) ⟨(Nat.le_of_ble_eq_true rfl), (Nat.le_of_ble_eq_true rfl)⟩ (zLS_rc hS) rfl rfl (Nat.le_of_ble_eq_true rfl) dL_step_432 ⟨by first | exact Nat.le_of_ble_eq_true rfl | omega | (simp; done) | (simp; omega), by first | exact Nat.le_of_ble_eq_true rfl | omega | (simp; done) | (simp; omega)⟩ (fun r13 Y1 hr => ?_)
            obtain ⟨rfl, hy9⟩ := hr; obtain rfl := hy9.symm
            refine hv_istore (lv1 := [(0, .ref (o)), (1, .int (nI what)), (2, .int (nI x)), (3, .int (nI y)), (4, .ref (q 0)), (5, .ref (q 1)), (6, .ref (q 2)), (7, .ref (q 3)), (8, .ref (q 4)), (9, .int (nI (A 0 (x % 8))))]) C dL_step_435 (by decide) [1, 2, 3, 4, 5, 6, 7, 8, 9, 0] rfl ?_
            refine hv_iconst (v := nI 1) C dL_step_437 (by decide) ?_
            refine hv_iload_n C dL_step_438 rfl 3 rfl ?_
            refine hv_join (α := Nat) (pcJ := 451) (fun _ => Y) (fun _ => [(0, .ref (o)), (1, .int (nI what)), (2, .int (nI x)), (3, .int (nI y)), (4, .ref (q 0)), (5, .ref (q 1)), (6, .ref (q 2)), (7, .ref (q 3)), (8, .ref (q 4)), (9, .int (nI (A 0 (x % 8))))]) (fun t7 => .int (nI t7) :: [.int (nI y), .int (nI 1)]) (fun t7 => t7 = 20 ∨ t7 = 3) ?_ ?_
            · intro m7 hm7
              have hm7 : m7 = 20 ∨ m7 = 3 := hm7
              have hr9 : y % m7 < m7 := Nat.mod_lt _ (by omega)
              have hle9 := f_low_le (f_dry A (1 + y % m7) 8) 8
              have hId := I_dry hI (1 + y % m7) 8
              have hfl : f_dry A (1 + y % m7) 8 0 (x % 8) = f_left (A 0 (x % 8)) (1 + y % m7) := f_dry_at A (1 + y % m7) (by omega)
              refine hv_iremN C dL_step_451 (by omega) (by omega) (by omega) ?_
              refine hv_iaddN C dL_step_452 ?_
              refine hv_istore (lv1 := [(0, .ref (o)), (1, .int (nI what)), (2, .int (nI x)), (3, .int (nI y)), (4, .ref (q 0)), (5, .ref (q 1)), (6, .ref (q 2)), (7, .ref (q 3)), (8, .ref (q 4)), (9, .int (nI (A 0 (x % 8)))), (10, .int (nI (1 + (y % m7))))]) C dL_step_453 (by decide) [1, 2, 3, 4, 5, 6, 7, 8, 9, 10, 0] rfl ?_
              refine hv_iconst (v := nI 0) C dL_step_455 (by decide) ?_
              refine hv_istore (lv1 := [(0, .ref (o)), (1, .int (nI what)), (2, .int (nI x)), (3, .int (nI y)), (4, .ref (q 0)), (5, .ref (q 1)), (6, .ref (q 2)), (7, .ref (q 3)), (8, .ref (q 4)), (9, .int (nI (A 0 (x % 8)))), (10, .int (nI (1 + (y % m7)))), (11, .int (nI 0))]) C dL_step_456 (by decide) [1, 2, 3, 4, 5, 6, 7, 8, 9, 10, 11, 0] rfl ?_
              refine hv_aload_n C dL_step_458 rfl 0 rfl ?_
              refine hv_iload C dL_step_459 10 rfl ?_
              refine hv_callVr (As := [.int (nI (1 + (y % m7)))]) (rest := []) (n := 1) C (k_dry l w o (lY w iv F) A Y hS hI (1 + y % m7) (by omega) (by omega)) gL_step_X4_dry rfl (by decide +kernel) ⟨(Nat.le_of_ble_eq_true rfl), (Nat.le_of_ble_eq_true rfl)⟩ (zLS_rc hS) rfl rfl (Nat.le_of_ble_eq_true rfl) dL_step_461 ⟨by first | exact Nat.le_of_ble_eq_true rfl | omega | (simp; done), by first | exact Nat.le_of_ble_eq_true rfl | omega | (simp; done)⟩ (fun r9 Y15 hr => ?_)
              obtain ⟨rfl, hr⟩ := hr
              have hS16 : zLS w o iv F (f_dry A (1 + y % m7) 8) Y15 := hr
              refine hv_istore (lv1 := [(0, .ref (o)), (1, .int (nI what)), (2, .int (nI x)), (3, .int (nI y)), (4, .ref (q 0)), (5, .ref (q 1)), (6, .ref (q 2)), (7, .ref (q 3)), (8, .ref (q 4)), (9, .int (nI (A 0 (x % 8)))), (10, .int (nI (1 + (y % m7)))), (11, .int (nI 0)), (12, .int (nI (f_low (f_dry A (1 + y % m7) 8) 8)))]) C dL_step_464 (by decide) [1, 2, 3, 4, 5, 6, 7, 8, 9, 10, 11, 12, 0] rfl ?_
              refine hv_iconst (v := nI 0) C dL_step_466 (by decide) ?_
              refine hv_istore (lv1 := [(0, .ref (o)), (1, .int (nI what)), (2, .int (nI x)), (3, .int (nI y)), (4, .ref (q 0)), (5, .ref (q 1)), (6, .ref (q 2)), (7, .ref (q 3)), (8, .ref (q 4)), (9, .int (nI (A 0 (x % 8)))), (10, .int (nI (1 + (y % m7)))), (11, .int (nI 0)), (12, .int (nI (f_low (f_dry A (1 + y % m7) 8) 8))), (13, .int (nI 0))]) C dL_step_467 (by decide) [1, 2, 3, 4, 5, 6, 7, 8, 9, 10, 11, 12, 13, 0] rfl ?_
              refine hv_loop 8 (fun _ => Y15) (fun i => [(0, .ref (o)), (1, .int (nI what)), (2, .int (nI x)), (3, .int (nI y)), (4, .ref (q 0)), (5, .ref (q 1)), (6, .ref (q 2)), (7, .ref (q 3)), (8, .ref (q 4)), (9, .int (nI (A 0 (x % 8)))), (10, .int (nI (1 + (y % m7)))), (11, .int (nI (f_low (f_dry A (1 + y % m7) 8) i))), (12, .int (nI (f_low (f_dry A (1 + y % m7) 8) 8))), (13, .int (nI i))]) ?_ ?_
              · skip
                refine hv_iload C dL_step_469 13 rfl ?_
                refine hv_bipush (v := nI 8) C dL_step_471 (by decide) ?_
                refine hv_icmpN_ge (tgt := 503) C dL_step_473 (by decide) (by omega) (by omega) (fun _ => ?_) (fun h => absurd h (by decide))
                refine hv_iload C dL_step_503 12 rfl ?_
                refine hv_iload C dL_step_505 11 rfl ?_
                refine hv_icmpN_ne (tgt := 547) C dL_step_507 (by decide) (by omega) (by omega) (fun h18 => ?_) (fun h18 => ?_)
                · skip
                  exact absurd rfl h18
                · skip
                  refine hv_aload_n C dL_step_510 rfl 0 rfl ?_
                  refine hv_iload_n C dL_step_511 rfl 2 rfl ?_
                  refine hv_bipush (v := nI 8) C dL_step_512 (by decide) ?_
                  refine hv_iremN C dL_step_514 (by omega) (by omega) (by omega) ?_
                  refine hv_callVr (As := [.int (nI (x % 8))]) (rest := []) (n := 1) C (k_water l w o (lY w iv F) (f_dry A (1 + y % m7) 8) Y15 hS16 hId (x % 8) (by omega)) gL_step_X4_water rfl (by decide +kernel) ⟨(Nat.le_of_ble_eq_true rfl), (Nat.le_of_ble_eq_true rfl)⟩ (zLS_rc hS16) rfl rfl (Nat.le_of_ble_eq_true rfl) dL_step_515 ⟨by first | exact Nat.le_of_ble_eq_true rfl | omega | (simp; done) | (simp; omega), by first | exact Nat.le_of_ble_eq_true rfl | omega | (simp; done) | (simp; omega)⟩ (fun r19 Y1 hr => ?_)
                  obtain ⟨rfl, hy9⟩ := hr; obtain rfl := hy9.symm
                  refine hv_top (y := nI (f_left (A 0 (x % 8)) (1 + y % m7))) (congrArg nI hfl) ?_
                  have hfb : f_left (A 0 (x % 8)) (1 + y % m7) ≤ 200 := f_left_le _ _ (by omega)
                  by_cases h5 : A 0 (x % 8) < 5 + 3 * (1 + y % m7)
                  · skip
                    refine hv_iload C dL_step_518 9 rfl ?_
                    refine hv_iconst (v := nI 3) C dL_step_520 (by decide) ?_
                    refine hv_iload C dL_step_521 10 rfl ?_
                    refine hv_imulN C dL_step_523 ?_
                    refine hv_isub C dL_step_524 ?_
                    refine hv_iconst (v := nI 5) C dL_step_525 (by decide) ?_
                    refine hv_icmp_ge (tgt := 533) C dL_step_526 (by decide) (fun h20 => ?_) (fun h20 => ?_)
                    · skip
                      exact absurd h20 (Int32.not_le.mpr (dry_lt (by omega) (by omega) h5))
                    · skip
                      refine hv_iconst (v := nI 5) C dL_step_529 (by decide) ?_
                      refine hv_goto (tgt := 540) C dL_step_530 (by decide) ?_
                      refine hv_icmpN_ne (tgt := 547) C dL_step_540 (by decide) (by omega) (by omega) (fun h21 => ?_) (fun h21 => ?_)
                      · skip
                        exact absurd (show f_left _ _ = _ from if_pos h5) h21
                      · skip
                        refine hv_iconst (v := nI 1) C dL_step_543 (by decide) ?_
                        refine hv_goto (tgt := 548) C dL_step_544 (by decide) ?_
                        exact hv_zret C hret (by decide) dL_step_548 (by first | exact Nat.le_refl _ | decide | omega | (simp; done) | (simp; omega)) (by first | exact Nat.le_refl _ | decide | omega | (simp; done) | (simp; omega)) ⟨rfl, zPost_le ⟨_, _, hS16, L_dry hL _⟩ (by omega) hM9⟩
                  · skip
                    refine hv_iload C dL_step_518 9 rfl ?_
                    refine hv_iconst (v := nI 3) C dL_step_520 (by decide) ?_
                    refine hv_iload C dL_step_521 10 rfl ?_
                    refine hv_imulN C dL_step_523 ?_
                    refine hv_isubN C dL_step_524 (by omega) ?_
                    refine hv_iconst (v := nI 5) C dL_step_525 (by decide) ?_
                    refine hv_icmpN_ge (tgt := 533) C dL_step_526 (by decide) (by omega) (by omega) (fun h22 => ?_) (fun h22 => ?_)
                    · skip
                      refine hv_iload C dL_step_533 9 rfl ?_
                      refine hv_iconst (v := nI 3) C dL_step_535 (by decide) ?_
                      refine hv_iload C dL_step_536 10 rfl ?_
                      refine hv_imulN C dL_step_538 ?_
                      refine hv_isubN C dL_step_539 (by omega) ?_
                      refine hv_icmpN_ne (tgt := 547) C dL_step_540 (by decide) (by omega) (by omega) (fun h23 => ?_) (fun h23 => ?_)
                      · skip
                        exact absurd (show f_left _ _ = _ from if_neg h5) h23
                      · skip
                        refine hv_iconst (v := nI 1) C dL_step_543 (by decide) ?_
                        refine hv_goto (tgt := 548) C dL_step_544 (by decide) ?_
                        exact hv_zret C hret (by decide) dL_step_548 (by first | exact Nat.le_refl _ | decide | omega | (simp; done) | (simp; omega)) (by first | exact Nat.le_refl _ | decide | omega | (simp; done) | (simp; omega)) ⟨rfl, zPost_le ⟨_, _, hS16, L_dry hL _⟩ (by omega) hM9⟩
                    · skip
                      exact absurd h22 (by omega)
              · intro i hi ih
                have hbd := hId.1 i hi
                have hle8 := f_low_le (f_dry A (1 + y % m7) 8) i
                refine hv_iload C dL_step_469 13 rfl ?_
                refine hv_bipush (v := nI 8) C dL_step_471 (by decide) ?_
                refine hv_icmpN_ge (tgt := 503) C dL_step_473 (by decide) (by omega) (by omega) (fun h24 => ?_) (fun h24 => ?_)
                · skip
                  exact absurd h24 (by omega)
                · skip
                  refine hv_iload C dL_step_476 11 rfl ?_
                  refine hv_join (α := Nat) (pcJ := 494) (fun _ => Y15) (fun _ => [(0, .ref (o)), (1, .int (nI what)), (2, .int (nI x)), (3, .int (nI y)), (4, .ref (q 0)), (5, .ref (q 1)), (6, .ref (q 2)), (7, .ref (q 3)), (8, .ref (q 4)), (9, .int (nI (A 0 (x % 8)))), (10, .int (nI (1 + (y % m7)))), (11, .int (nI (f_low (f_dry A (1 + y % m7) 8) i))), (12, .int (nI (f_low (f_dry A (1 + y % m7) 8) 8))), (13, .int (nI i))]) (fun t9 => .int (nI t9) :: [.int (nI (f_low (f_dry A (1 + y % m7) 8) i))]) (fun t9 => t9 = b2 (f_dry A (1 + y % m7) 8 0 i < 30)) ?_ ?_
                  · rintro _ rfl
                    refine hv_iaddN C dL_step_494 ?_
                    refine hv_istore (lv1 := [(0, .ref (o)), (1, .int (nI what)), (2, .int (nI x)), (3, .int (nI y)), (4, .ref (q 0)), (5, .ref (q 1)), (6, .ref (q 2)), (7, .ref (q 3)), (8, .ref (q 4)), (9, .int (nI (A 0 (x % 8)))), (10, .int (nI (1 + (y % m7)))), (11, .int (nI ((f_low (f_dry A (1 + y % m7) 8) i) + (b2 (f_dry A (1 + y % m7) 8 0 i < 30))))), (12, .int (nI (f_low (f_dry A (1 + y % m7) 8) 8))), (13, .int (nI i))]) C dL_step_495 (by decide) [1, 2, 3, 4, 5, 6, 7, 8, 9, 10, 11, 0, 12, 13] rfl ?_
                    refine hv_iinc (v := nI (i + 1)) (lv1 := [(0, .ref (o)), (1, .int (nI what)), (2, .int (nI x)), (3, .int (nI y)), (4, .ref (q 0)), (5, .ref (q 1)), (6, .ref (q 2)), (7, .ref (q 3)), (8, .ref (q 4)), (9, .int (nI (A 0 (x % 8)))), (10, .int (nI (1 + (y % m7)))), (11, .int (nI ((f_low (f_dry A (1 + y % m7) 8) i) + (b2 (f_dry A (1 + y % m7) 8 0 i < 30))))), (12, .int (nI (f_low (f_dry A (1 + y % m7) 8) 8))), (13, .int (nI (i + 1)))]) C dL_step_497 (k := 13) rfl (nI_1 _) (by decide) [1, 2, 3, 4, 5, 6, 7, 8, 9, 10, 11, 12, 13, 0] rfl ?_
                    refine hv_goto (tgt := 469) C dL_step_500 (by decide) ?_
                    exact hv_sub (lv1 := [(0, .ref (o)), (1, .int (nI what)), (2, .int (nI x)), (3, .int (nI y)), (4, .ref (q 0)), (5, .ref (q 1)), (6, .ref (q 2)), (7, .ref (q 3)), (8, .ref (q 4)), (9, .int (nI (A 0 (x % 8)))), (10, .int (nI (1 + (y % m7)))), (11, .int (nI (f_low (f_dry A (1 + y % m7) 8) (i + 1)))), (12, .int (nI (f_low (f_dry A (1 + y % m7) 8) 8))), (13, .int (nI (i + 1)))]) [0, 1, 2, 3, 4, 5, 6, 7, 8, 9, 10, 11, 12, 13] rfl ih
                  · intro k25
                    refine hv_aload_n C dL_step_478 rfl 0 rfl ?_
                    refine hv_iload C dL_step_479 13 rfl ?_
                    refine hv_callVr (As := [.int (nI i)]) (rest := [.int (nI (f_low (f_dry A (1 + y % m7) 8) i))]) (n := 1) C (k_water l w o (lY w iv F) (f_dry A (1 + y % m7) 8) Y15 hS16 hId i hi) gL_step_X4_water rfl (by decide +kernel) ⟨(Nat.le_of_ble_eq_true rfl), (Nat.le_of_ble_eq_true rfl)⟩ (zLS_rc hS16) rfl rfl (Nat.le_of_ble_eq_true rfl) dL_step_481 ⟨by first | exact Nat.le_of_ble_eq_true rfl | omega | (simp; done) | (simp; omega), by first | exact Nat.le_of_ble_eq_true rfl | omega | (simp; done) | (simp; omega)⟩ (fun r26 Y1 hr => ?_)
                    obtain ⟨rfl, hy9⟩ := hr; obtain rfl := hy9.symm
                    refine hv_bipush (v := nI 30) C dL_step_484 (by decide) ?_
                    refine hv_icmpN_ge (tgt := 493) C dL_step_486 (by decide) (by omega) (by omega) (fun h27 => ?_) (fun h27 => ?_)
                    · skip
                      refine hv_iconst (v := nI 0) C dL_step_493 (by decide) ?_
                      exact k25 _ (b2_f (by omega)).symm
                    · skip
                      refine hv_iconst (v := nI 1) C dL_step_489 (by decide) ?_
                      refine hv_goto (tgt := 494) C dL_step_490 (by decide) ?_
                      exact k25 _ (b2_t (by omega)).symm
            · intro k14
              refine hv_iload_n C dL_step_439 rfl 3 rfl ?_
              refine hv_iconst (v := nI 4) C dL_step_440 (by decide) ?_
              refine hv_iremN C dL_step_441 (by omega) (by omega) (by omega) ?_
              refine hv_ifN_ne (tgt := 450) C dL_step_442 (by decide) (by omega) (fun h28 => ?_) (fun h28 => ?_)
              · skip
                refine hv_iconst (v := nI 3) C dL_step_450 (by decide) ?_
                exact k14 _ (by first | exact Or.inl rfl | exact Or.inr rfl | exact Or.inl ⟨by omega, rfl⟩ | exact Or.inr ⟨by omega, rfl⟩)
              · skip
                refine hv_bipush (v := nI 20) C dL_step_445 (by decide) ?_
                refine hv_goto (tgt := 451) C dL_step_447 (by decide) ?_
                exact k14 _ (by first | exact Or.inl rfl | exact Or.inr rfl | exact Or.inl ⟨by omega, rfl⟩ | exact Or.inr ⟨by omega, rfl⟩)
        · skip
          obtain ⟨wa1, wa2, wa3, wa4, wa5⟩ := hI.1 (x % 8) (by omega)
          refine hv_aload_n C dL_step_309 rfl 0 rfl ?_
          refine hv_iload_n C dL_step_310 rfl 2 rfl ?_
          refine hv_bipush (v := nI 8) C dL_step_311 (by decide) ?_
          refine hv_iremN C dL_step_313 (by omega) (by omega) (by omega) ?_
          refine hv_callVr (As := [.int (nI (x % 8))]) (rest := []) (n := 1) C (k_water l w o (lY w iv F) A Y hS hI (x % 8) (by omega)) gL_step_X4_water rfl (by decide +kernel) ⟨(Nat.le_of_ble_eq_true rfl), (Nat.le_of_ble_eq_true rfl)⟩ (zLS_rc hS) rfl rfl (Nat.le_of_ble_eq_true rfl) dL_step_314 ⟨by first | exact Nat.le_of_ble_eq_true rfl | omega | (simp; done) | (simp; omega), by first | exact Nat.le_of_ble_eq_true rfl | omega | (simp; done) | (simp; omega)⟩ (fun r29 Y1 hr => ?_)
          obtain ⟨rfl, hy9⟩ := hr; obtain rfl := hy9.symm
          refine hv_istore (lv1 := [(0, .ref (o)), (1, .int (nI what)), (2, .int (nI x)), (3, .int (nI y)), (4, .ref (q 0)), (5, .ref (q 1)), (6, .ref (q 2)), (7, .ref (q 3)), (8, .ref (q 4)), (9, .int (nI (A 0 (x % 8))))]) C dL_step_317 (by decide) [1, 2, 3, 4, 5, 6, 7, 8, 9, 0] rfl ?_
          refine hv_aload_n C dL_step_319 rfl 0 rfl ?_
          refine hv_callVr (As := []) (rest := []) (n := 0) C (k_spilt l w o (lY w iv F) A Y hS hI) gL_step_X4_spilt rfl (by decide +kernel) ⟨(Nat.le_of_ble_eq_true rfl), (Nat.le_of_ble_eq_true rfl)⟩ (zLS_rc hS) rfl rfl (Nat.le_of_ble_eq_true rfl) dL_step_320 ⟨by first | exact Nat.le_of_ble_eq_true rfl | omega | (simp; done) | (simp; omega), by first | exact Nat.le_of_ble_eq_true rfl | omega | (simp; done) | (simp; omega)⟩ (fun r30 Y1 hr => ?_)
          obtain ⟨rfl, hy9⟩ := hr; obtain rfl := hy9.symm
          refine hv_istore (lv1 := [(0, .ref (o)), (1, .int (nI what)), (2, .int (nI x)), (3, .int (nI y)), (4, .ref (q 0)), (5, .ref (q 1)), (6, .ref (q 2)), (7, .ref (q 3)), (8, .ref (q 4)), (9, .int (nI (A 0 (x % 8)))), (10, .int (nI (A 10 0)))]) C dL_step_323 (by decide) [1, 2, 3, 4, 5, 6, 7, 8, 9, 10, 0] rfl ?_
          refine hv_iconst (v := nI 1) C dL_step_325 (by decide) ?_
          refine hv_iload_n C dL_step_326 rfl 3 rfl ?_
          refine hv_join (α := Nat) (pcJ := 341) (fun _ => Y) (fun _ => [(0, .ref (o)), (1, .int (nI what)), (2, .int (nI x)), (3, .int (nI y)), (4, .ref (q 0)), (5, .ref (q 1)), (6, .ref (q 2)), (7, .ref (q 3)), (8, .ref (q 4)), (9, .int (nI (A 0 (x % 8)))), (10, .int (nI (A 10 0)))]) (fun t7 => .int (nI t7) :: [.int (nI y), .int (nI 1)]) (fun t7 => t7 = 200 ∨ t7 = 30) ?_ ?_
          · intro m7 hm7
            have hm7 : m7 = 200 ∨ m7 = 30 := hm7
            have hr9 : y % m7 < m7 := Nat.mod_lt _ (by omega)
            refine hv_iremN C dL_step_341 (by omega) (by omega) (by omega) ?_
            refine hv_iaddN C dL_step_342 ?_
            refine hv_istore (lv1 := [(0, .ref (o)), (1, .int (nI what)), (2, .int (nI x)), (3, .int (nI y)), (4, .ref (q 0)), (5, .ref (q 1)), (6, .ref (q 2)), (7, .ref (q 3)), (8, .ref (q 4)), (9, .int (nI (A 0 (x % 8)))), (10, .int (nI (A 10 0))), (11, .int (nI (1 + (y % m7))))]) C dL_step_343 (by decide) [1, 2, 3, 4, 5, 6, 7, 8, 9, 10, 11, 0] rfl ?_
            refine hv_join (α := Nat) (pcJ := 367) (fun _ => Y) (fun _ => [(0, .ref (o)), (1, .int (nI what)), (2, .int (nI x)), (3, .int (nI y)), (4, .ref (q 0)), (5, .ref (q 1)), (6, .ref (q 2)), (7, .ref (q 3)), (8, .ref (q 4)), (9, .int (nI (A 0 (x % 8)))), (10, .int (nI (A 10 0))), (11, .int (nI (1 + (y % m7))))]) (fun t7 => .int (nI t7) :: []) (fun t7 => (200 < A 0 (x % 8) + (1 + y % m7) ∧ t7 = 200) ∨ (A 0 (x % 8) + (1 + y % m7) ≤ 200 ∧ t7 = A 0 (x % 8) + (1 + y % m7))) ?_ ?_
            · intro t8 ht8
              have ht8 : (200 < A 0 (x % 8) + (1 + y % m7) ∧ t8 = 200) ∨ (A 0 (x % 8) + (1 + y % m7) ≤ 200 ∧ t8 = A 0 (x % 8) + (1 + y % m7)) := ht8
              have hp0 : f_pour A (x % 8) (1 + y % m7) 0 (x % 8) = t8 := by rw [f_pour_0, if_pos rfl]; rcases ht8 with ⟨q1, q2⟩ | ⟨q1, q2⟩; (rw [if_pos q1, q2]); (rw [if_neg (by omega), q2])
              have hp10 : f_pour A (x % 8) (1 + y % m7) 10 0 = A 10 0 + (A 0 (x % 8) + (1 + y % m7) - 200) := rfl
              refine hv_istore (lv1 := [(0, .ref (o)), (1, .int (nI what)), (2, .int (nI x)), (3, .int (nI y)), (4, .ref (q 0)), (5, .ref (q 1)), (6, .ref (q 2)), (7, .ref (q 3)), (8, .ref (q 4)), (9, .int (nI (A 0 (x % 8)))), (10, .int (nI (A 10 0))), (11, .int (nI (1 + (y % m7)))), (12, .int (nI t8))]) C dL_step_367 (by decide) [1, 2, 3, 4, 5, 6, 7, 8, 9, 10, 11, 12, 0] rfl ?_
              refine hv_aload_n C dL_step_369 rfl 0 rfl ?_
              refine hv_iload_n C dL_step_370 rfl 2 rfl ?_
              refine hv_bipush (v := nI 8) C dL_step_371 (by decide) ?_
              refine hv_iremN C dL_step_373 (by omega) (by omega) (by omega) ?_
              refine hv_iload C dL_step_374 11 rfl ?_
              refine hv_callVr (As := [.int (nI (x % 8)), .int (nI (1 + (y % m7)))]) (rest := []) (n := 2) C (k_rain l w o (lY w iv F) A Y hS hI (x % 8) (1 + y % m7) (by omega) (by omega) (by omega)) gL_step_X4_rain rfl (by decide +kernel) ⟨(Nat.le_of_ble_eq_true rfl), (Nat.le_of_ble_eq_true rfl)⟩ (zLS_rc hS) rfl rfl (Nat.le_of_ble_eq_true rfl) dL_step_376 ⟨by first | exact Nat.le_of_ble_eq_true rfl | omega | (simp; done), by first | exact Nat.le_of_ble_eq_true rfl | omega | (simp; done)⟩ (fun r9 Y33 hr => ?_)
              obtain ⟨rfl, hr⟩ := hr
              have hS34 : zLS w o iv F (f_pour A (x % 8) (1 + y % m7)) Y33 := hr
              refine hv_iload C dL_step_379 12 rfl ?_
              refine hv_icmpN_ne (tgt := 419) C dL_step_381 (by decide) (by omega) (by omega) (fun h35 => ?_) (fun h35 => ?_)
              · skip
                exact absurd hp0 h35
              · skip
                refine hv_aload_n C dL_step_384 rfl 0 rfl ?_
                refine hv_iload_n C dL_step_385 rfl 2 rfl ?_
                refine hv_bipush (v := nI 8) C dL_step_386 (by decide) ?_
                refine hv_iremN C dL_step_388 (by omega) (by omega) (by omega) ?_
                refine hv_callVr (As := [.int (nI (x % 8))]) (rest := []) (n := 1) C (k_water l w o (lY w iv F) (f_pour A (x % 8) (1 + y % m7)) Y33 hS34 (I_pour hI (x % 8) (1 + y % m7)) (x % 8) (by omega)) gL_step_X4_water rfl (by decide +kernel) ⟨(Nat.le_of_ble_eq_true rfl), (Nat.le_of_ble_eq_true rfl)⟩ (zLS_rc hS34) rfl rfl (Nat.le_of_ble_eq_true rfl) dL_step_389 ⟨by first | exact Nat.le_of_ble_eq_true rfl | omega | (simp; done) | (simp; omega), by first | exact Nat.le_of_ble_eq_true rfl | omega | (simp; done) | (simp; omega)⟩ (fun r36 Y1 hr => ?_)
                obtain ⟨rfl, hy9⟩ := hr; obtain rfl := hy9.symm
                refine hv_iload C dL_step_392 12 rfl ?_
                refine hv_icmpN_ne (tgt := 419) C dL_step_394 (by decide) (by omega) (by omega) (fun h37 => ?_) (fun h37 => ?_)
                · skip
                  exact absurd hp0 h37
                · skip
                  refine hv_aload_n C dL_step_397 rfl 0 rfl ?_
                  refine hv_callVr (As := []) (rest := []) (n := 0) C (k_spilt l w o (lY w iv F) (f_pour A (x % 8) (1 + y % m7)) Y33 hS34 (I_pour hI (x % 8) (1 + y % m7))) gL_step_X4_spilt rfl (by decide +kernel) ⟨(Nat.le_of_ble_eq_true rfl), (Nat.le_of_ble_eq_true rfl)⟩ (zLS_rc hS34) rfl rfl (Nat.le_of_ble_eq_true rfl) dL_step_398 ⟨by first | exact Nat.le_of_ble_eq_true rfl | omega | (simp; done) | (simp; omega), by first | exact Nat.le_of_ble_eq_true rfl | omega | (simp; done) | (simp; omega)⟩ (fun r38 Y1 hr => ?_)
                  obtain ⟨rfl, hy9⟩ := hr; obtain rfl := hy9.symm
                  refine hv_iload C dL_step_401 10 rfl ?_
                  refine hv_iload C dL_step_403 9 rfl ?_
                  refine hv_iaddN C dL_step_405 ?_
                  refine hv_iload C dL_step_406 11 rfl ?_
                  refine hv_iaddN C dL_step_408 ?_
                  refine hv_iload C dL_step_409 12 rfl ?_
                  refine hv_isubN C dL_step_411 (by omega) ?_
                  refine hv_icmpN_ne (tgt := 419) C dL_step_412 (by decide) (by omega) (by omega) (fun h39 => ?_) (fun h39 => ?_)
                  · skip
                    exact absurd (by omega) h39
                  · skip
                    refine hv_iconst (v := nI 1) C dL_step_415 (by decide) ?_
                    refine hv_goto (tgt := 420) C dL_step_416 (by decide) ?_
                    exact hv_zret C hret (by decide) dL_step_420 (by first | exact Nat.le_refl _ | decide | omega | (simp; done) | (simp; omega)) (by first | exact Nat.le_refl _ | decide | omega | (simp; done) | (simp; omega)) ⟨rfl, ⟨_, _, hS34, L_rain hL (by omega) (by omega) hM9⟩⟩
            · intro k32
              refine hv_iload C dL_step_345 9 rfl ?_
              refine hv_iload C dL_step_347 11 rfl ?_
              refine hv_iaddN C dL_step_349 ?_
              refine hv_sipush (v := nI 200) C dL_step_350 (by decide) ?_
              refine hv_icmpN_le (tgt := 362) C dL_step_353 (by decide) (by omega) (by omega) (fun h40 => ?_) (fun h40 => ?_)
              · skip
                refine hv_iload C dL_step_362 9 rfl ?_
                refine hv_iload C dL_step_364 11 rfl ?_
                refine hv_iaddN C dL_step_366 ?_
                exact k32 _ (by first | exact Or.inl rfl | exact Or.inr rfl | exact Or.inl ⟨by omega, rfl⟩ | exact Or.inr ⟨by omega, rfl⟩)
              · skip
                refine hv_sipush (v := nI 200) C dL_step_356 (by decide) ?_
                refine hv_goto (tgt := 367) C dL_step_359 (by decide) ?_
                exact k32 _ (by first | exact Or.inl rfl | exact Or.inr rfl | exact Or.inl ⟨by omega, rfl⟩ | exact Or.inr ⟨by omega, rfl⟩)
          · intro k31
            refine hv_iload_n C dL_step_327 rfl 3 rfl ?_
            refine hv_iconst (v := nI 4) C dL_step_328 (by decide) ?_
            refine hv_iremN C dL_step_329 (by omega) (by omega) (by omega) ?_
            refine hv_ifN_ne (tgt := 339) C dL_step_330 (by decide) (by omega) (fun h41 => ?_) (fun h41 => ?_)
            · skip
              refine hv_bipush (v := nI 30) C dL_step_339 (by decide) ?_
              exact k31 _ (by first | exact Or.inl rfl | exact Or.inr rfl | exact Or.inl ⟨by omega, rfl⟩ | exact Or.inr ⟨by omega, rfl⟩)
            · skip
              refine hv_sipush (v := nI 200) C dL_step_333 (by decide) ?_
              refine hv_goto (tgt := 341) C dL_step_336 (by decide) ?_
              exact k31 _ (by first | exact Or.inl rfl | exact Or.inr rfl | exact Or.inl ⟨by omega, rfl⟩ | exact Or.inr ⟨by omega, rfl⟩)
      · skip
        obtain ⟨wa1, wa2, wa3, wa4, wa5⟩ := hI.1 (x % 8) (by omega)
        refine hv_aload_n C dL_step_247 rfl 0 rfl ?_
        refine hv_iload_n C dL_step_248 rfl 2 rfl ?_
        refine hv_bipush (v := nI 8) C dL_step_249 (by decide) ?_
        refine hv_iremN C dL_step_251 (by omega) (by omega) (by omega) ?_
        refine hv_iconst (v := nI 1) C dL_step_252 (by decide) ?_
        refine hv_iload_n C dL_step_253 rfl 3 rfl ?_
        refine hv_bipush (v := nI 6) C dL_step_254 (by decide) ?_
        refine hv_iremN C dL_step_256 (by omega) (by omega) (by omega) ?_
        refine hv_iaddN C dL_step_257 ?_
        refine hv_callVr (As := [.int (nI (x % 8)), .int (nI (1 + (y % 6)))]) (rest := []) (n := 2) C (k_setMark l w o (lY w iv F) A Y hS hI (x % 8) (1 + y % 6) (by omega) (by omega) (by omega)) gL_step_X4_setMark rfl (by decide +kernel) ⟨(Nat.le_of_ble_eq_true rfl), (Nat.le_of_ble_eq_true rfl)⟩ (zLS_rc hS) rfl rfl (Nat.le_of_ble_eq_true rfl) dL_step_258 ⟨by first | exact Nat.le_of_ble_eq_true rfl | omega | (simp; done), by first | exact Nat.le_of_ble_eq_true rfl | omega | (simp; done)⟩ (fun r9 Y42 hr => ?_)
        obtain ⟨rfl, hr⟩ := hr
        have hS43 : zLS w o iv F (au A 1 (x % 8) (1 + y % 6)) Y42 := hr
        refine hv_istore (lv1 := [(0, .ref (o)), (1, .int (nI what)), (2, .int (nI x)), (3, .int (nI y)), (4, .ref (q 0)), (5, .ref (q 1)), (6, .ref (q 2)), (7, .ref (q 3)), (8, .ref (q 4)), (9, .int (nI (A 1 (x % 8))))]) C dL_step_261 (by decide) [1, 2, 3, 4, 5, 6, 7, 8, 9, 0] rfl ?_
        refine hv_iload C dL_step_263 9 rfl ?_
        refine hv_ifN_le (tgt := 302) C dL_step_265 (by decide) (by omega) (fun h44 => ?_) (fun h44 => ?_)
        · skip
          exact absurd h44 (by omega)
        · skip
          refine hv_iload C dL_step_268 9 rfl ?_
          refine hv_bipush (v := nI 7) C dL_step_270 (by decide) ?_
          refine hv_icmpN_ge (tgt := 302) C dL_step_272 (by decide) (by omega) (by omega) (fun h45 => ?_) (fun h45 => ?_)
          · skip
            exact absurd h45 (by omega)
          · skip
            refine hv_aload_n C dL_step_275 rfl 0 rfl ?_
            refine hv_iload_n C dL_step_276 rfl 2 rfl ?_
            refine hv_bipush (v := nI 8) C dL_step_277 (by decide) ?_
            refine hv_iremN C dL_step_279 (by omega) (by omega) (by omega) ?_
            refine hv_iconst (v := nI 1) C dL_step_280 (by decide) ?_
            refine hv_iload_n C dL_step_281 rfl 3 rfl ?_
            refine hv_bipush (v := nI 6) C dL_step_282 (by decide) ?_
            refine hv_iremN C dL_step_284 (by omega) (by omega) (by omega) ?_
            refine hv_iaddN C dL_step_285 ?_
            refine hv_callVr (As := [.int (nI (x % 8)), .int (nI (1 + (y % 6)))]) (rest := []) (n := 2) C (k_setMark l w o (lY w iv F) (au A 1 (x % 8) (1 + y % 6)) Y42 hS43 (I_mark hI (by omega) (by omega)) (x % 8) (1 + y % 6) (by omega) (by omega) (by omega)) gL_step_X4_setMark rfl (by decide +kernel) ⟨(Nat.le_of_ble_eq_true rfl), (Nat.le_of_ble_eq_true rfl)⟩ (zLS_rc hS43) rfl rfl (Nat.le_of_ble_eq_true rfl) dL_step_286 ⟨by first | exact Nat.le_of_ble_eq_true rfl | omega | (simp; done), by first | exact Nat.le_of_ble_eq_true rfl | omega | (simp; done)⟩ (fun r9 Y46 hr => ?_)
            obtain ⟨rfl, hr⟩ := hr
            have hS47 : zLS w o iv F (au (au A 1 (x % 8) (1 + y % 6)) 1 (x % 8) (1 + y % 6)) Y46 := hr
            refine hv_top (y := nI (1 + y % 6)) (congrArg nI (au_s _ _ _ _)) ?_
            refine hv_iconst (v := nI 1) C dL_step_289 (by decide) ?_
            refine hv_iload_n C dL_step_290 rfl 3 rfl ?_
            refine hv_bipush (v := nI 6) C dL_step_291 (by decide) ?_
            refine hv_iremN C dL_step_293 (by omega) (by omega) (by omega) ?_
            refine hv_iaddN C dL_step_294 ?_
            refine hv_icmpN_ne (tgt := 302) C dL_step_295 (by decide) (by omega) (by omega) (fun h48 => ?_) (fun h48 => ?_)
            · skip
              exact absurd rfl h48
            · skip
              refine hv_iconst (v := nI 1) C dL_step_298 (by decide) ?_
              refine hv_goto (tgt := 303) C dL_step_299 (by decide) ?_
              exact hv_zret C hret (by decide) dL_step_303 (by first | exact Nat.le_refl _ | decide | omega | (simp; done) | (simp; omega)) (by first | exact Nat.le_refl _ | decide | omega | (simp; done) | (simp; omega)) ⟨rfl, zPost_le ⟨_, _, hS47, L_mark (L_mark hL (by omega) (by omega)) (by omega) (by omega)⟩ (by omega) hM9⟩
    · skip
      refine hv_aload C dL_step_147 6 rfl ?_
      refine hv_iconst (v := nI 0) C dL_step_149 (by decide) ?_
      refine hl_ald (k := 2) (i := 0) (x := (nI (A 4 0))) C hS hq (by decide) (show 0 < 3 by omega) hc0 dL_step_150 ?_
      refine hv_ifN_ne (tgt := 156) C dL_step_151 (by decide) (by omega) (fun h49 => ?_) (fun h49 => ?_)
      · skip
        have hk9 : x % A 4 0 < A 4 0 := Nat.mod_lt x (Nat.pos_of_ne_zero h49)
        obtain ⟨cd0, cd1, cd2, cd3, cd4, cd5⟩ := code_p hI hk9
        have hw9 := (hI.2.2.2.2.1 _ hk9).2.2.2.2.2.2
        have hg9 : A 9 (x % A 4 0) = b2 (A 9 (x % A 4 0) = 1) := by
          by_cases hq9 : A 9 (x % A 4 0) = 1
          · rw [b2_t hq9]; exact hq9
          · rw [b2_f hq9]; omega
        refine hv_iload_n C dL_step_156 rfl 2 rfl ?_
        refine hv_aload C dL_step_157 6 rfl ?_
        refine hv_iconst (v := nI 0) C dL_step_159 (by decide) ?_
        refine hl_ald (k := 2) (i := 0) (x := (nI (A 4 0))) C hS hq (by decide) (show 0 < 3 by omega) hc0 dL_step_160 ?_
        refine hv_iremN C dL_step_161 (by omega) (by omega) (by omega) ?_
        refine hv_istore (lv1 := [(0, .ref (o)), (1, .int (nI what)), (2, .int (nI x)), (3, .int (nI y)), (4, .ref (q 0)), (5, .ref (q 1)), (6, .ref (q 2)), (7, .ref (q 3)), (8, .ref (q 4)), (9, .int (nI (x % A 4 0)))]) C dL_step_162 (by decide) [1, 2, 3, 4, 5, 6, 7, 8, 9, 0] rfl ?_
        refine hv_join (α := Nat) (pcJ := 184) (fun _ => Y) (fun _ => [(0, .ref (o)), (1, .int (nI what)), (2, .int (nI x)), (3, .int (nI y)), (4, .ref (q 0)), (5, .ref (q 1)), (6, .ref (q 2)), (7, .ref (q 3)), (8, .ref (q 4)), (9, .int (nI (x % A 4 0)))]) (fun t9 => .int (nI t9) :: []) (fun t9 => t9 = b2 (A 9 (x % A 4 0) = 1)) ?_ ?_
        · rintro _ rfl
          refine hv_istore (lv1 := [(0, .ref (o)), (1, .int (nI what)), (2, .int (nI x)), (3, .int (nI y)), (4, .ref (q 0)), (5, .ref (q 1)), (6, .ref (q 2)), (7, .ref (q 3)), (8, .ref (q 4)), (9, .int (nI (x % A 4 0))), (10, .int (nI (b2 (A 9 (x % A 4 0) = 1))))]) C dL_step_184 (by decide) [1, 2, 3, 4, 5, 6, 7, 8, 9, 10, 0] rfl ?_
          refine hv_aload C dL_step_186 4 rfl ?_
          refine hv_iload C dL_step_188 9 rfl ?_
          refine hv_aload C dL_step_190 4 rfl ?_
          refine hv_iload C dL_step_192 9 rfl ?_
          refine hl_ald (k := 0) (i := x % A 4 0) (x := (nI (f_code A (x % A 4 0)))) C hS hq (by decide) (show x % A 4 0 < 14 by omega) (hG _ hk9) dL_step_194 ?_
          refine hv_sipush (v := nI 16383) C dL_step_195 (by decide) ?_
          refine hv_iand C dL_step_198 ?_
          refine hv_top (y := nI (f_code A (x % A 4 0) % 2 ^ 14)) (pk_andN (by omega) 14 (by decide)) ?_
          refine hv_join (α := Nat) (pcJ := 212) (fun _ => Y) (fun _ => [(0, .ref (o)), (1, .int (nI what)), (2, .int (nI x)), (3, .int (nI y)), (4, .ref (q 0)), (5, .ref (q 1)), (6, .ref (q 2)), (7, .ref (q 3)), (8, .ref (q 4)), (9, .int (nI (x % A 4 0))), (10, .int (nI (b2 (A 9 (x % A 4 0) = 1))))]) (fun t9 => .int (nI t9) :: [.int (nI (f_code A (x % A 4 0) % 2 ^ 14)), .int (nI (x % A 4 0)), .ref (q 0)]) (fun t9 => t9 = b2 (0 < y % 3) * 2 ^ 14) ?_ ?_
          · rintro _ rfl
            refine hv_ior C dL_step_212 ?_
            refine hv_top (y := nI (f_code A (x % A 4 0) % 2 ^ 14 + b2 (0 < y % 3) * 2 ^ 14)) (nI_orp _ (Nat.mod_lt _ (by decide))) ?_
            refine hl_ast (k := 0) (i := x % A 4 0) (v := (nI (f_code A (x % A 4 0) % 2 ^ 14 + b2 (0 < y % 3) * 2 ^ 14))) C hS hq (by decide) (show x % A 4 0 < 14 by omega) dL_step_213 (fun Y52 hS53 => ?_)
            refine hv_aload_n C dL_step_214 rfl 0 rfl ?_
            refine hv_iload C dL_step_215 9 rfl ?_
            refine hv_join (α := Nat) (pcJ := 228) (fun _ => Y52) (fun _ => [(0, .ref (o)), (1, .int (nI what)), (2, .int (nI x)), (3, .int (nI y)), (4, .ref (q 0)), (5, .ref (q 1)), (6, .ref (q 2)), (7, .ref (q 3)), (8, .ref (q 4)), (9, .int (nI (x % A 4 0))), (10, .int (nI (b2 (A 9 (x % A 4 0) = 1))))]) (fun t9 => .int (nI t9) :: [.int (nI (x % A 4 0)), .ref (o)]) (fun t9 => t9 = b2 (0 < y % 3)) ?_ ?_
            · rintro _ rfl
              refine hv_callVr (As := [.int (nI (x % A 4 0)), .int (nI (b2 (0 < y % 3)))]) (rest := []) (n := 2) C (k_setGate l w o (lY w iv (Fu F 0 (x % A 4 0) ((nI (f_code A (x % A 4 0) % 2 ^ 14 + b2 (0 < y % 3) * 2 ^ 14))))) A Y52 hS53 hI (x % A 4 0) (b2 (0 < y % 3)) hk9 b2_le) gL_step_X4_setGate rfl (by decide +kernel) ⟨(Nat.le_of_ble_eq_true rfl), (Nat.le_of_ble_eq_true rfl)⟩ (zLS_rc hS53) rfl rfl (Nat.le_of_ble_eq_true rfl) dL_step_228 ⟨by first | exact Nat.le_of_ble_eq_true rfl | omega | (simp; done), by first | exact Nat.le_of_ble_eq_true rfl | omega | (simp; done)⟩ (fun r9 Y55 hr => ?_)
              obtain ⟨rfl, hr⟩ := hr
              have hS56 : zLS w o iv (Fu F 0 (x % A 4 0) ((nI (f_code A (x % A 4 0) % 2 ^ 14 + b2 (0 < y % 3) * 2 ^ 14)))) (au A 9 (x % A 4 0) (b2 (0 < y % 3))) Y55 := hr
              refine hv_iload C dL_step_231 10 rfl ?_
              refine hv_icmp_ne (tgt := 240) C dL_step_233 (by decide) (fun h57 => ?_) (fun h57 => ?_)
              · skip
                exact absurd (congrArg nI hg9) h57
              · skip
                refine hv_iconst (v := nI 1) C dL_step_236 (by decide) ?_
                refine hv_goto (tgt := 241) C dL_step_237 (by decide) ?_
                exact hv_zret C hret (by decide) dL_step_241 (by first | exact Nat.le_refl _ | decide | omega | (simp; done) | (simp; omega)) (by first | exact Nat.le_refl _ | decide | omega | (simp; done) | (simp; omega)) ⟨rfl, zPost_le ⟨_, _, hS56, L_gate hL hk9 b2_le⟩ (by omega) hM9⟩
            · intro k54
              refine hv_iload_n C dL_step_217 rfl 3 rfl ?_
              refine hv_iconst (v := nI 3) C dL_step_218 (by decide) ?_
              refine hv_iremN C dL_step_219 (by omega) (by omega) (by omega) ?_
              refine hv_ifN_le (tgt := 227) C dL_step_220 (by decide) (by omega) (fun h58 => ?_) (fun h58 => ?_)
              · skip
                refine hv_iconst (v := nI 0) C dL_step_227 (by decide) ?_
                exact k54 _ (b2_f (by omega)).symm
              · skip
                refine hv_iconst (v := nI 1) C dL_step_223 (by decide) ?_
                refine hv_goto (tgt := 228) C dL_step_224 (by decide) ?_
                exact k54 _ (b2_t (by omega)).symm
          · intro k51
            refine hv_iload_n C dL_step_199 rfl 3 rfl ?_
            refine hv_iconst (v := nI 3) C dL_step_200 (by decide) ?_
            refine hv_iremN C dL_step_201 (by omega) (by omega) (by omega) ?_
            refine hv_ifN_le (tgt := 211) C dL_step_202 (by decide) (by omega) (fun h59 => ?_) (fun h59 => ?_)
            · skip
              refine hv_iconst (v := nI 0) C dL_step_211 (by decide) ?_
              exact k51 _ (by rw [b2_f (by omega)])
            · skip
              refine hv_sipush (v := nI 16384) C dL_step_205 (by decide) ?_
              refine hv_goto (tgt := 212) C dL_step_208 (by decide) ?_
              exact k51 _ (by rw [b2_t (by omega)])
        · intro k50
          refine hv_aload C dL_step_164 4 rfl ?_
          refine hv_iload C dL_step_166 9 rfl ?_
          refine hl_ald (k := 0) (i := x % A 4 0) (x := (nI (f_code A (x % A 4 0)))) C hS hq (by decide) (show x % A 4 0 < 14 by omega) (hG _ hk9) dL_step_168 ?_
          refine hv_bipush (v := nI 14) C dL_step_169 (by decide) ?_
          refine hv_iconst (v := nI 1) C dL_step_171 (by decide) ?_
          refine hv_callSr (As := [.int (nI (f_code A (x % A 4 0))), .int (nI 14), .int (nI 1)]) (rest := []) (n := 3) C (c_L_part l w Y ((f_code A (x % A 4 0))) 14 1 ((A 9 (x % A 4 0))) (by omega) (by decide) (by decide) cd5) gL_step_L_part rfl (by decide +kernel) ⟨(Nat.le_of_ble_eq_true rfl), (Nat.le_of_ble_eq_true rfl)⟩ rfl rfl (Nat.le_of_ble_eq_true rfl) dL_step_172 ⟨by first | exact Nat.le_of_ble_eq_true rfl | omega | (simp; done) | (simp; omega), by first | exact Nat.le_of_ble_eq_true rfl | omega | (simp; done) | (simp; omega)⟩ (fun r60 Y1 hr => ?_)
          obtain ⟨rfl, hy9⟩ := hr; obtain rfl := hy9.symm
          refine hv_iconst (v := nI 1) C dL_step_175 (by decide) ?_
          refine hv_icmpN_ne (tgt := 183) C dL_step_176 (by decide) (by omega) (by omega) (fun h61 => ?_) (fun h61 => ?_)
          · skip
            refine hv_iconst (v := nI 0) C dL_step_183 (by decide) ?_
            exact k50 _ (b2_f (by omega)).symm
          · skip
            refine hv_iconst (v := nI 1) C dL_step_179 (by decide) ?_
            refine hv_goto (tgt := 184) C dL_step_180 (by decide) ?_
            exact k50 _ (b2_t (by omega)).symm
      · skip
        refine hv_iconst (v := nI 1) C dL_step_154 (by decide) ?_
        exact hv_zret C hret (by decide) dL_step_155 (by first | exact Nat.le_refl _ | decide | omega | (simp; done) | (simp; omega)) (by first | exact Nat.le_refl _ | decide | omega | (simp; done) | (simp; omega)) ⟨rfl, zPost_le ⟨F, A, hS, hL⟩ (by omega) hM9⟩
  · skip
    refine hv_iload_n C dL_step_5 rfl 2 rfl ?_
    refine hv_bipush (v := nI 8) C dL_step_6 (by decide) ?_
    refine hv_iremN C dL_step_8 (by omega) (by omega) (by omega) ?_
    refine hv_istore (lv1 := [(0, .ref (o)), (1, .int (nI what)), (2, .int (nI x)), (3, .int (nI y)), (4, .ref (q 0)), (5, .ref (q 1)), (6, .ref (q 2)), (7, .ref (q 3)), (8, .ref (q 4)), (9, .int (nI (x % 8)))]) C dL_step_9 (by decide) [1, 2, 3, 4, 5, 6, 7, 8, 9, 0] rfl ?_
    refine hv_iload C dL_step_11 9 rfl ?_
    refine hv_iconst (v := nI 1) C dL_step_13 (by decide) ?_
    refine hv_iaddN C dL_step_14 ?_
    refine hv_iload_n C dL_step_15 rfl 3 rfl ?_
    refine hv_bipush (v := nI 7) C dL_step_16 (by decide) ?_
    refine hv_iremN C dL_step_18 (by omega) (by omega) (by omega) ?_
    refine hv_iaddN C dL_step_19 ?_
    refine hv_bipush (v := nI 8) C dL_step_20 (by decide) ?_
    refine hv_iremN C dL_step_22 (by omega) (by omega) (by omega) ?_
    refine hv_istore (lv1 := [(0, .ref (o)), (1, .int (nI what)), (2, .int (nI x)), (3, .int (nI y)), (4, .ref (q 0)), (5, .ref (q 1)), (6, .ref (q 2)), (7, .ref (q 3)), (8, .ref (q 4)), (9, .int (nI (x % 8))), (10, .int (nI ((((x % 8) + 1) + (y % 7)) % 8)))]) C dL_step_23 (by decide) [1, 2, 3, 4, 5, 6, 7, 8, 9, 10, 0] rfl ?_
    refine hv_iconst (v := nI 1) C dL_step_25 (by decide) ?_
    refine hv_iload_n C dL_step_26 rfl 2 rfl ?_
    refine hv_bipush (v := nI 8) C dL_step_27 (by decide) ?_
    refine hv_idivN C dL_step_29 (by omega) (by omega) (by omega) ?_
    refine hv_bipush (v := nI 9) C dL_step_30 (by decide) ?_
    refine hv_iremN C dL_step_32 (by omega) (by omega) (by omega) ?_
    refine hv_iaddN C dL_step_33 ?_
    refine hv_istore (lv1 := [(0, .ref (o)), (1, .int (nI what)), (2, .int (nI x)), (3, .int (nI y)), (4, .ref (q 0)), (5, .ref (q 1)), (6, .ref (q 2)), (7, .ref (q 3)), (8, .ref (q 4)), (9, .int (nI (x % 8))), (10, .int (nI ((((x % 8) + 1) + (y % 7)) % 8))), (11, .int (nI (1 + ((x / 8) % 9))))]) C dL_step_34 (by decide) [1, 2, 3, 4, 5, 6, 7, 8, 9, 10, 11, 0] rfl ?_
    refine hv_iload_n C dL_step_36 rfl 3 rfl ?_
    refine hv_bipush (v := nI 7) C dL_step_37 (by decide) ?_
    refine hv_idivN C dL_step_39 (by omega) (by omega) (by omega) ?_
    refine hv_bipush (v := nI 10) C dL_step_40 (by decide) ?_
    refine hv_iremN C dL_step_42 (by omega) (by omega) (by omega) ?_
    refine hv_istore (lv1 := [(0, .ref (o)), (1, .int (nI what)), (2, .int (nI x)), (3, .int (nI y)), (4, .ref (q 0)), (5, .ref (q 1)), (6, .ref (q 2)), (7, .ref (q 3)), (8, .ref (q 4)), (9, .int (nI (x % 8))), (10, .int (nI ((((x % 8) + 1) + (y % 7)) % 8))), (11, .int (nI (1 + ((x / 8) % 9)))), (12, .int (nI ((y / 7) % 10)))]) C dL_step_43 (by decide) [1, 2, 3, 4, 5, 6, 7, 8, 9, 10, 11, 12, 0] rfl ?_
    refine hv_join (α := Nat) (pcJ := 59) (fun _ => Y) (fun _ => [(0, .ref (o)), (1, .int (nI what)), (2, .int (nI x)), (3, .int (nI y)), (4, .ref (q 0)), (5, .ref (q 1)), (6, .ref (q 2)), (7, .ref (q 3)), (8, .ref (q 4)), (9, .int (nI (x % 8))), (10, .int (nI ((((x % 8) + 1) + (y % 7)) % 8))), (11, .int (nI (1 + ((x / 8) % 9)))), (12, .int (nI ((y / 7) % 10)))]) (fun t9 => .int (nI t9) :: []) (fun t9 => t9 = b2 (A 4 0 < 14)) ?_ ?_
    · rintro _ rfl
      refine hv_istore (lv1 := [(0, .ref (o)), (1, .int (nI what)), (2, .int (nI x)), (3, .int (nI y)), (4, .ref (q 0)), (5, .ref (q 1)), (6, .ref (q 2)), (7, .ref (q 3)), (8, .ref (q 4)), (9, .int (nI (x % 8))), (10, .int (nI ((((x % 8) + 1) + (y % 7)) % 8))), (11, .int (nI (1 + ((x / 8) % 9)))), (12, .int (nI ((y / 7) % 10))), (13, .int (nI (b2 (A 4 0 < 14))))]) C dL_step_59 (by decide) [1, 2, 3, 4, 5, 6, 7, 8, 9, 10, 11, 12, 13, 0] rfl ?_
      refine hv_iload C dL_step_61 13 rfl ?_
      refine hv_ifb_eq (tgt := 104) C dL_step_63 (by decide) (fun h63 => ?_) (fun h63 => ?_)
      · skip
        refine hv_aload_n C dL_step_104 rfl 0 rfl ?_
        refine hv_iconst (v := nI 0) C dL_step_105 (by decide) ?_
        refine hv_iload C dL_step_106 9 rfl ?_
        refine hv_iload C dL_step_108 10 rfl ?_
        refine hv_iload C dL_step_110 11 rfl ?_
        refine hv_iload C dL_step_112 12 rfl ?_
        refine hv_callSrH (As := [.ref (o), .int (nI 0), .int (nI (x % 8)), .int (nI ((((x % 8) + 1) + (y % 7)) % 8)), .int (nI (1 + ((x / 8) % 9))), .int (nI ((y / 7) % 10))]) (rest := []) (n := 6) C (c_L_askDig l w o iv F A Y hlt hS hI (x % 8) ((x % 8 + 1 + y % 7) % 8) (1 + x / 8 % 9) (y / 7 % 10) (by omega) (by omega) (by omega) (by omega) (by omega) (by omega)) gL_step_L_asks rfl (by decide +kernel) ⟨(Nat.le_of_ble_eq_true rfl), (Nat.le_of_ble_eq_true rfl)⟩ rfl rfl (Nat.le_of_ble_eq_true rfl) dL_step_114 ⟨by first | exact Nat.le_of_ble_eq_true rfl | omega | (simp; done), by first | exact Nat.le_of_ble_eq_true rfl | omega | (simp; done)⟩ (fun r9 Y9 hr => ?_)
        rcases hr with ⟨hc, rfl, hS9⟩ | ⟨hc, rfl, hS9⟩
        · skip
          refine hv_iload C dL_step_117 13 rfl ?_
          refine hv_ifb_eq (tgt := 131) C dL_step_119 (by decide) (fun _ => ?_) (fun h => absurd h h63)
          refine hv_bipush (v := (-108)) C dL_step_131 (by decide) ?_
          refine hv_icmp_ne (tgt := 140) C dL_step_133 (by decide) (fun h65 => ?_) (fun h65 => ?_)
          · skip
            exact absurd rfl h65
          · skip
            refine hv_iconst (v := nI 1) C dL_step_136 (by decide) ?_
            refine hv_goto (tgt := 141) C dL_step_137 (by decide) ?_
            exact hv_zret C hret (by decide) dL_step_141 (by first | exact Nat.le_refl _ | decide | omega | (simp; done) | (simp; omega)) (by first | exact Nat.le_refl _ | decide | omega | (simp; done) | (simp; omega)) ⟨rfl, zPost_le ⟨F, A, hS9, hL⟩ (by omega) hM9⟩
        · skip
          exact absurd (by omega) hc
      · skip
        refine hv_aload C dL_step_66 4 rfl ?_
        refine hv_aload C dL_step_68 6 rfl ?_
        refine hv_iconst (v := nI 0) C dL_step_70 (by decide) ?_
        refine hl_ald (k := 2) (i := 0) (x := (nI (A 4 0))) C hS hq (by decide) (show 0 < 3 by omega) hc0 dL_step_71 ?_
        refine hv_iload C dL_step_72 9 rfl ?_
        refine hv_iload C dL_step_74 10 rfl ?_
        refine hv_iconst (v := nI 3) C dL_step_76 (by decide) ?_
        refine hv_ishl C dL_step_77 ?_
        refine hv_top (y := nI (((x % 8 + 1 + y % 7) % 8) * 2 ^ 3)) (pk_shlN _ 3 (by decide) (by omega)) ?_
        refine hv_ior C dL_step_78 ?_
        refine hv_top (y := nI ((x % 8) + ((x % 8 + 1 + y % 7) % 8) * 2 ^ 3)) (nI_orp _ (by omega)) ?_
        refine hv_iload C dL_step_79 11 rfl ?_
        refine hv_bipush (v := nI 6) C dL_step_81 (by decide) ?_
        refine hv_ishl C dL_step_83 ?_
        refine hv_top (y := nI ((1 + x / 8 % 9) * 2 ^ 6)) (pk_shlN _ 6 (by decide) (by omega)) ?_
        refine hv_ior C dL_step_84 ?_
        refine hv_top (y := nI ((x % 8) + ((x % 8 + 1 + y % 7) % 8) * 2 ^ 3 + (1 + x / 8 % 9) * 2 ^ 6)) (nI_orp _ (by omega)) ?_
        refine hv_iload C dL_step_85 12 rfl ?_
        refine hv_bipush (v := nI 10) C dL_step_87 (by decide) ?_
        refine hv_ishl C dL_step_89 ?_
        refine hv_top (y := nI ((y / 7 % 10) * 2 ^ 10)) (pk_shlN _ 10 (by decide) (by omega)) ?_
        refine hv_ior C dL_step_90 ?_
        refine hv_top (y := nI ((x % 8) + ((x % 8 + 1 + y % 7) % 8) * 2 ^ 3 + (1 + x / 8 % 9) * 2 ^ 6 + (y / 7 % 10) * 2 ^ 10)) (nI_orp _ (by omega)) ?_
        refine hv_sipush (v := nI 16384) C dL_step_91 (by decide) ?_
        refine hv_ior C dL_step_94 ?_
        refine hv_top (y := nI ((x % 8) + ((x % 8 + 1 + y % 7) % 8) * 2 ^ 3 + (1 + x / 8 % 9) * 2 ^ 6 + (y / 7 % 10) * 2 ^ 10 + 16384)) (show (nI ((x % 8) + ((x % 8 + 1 + y % 7) % 8) * 2 ^ 3 + (1 + x / 8 % 9) * 2 ^ 6 + (y / 7 % 10) * 2 ^ 10) ||| nI 16384 : Int32) = nI ((x % 8) + ((x % 8 + 1 + y % 7) % 8) * 2 ^ 3 + (1 + x / 8 % 9) * 2 ^ 6 + (y / 7 % 10) * 2 ^ 10 + 16384) from nI_orp (k := 14) 1 (by omega)) ?_
        refine hl_ast (k := 0) (i := A 4 0) (v := (nI ((x % 8) + ((x % 8 + 1 + y % 7) % 8) * 2 ^ 3 + (1 + x / 8 % 9) * 2 ^ 6 + (y / 7 % 10) * 2 ^ 10 + 16384))) C hS hq (by decide) (show A 4 0 < 14 by omega) dL_step_95 (fun Y66 hS67 => ?_)
        refine hv_aload C dL_step_96 6 rfl ?_
        refine hv_iconst (v := nI 0) C dL_step_98 (by decide) ?_
        refine hv_dup2 C dL_step_99 rfl rfl ?_
        refine hl_ald (k := 2) (i := 0) (x := (nI (A 4 0))) C hS67 hq (by decide) (show 0 < 3 by omega) ((congrFun (Fu_k F _ _ (by decide)) 0).trans hc0) dL_step_100 ?_
        refine hv_iconst (v := nI 1) C dL_step_101 (by decide) ?_
        refine hv_iaddN C dL_step_102 ?_
        refine hl_ast (k := 2) (i := 0) (v := (nI ((A 4 0) + 1))) C hS67 hq (by decide) (show 0 < 3 by omega) dL_step_103 (fun Y68 hS69 => ?_)
        refine hv_aload_n C dL_step_104 rfl 0 rfl ?_
        refine hv_iconst (v := nI 0) C dL_step_105 (by decide) ?_
        refine hv_iload C dL_step_106 9 rfl ?_
        refine hv_iload C dL_step_108 10 rfl ?_
        refine hv_iload C dL_step_110 11 rfl ?_
        refine hv_iload C dL_step_112 12 rfl ?_
        refine hv_callSrH (As := [.ref (o), .int (nI 0), .int (nI (x % 8)), .int (nI ((((x % 8) + 1) + (y % 7)) % 8)), .int (nI (1 + ((x / 8) % 9))), .int (nI ((y / 7) % 10))]) (rest := []) (n := 6) C (c_L_askDig l w o iv (Fu (Fu F 0 (A 4 0) ((nI ((x % 8) + ((x % 8 + 1 + y % 7) % 8) * 2 ^ 3 + (1 + x / 8 % 9) * 2 ^ 6 + (y / 7 % 10) * 2 ^ 10 + 16384)))) 2 0 ((nI ((A 4 0) + 1)))) A Y68 hlt hS69 hI (x % 8) ((x % 8 + 1 + y % 7) % 8) (1 + x / 8 % 9) (y / 7 % 10) (by omega) (by omega) (by omega) (by omega) (by omega) (by omega)) gL_step_L_asks rfl (by decide +kernel) ⟨(Nat.le_of_ble_eq_true rfl), (Nat.le_of_ble_eq_true rfl)⟩ rfl rfl (Nat.le_of_ble_eq_true rfl) dL_step_114 ⟨by first | exact Nat.le_of_ble_eq_true rfl | omega | (simp; done), by first | exact Nat.le_of_ble_eq_true rfl | omega | (simp; done)⟩ (fun r9 Y9 hr => ?_)
        rcases hr with ⟨hc, rfl, hS9⟩ | ⟨hc, rfl, hS9⟩
        · skip
          exact absurd hc (by omega)
        · skip
          refine hv_iload C dL_step_117 13 rfl ?_
          refine hv_ifb_eq (tgt := 131) C dL_step_119 (by decide) (fun h => absurd h63 h) (fun _ => ?_)
          refine hv_aload C dL_step_122 6 rfl ?_
          refine hv_iconst (v := nI 0) C dL_step_124 (by decide) ?_
          refine hl_ald (k := 2) (i := 0) (x := (nI (A 4 0 + 1))) C hS9 hq (by decide) (show 0 < 3 by omega) (Fu_s _ _ _ _) dL_step_125 ?_
          refine hv_iconst (v := nI 1) C dL_step_126 (by decide) ?_
          refine hv_isubN C dL_step_127 (by omega) ?_
          refine hv_goto (tgt := 133) C dL_step_128 (by decide) ?_
          refine hv_icmpN_ne (tgt := 140) C dL_step_133 (by decide) (by omega) (by omega) (fun h71 => ?_) (fun h71 => ?_)
          · skip
            exact absurd (by omega) h71
          · skip
            refine hv_iconst (v := nI 1) C dL_step_136 (by decide) ?_
            refine hv_goto (tgt := 141) C dL_step_137 (by decide) ?_
            exact hv_zret C hret (by decide) dL_step_141 (by first | exact Nat.le_refl _ | decide | omega | (simp; done) | (simp; omega)) (by first | exact Nat.le_refl _ | decide | omega | (simp; done) | (simp; omega)) ⟨rfl, zPost_le ⟨_, _, hS9, L_dig hL (by omega) (by omega) (by omega) (by omega) (by omega) (by omega) hc⟩ (by omega) hM9⟩
    · intro k62
      refine hv_aload C dL_step_45 6 rfl ?_
      refine hv_iconst (v := nI 0) C dL_step_47 (by decide) ?_
      refine hl_ald (k := 2) (i := 0) (x := (nI (A 4 0))) C hS hq (by decide) (show 0 < 3 by omega) hc0 dL_step_48 ?_
      refine hv_bipush (v := nI 14) C dL_step_49 (by decide) ?_
      refine hv_icmpN_ge (tgt := 58) C dL_step_51 (by decide) (by omega) (by omega) (fun h72 => ?_) (fun h72 => ?_)
      · skip
        refine hv_iconst (v := nI 0) C dL_step_58 (by decide) ?_
        exact k62 _ (b2_f (by omega)).symm
      · skip
        refine hv_iconst (v := nI 1) C dL_step_54 (by decide) ?_
        refine hv_goto (tgt := 59) C dL_step_55 (by decide) ?_
        exact k62 _ (b2_t (by omega)).symm
