set_option maxRecDepth 100000 in
set_option maxHeartbeats 4000000 in
theorem c_L_areCanals (l : Launch) (w : hv_W) (o : Nat) (q : Nat → Nat) (iv : Nat → Option Nat) (F : Nat → Nat → Int32) (A : ab_A) (Y : hv_H) (hq : lok q iv) (hS : zLS w o iv F A Y) {M : Nat} (hlt : l.stackTraces = false) (hL : zLI A F M) : hv_Mr l yL_areCanals wsL_areCanals ({ frames := 9, cells := 6, slots := 40, locals := 200 }) w [.ref (o), .ref (q 0), .ref (q 2)] Y (fun r Y1 => r = .int (nI 1) ∧ Y1 = Y) := by
  refine hv_ofV (cc := cL_areCanals) (own := RL) (by decide) rfl rfl (Nat.le_of_ble_eq_true rfl) rfl ?_
  intro p e s m below meth c C hret hnm
  obtain ⟨hI, hJ, ⟨hM, hM2⟩, hG, hB, hc0, hc1, hc2⟩ := id hL
  have i4 := hI.2.2.2.1
  have ha8 : f_all A 8 ≤ 1000000 := by rw [sm_all]; omega
  have hal : ∀ n, n ≤ 8 → f_all A n ≤ 200 * n := fun n hn => by rw [sm_all]; exact sm_le (fun i hi => (hI.1 i (by omega)).2.1)
  refine hv_aload_n C dL_areCanals_0 rfl 0 rfl ?_
  refine hv_callVr (As := []) (rest := []) (n := 0) C (k_canals l w o (lY w iv F) A Y hS hI) gL_areCanals_X4_canals rfl (by decide +kernel) ⟨(Nat.le_of_ble_eq_true rfl), (Nat.le_of_ble_eq_true rfl)⟩ (zLS_rc hS) rfl rfl (Nat.le_of_ble_eq_true rfl) dL_areCanals_1 ⟨by first | exact Nat.le_of_ble_eq_true rfl | omega | (simp; done) | (simp; omega), by first | exact Nat.le_of_ble_eq_true rfl | omega | (simp; done) | (simp; omega)⟩ (fun r1 Y1 hr => ?_)
  obtain ⟨rfl, hy9⟩ := hr; obtain rfl := hy9.symm
  refine hv_aload_n C dL_areCanals_4 rfl 2 rfl ?_
  refine hv_iconst (v := nI 0) C dL_areCanals_5 (by decide) ?_
  refine hl_ald (k := 2) (i := 0) (x := (nI (A 4 0))) C hS hq (by decide) (show 0 < 3 by omega) hc0 dL_areCanals_6 ?_
  refine hv_icmpN_ne (tgt := 30) C dL_areCanals_7 (by decide) (by omega) (by omega) (fun h2 => ?_) (fun h2 => ?_)
  · skip
    exact absurd rfl h2
  · skip
    refine hv_aload_n C dL_areCanals_10 rfl 0 rfl ?_
    refine hv_iconst (v := nI 3) C dL_areCanals_11 (by decide) ?_
    refine hv_aload_n C dL_areCanals_12 rfl 2 rfl ?_
    refine hv_iconst (v := nI 0) C dL_areCanals_13 (by decide) ?_
    refine hl_ald (k := 2) (i := 0) (x := (nI (A 4 0))) C hS hq (by decide) (show 0 < 3 by omega) hc0 dL_areCanals_14 ?_
    refine hv_iconst (v := nI 0) C dL_areCanals_15 (by decide) ?_
    refine hv_iconst (v := nI 0) C dL_areCanals_16 (by decide) ?_
    refine hv_iconst (v := nI 0) C dL_areCanals_17 (by decide) ?_
    refine hv_callSrH (As := [.ref (o), .int (nI 3), .int (nI (A 4 0)), .int (nI 0), .int (nI 0), .int (nI 0)]) (rest := []) (n := 6) C (c_L_askCost l w o iv F A Y hlt hS hI) gL_areCanals_L_asks rfl (by decide +kernel) ⟨(Nat.le_of_ble_eq_true rfl), (Nat.le_of_ble_eq_true rfl)⟩ rfl rfl (Nat.le_of_ble_eq_true rfl) dL_areCanals_18 ⟨by first | exact Nat.le_of_ble_eq_true rfl | omega | (simp; done) | (simp; omega), by first | exact Nat.le_of_ble_eq_true rfl | omega | (simp; done) | (simp; omega)⟩ (fun r3 Y1 hr => ?_)
    obtain ⟨rfl, hy9⟩ := hr; obtain rfl := hy9.symm
    refine hv_bipush (v := (-107)) C dL_areCanals_21 (by decide) ?_
    refine hv_icmp_ne (tgt := 30) C dL_areCanals_23 (by decide) (fun h4 => ?_) (fun h4 => ?_)
    · skip
      exact absurd rfl h4
    · skip
      refine hv_iconst (v := nI 1) C dL_areCanals_26 (by decide) ?_
      refine hv_goto (tgt := 31) C dL_areCanals_27 (by decide) ?_
      refine hv_istore_n (lv1 := [(0, .ref (o)), (1, .ref (q 0)), (2, .ref (q 2)), (3, .int (nI 1))]) C dL_areCanals_31 rfl (by decide) [1, 2, 3, 0] rfl ?_
      refine hv_iconst (v := nI 0) C dL_areCanals_32 (by decide) ?_
      refine hv_istore (lv1 := [(0, .ref (o)), (1, .ref (q 0)), (2, .ref (q 2)), (3, .int (nI 1)), (4, .int (nI 0))]) C dL_areCanals_33 (by decide) [1, 2, 3, 4, 0] rfl ?_
      refine hv_iconst (v := nI 0) C dL_areCanals_35 (by decide) ?_
      refine hv_istore (lv1 := [(0, .ref (o)), (1, .ref (q 0)), (2, .ref (q 2)), (3, .int (nI 1)), (4, .int (nI 0)), (5, .int (nI 0))]) C dL_areCanals_36 (by decide) [1, 2, 3, 4, 5, 0] rfl ?_
      refine hv_loop 8 (fun i => Y) (fun i => [(0, .ref (o)), (1, .ref (q 0)), (2, .ref (q 2)), (3, .int (nI 1)), (4, .int (nI (f_all A i))), (5, .int (nI i))]) ?_ ?_
      · skip
        refine hv_iload C dL_areCanals_38 5 rfl ?_
        refine hv_bipush (v := nI 8) C dL_areCanals_40 (by decide) ?_
        refine hv_icmpN_ge (tgt := 94) C dL_areCanals_42 (by decide) (by omega) (by omega) (fun _ => ?_) (fun h => absurd h (by decide))
        refine hv_iconst (v := nI 0) C dL_areCanals_94 (by decide) ?_
        refine hv_istore (lv1 := [(0, .ref (o)), (1, .ref (q 0)), (2, .ref (q 2)), (3, .int (nI 1)), (4, .int (nI (f_all A 8))), (5, .int (nI 0))]) C dL_areCanals_95 (by decide) [1, 2, 3, 4, 5, 0] rfl ?_
        refine hv_loop (A 4 0) (fun i => Y) (fun i => [(0, .ref (o)), (1, .ref (q 0)), (2, .ref (q 2)), (3, .int (nI 1)), (4, .int (nI (f_all A 8))), (5, .int (nI i))]) ?_ ?_
        · skip
          refine hv_iload C dL_areCanals_97 5 rfl ?_
          refine hv_aload_n C dL_areCanals_99 rfl 2 rfl ?_
          refine hv_iconst (v := nI 0) C dL_areCanals_100 (by decide) ?_
          refine hl_ald (k := 2) (i := 0) (x := (nI (A 4 0))) C hS hq (by decide) (show 0 < 3 by omega) hc0 dL_areCanals_101 ?_
          refine hv_icmpN_ge (tgt := 262) C dL_areCanals_102 (by decide) (by omega) (by omega) (fun h6 => ?_) (fun h6 => ?_)
          · skip
            refine hv_iload_n C dL_areCanals_262 rfl 3 rfl ?_
            refine hv_ifN_eq (tgt := 286) C dL_areCanals_263 (by decide) (by omega) (fun h => absurd h (by decide)) (fun _ => ?_)
            refine hv_aload_n C dL_areCanals_266 rfl 0 rfl ?_
            refine hv_callVr (As := []) (rest := []) (n := 0) C (k_allWater l w o (lY w iv F) A Y hS hI) gL_areCanals_X4_allWater rfl (by decide +kernel) ⟨(Nat.le_of_ble_eq_true rfl), (Nat.le_of_ble_eq_true rfl)⟩ (zLS_rc hS) rfl rfl (Nat.le_of_ble_eq_true rfl) dL_areCanals_267 ⟨by first | exact Nat.le_of_ble_eq_true rfl | omega | (simp; done) | (simp; omega), by first | exact Nat.le_of_ble_eq_true rfl | omega | (simp; done) | (simp; omega)⟩ (fun r8 Y1 hr => ?_)
            obtain ⟨rfl, hy9⟩ := hr; obtain rfl := hy9.symm
            refine hv_iload C dL_areCanals_270 4 rfl ?_
            refine hv_icmpN_ne (tgt := 286) C dL_areCanals_272 (by decide) (by omega) (by omega) (fun h9 => ?_) (fun h9 => ?_)
            · skip
              exact absurd rfl h9
            · skip
              refine hv_aload_n C dL_areCanals_275 rfl 0 rfl ?_
              refine hv_callVr (As := []) (rest := []) (n := 0) C (k_spilt l w o (lY w iv F) A Y hS hI) gL_areCanals_X4_spilt rfl (by decide +kernel) ⟨(Nat.le_of_ble_eq_true rfl), (Nat.le_of_ble_eq_true rfl)⟩ (zLS_rc hS) rfl rfl (Nat.le_of_ble_eq_true rfl) dL_areCanals_276 ⟨by first | exact Nat.le_of_ble_eq_true rfl | omega | (simp; done) | (simp; omega), by first | exact Nat.le_of_ble_eq_true rfl | omega | (simp; done) | (simp; omega)⟩ (fun r10 Y1 hr => ?_)
              obtain ⟨rfl, hy9⟩ := hr; obtain rfl := hy9.symm
              refine hv_ifN_lt (tgt := 286) C dL_areCanals_279 (by decide) (by omega) (fun h11 => ?_) (fun h11 => ?_)
              · skip
                exact (h11).elim
              · skip
                refine hv_iconst (v := nI 1) C dL_areCanals_282 (by decide) ?_
                refine hv_goto (tgt := 287) C dL_areCanals_283 (by decide) ?_
                exact hv_zret C hret (by decide) dL_areCanals_287 (by first | exact Nat.le_refl _ | decide | omega | (simp; done) | (simp; omega)) (by first | exact Nat.le_refl _ | decide | omega | (simp; done) | (simp; omega)) ⟨rfl, rfl⟩
          · skip
            exact absurd h6 (by omega)
        · intro i hi ih
          refine hv_iload C dL_areCanals_97 5 rfl ?_
          refine hv_aload_n C dL_areCanals_99 rfl 2 rfl ?_
          refine hv_iconst (v := nI 0) C dL_areCanals_100 (by decide) ?_
          refine hl_ald (k := 2) (i := 0) (x := (nI (A 4 0))) C hS hq (by decide) (show 0 < 3 by omega) hc0 dL_areCanals_101 ?_
          refine hv_icmpN_ge (tgt := 262) C dL_areCanals_102 (by decide) (by omega) (by omega) (fun h12 => ?_) (fun h12 => ?_)
          · skip
            exact absurd h12 (by omega)
          · skip
            refine hv_iload_n C dL_areCanals_105 rfl 3 rfl ?_
            refine hv_ifN_eq (tgt := 262) C dL_areCanals_106 (by decide) (by omega) (fun h => absurd h (by decide)) (fun _ => ?_)
            have hcd := code_p hI hi
            have hcW := hI.2.2.2.2.1 i hi
            obtain ⟨w5, w6, w56, w7, w7b, w8, w9⟩ := hcW
            have hc29 := f_cost_le hI hi
            have hd1 := f_dear_le A (A 5 i)
            have hd2 := f_dear_le A (A 6 i)
            have b5 := hI.1 (A 5 i) w5
            have b6 := hI.1 (A 6 i) w6
            refine hv_aload_n C dL_areCanals_109 rfl 1 rfl ?_
            refine hv_iload C dL_areCanals_110 5 rfl ?_
            refine hl_ald (k := 0) (i := i) (x := (nI (f_code A i))) C hS hq (by decide) (show i < 14 by omega) (hG i hi) dL_areCanals_112 ?_
            refine hv_bipush (v := nI 6) C dL_areCanals_113 (by decide) ?_
            refine hv_iconst (v := nI 4) C dL_areCanals_115 (by decide) ?_
            refine hv_callSr (As := [.int (nI (f_code A i)), .int (nI 6), .int (nI 4)]) (rest := []) (n := 3) C (c_L_part l w Y (f_code A i) 6 4 (A 7 i) (by omega) (by decide) (by decide) hcd.2.2.2.1) gL_areCanals_L_part rfl (by decide +kernel) ⟨(Nat.le_of_ble_eq_true rfl), (Nat.le_of_ble_eq_true rfl)⟩ rfl rfl (Nat.le_of_ble_eq_true rfl) dL_areCanals_116 ⟨by first | exact Nat.le_of_ble_eq_true rfl | omega | (simp; done) | (simp; omega), by first | exact Nat.le_of_ble_eq_true rfl | omega | (simp; done) | (simp; omega)⟩ (fun r14 Y1 hr => ?_)
            obtain ⟨rfl, hy9⟩ := hr; obtain rfl := hy9.symm
            refine hv_istore (lv1 := [(0, .ref (o)), (1, .ref (q 0)), (2, .ref (q 2)), (3, .int (nI 1)), (4, .int (nI (f_all A 8))), (5, .int (nI i)), (6, .int (nI (A 7 i)))]) C dL_areCanals_119 (by decide) [1, 2, 3, 4, 5, 6, 0] rfl ?_
            refine hv_iconst (v := nI 0) C dL_areCanals_121 (by decide) ?_
            refine hv_istore (lv1 := [(0, .ref (o)), (1, .ref (q 0)), (2, .ref (q 2)), (3, .int (nI 1)), (4, .int (nI (f_all A 8))), (5, .int (nI i)), (6, .int (nI (A 7 i))), (7, .int (nI 0))]) C dL_areCanals_122 (by decide) [1, 2, 3, 4, 5, 6, 7, 0] rfl ?_
            refine hv_iload C dL_areCanals_124 7 rfl ?_
            refine hv_iconst (v := nI 2) C dL_areCanals_126 (by decide) ?_
            refine hv_icmpN_ge (tgt := 183) C dL_areCanals_127 (by decide) (by omega) (by omega) (fun h => absurd h (by decide)) (fun _ => ?_)
            refine hv_aload_n C dL_areCanals_130 rfl 0 rfl ?_
            refine hv_aload_n C dL_areCanals_131 rfl 1 rfl ?_
            refine hv_iload C dL_areCanals_132 5 rfl ?_
            refine hl_ald (k := 0) (i := i) (x := (nI (f_code A i))) C hS hq (by decide) (show i < 14 by omega) (hG i hi) dL_areCanals_134 ?_
            refine hv_iconst (v := nI 3) C dL_areCanals_135 (by decide) ?_
            refine hv_iload C dL_areCanals_136 7 rfl ?_
            refine hv_imulN C dL_areCanals_138 ?_
            refine hv_iconst (v := nI 3) C dL_areCanals_139 (by decide) ?_
            refine hv_callSr (As := [.int (nI (f_code A i)), .int (nI (3 * 0)), .int (nI 3)]) (rest := [.ref (o)]) (n := 3) C (c_L_part l w Y (f_code A i) (3 * 0) 3 (A 5 i) (by omega) (by decide) (by decide) (by simpa using hcd.2.1)) gL_areCanals_L_part rfl (by decide +kernel) ⟨(Nat.le_of_ble_eq_true rfl), (Nat.le_of_ble_eq_true rfl)⟩ rfl rfl (Nat.le_of_ble_eq_true rfl) dL_areCanals_140 ⟨by first | exact Nat.le_of_ble_eq_true rfl | omega | (simp; done) | (simp; omega), by first | exact Nat.le_of_ble_eq_true rfl | omega | (simp; done) | (simp; omega)⟩ (fun r16 Y1 hr => ?_)
            obtain ⟨rfl, hy9⟩ := hr; obtain rfl := hy9.symm
            refine hv_callVr (As := [.int (nI (A 5 i))]) (rest := []) (n := 1) C (k_water l w o (lY w iv F) A Y hS hI (A 5 i) (by omega)) gL_areCanals_X4_water rfl (by decide +kernel) ⟨(Nat.le_of_ble_eq_true rfl), (Nat.le_of_ble_eq_true rfl)⟩ (zLS_rc hS) rfl rfl (Nat.le_of_ble_eq_true rfl) dL_areCanals_143 ⟨by first | exact Nat.le_of_ble_eq_true rfl | omega | (simp; done) | (simp; omega), by first | exact Nat.le_of_ble_eq_true rfl | omega | (simp; done) | (simp; omega)⟩ (fun r17 Y1 hr => ?_)
            obtain ⟨rfl, hy9⟩ := hr; obtain rfl := hy9.symm
            refine hv_istore (lv1 := [(0, .ref (o)), (1, .ref (q 0)), (2, .ref (q 2)), (3, .int (nI 1)), (4, .int (nI (f_all A 8))), (5, .int (nI i)), (6, .int (nI (A 7 i))), (7, .int (nI 0)), (8, .int (nI (A 0 (A 5 i))))]) C dL_areCanals_146 (by decide) [1, 2, 3, 4, 5, 6, 7, 8, 0] rfl ?_
            refine hv_iload C dL_areCanals_148 6 rfl ?_
            refine hv_join (α := Nat) (pcJ := 174) (fun _ => Y) (fun _ => [(0, .ref (o)), (1, .ref (q 0)), (2, .ref (q 2)), (3, .int (nI 1)), (4, .int (nI (f_all A 8))), (5, .int (nI i)), (6, .int (nI (A 7 i))), (7, .int (nI 0)), (8, .int (nI (A 0 (A 5 i))))]) (fun t9 => .int (nI t9) :: [.int (nI (A 7 i))]) (fun t9 => t9 = f_dear A (A 5 i)) ?_ ?_
            · rintro _ rfl
              refine hv_iaddN C dL_areCanals_174 ?_
              refine hv_istore (lv1 := [(0, .ref (o)), (1, .ref (q 0)), (2, .ref (q 2)), (3, .int (nI 1)), (4, .int (nI (f_all A 8))), (5, .int (nI i)), (6, .int (nI ((A 7 i) + (f_dear A (A 5 i))))), (7, .int (nI 0)), (8, .int (nI (A 0 (A 5 i))))]) C dL_areCanals_175 (by decide) [1, 2, 3, 4, 5, 6, 0, 7, 8] rfl ?_
              refine hv_iinc (v := nI 1) (lv1 := [(0, .ref (o)), (1, .ref (q 0)), (2, .ref (q 2)), (3, .int (nI 1)), (4, .int (nI (f_all A 8))), (5, .int (nI i)), (6, .int (nI ((A 7 i) + (f_dear A (A 5 i))))), (7, .int (nI 1)), (8, .int (nI (A 0 (A 5 i))))]) C dL_areCanals_177 (k := 7) rfl (by decide) (by decide) [1, 2, 3, 4, 5, 6, 7, 0, 8] rfl ?_
              refine hv_goto (tgt := 124) C dL_areCanals_180 (by decide) ?_
              refine hv_iload C dL_areCanals_124 7 rfl ?_
              refine hv_iconst (v := nI 2) C dL_areCanals_126 (by decide) ?_
              refine hv_icmpN_ge (tgt := 183) C dL_areCanals_127 (by decide) (by omega) (by omega) (fun h => absurd h (by decide)) (fun _ => ?_)
              refine hv_aload_n C dL_areCanals_130 rfl 0 rfl ?_
              refine hv_aload_n C dL_areCanals_131 rfl 1 rfl ?_
              refine hv_iload C dL_areCanals_132 5 rfl ?_
              refine hl_ald (k := 0) (i := i) (x := (nI (f_code A i))) C hS hq (by decide) (show i < 14 by omega) (hG i hi) dL_areCanals_134 ?_
              refine hv_iconst (v := nI 3) C dL_areCanals_135 (by decide) ?_
              refine hv_iload C dL_areCanals_136 7 rfl ?_
              refine hv_imulN C dL_areCanals_138 ?_
              refine hv_iconst (v := nI 3) C dL_areCanals_139 (by decide) ?_
              refine hv_callSr (As := [.int (nI (f_code A i)), .int (nI (3 * 1)), .int (nI 3)]) (rest := [.ref (o)]) (n := 3) C (c_L_part l w Y (f_code A i) (3 * 1) 3 (A 6 i) (by omega) (by decide) (by decide) (by simpa using hcd.2.2.1)) gL_areCanals_L_part rfl (by decide +kernel) ⟨(Nat.le_of_ble_eq_true rfl), (Nat.le_of_ble_eq_true rfl)⟩ rfl rfl (Nat.le_of_ble_eq_true rfl) dL_areCanals_140 ⟨by first | exact Nat.le_of_ble_eq_true rfl | omega | (simp; done) | (simp; omega), by first | exact Nat.le_of_ble_eq_true rfl | omega | (simp; done) | (simp; omega)⟩ (fun r20 Y1 hr => ?_)
              obtain ⟨rfl, hy9⟩ := hr; obtain rfl := hy9.symm
              refine hv_callVr (As := [.int (nI (A 6 i))]) (rest := []) (n := 1) C (k_water l w o (lY w iv F) A Y hS hI (A 6 i) (by omega)) gL_areCanals_X4_water rfl (by decide +kernel) ⟨(Nat.le_of_ble_eq_true rfl), (Nat.le_of_ble_eq_true rfl)⟩ (zLS_rc hS) rfl rfl (Nat.le_of_ble_eq_true rfl) dL_areCanals_143 ⟨by first | exact Nat.le_of_ble_eq_true rfl | omega | (simp; done) | (simp; omega), by first | exact Nat.le_of_ble_eq_true rfl | omega | (simp; done) | (simp; omega)⟩ (fun r21 Y1 hr => ?_)
              obtain ⟨rfl, hy9⟩ := hr; obtain rfl := hy9.symm
              refine hv_istore (lv1 := [(0, .ref (o)), (1, .ref (q 0)), (2, .ref (q 2)), (3, .int (nI 1)), (4, .int (nI (f_all A 8))), (5, .int (nI i)), (6, .int (nI ((A 7 i) + (f_dear A (A 5 i))))), (7, .int (nI 1)), (8, .int (nI (A 0 (A 6 i))))]) C dL_areCanals_146 (by decide) [1, 2, 3, 4, 5, 6, 7, 8, 0] rfl ?_
              refine hv_iload C dL_areCanals_148 6 rfl ?_
              refine hv_join (α := Nat) (pcJ := 174) (fun _ => Y) (fun _ => [(0, .ref (o)), (1, .ref (q 0)), (2, .ref (q 2)), (3, .int (nI 1)), (4, .int (nI (f_all A 8))), (5, .int (nI i)), (6, .int (nI ((A 7 i) + (f_dear A (A 5 i))))), (7, .int (nI 1)), (8, .int (nI (A 0 (A 6 i))))]) (fun t9 => .int (nI t9) :: [.int (nI ((A 7 i) + (f_dear A (A 5 i))))]) (fun t9 => t9 = f_dear A (A 6 i)) ?_ ?_
              · rintro _ rfl
                refine hv_iaddN C dL_areCanals_174 ?_
                refine hv_istore (lv1 := [(0, .ref (o)), (1, .ref (q 0)), (2, .ref (q 2)), (3, .int (nI 1)), (4, .int (nI (f_all A 8))), (5, .int (nI i)), (6, .int (nI (((A 7 i) + (f_dear A (A 5 i))) + (f_dear A (A 6 i))))), (7, .int (nI 1)), (8, .int (nI (A 0 (A 6 i))))]) C dL_areCanals_175 (by decide) [1, 2, 3, 4, 5, 6, 0, 7, 8] rfl ?_
                refine hv_iinc (v := nI 2) (lv1 := [(0, .ref (o)), (1, .ref (q 0)), (2, .ref (q 2)), (3, .int (nI 1)), (4, .int (nI (f_all A 8))), (5, .int (nI i)), (6, .int (nI (((A 7 i) + (f_dear A (A 5 i))) + (f_dear A (A 6 i))))), (7, .int (nI 2)), (8, .int (nI (A 0 (A 6 i))))]) C dL_areCanals_177 (k := 7) rfl (by decide) (by decide) [1, 2, 3, 4, 5, 6, 7, 0, 8] rfl ?_
                refine hv_goto (tgt := 124) C dL_areCanals_180 (by decide) ?_
                refine hv_iload C dL_areCanals_124 7 rfl ?_
                refine hv_iconst (v := nI 2) C dL_areCanals_126 (by decide) ?_
                refine hv_icmpN_ge (tgt := 183) C dL_areCanals_127 (by decide) (by omega) (by omega) (fun _ => ?_) (fun h => absurd h (by decide))
                refine hv_aload_n C dL_areCanals_183 rfl 0 rfl ?_
                refine hv_iload C dL_areCanals_184 5 rfl ?_
                refine hv_callVr (As := [.int (nI i)]) (rest := []) (n := 1) C (k_cost l w o (lY w iv F) A Y hS hI i hi) gL_areCanals_X4_cost rfl (by decide +kernel) ⟨(Nat.le_of_ble_eq_true rfl), (Nat.le_of_ble_eq_true rfl)⟩ (zLS_rc hS) rfl rfl (Nat.le_of_ble_eq_true rfl) dL_areCanals_186 ⟨by first | exact Nat.le_of_ble_eq_true rfl | omega | (simp; done) | (simp; omega), by first | exact Nat.le_of_ble_eq_true rfl | omega | (simp; done) | (simp; omega)⟩ (fun r24 Y1 hr => ?_)
                obtain ⟨rfl, hy9⟩ := hr; obtain rfl := hy9.symm
                refine hv_iload C dL_areCanals_189 6 rfl ?_
                refine hv_icmpN_ne (tgt := 254) C dL_areCanals_191 (by decide) (by omega) (by omega) (fun h25 => ?_) (fun h25 => ?_)
                · skip
                  exact absurd rfl h25
                · skip
                  refine hv_aload_n C dL_areCanals_194 rfl 0 rfl ?_
                  refine hv_iload C dL_areCanals_195 5 rfl ?_
                  refine hv_callVr (As := [.int (nI i)]) (rest := []) (n := 1) C (k_canPass l w o (lY w iv F) A Y hS hI i hi) gL_areCanals_X4_canPass rfl (by decide +kernel) ⟨(Nat.le_of_ble_eq_true rfl), (Nat.le_of_ble_eq_true rfl)⟩ (zLS_rc hS) rfl rfl (Nat.le_of_ble_eq_true rfl) dL_areCanals_197 ⟨by first | exact Nat.le_of_ble_eq_true rfl | omega | (simp; done) | (simp; omega), by first | exact Nat.le_of_ble_eq_true rfl | omega | (simp; done) | (simp; omega)⟩ (fun r26 Y1 hr => ?_)
                  obtain ⟨rfl, hy9⟩ := hr; obtain rfl := hy9.symm
                  refine hv_join (α := Nat) (pcJ := 247) (fun _ => Y) (fun _ => [(0, .ref (o)), (1, .ref (q 0)), (2, .ref (q 2)), (3, .int (nI 1)), (4, .int (nI (f_all A 8))), (5, .int (nI i)), (6, .int (nI (((A 7 i) + (f_dear A (A 5 i))) + (f_dear A (A 6 i))))), (7, .int (nI 2)), (8, .int (nI (A 0 (A 6 i))))]) (fun t9 => .int (nI t9) :: [.int (nI (b2 (A 9 i ≠ 0 ∧ A 8 i + 5 ≤ A 0 (A 5 i))))]) (fun t9 => t9 = b2 (A 9 i ≠ 0 ∧ A 8 i + 5 ≤ A 0 (A 5 i))) ?_ ?_
                  · rintro _ rfl
                    refine hv_icmp_ne (tgt := 254) C dL_areCanals_247 (by decide) (fun h28 => ?_) (fun h28 => ?_)
                    · skip
                      exact absurd rfl h28
                    · skip
                      refine hv_iconst (v := nI 1) C dL_areCanals_250 (by decide) ?_
                      refine hv_goto (tgt := 255) C dL_areCanals_251 (by decide) ?_
                      refine hv_istore_n (lv1 := [(0, .ref (o)), (1, .ref (q 0)), (2, .ref (q 2)), (3, .int (nI 1)), (4, .int (nI (f_all A 8))), (5, .int (nI i)), (6, .int (nI (((A 7 i) + (f_dear A (A 5 i))) + (f_dear A (A 6 i))))), (7, .int (nI 2)), (8, .int (nI (A 0 (A 6 i))))]) C dL_areCanals_255 rfl (by decide) [1, 2, 3, 0, 4, 5, 6, 7, 8] rfl ?_
                      refine hv_iinc (v := nI (i + 1)) (lv1 := [(0, .ref (o)), (1, .ref (q 0)), (2, .ref (q 2)), (3, .int (nI 1)), (4, .int (nI (f_all A 8))), (5, .int (nI (i + 1))), (6, .int (nI (((A 7 i) + (f_dear A (A 5 i))) + (f_dear A (A 6 i))))), (7, .int (nI 2)), (8, .int (nI (A 0 (A 6 i))))]) C dL_areCanals_256 (k := 5) rfl (nI_1 _) (by decide) [1, 2, 3, 4, 5, 0, 6, 7, 8] rfl ?_
                      refine hv_goto (tgt := 97) C dL_areCanals_259 (by decide) ?_
                      exact hv_sub (lv1 := [(0, .ref (o)), (1, .ref (q 0)), (2, .ref (q 2)), (3, .int (nI 1)), (4, .int (nI (f_all A 8))), (5, .int (nI (i + 1)))]) [0, 1, 2, 3, 4, 5] rfl ih
                  · intro k27
                    refine hv_aload_n C dL_areCanals_200 rfl 1 rfl ?_
                    refine hv_iload C dL_areCanals_201 5 rfl ?_
                    refine hl_ald (k := 0) (i := i) (x := (nI (f_code A i))) C hS hq (by decide) (show i < 14 by omega) (hG i hi) dL_areCanals_203 ?_
                    refine hv_bipush (v := nI 14) C dL_areCanals_204 (by decide) ?_
                    refine hv_iconst (v := nI 1) C dL_areCanals_206 (by decide) ?_
                    refine hv_callSr (As := [.int (nI (f_code A i)), .int (nI 14), .int (nI 1)]) (rest := [.int (nI (b2 (A 9 i ≠ 0 ∧ A 8 i + 5 ≤ A 0 (A 5 i))))]) (n := 3) C (c_L_part l w Y (f_code A i) 14 1 (A 9 i) (by omega) (by decide) (by decide) hcd.2.2.2.2.2) gL_areCanals_L_part rfl (by decide +kernel) ⟨(Nat.le_of_ble_eq_true rfl), (Nat.le_of_ble_eq_true rfl)⟩ rfl rfl (Nat.le_of_ble_eq_true rfl) dL_areCanals_207 ⟨by first | exact Nat.le_of_ble_eq_true rfl | omega | (simp; done) | (simp; omega), by first | exact Nat.le_of_ble_eq_true rfl | omega | (simp; done) | (simp; omega)⟩ (fun r29 Y1 hr => ?_)
                    obtain ⟨rfl, hy9⟩ := hr; obtain rfl := hy9.symm
                    refine hv_iconst (v := nI 1) C dL_areCanals_210 (by decide) ?_
                    refine hv_icmpN_ne (tgt := 246) C dL_areCanals_211 (by decide) (by omega) (by omega) (fun h30 => ?_) (fun h30 => ?_)
                    · skip
                      refine hv_iconst (v := nI 0) C dL_areCanals_246 (by decide) ?_
                      exact k27 _ (b2_f (by omega)).symm
                    · skip
                      refine hv_aload_n C dL_areCanals_214 rfl 0 rfl ?_
                      refine hv_aload_n C dL_areCanals_215 rfl 1 rfl ?_
                      refine hv_iload C dL_areCanals_216 5 rfl ?_
                      refine hl_ald (k := 0) (i := i) (x := (nI (f_code A i))) C hS hq (by decide) (show i < 14 by omega) (hG i hi) dL_areCanals_218 ?_
                      refine hv_iconst (v := nI 0) C dL_areCanals_219 (by decide) ?_
                      refine hv_iconst (v := nI 3) C dL_areCanals_220 (by decide) ?_
                      refine hv_callSr (As := [.int (nI (f_code A i)), .int (nI 0), .int (nI 3)]) (rest := [.ref (o), .int (nI (b2 (A 9 i ≠ 0 ∧ A 8 i + 5 ≤ A 0 (A 5 i))))]) (n := 3) C (c_L_part l w Y (f_code A i) 0 3 (A 5 i) (by omega) (by decide) (by decide) (by simpa using hcd.2.1)) gL_areCanals_L_part rfl (by decide +kernel) ⟨(Nat.le_of_ble_eq_true rfl), (Nat.le_of_ble_eq_true rfl)⟩ rfl rfl (Nat.le_of_ble_eq_true rfl) dL_areCanals_221 ⟨by first | exact Nat.le_of_ble_eq_true rfl | omega | (simp; done) | (simp; omega), by first | exact Nat.le_of_ble_eq_true rfl | omega | (simp; done) | (simp; omega)⟩ (fun r31 Y1 hr => ?_)
                      obtain ⟨rfl, hy9⟩ := hr; obtain rfl := hy9.symm
                      refine hv_callVr (As := [.int (nI (A 5 i))]) (rest := [.int (nI (b2 (A 9 i ≠ 0 ∧ A 8 i + 5 ≤ A 0 (A 5 i))))]) (n := 1) C (k_water l w o (lY w iv F) A Y hS hI (A 5 i) (by omega)) gL_areCanals_X4_water rfl (by decide +kernel) ⟨(Nat.le_of_ble_eq_true rfl), (Nat.le_of_ble_eq_true rfl)⟩ (zLS_rc hS) rfl rfl (Nat.le_of_ble_eq_true rfl) dL_areCanals_224 ⟨by first | exact Nat.le_of_ble_eq_true rfl | omega | (simp; done) | (simp; omega), by first | exact Nat.le_of_ble_eq_true rfl | omega | (simp; done) | (simp; omega)⟩ (fun r32 Y1 hr => ?_)
                      obtain ⟨rfl, hy9⟩ := hr; obtain rfl := hy9.symm
                      refine hv_aload_n C dL_areCanals_227 rfl 1 rfl ?_
                      refine hv_iload C dL_areCanals_228 5 rfl ?_
                      refine hl_ald (k := 0) (i := i) (x := (nI (f_code A i))) C hS hq (by decide) (show i < 14 by omega) (hG i hi) dL_areCanals_230 ?_
                      refine hv_bipush (v := nI 10) C dL_areCanals_231 (by decide) ?_
                      refine hv_iconst (v := nI 4) C dL_areCanals_233 (by decide) ?_
                      refine hv_callSr (As := [.int (nI (f_code A i)), .int (nI 10), .int (nI 4)]) (rest := [.int (nI (A 0 (A 5 i))), .int (nI (b2 (A 9 i ≠ 0 ∧ A 8 i + 5 ≤ A 0 (A 5 i))))]) (n := 3) C (c_L_part l w Y (f_code A i) 10 4 (A 8 i) (by omega) (by decide) (by decide) hcd.2.2.2.2.1) gL_areCanals_L_part rfl (by decide +kernel) ⟨(Nat.le_of_ble_eq_true rfl), (Nat.le_of_ble_eq_true rfl)⟩ rfl rfl (Nat.le_of_ble_eq_true rfl) dL_areCanals_234 ⟨by first | exact Nat.le_of_ble_eq_true rfl | omega | (simp; done) | (simp; omega), by first | exact Nat.le_of_ble_eq_true rfl | omega | (simp; done) | (simp; omega)⟩ (fun r33 Y1 hr => ?_)
                      obtain ⟨rfl, hy9⟩ := hr; obtain rfl := hy9.symm
                      refine hv_iconst (v := nI 5) C dL_areCanals_237 (by decide) ?_
                      refine hv_iaddN C dL_areCanals_238 ?_
                      refine hv_icmpN_lt (tgt := 246) C dL_areCanals_239 (by decide) (by omega) (by omega) (fun h34 => ?_) (fun h34 => ?_)
                      · skip
                        refine hv_iconst (v := nI 0) C dL_areCanals_246 (by decide) ?_
                        exact k27 _ (b2_f (by omega)).symm
                      · skip
                        refine hv_iconst (v := nI 1) C dL_areCanals_242 (by decide) ?_
                        refine hv_goto (tgt := 247) C dL_areCanals_243 (by decide) ?_
                        exact k27 _ (b2_t (by omega)).symm
              · intro k22
                refine hv_iload C dL_areCanals_150 8 rfl ?_
                refine hv_bipush (v := nI 15) C dL_areCanals_152 (by decide) ?_
                refine hv_icmpN_ge (tgt := 162) C dL_areCanals_154 (by decide) (by omega) (by omega) (fun h35 => ?_) (fun h35 => ?_)
                · skip
                  refine hv_iload C dL_areCanals_162 8 rfl ?_
                  refine hv_bipush (v := nI 30) C dL_areCanals_164 (by decide) ?_
                  refine hv_icmpN_ge (tgt := 173) C dL_areCanals_166 (by decide) (by omega) (by omega) (fun h36 => ?_) (fun h36 => ?_)
                  · skip
                    refine hv_iconst (v := nI 0) C dL_areCanals_173 (by decide) ?_
                    exact k22 _ (by unfold f_dear; (repeat' split) <;> omega)
                  · skip
                    refine hv_iconst (v := nI 5) C dL_areCanals_169 (by decide) ?_
                    refine hv_goto (tgt := 174) C dL_areCanals_170 (by decide) ?_
                    exact k22 _ (by unfold f_dear; (repeat' split) <;> omega)
                · skip
                  refine hv_bipush (v := nI 10) C dL_areCanals_157 (by decide) ?_
                  refine hv_goto (tgt := 174) C dL_areCanals_159 (by decide) ?_
                  exact k22 _ (by unfold f_dear; (repeat' split) <;> omega)
            · intro k18
              refine hv_iload C dL_areCanals_150 8 rfl ?_
              refine hv_bipush (v := nI 15) C dL_areCanals_152 (by decide) ?_
              refine hv_icmpN_ge (tgt := 162) C dL_areCanals_154 (by decide) (by omega) (by omega) (fun h37 => ?_) (fun h37 => ?_)
              · skip
                refine hv_iload C dL_areCanals_162 8 rfl ?_
                refine hv_bipush (v := nI 30) C dL_areCanals_164 (by decide) ?_
                refine hv_icmpN_ge (tgt := 173) C dL_areCanals_166 (by decide) (by omega) (by omega) (fun h38 => ?_) (fun h38 => ?_)
                · skip
                  refine hv_iconst (v := nI 0) C dL_areCanals_173 (by decide) ?_
                  exact k18 _ (by unfold f_dear; (repeat' split) <;> omega)
                · skip
                  refine hv_iconst (v := nI 5) C dL_areCanals_169 (by decide) ?_
                  refine hv_goto (tgt := 174) C dL_areCanals_170 (by decide) ?_
                  exact k18 _ (by unfold f_dear; (repeat' split) <;> omega)
              · skip
                refine hv_bipush (v := nI 10) C dL_areCanals_157 (by decide) ?_
                refine hv_goto (tgt := 174) C dL_areCanals_159 (by decide) ?_
                exact k18 _ (by unfold f_dear; (repeat' split) <;> omega)
      · intro i hi ih
        have b0 := hI.1 i hi
        refine hv_iload C dL_areCanals_38 5 rfl ?_
        refine hv_bipush (v := nI 8) C dL_areCanals_40 (by decide) ?_
        refine hv_icmpN_ge (tgt := 94) C dL_areCanals_42 (by decide) (by omega) (by omega) (fun h39 => ?_) (fun h39 => ?_)
        · skip
          exact absurd h39 (by omega)
        · skip
          refine hv_iload C dL_areCanals_45 4 rfl ?_
          refine hv_aload_n C dL_areCanals_47 rfl 0 rfl ?_
          refine hv_iload C dL_areCanals_48 5 rfl ?_
          refine hv_callVr (As := [.int (nI i)]) (rest := [.int (nI (f_all A i))]) (n := 1) C (k_water l w o (lY w iv F) A Y hS hI i (by omega)) gL_areCanals_X4_water rfl (by decide +kernel) ⟨(Nat.le_of_ble_eq_true rfl), (Nat.le_of_ble_eq_true rfl)⟩ (zLS_rc hS) rfl rfl (Nat.le_of_ble_eq_true rfl) dL_areCanals_50 ⟨by first | exact Nat.le_of_ble_eq_true rfl | omega | (simp; done) | (simp; omega), by first | exact Nat.le_of_ble_eq_true rfl | omega | (simp; done) | (simp; omega)⟩ (fun r40 Y1 hr => ?_)
          obtain ⟨rfl, hy9⟩ := hr; obtain rfl := hy9.symm
          refine hv_iaddN C dL_areCanals_53 ?_
          refine hv_istore (lv1 := [(0, .ref (o)), (1, .ref (q 0)), (2, .ref (q 2)), (3, .int (nI 1)), (4, .int (nI ((f_all A i) + (A 0 i)))), (5, .int (nI i))]) C dL_areCanals_54 (by decide) [1, 2, 3, 4, 0, 5] rfl ?_
          refine hv_iload_n C dL_areCanals_56 rfl 3 rfl ?_
          refine hv_ifN_eq (tgt := 86) C dL_areCanals_57 (by decide) (by omega) (fun h => absurd h (by decide)) (fun _ => ?_)
          refine hv_aload_n C dL_areCanals_60 rfl 0 rfl ?_
          refine hv_iload C dL_areCanals_61 5 rfl ?_
          refine hv_callVr (As := [.int (nI i)]) (rest := []) (n := 1) C (k_water l w o (lY w iv F) A Y hS hI i (by omega)) gL_areCanals_X4_water rfl (by decide +kernel) ⟨(Nat.le_of_ble_eq_true rfl), (Nat.le_of_ble_eq_true rfl)⟩ (zLS_rc hS) rfl rfl (Nat.le_of_ble_eq_true rfl) dL_areCanals_63 ⟨by first | exact Nat.le_of_ble_eq_true rfl | omega | (simp; done) | (simp; omega), by first | exact Nat.le_of_ble_eq_true rfl | omega | (simp; done) | (simp; omega)⟩ (fun r42 Y1 hr => ?_)
          obtain ⟨rfl, hy9⟩ := hr; obtain rfl := hy9.symm
          refine hv_iconst (v := nI 5) C dL_areCanals_66 (by decide) ?_
          refine hv_icmpN_lt (tgt := 86) C dL_areCanals_67 (by decide) (by omega) (by omega) (fun h43 => ?_) (fun h43 => ?_)
          · skip
            exact absurd h43 (by omega)
          · skip
            refine hv_aload_n C dL_areCanals_70 rfl 0 rfl ?_
            refine hv_iload C dL_areCanals_71 5 rfl ?_
            refine hv_callVr (As := [.int (nI i)]) (rest := []) (n := 1) C (k_water l w o (lY w iv F) A Y hS hI i (by omega)) gL_areCanals_X4_water rfl (by decide +kernel) ⟨(Nat.le_of_ble_eq_true rfl), (Nat.le_of_ble_eq_true rfl)⟩ (zLS_rc hS) rfl rfl (Nat.le_of_ble_eq_true rfl) dL_areCanals_73 ⟨by first | exact Nat.le_of_ble_eq_true rfl | omega | (simp; done) | (simp; omega), by first | exact Nat.le_of_ble_eq_true rfl | omega | (simp; done) | (simp; omega)⟩ (fun r44 Y1 hr => ?_)
            obtain ⟨rfl, hy9⟩ := hr; obtain rfl := hy9.symm
            refine hv_sipush (v := nI 200) C dL_areCanals_76 (by decide) ?_
            refine hv_icmpN_gt (tgt := 86) C dL_areCanals_79 (by decide) (by omega) (by omega) (fun h45 => ?_) (fun h45 => ?_)
            · skip
              exact absurd h45 (by omega)
            · skip
              refine hv_iconst (v := nI 1) C dL_areCanals_82 (by decide) ?_
              refine hv_goto (tgt := 87) C dL_areCanals_83 (by decide) ?_
              refine hv_istore_n (lv1 := [(0, .ref (o)), (1, .ref (q 0)), (2, .ref (q 2)), (3, .int (nI 1)), (4, .int (nI ((f_all A i) + (A 0 i)))), (5, .int (nI i))]) C dL_areCanals_87 rfl (by decide) [1, 2, 3, 0, 4, 5] rfl ?_
              refine hv_iinc (v := nI (i + 1)) (lv1 := [(0, .ref (o)), (1, .ref (q 0)), (2, .ref (q 2)), (3, .int (nI 1)), (4, .int (nI ((f_all A i) + (A 0 i)))), (5, .int (nI (i + 1)))]) C dL_areCanals_88 (k := 5) rfl (nI_1 _) (by decide) [1, 2, 3, 4, 5, 0] rfl ?_
              refine hv_goto (tgt := 38) C dL_areCanals_91 (by decide) ?_
              exact ih
/-- the first n distances and canals noted -/
def Fn (F : Nat → Nat → Int32) (A : ab_A) (n : Nat) : Nat → Nat → Int32 := fun k i => if k = 3 ∧ i < n then nI (A 11 i) + (-1) else if k = 4 ∧ i < n then nI (A 12 i) + (-1) else F k i
theorem Fn_0 (F : Nat → Nat → Int32) (A : ab_A) : Fn F A 0 = F := by
  funext k i
  simp [Fn]
theorem Fn_lt (F : Nat → Nat → Int32) (A : ab_A) {n i k : Nat} (hi : i ≠ n) : Fn F A n k i = Fn F A (n + 1) k i := by
  unfold Fn
  by_cases h : i < n
  · have h2 : i < n + 1 := by omega
    simp [h, h2]
  · have h2 : ¬ i < n + 1 := by omega
    simp [h, h2]
theorem Fn_s (F : Nat → Nat → Int32) (A : ab_A) (n : Nat) : Fu (Fu (Fn F A n) 3 n (nI (A 11 n) + (-1))) 4 n (nI (A 12 n) + (-1)) = Fn F A (n + 1) := by
  funext k i
  by_cases h4 : k = 4
  · subst h4
    by_cases hi : i = n
    · subst hi
      rw [Fu_s]
      unfold Fn
      rw [if_neg (by omega), if_pos ⟨rfl, by omega⟩]
    · rw [Fu_i _ _ hi, Fu_k _ _ _ (by decide), Fn_lt F A hi]
  · rw [Fu_k _ _ _ h4]
    by_cases h3 : k = 3
    · subst h3
      by_cases hi : i = n
      · subst hi
        rw [Fu_s]
        unfold Fn
        rw [if_pos ⟨rfl, by omega⟩]
      · rw [Fu_i _ _ hi, Fn_lt F A hi]
    · rw [Fu_k _ _ _ h3]
      unfold Fn
      rw [if_neg (fun z => h3 z.1), if_neg (fun z => h4 z.1), if_neg (fun z => h3 z.1), if_neg (fun z => h4 z.1)]
theorem Fn_3 (F : Nat → Nat → Int32) (A : ab_A) {n i : Nat} (h : i < n) : Fn F A n 3 i = nI (A 11 i) + (-1) := if_pos ⟨rfl, h⟩
theorem Fn_4 (F : Nat → Nat → Int32) (A : ab_A) {n i : Nat} (h : i < n) : Fn F A n 4 i = nI (A 12 i) + (-1) := by
  unfold Fn
  rw [if_neg (by omega), if_pos ⟨rfl, h⟩]
theorem Fn_k (F : Nat → Nat → Int32) (A : ab_A) {n k : Nat} (h3 : k ≠ 3) (h4 : k ≠ 4) : Fn F A n k = F k := by
  funext i
  unfold Fn
  rw [if_neg (fun z => h3 z.1), if_neg (fun z => h4 z.1)]
theorem k_dist64 (l : Launch) (w : hv_W) (o9 : Nat) (Y0 : hv_H) (A : ab_A) (Y : hv_H) (hY : cl_S w o9 Y0 A Y) (hI : ab_I A) (k : Nat) (hk : k < 64) : hv_Mr l yX4_distance wsX4_distance ({ frames := 7, cells := 0, slots := 0, locals := 151 }) w [.ref o9, .int (nI (k / 8)), .int (nI (k % 8))] Y (fun r Y1 => r = .int (nI (A 11 k) + (-1)) ∧ Y1 = Y) := by
  have h := k_distance l w o9 Y0 A Y hY hI (k / 8) (by omega) (k % 8) (by omega)
  rw [show 8 * (k / 8) + k % 8 = k by omega] at h
  exact h
theorem k_can64 (l : Launch) (w : hv_W) (o9 : Nat) (Y0 : hv_H) (A : ab_A) (Y : hv_H) (hY : cl_S w o9 Y0 A Y) (hI : ab_I A) (k : Nat) (hk : k < 64) : hv_Mr l yX4_canalTo wsX4_canalTo ({ frames := 7, cells := 0, slots := 0, locals := 151 }) w [.ref o9, .int (nI (k / 8)), .int (nI (k % 8))] Y (fun r Y1 => r = .int (nI (A 12 k) + (-1)) ∧ Y1 = Y) := by
  have h := k_canalTo l w o9 Y0 A Y hY hI (k / 8) (by omega) (k % 8) (by omega)
  rw [show 8 * (k / 8) + k % 8 = k by omega] at h
  exact h
set_option maxRecDepth 100000 in
set_option maxHeartbeats 4000000 in
theorem c_L_notes (l : Launch) (w : hv_W) (o : Nat) (q : Nat → Nat) (iv : Nat → Option Nat) (F : Nat → Nat → Int32) (A : ab_A) (Y : hv_H) (hq : lok q iv) (hS : zLS w o iv F A Y) (hI : ab_I A) : hv_Mv l yL_notes wsL_notes ({ frames := 8, cells := 0, slots := 0, locals := 175 }) w [.ref (o), .ref (q 3), .ref (q 4)] Y (fun Y1 => zLS w o iv (Fn F A 64) A Y1) := by
  refine hv_ofV (cc := cL_notes) (own := RL) (by decide) rfl rfl (Nat.le_of_ble_eq_true rfl) rfl ?_
  intro p e s m below meth c C hret hnm
  refine hv_iconst (v := nI 0) C dL_notes_0 (by decide) ?_
  refine hv_istore_n (lv1 := [(0, .ref (o)), (1, .ref (q 3)), (2, .ref (q 4)), (3, .int (nI 0))]) C dL_notes_1 rfl (by decide) [1, 2, 3, 0] rfl ?_
  refine hv_loopP (σ := hv_H) 64 (fun _ Y => Y) (fun i _ => [(0, .ref (o)), (1, .ref (q 3)), (2, .ref (q 4)), (3, .int (nI i))]) (fun i Y => zLS w o iv (Fn F A i) A Y) ?_ ?_ Y (by rw [Fn_0]; exact hS)
  · intro Y2 hS2
    refine hv_iload_n C dL_notes_2 rfl 3 rfl ?_
    refine hv_bipush (v := nI 64) C dL_notes_3 (by decide) ?_
    refine hv_icmpN_ge (tgt := 44) C dL_notes_5 (by decide) (by omega) (by omega) (fun _ => ?_) (fun h => absurd h (by decide))
    exact hv_vret C hret dL_notes_44 (by first | exact Nat.le_refl _ | decide | omega | (simp; done) | (simp; omega)) (by first | exact Nat.le_refl _ | decide | omega | (simp; done) | (simp; omega)) hS2
  · intro i Y2 hi hS2 ih
    refine hv_iload_n C dL_notes_2 rfl 3 rfl ?_
    refine hv_bipush (v := nI 64) C dL_notes_3 (by decide) ?_
    refine hv_icmpN_ge (tgt := 44) C dL_notes_5 (by decide) (by omega) (by omega) (fun h2 => ?_) (fun h2 => ?_)
    · skip
      exact absurd h2 (by omega)
    · skip
      refine hv_aload_n C dL_notes_8 rfl 1 rfl ?_
      refine hv_iload_n C dL_notes_9 rfl 3 rfl ?_
      refine hv_aload_n C dL_notes_10 rfl 0 rfl ?_
      refine hv_iload_n C dL_notes_11 rfl 3 rfl ?_
      refine hv_bipush (v := nI 8) C dL_notes_12 (by decide) ?_
      refine hv_idivN C dL_notes_14 (by omega) (by omega) (by omega) ?_
      refine hv_iload_n C dL_notes_15 rfl 3 rfl ?_
      refine hv_bipush (v := nI 8) C dL_notes_16 (by decide) ?_
      refine hv_iremN C dL_notes_18 (by omega) (by omega) (by omega) ?_
      refine hv_callVr (As := [.int (nI (i / 8)), .int (nI (i % 8))]) (rest := [.int (nI i), .ref (q 3)]) (n := 2) C (k_dist64 l w o (lY w iv (Fn F A i)) A Y2 hS2 hI i hi) gL_notes_X4_distance rfl (by decide +kernel) ⟨(Nat.le_of_ble_eq_true rfl), (Nat.le_of_ble_eq_true rfl)⟩ (zLS_rc hS2) rfl rfl (Nat.le_of_ble_eq_true rfl) dL_notes_19 ⟨by first | exact Nat.le_of_ble_eq_true rfl | omega | (simp; done) | (simp; omega), by first | exact Nat.le_of_ble_eq_true rfl | omega | (simp; done) | (simp; omega)⟩ (fun r3 Y1 hr => ?_)
      obtain ⟨rfl, hy9⟩ := hr; obtain rfl := hy9.symm
      refine hl_ast (k := 3) (i := i) (v := (nI (A 11 i) + (-1))) C hS2 hq (by decide) (show i < 64 by omega) dL_notes_22 (fun Y4 hS5 => ?_)
      refine hv_aload_n C dL_notes_23 rfl 2 rfl ?_
      refine hv_iload_n C dL_notes_24 rfl 3 rfl ?_
      refine hv_aload_n C dL_notes_25 rfl 0 rfl ?_
      refine hv_iload_n C dL_notes_26 rfl 3 rfl ?_
      refine hv_bipush (v := nI 8) C dL_notes_27 (by decide) ?_
      refine hv_idivN C dL_notes_29 (by omega) (by omega) (by omega) ?_
      refine hv_iload_n C dL_notes_30 rfl 3 rfl ?_
      refine hv_bipush (v := nI 8) C dL_notes_31 (by decide) ?_
      refine hv_iremN C dL_notes_33 (by omega) (by omega) (by omega) ?_
      refine hv_callVr (As := [.int (nI (i / 8)), .int (nI (i % 8))]) (rest := [.int (nI i), .ref (q 4)]) (n := 2) C (k_can64 l w o (lY w iv (Fu (Fn F A i) 3 i ((nI (A 11 i) + (-1))))) A Y4 hS5 hI i hi) gL_notes_X4_canalTo rfl (by decide +kernel) ⟨(Nat.le_of_ble_eq_true rfl), (Nat.le_of_ble_eq_true rfl)⟩ (zLS_rc hS5) rfl rfl (Nat.le_of_ble_eq_true rfl) dL_notes_34 ⟨by first | exact Nat.le_of_ble_eq_true rfl | omega | (simp; done) | (simp; omega), by first | exact Nat.le_of_ble_eq_true rfl | omega | (simp; done) | (simp; omega)⟩ (fun r6 Y1 hr => ?_)
      obtain ⟨rfl, hy9⟩ := hr; obtain rfl := hy9.symm
      refine hl_ast (k := 4) (i := i) (v := (nI (A 12 i) + (-1))) C hS5 hq (by decide) (show i < 64 by omega) dL_notes_37 (fun Y7 hS8 => ?_)
      refine hv_iinc (v := nI (i + 1)) (lv1 := [(0, .ref (o)), (1, .ref (q 3)), (2, .ref (q 4)), (3, .int (nI (i + 1)))]) C dL_notes_38 (k := 3) rfl (nI_1 _) (by decide) [1, 2, 3, 0] rfl ?_
      refine hv_goto (tgt := 2) C dL_notes_41 (by decide) ?_
      exact ih _ (by rw [← Fn_s]; exact hS8)
