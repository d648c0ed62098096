theorem i32_ss (x a b : Int32) : x - a - b = x - (a + b) := by
  first
    | exact Int32.sub_sub
    | exact Int32.sub_sub _ _ _
    | grind
theorem neg_s (a b : Nat) : (nI 0 - nI a - nI b : Int32) = nI 0 - nI (a + b) := by
  rw [i32_ss, nI_add]
theorem neg_a (x : Int32) (a b : Nat) : (x + nI a + nI b : Int32) = x + nI (a + b) := by
  rw [Int32.add_assoc, nI_add]
theorem neg_e (a b : Nat) : (nI 0 - nI a + nI (a + b) : Int32) = nI b := by
  rw [← nI_add]
  first
    | grind
    | (rw [← Int32.add_assoc]; simp; decide)
theorem L_mov {A : ab_A} {F : Nat → Nat → Int32} {M t : Nat} (h : zLI A F M) (ht : A 16 0 + t ≤ 2000) : zLI (f_moves A t) (Fu F 2 2 (nI (A 16 0 + t))) M := by
  obtain ⟨hI, hJ, ⟨hM, hM2⟩, hG, hB, hc0, hc1, hc2⟩ := h
  obtain ⟨p1, p2, p3, p4, p5, p6⟩ := J_moves hI hJ ht
  have e15 : f_moves A t 15 = A 15 := p2 15 (by omega)
  have e4 : f_moves A t 4 = A 4 := p2 4 (by omega)
  have e17 : f_moves A t 17 = A 17 := p2 17 (by omega)
  refine ⟨I_moves hI ht, p1, ⟨by rw [p4]; exact hM, hM2⟩, fun j hj => ?_, fun k hk => ?_, ?_, ?_, ?_⟩
  · rw [Fu_k _ _ _ (by decide)]
    rw [e4] at hj
    rw [hG j hj]
    unfold f_code
    rw [p2 5 (by omega), p2 6 (by omega), p2 7 (by omega), p2 8 (by omega), p2 9 (by omega)]
  · rw [Fu_k _ _ _ (by decide)]
    rw [e15] at hk
    rw [e17, p5 k hk]
    exact hB k hk
  · rw [Fu_i _ _ (by decide), e4]; exact hc0
  · rw [Fu_i _ _ (by decide), e15]; exact hc1
  · rw [Fu_s, f_moves_16]
/-- what a step leaves -/
def zPost (w : hv_W) (o : Nat) (iv : Nat → Option Nat) (M : Nat) (Y1 : hv_H) : Prop := ∃ F1 A1, zLS w o iv F1 A1 Y1 ∧ zLI A1 F1 M
theorem zPost_le {w : hv_W} {o : Nat} {iv : Nat → Option Nat} {M M' : Nat} {Y1 : hv_H} (h : zPost w o iv M Y1) (hM : M ≤ M') (hM' : M' ≤ 1000000) : zPost w o iv M' Y1 := by
  obtain ⟨F1, A1, h1, h2, h3, ⟨h4, h5⟩, h6⟩ := h
  exact ⟨F1, A1, h1, h2, h3, ⟨by omega, hM'⟩, h6⟩
set_option maxRecDepth 100000 in
set_option maxHeartbeats 4000000 in
theorem c_L_moves (l : Launch) (w : hv_W) (o : Nat) (q : Nat → Nat) (iv : Nat → Option Nat) (F : Nat → Nat → Int32) (A : ab_A) (Y : hv_H) (hq : lok q iv) (hS : zLS w o iv F A Y) {M t : Nat} (hlt : l.stackTraces = false) (hL : zLI A F M) (ht : 1 ≤ t) (ht2 : t ≤ 50) : hv_Mr l yL_moves wsL_moves ({ frames := 11, cells := 401, slots := 4006, locals := 270 }) w [.ref (o), .int (nI t), .ref (q 2)] Y (fun r Y1 => r = .int (nI 1) ∧ zPost w o iv M Y1) := by
  refine hv_ofV (cc := cL_moves) (own := RL) (by decide) rfl rfl (Nat.le_of_ble_eq_true rfl) rfl ?_
  intro p e s m below meth c C hret hnm
  obtain ⟨hI, hJ, ⟨hM, hM2⟩, hG, hB, hc0, hc1, hc2⟩ := id hL
  have h15 := hI.2.2.2.2.2.2.1
  have h169 := hI.2.2.2.2.2.2.2.1
  have ha8 : f_all A 8 + A 10 0 ≤ 1000000 := by rw [sm_all]; omega
  refine hv_iconst (v := nI 0) C dL_moves_0 (by decide) ?_
  refine hv_istore_n (lv1 := [(0, .ref (o)), (1, .int (nI t)), (2, .ref (q 2)), (3, .int (nI 0))]) C dL_moves_1 rfl (by decide) [1, 2, 3, 0] rfl ?_
  refine hv_aload_n C dL_moves_2 rfl 0 rfl ?_
  refine hv_callVr (As := []) (rest := []) (n := 0) C (k_allWater l w o (lY w iv F) A Y hS hI) gL_moves_X4_allWater rfl (by decide +kernel) ⟨(Nat.le_of_ble_eq_true rfl), (Nat.le_of_ble_eq_true rfl)⟩ (zLS_rc hS) rfl rfl (Nat.le_of_ble_eq_true rfl) dL_moves_3 ⟨by first | exact Nat.le_of_ble_eq_true rfl | omega | (simp; done) | (simp; omega), by first | exact Nat.le_of_ble_eq_true rfl | omega | (simp; done) | (simp; omega)⟩ (fun r1 Y1 hr => ?_)
  obtain ⟨rfl, hy9⟩ := hr; obtain rfl := hy9.symm
  refine hv_aload_n C dL_moves_6 rfl 0 rfl ?_
  refine hv_callVr (As := []) (rest := [.int (nI (f_all A 8))]) (n := 0) C (k_spilt l w o (lY w iv F) A Y hS hI) gL_moves_X4_spilt rfl (by decide +kernel) ⟨(Nat.le_of_ble_eq_true rfl), (Nat.le_of_ble_eq_true rfl)⟩ (zLS_rc hS) rfl rfl (Nat.le_of_ble_eq_true rfl) dL_moves_7 ⟨by first | exact Nat.le_of_ble_eq_true rfl | omega | (simp; done) | (simp; omega), by first | exact Nat.le_of_ble_eq_true rfl | omega | (simp; done) | (simp; omega)⟩ (fun r2 Y1 hr => ?_)
  obtain ⟨rfl, hy9⟩ := hr; obtain rfl := hy9.symm
  refine hv_iaddN C dL_moves_10 ?_
  refine hv_istore (lv1 := [(0, .ref (o)), (1, .int (nI t)), (2, .ref (q 2)), (3, .int (nI 0)), (4, .int (nI ((f_all A 8) + (A 10 0))))]) C dL_moves_11 (by decide) [1, 2, 3, 4, 0] rfl ?_
  refine hv_iconst (v := nI 0) C dL_moves_13 (by decide) ?_
  refine hv_istore (lv1 := [(0, .ref (o)), (1, .int (nI t)), (2, .ref (q 2)), (3, .int (nI 0)), (4, .int (nI ((f_all A 8) + (A 10 0)))), (5, .int (nI 0))]) C dL_moves_14 (by decide) [1, 2, 3, 4, 5, 0] rfl ?_
  refine hv_fin (lv1 := [(0, .ref (o)), (1, .int (nI t)), (2, .ref (q 2)), (3, .int (nI 0 - nI (sm (A 19) 0))), (4, .int (nI (f_all A 8 + A 10 0))), (5, .int (nI 0))]) ?_ rfl (by rw [show (nI 0 - nI (sm (A 19) 0) : Int32) = nI 0 from (by decide : (nI 0 - nI 0 : Int32) = nI 0)])
  refine hv_loop (A 15 0) (fun _ => Y) (fun i => [(0, .ref (o)), (1, .int (nI t)), (2, .ref (q 2)), (3, .int (nI 0 - nI (sm (A 19) i))), (4, .int (nI (f_all A 8 + A 10 0))), (5, .int (nI i))]) ?_ ?_
  · skip
    refine hv_iload C dL_moves_16 5 rfl ?_
    refine hv_aload_n C dL_moves_18 rfl 2 rfl ?_
    refine hv_iconst (v := nI 1) C dL_moves_19 (by decide) ?_
    refine hl_ald (k := 2) (i := 1) (x := (nI (A 15 0))) C hS hq (by decide) (show 1 < 3 by omega) hc1 dL_moves_20 ?_
    refine hv_icmpN_ge (tgt := 39) C dL_moves_21 (by decide) (by omega) (by omega) (fun h3 => ?_) (fun h3 => ?_)
    · skip
      refine hv_aload_n C dL_moves_39 rfl 0 rfl ?_
      refine hv_iconst (v := nI 2) C dL_moves_40 (by decide) ?_
      refine hv_iload_n C dL_moves_41 rfl 1 rfl ?_
      refine hv_iconst (v := nI 0) C dL_moves_42 (by decide) ?_
      refine hv_iconst (v := nI 0) C dL_moves_43 (by decide) ?_
      refine hv_iconst (v := nI 0) C dL_moves_44 (by decide) ?_
      refine hv_callSrH (As := [.ref (o), .int (nI 2), .int (nI t), .int (nI 0), .int (nI 0), .int (nI 0)]) (rest := []) (n := 6) C (c_L_askMove l w o iv F A Y hlt hS hI t ht ht2) gL_moves_L_asks rfl (by decide +kernel) ⟨(Nat.le_of_ble_eq_true rfl), (Nat.le_of_ble_eq_true rfl)⟩ rfl rfl (Nat.le_of_ble_eq_true rfl) dL_moves_45 ⟨by first | exact Nat.le_of_ble_eq_true rfl | omega | (simp; done), by first | exact Nat.le_of_ble_eq_true rfl | omega | (simp; done)⟩ (fun r9 Y9 hr => ?_)
      rcases hr with ⟨hc, rfl, hS9⟩ | ⟨hc, rfl, hS9⟩
      · skip
        refine hv_istore (lv1 := [(0, .ref (o)), (1, .int (nI t)), (2, .ref (q 2)), (3, .int (nI 0 - nI (sm (A 19) (A 15 0)))), (4, .int (nI (f_all A 8 + A 10 0))), (5, .int (-108))]) C dL_moves_48 (by decide) [1, 2, 3, 4, 5, 0] rfl ?_
        refine hv_aload_n C dL_moves_50 rfl 2 rfl ?_
        refine hv_iconst (v := nI 2) C dL_moves_51 (by decide) ?_
        refine hl_ald (k := 2) (i := 2) (x := (nI (A 16 0))) C hS9 hq (by decide) (show 2 < 3 by omega) hc2 dL_moves_52 ?_
        refine hv_iload_n C dL_moves_53 rfl 1 rfl ?_
        refine hv_iaddN C dL_moves_54 ?_
        refine hv_sipush (v := nI 2000) C dL_moves_55 (by decide) ?_
        refine hv_icmpN_le (tgt := 74) C dL_moves_58 (by decide) (by omega) (by omega) (fun h4 => ?_) (fun h4 => ?_)
        · skip
          exact absurd h4 (by omega)
        · skip
          refine hv_iload C dL_moves_61 5 rfl ?_
          refine hv_bipush (v := (-108)) C dL_moves_63 (by decide) ?_
          refine hv_icmp_ne (tgt := 72) C dL_moves_65 (by decide) (fun h5 => ?_) (fun h5 => ?_)
          · skip
            exact absurd rfl h5
          · skip
            refine hv_iconst (v := nI 1) C dL_moves_68 (by decide) ?_
            refine hv_goto (tgt := 73) C dL_moves_69 (by decide) ?_
            exact hv_zret C hret (by decide) dL_moves_73 (by first | exact Nat.le_refl _ | decide | omega | (simp; done) | (simp; omega)) (by first | exact Nat.le_refl _ | decide | omega | (simp; done) | (simp; omega)) ⟨rfl, F, A, hS9, hL⟩
      · skip
        have h16 : A 16 0 + t ≤ 2000 := by omega
        obtain ⟨p1, p2, p3, p4, p5, p6⟩ := J_moves hI hJ h16
        have hI2 := I_moves hI h16
        have e15 : f_moves A t 15 0 = A 15 0 := by rw [p2 15 (by omega)]
        have hw2 : f_all (f_moves A t) 8 + f_moves A t 10 0 = f_all A 8 + A 10 0 := by rw [sm_all, sm_all, p4]
        refine hv_istore (lv1 := [(0, .ref (o)), (1, .int (nI t)), (2, .ref (q 2)), (3, .int (nI 0 - nI (sm (A 19) (A 15 0)))), (4, .int (nI (f_all A 8 + A 10 0))), (5, .int (nI (f_moved A t)))]) C dL_moves_48 (by decide) [1, 2, 3, 4, 5, 0] rfl ?_
        refine hv_aload_n C dL_moves_50 rfl 2 rfl ?_
        refine hv_iconst (v := nI 2) C dL_moves_51 (by decide) ?_
        refine hl_ald (k := 2) (i := 2) (x := (nI (A 16 0))) C hS9 hq (by decide) (show 2 < 3 by omega) hc2 dL_moves_52 ?_
        refine hv_iload_n C dL_moves_53 rfl 1 rfl ?_
        refine hv_iaddN C dL_moves_54 ?_
        refine hv_sipush (v := nI 2000) C dL_moves_55 (by decide) ?_
        refine hv_icmpN_le (tgt := 74) C dL_moves_58 (by decide) (by omega) (by omega) (fun h6 => ?_) (fun h6 => ?_)
        · skip
          refine hv_aload_n C dL_moves_74 rfl 2 rfl ?_
          refine hv_iconst (v := nI 2) C dL_moves_75 (by decide) ?_
          refine hv_dup2 C dL_moves_76 rfl rfl ?_
          refine hl_ald (k := 2) (i := 2) (x := (nI (A 16 0))) C hS9 hq (by decide) (show 2 < 3 by omega) hc2 dL_moves_77 ?_
          refine hv_iload_n C dL_moves_78 rfl 1 rfl ?_
          refine hv_iaddN C dL_moves_79 ?_
          refine hl_ast (k := 2) (i := 2) (v := (nI ((A 16 0) + t))) C hS9 hq (by decide) (show 2 < 3 by omega) dL_moves_80 (fun Y7 hS8 => ?_)
          refine hv_iconst (v := nI 0) C dL_moves_81 (by decide) ?_
          refine hv_istore (lv1 := [(0, .ref (o)), (1, .int (nI t)), (2, .ref (q 2)), (3, .int (nI 0 - nI (sm (A 19) (A 15 0)))), (4, .int (nI (f_all A 8 + A 10 0))), (5, .int (nI (f_moved A t))), (6, .int (nI 0))]) C dL_moves_82 (by decide) [1, 2, 3, 4, 5, 6, 0] rfl ?_
          refine hv_fin (lv1 := [(0, .ref (o)), (1, .int (nI t)), (2, .ref (q 2)), (3, .int (nI 0 - nI (sm (A 19) (A 15 0)) + nI (sm (f_moves A t 19) 0))), (4, .int (nI (f_all A 8 + A 10 0))), (5, .int (nI (f_moved A t))), (6, .int (nI 0))]) ?_ rfl (by rw [show sm (f_moves A t 19) 0 = 0 from rfl, show (nI 0 - nI (sm (A 19) (A 15 0)) + nI 0 : Int32) = nI 0 - nI (sm (A 19) (A 15 0)) from Int32.add_zero _])
          refine hv_loop (A 15 0) (fun _ => Y7) (fun i => [(0, .ref (o)), (1, .int (nI t)), (2, .ref (q 2)), (3, .int (nI 0 - nI (sm (A 19) (A 15 0)) + nI (sm (f_moves A t 19) i))), (4, .int (nI (f_all A 8 + A 10 0))), (5, .int (nI (f_moved A t))), (6, .int (nI i))]) ?_ ?_
          · skip
            refine hv_iload C dL_moves_84 6 rfl ?_
            refine hv_aload_n C dL_moves_86 rfl 2 rfl ?_
            refine hv_iconst (v := nI 1) C dL_moves_87 (by decide) ?_
            refine hl_ald (k := 2) (i := 1) (x := (nI (A 15 0))) C hS8 hq (by decide) (show 1 < 3 by omega) ((Fu_i F _ (by decide)).trans hc1) dL_moves_88 ?_
            refine hv_icmpN_ge (tgt := 107) C dL_moves_89 (by decide) (by omega) (by omega) (fun h9 => ?_) (fun h9 => ?_)
            · skip
              refine hv_iload C dL_moves_107 5 rfl ?_
              refine hv_iload_n C dL_moves_109 rfl 3 rfl ?_
              refine hv_top (y := nI (f_moved A t)) (by rw [p3]; exact neg_e _ _) ?_
              refine hv_icmpN_ne (tgt := 140) C dL_moves_110 (by decide) (by omega) (by omega) (fun h10 => ?_) (fun h10 => ?_)
              · skip
                exact absurd rfl h10
              · skip
                refine hv_iload C dL_moves_113 5 rfl ?_
                refine hv_bipush (v := nI 8) C dL_moves_115 (by decide) ?_
                refine hv_iload_n C dL_moves_117 rfl 1 rfl ?_
                refine hv_imulN C dL_moves_118 ?_
                refine hv_icmpN_gt (tgt := 140) C dL_moves_119 (by decide) (by omega) (by omega) (fun h11 => ?_) (fun h11 => ?_)
                · skip
                  exact absurd h11 (by omega)
                · skip
                  refine hv_aload_n C dL_moves_122 rfl 0 rfl ?_
                  refine hv_callVr (As := []) (rest := []) (n := 0) C (k_allWater l w o (lY w iv (Fu F 2 2 ((nI ((A 16 0) + t))))) (f_moves A t) Y7 hS8 hI2) gL_moves_X4_allWater rfl (by decide +kernel) ⟨(Nat.le_of_ble_eq_true rfl), (Nat.le_of_ble_eq_true rfl)⟩ (zLS_rc hS8) rfl rfl (Nat.le_of_ble_eq_true rfl) dL_moves_123 ⟨by first | exact Nat.le_of_ble_eq_true rfl | omega | (simp; done) | (simp; omega), by first | exact Nat.le_of_ble_eq_true rfl | omega | (simp; done) | (simp; omega)⟩ (fun r12 Y1 hr => ?_)
                  obtain ⟨rfl, hy9⟩ := hr; obtain rfl := hy9.symm
                  refine hv_aload_n C dL_moves_126 rfl 0 rfl ?_
                  refine hv_callVr (As := []) (rest := [.int (nI (f_all (f_moves A t) 8))]) (n := 0) C (k_spilt l w o (lY w iv (Fu F 2 2 ((nI ((A 16 0) + t))))) (f_moves A t) Y7 hS8 hI2) gL_moves_X4_spilt rfl (by decide +kernel) ⟨(Nat.le_of_ble_eq_true rfl), (Nat.le_of_ble_eq_true rfl)⟩ (zLS_rc hS8) rfl rfl (Nat.le_of_ble_eq_true rfl) dL_moves_127 ⟨by first | exact Nat.le_of_ble_eq_true rfl | omega | (simp; done) | (simp; omega), by first | exact Nat.le_of_ble_eq_true rfl | omega | (simp; done) | (simp; omega)⟩ (fun r13 Y1 hr => ?_)
                  obtain ⟨rfl, hy9⟩ := hr; obtain rfl := hy9.symm
                  refine hv_iaddN C dL_moves_130 ?_
                  refine hv_iload C dL_moves_131 4 rfl ?_
                  refine hv_icmpN_ne (tgt := 140) C dL_moves_133 (by decide) (by omega) (by omega) (fun h14 => ?_) (fun h14 => ?_)
                  · skip
                    exact absurd hw2 h14
                  · skip
                    refine hv_iconst (v := nI 1) C dL_moves_136 (by decide) ?_
                    refine hv_goto (tgt := 141) C dL_moves_137 (by decide) ?_
                    exact hv_zret C hret (by decide) dL_moves_141 (by first | exact Nat.le_refl _ | decide | omega | (simp; done) | (simp; omega)) (by first | exact Nat.le_refl _ | decide | omega | (simp; done) | (simp; omega)) ⟨rfl, _, _, hS8, L_mov hL h16⟩
            · skip
              exact absurd h9 (by omega)
          · intro i hi ih
            refine hv_iload C dL_moves_84 6 rfl ?_
            refine hv_aload_n C dL_moves_86 rfl 2 rfl ?_
            refine hv_iconst (v := nI 1) C dL_moves_87 (by decide) ?_
            refine hl_ald (k := 2) (i := 1) (x := (nI (A 15 0))) C hS8 hq (by decide) (show 1 < 3 by omega) ((Fu_i F _ (by decide)).trans hc1) dL_moves_88 ?_
            refine hv_icmpN_ge (tgt := 107) C dL_moves_89 (by decide) (by omega) (by omega) (fun h15 => ?_) (fun h15 => ?_)
            · skip
              exact absurd h15 (by omega)
            · skip
              refine hv_iload_n C dL_moves_92 rfl 3 rfl ?_
              refine hv_aload_n C dL_moves_93 rfl 0 rfl ?_
              refine hv_iload C dL_moves_94 6 rfl ?_
              refine hv_callVr (As := [.int (nI i)]) (rest := [.int (nI 0 - nI (sm (A 19) (A 15 0)) + nI (sm (f_moves A t 19) i))]) (n := 1) C (k_hops l w o (lY w iv (Fu F 2 2 ((nI ((A 16 0) + t))))) (f_moves A t) Y7 hS8 hI2 i (by rw [e15]; exact hi)) gL_moves_X4_hops rfl (by decide +kernel) ⟨(Nat.le_of_ble_eq_true rfl), (Nat.le_of_ble_eq_true rfl)⟩ (zLS_rc hS8) rfl rfl (Nat.le_of_ble_eq_true rfl) dL_moves_96 ⟨by first | exact Nat.le_of_ble_eq_true rfl | omega | (simp; done) | (simp; omega), by first | exact Nat.le_of_ble_eq_true rfl | omega | (simp; done) | (simp; omega)⟩ (fun r16 Y1 hr => ?_)
              obtain ⟨rfl, hy9⟩ := hr; obtain rfl := hy9.symm
              refine hv_iadd C dL_moves_99 ?_
              refine hv_top (y := nI 0 - nI (sm (A 19) (A 15 0)) + nI (sm (f_moves A t 19) (i + 1))) (neg_a _ _ _) ?_
              refine hv_istore_n (lv1 := [(0, .ref (o)), (1, .int (nI t)), (2, .ref (q 2)), (3, .int (nI 0 - nI (sm (A 19) (A 15 0)) + nI (sm (f_moves A t 19) (i + 1)))), (4, .int (nI (f_all A 8 + A 10 0))), (5, .int (nI (f_moved A t))), (6, .int (nI i))]) C dL_moves_100 rfl (by decide) [1, 2, 3, 0, 4, 5, 6] rfl ?_
              refine hv_iinc (v := nI (i + 1)) (lv1 := [(0, .ref (o)), (1, .int (nI t)), (2, .ref (q 2)), (3, .int (nI 0 - nI (sm (A 19) (A 15 0)) + nI (sm (f_moves A t 19) (i + 1)))), (4, .int (nI (f_all A 8 + A 10 0))), (5, .int (nI (f_moved A t))), (6, .int (nI (i + 1)))]) C dL_moves_101 (k := 6) rfl (nI_1 _) (by decide) [1, 2, 3, 4, 5, 6, 0] rfl ?_
              refine hv_goto (tgt := 84) C dL_moves_104 (by decide) ?_
              exact hv_sub (lv1 := [(0, .ref (o)), (1, .int (nI t)), (2, .ref (q 2)), (3, .int (nI 0 - nI (sm (A 19) (A 15 0)) + nI (sm (f_moves A t 19) (i + 1)))), (4, .int (nI (f_all A 8 + A 10 0))), (5, .int (nI (f_moved A t))), (6, .int (nI (i + 1)))]) [0, 1, 2, 3, 4, 5, 6] rfl ih
        · skip
          exact absurd h6 (by omega)
    · skip
      exact absurd h3 (by omega)
  · intro i hi ih
    refine hv_iload C dL_moves_16 5 rfl ?_
    refine hv_aload_n C dL_moves_18 rfl 2 rfl ?_
    refine hv_iconst (v := nI 1) C dL_moves_19 (by decide) ?_
    refine hl_ald (k := 2) (i := 1) (x := (nI (A 15 0))) C hS hq (by decide) (show 1 < 3 by omega) hc1 dL_moves_20 ?_
    refine hv_icmpN_ge (tgt := 39) C dL_moves_21 (by decide) (by omega) (by omega) (fun h17 => ?_) (fun h17 => ?_)
    · skip
      exact absurd h17 (by omega)
    · skip
      refine hv_iload_n C dL_moves_24 rfl 3 rfl ?_
      refine hv_aload_n C dL_moves_25 rfl 0 rfl ?_
      refine hv_iload C dL_moves_26 5 rfl ?_
      refine hv_callVr (As := [.int (nI i)]) (rest := [.int (nI 0 - nI (sm (A 19) i))]) (n := 1) C (k_hops l w o (lY w iv F) A Y hS hI i hi) gL_moves_X4_hops rfl (by decide +kernel) ⟨(Nat.le_of_ble_eq_true rfl), (Nat.le_of_ble_eq_true rfl)⟩ (zLS_rc hS) rfl rfl (Nat.le_of_ble_eq_true rfl) dL_moves_28 ⟨by first | exact Nat.le_of_ble_eq_true rfl | omega | (simp; done) | (simp; omega), by first | exact Nat.le_of_ble_eq_true rfl | omega | (simp; done) | (simp; omega)⟩ (fun r18 Y1 hr => ?_)
      obtain ⟨rfl, hy9⟩ := hr; obtain rfl := hy9.symm
      refine hv_isub C dL_moves_31 ?_
      refine hv_top (y := nI 0 - nI (sm (A 19) (i + 1))) (neg_s _ _) ?_
      refine hv_istore_n (lv1 := [(0, .ref (o)), (1, .int (nI t)), (2, .ref (q 2)), (3, .int (nI 0 - nI (sm (A 19) (i + 1)))), (4, .int (nI (f_all A 8 + A 10 0))), (5, .int (nI i))]) C dL_moves_32 rfl (by decide) [1, 2, 3, 0, 4, 5] rfl ?_
      refine hv_iinc (v := nI (i + 1)) (lv1 := [(0, .ref (o)), (1, .int (nI t)), (2, .ref (q 2)), (3, .int (nI 0 - nI (sm (A 19) (i + 1)))), (4, .int (nI (f_all A 8 + A 10 0))), (5, .int (nI (i + 1)))]) C dL_moves_33 (k := 5) rfl (nI_1 _) (by decide) [1, 2, 3, 4, 5, 0] rfl ?_
      refine hv_goto (tgt := 16) C dL_moves_36 (by decide) ?_
      exact hv_sub (lv1 := [(0, .ref (o)), (1, .int (nI t)), (2, .ref (q 2)), (3, .int (nI 0 - nI (sm (A 19) (i + 1)))), (4, .int (nI (f_all A 8 + A 10 0))), (5, .int (nI (i + 1)))]) [0, 1, 2, 3, 4, 5] rfl ih
