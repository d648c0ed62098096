/-! THE LAW'S SMALL METHODS -/
set_option maxRecDepth 100000 in
set_option maxHeartbeats 4000000 in
theorem c_L_draw (l : Launch) (w : hv_W) (Y : hv_H) (k m9 : Nat) (hk : k < 2 ^ 30) (h0 : 0 < m9) (hm : m9 < 2 ^ 31) (hL : hv_sL w < 2 ^ 31) : hv_Mr l yL_draw wsL_draw ({ frames := 0, cells := 0, slots := 0, locals := 0 }) w [.ref (hv_sb w), .int (nI k), .int (nI m9)] Y (fun r Y1 => (∃ v, v < m9 ∧ r = .int (nI v)) ∧ Y1 = Y) := by
  refine hv_ofV (cc := cL_draw) (own := RL) (by decide) rfl rfl (Nat.le_of_ble_eq_true rfl) rfl ?_
  intro p e s m below meth c C hret hnm
  refine hv_join (α := Int32) (pcJ := 23) (fun _ => Y) (fun _ => [(0, .ref (hv_sb w)), (1, .int (nI k)), (2, .int (nI m9))]) (fun t => [.int t]) (fun _ => True) ?_ ?_
  · intro z _
    refine hv_istore_n (lv1 := [(0, .ref (hv_sb w)), (1, .int (nI k)), (2, .int (nI m9)), (3, .int z)]) C dL_draw_23 rfl (by decide) [1, 2, 3, 0] rfl ?_
    refine hv_iload_n C dL_draw_24 rfl 3 rfl ?_
    refine hv_ldc (v := 2147483647) C (by decide +kernel) dL_draw_25 ?_
    refine hv_iand C dL_draw_27 ?_
    obtain ⟨j, hj, hz⟩ := pk_andE z (m := 2147483647) 31 (by decide)
    refine hv_top hz ?_
    refine hv_iload_n C dL_draw_28 rfl 2 rfl ?_
    refine hv_iremN C dL_draw_29 (by omega) h0 hm ?_
    exact hv_iret C hret dL_draw_30 (Nat.le_refl _) (Nat.le_refl _) ⟨⟨j % m9, Nat.mod_lt _ h0, rfl⟩, rfl⟩
  · intro kJ
    refine hv_iload_n C dL_draw_0 rfl 1 rfl ?_
    refine hv_aload_n C dL_draw_1 rfl 0 rfl ?_
    refine hv_slen C dL_draw_2 ?_
    refine hv_icmpN_ge (tgt := 12) C dL_draw_3 (by decide) (by omega) hL (fun h => ?_) (fun h => ?_)
    · refine hv_ldc (v := 902424531) C (by decide +kernel) dL_draw_12 ?_
      refine hv_iload_n C dL_draw_14 rfl 1 rfl ?_
      refine hv_sipush (v := nI 541) C dL_draw_15 (by decide) ?_
      refine hv_iadd C dL_draw_18 ?_
      refine hv_imul C dL_draw_19 ?_
      refine hv_ldc (v := 698861041) C (by decide +kernel) dL_draw_20 ?_
      refine hv_iadd C dL_draw_22 ?_
      exact kJ _ trivial
    · refine hv_aload_n C dL_draw_6 rfl 0 rfl ?_
      refine hv_iload_n C dL_draw_7 rfl 1 rfl ?_
      refine hv_sld C h hL dL_draw_8 ?_
      refine hv_goto (tgt := 23) C dL_draw_9 (by decide) ?_
      exact kJ _ trivial
theorem pt_sm : ∀ t : Nat, t < 31 → ((nI t &&& 31 : Int32).toBitVec.smod 32).toNat = t := by decide
set_option maxRecDepth 100000 in
set_option maxHeartbeats 4000000 in
theorem c_L_part (l : Launch) (w : hv_W) (Y : hv_H) (n f b r9 : Nat) (hn : n < 2 ^ 31) (hf : f < 31) (hb : b = 1 ∨ b = 3 ∨ b = 4) (hr9 : n / 2 ^ f % 2 ^ b = r9) : hv_Mr l yL_part wsL_part ({ frames := 0, cells := 0, slots := 0, locals := 0 }) w [.int (nI n), .int (nI f), .int (nI b)] Y (fun r Y1 => r = .int (nI r9) ∧ Y1 = Y) := by
  subst hr9
  refine hv_ofV (cc := cL_part) (own := RL) (by decide) rfl rfl (Nat.le_of_ble_eq_true rfl) rfl ?_
  intro p e s m below meth c C hret hnm
  have hd : n / 2 ^ f < 2 ^ 32 := by have := Nat.div_le_self n (2 ^ f); omega
  refine hv_iload_n C dL_part_0 rfl 0 rfl ?_
  refine hv_iload_n C dL_part_1 rfl 1 rfl ?_
  refine hv_ishr C dL_part_2 ?_
  refine hv_top (y := nI (n / 2 ^ f)) (pk_shrN hn _ f (pt_sm f hf)) ?_
  refine hv_iconst (v := nI 1) C dL_part_3 (by decide) ?_
  refine hv_iload_n C dL_part_4 rfl 2 rfl ?_
  refine hv_ishl C dL_part_5 ?_
  refine hv_iconst (v := nI 1) C dL_part_6 (by decide) ?_
  refine hv_isub C dL_part_7 ?_
  refine hv_top (y := nI (2 ^ b - 1)) (by rcases hb with rfl | rfl | rfl <;> decide) ?_
  refine hv_iand C dL_part_8 ?_
  refine hv_top (y := nI (n / 2 ^ f % 2 ^ b)) (pk_andN hd b (by rcases hb with rfl | rfl | rfl <;> decide)) ?_
  exact hv_iret C hret dL_part_9 (Nat.le_refl _) (Nat.le_refl _) ⟨rfl, rfl⟩
set_option maxRecDepth 100000 in
set_option maxHeartbeats 4000000 in
theorem c_L_beyond (l : Launch) (w : hv_W) (Y : hv_H) (n b : Nat) (hn : n < 2 ^ 31) (hb : b < 8) : hv_Mr l yL_beyond wsL_beyond ({ frames := 1, cells := 0, slots := 0, locals := 22 }) w [.int (nI n), .int (nI b)] Y (fun r Y1 => r = .int (nI (if n % 8 = b then n / 8 % 8 else n % 8)) ∧ Y1 = Y) := by
  refine hv_ofV (cc := cL_beyond) (own := RL) (by decide) rfl rfl (Nat.le_of_ble_eq_true rfl) rfl ?_
  intro p e s m below meth c C hret hnm
  refine hv_iload_n C dL_beyond_0 rfl 0 rfl ?_
  refine hv_iconst (v := nI 0) C dL_beyond_1 (by decide) ?_
  refine hv_iconst (v := nI 3) C dL_beyond_2 (by decide) ?_
  refine hv_callSr (As := [.int (nI n), .int (nI 0), .int (nI 3)]) (rest := []) (n := 3) C (c_L_part l w Y n 0 3 (n % 8) hn (by decide) (by decide) (by rw [Nat.pow_zero, Nat.div_one])) gL_beyond_L_part rfl (by decide +kernel) ⟨(Nat.le_of_ble_eq_true rfl), (Nat.le_of_ble_eq_true rfl)⟩ rfl rfl (Nat.le_of_ble_eq_true rfl) dL_beyond_3 ⟨(Nat.le_of_ble_eq_true rfl), (Nat.le_of_ble_eq_true rfl)⟩ (fun r1 Y1 hr => ?_)
  obtain ⟨rfl, hy9⟩ := hr; obtain rfl := hy9.symm
  refine hv_iload_n C dL_beyond_6 rfl 1 rfl ?_
  refine hv_icmpN_ne (tgt := 19) C dL_beyond_7 (by decide) (by omega) (by omega) (fun h => ?_) (fun h => ?_)
  · rw [if_neg h]
    refine hv_iload_n C dL_beyond_19 rfl 0 rfl ?_
    refine hv_iconst (v := nI 0) C dL_beyond_20 (by decide) ?_
    refine hv_iconst (v := nI 3) C dL_beyond_21 (by decide) ?_
    refine hv_callSr (As := [.int (nI n), .int (nI 0), .int (nI 3)]) (rest := []) (n := 3) C (c_L_part l w Y n 0 3 (n % 8) hn (by decide) (by decide) (by rw [Nat.pow_zero, Nat.div_one])) gL_beyond_L_part rfl (by decide +kernel) ⟨(Nat.le_of_ble_eq_true rfl), (Nat.le_of_ble_eq_true rfl)⟩ rfl rfl (Nat.le_of_ble_eq_true rfl) dL_beyond_22 ⟨(Nat.le_of_ble_eq_true rfl), (Nat.le_of_ble_eq_true rfl)⟩ (fun r1 Y1 hr => ?_)
    obtain ⟨rfl, hy9⟩ := hr; obtain rfl := hy9.symm
    exact hv_iret C hret dL_beyond_25 (Nat.le_of_ble_eq_true rfl) (Nat.le_of_ble_eq_true rfl) ⟨rfl, rfl⟩
  · rw [if_pos h]
    refine hv_iload_n C dL_beyond_10 rfl 0 rfl ?_
    refine hv_iconst (v := nI 3) C dL_beyond_11 (by decide) ?_
    refine hv_iconst (v := nI 3) C dL_beyond_12 (by decide) ?_
    refine hv_callSr (As := [.int (nI n), .int (nI 3), .int (nI 3)]) (rest := []) (n := 3) C (c_L_part l w Y n 3 3 (n / 8 % 8) hn (by decide) (by decide) rfl) gL_beyond_L_part rfl (by decide +kernel) ⟨(Nat.le_of_ble_eq_true rfl), (Nat.le_of_ble_eq_true rfl)⟩ rfl rfl (Nat.le_of_ble_eq_true rfl) dL_beyond_13 ⟨(Nat.le_of_ble_eq_true rfl), (Nat.le_of_ble_eq_true rfl)⟩ (fun r1 Y1 hr => ?_)
    obtain ⟨rfl, hy9⟩ := hr; obtain rfl := hy9.symm
    refine hv_goto (tgt := 25) C dL_beyond_16 (by decide) ?_
    exact hv_iret C hret dL_beyond_25 (Nat.le_of_ble_eq_true rfl) (Nat.le_of_ble_eq_true rfl) ⟨rfl, rfl⟩
set_option maxRecDepth 100000 in
set_option maxHeartbeats 4000000 in
theorem c_L_isAt (l : Launch) (w : hv_W) (Y : hv_H) (n b : Nat) (hn : n < 2 ^ 31) (hb : b < 8) : hv_Mr l yL_isAt wsL_isAt ({ frames := 1, cells := 0, slots := 0, locals := 22 }) w [.int (nI n), .int (nI b)] Y (fun r Y1 => r = .int (nI (b2 (n % 8 = b ∨ n / 8 % 8 = b))) ∧ Y1 = Y) := by
  refine hv_ofV (cc := cL_isAt) (own := RL) (by decide) rfl rfl (Nat.le_of_ble_eq_true rfl) rfl ?_
  intro p e s m below meth c C hret hnm
  refine hv_iload_n C dL_isAt_0 rfl 0 rfl ?_
  refine hv_iconst (v := nI 0) C dL_isAt_1 (by decide) ?_
  refine hv_iconst (v := nI 3) C dL_isAt_2 (by decide) ?_
  refine hv_callSr (As := [.int (nI n), .int (nI 0), .int (nI 3)]) (rest := []) (n := 3) C (c_L_part l w Y n 0 3 (n % 8) hn (by decide) (by decide) (by rw [Nat.pow_zero, Nat.div_one])) gL_isAt_L_part rfl (by decide +kernel) ⟨(Nat.le_of_ble_eq_true rfl), (Nat.le_of_ble_eq_true rfl)⟩ rfl rfl (Nat.le_of_ble_eq_true rfl) dL_isAt_3 ⟨(Nat.le_of_ble_eq_true rfl), (Nat.le_of_ble_eq_true rfl)⟩ (fun r1 Y1 hr => ?_)
  obtain ⟨rfl, hy9⟩ := hr; obtain rfl := hy9.symm
  refine hv_iload_n C dL_isAt_6 rfl 1 rfl ?_
  refine hv_icmpN_eq (tgt := 20) C dL_isAt_7 (by decide) (by omega) (by omega) (fun h => ?_) (fun h => ?_)
  · rw [b2_t (Or.inl h)]
    refine hv_iconst (v := nI 1) C dL_isAt_20 (by decide) ?_
    refine hv_goto (tgt := 25) C dL_isAt_21 (by decide) ?_
    exact hv_zret C hret (by decide) dL_isAt_25 (Nat.le_of_ble_eq_true rfl) (Nat.le_of_ble_eq_true rfl) ⟨rfl, rfl⟩
  · refine hv_iload_n C dL_isAt_10 rfl 0 rfl ?_
    refine hv_iconst (v := nI 3) C dL_isAt_11 (by decide) ?_
    refine hv_iconst (v := nI 3) C dL_isAt_12 (by decide) ?_
    refine hv_callSr (As := [.int (nI n), .int (nI 3), .int (nI 3)]) (rest := []) (n := 3) C (c_L_part l w Y n 3 3 (n / 8 % 8) hn (by decide) (by decide) rfl) gL_isAt_L_part rfl (by decide +kernel) ⟨(Nat.le_of_ble_eq_true rfl), (Nat.le_of_ble_eq_true rfl)⟩ rfl rfl (Nat.le_of_ble_eq_true rfl) dL_isAt_13 ⟨(Nat.le_of_ble_eq_true rfl), (Nat.le_of_ble_eq_true rfl)⟩ (fun r1 Y1 hr => ?_)
    obtain ⟨rfl, hy9⟩ := hr; obtain rfl := hy9.symm
    refine hv_iload_n C dL_isAt_16 rfl 1 rfl ?_
    refine hv_icmpN_ne (tgt := 24) C dL_isAt_17 (by decide) (by omega) (by omega) (fun h2 => ?_) (fun h2 => ?_)
    · rw [b2_f (fun q => q.elim h h2)]
      refine hv_iconst (v := nI 0) C dL_isAt_24 (by decide) ?_
      exact hv_zret C hret (by decide) dL_isAt_25 (Nat.le_of_ble_eq_true rfl) (Nat.le_of_ble_eq_true rfl) ⟨rfl, rfl⟩
    · rw [b2_t (Or.inr h2)]
      refine hv_iconst (v := nI 1) C dL_isAt_20 (by decide) ?_
      refine hv_goto (tgt := 25) C dL_isAt_21 (by decide) ?_
      exact hv_zret C hret (by decide) dL_isAt_25 (Nat.le_of_ble_eq_true rfl) (Nat.le_of_ble_eq_true rfl) ⟨rfl, rfl⟩
set_option maxRecDepth 100000 in
set_option maxHeartbeats 4000000 in
theorem c_L_askDig (l : Launch) (w : hv_W) (o : Nat) (iv : Nat → Option Nat) (F : Nat → Nat → Int32) (A : ab_A) (Y : hv_H) (hlt : l.stackTraces = false) (hS : zLS w o iv F A Y) (hI : ab_I A) (u v x y : Nat) (hu : u < 8) (hv : v < 8) (huv : u ≠ v) (hx : 1 ≤ x) (hx2 : x ≤ 9) (hy : y ≤ 9) : hv_Mr l yL_asks wsL_asks ({ frames := 8, cells := 8, slots := 100, locals := 198 }) w [.ref o, .int (nI 0), .int (nI u), .int (nI v), .int (nI x), .int (nI y)] Y (fun r Y1 => ((A 4 0 = 14) ∧ r = .int (-108) ∧ zLS w o iv F A Y1) ∨ (¬ (A 4 0 = 14) ∧ r = .int (nI (A 4 0)) ∧ zLS w o iv F (f_dig A u v x y) Y1)) := by
  obtain ⟨g, Z, hg, hZ, hF, rfl, rfl⟩ := hS
  have hq : q_dig A (nI u) (nI v) (nI x) (nI y) = if A 4 0 = 14 then (3, 0, A) else (0, nI (A 4 0), f_dig A u v x y) := by
    unfold q_dig
    rw [ix_nI hu (by decide), ix_nI hv (by decide), rg_nI hx hx2 (by decide), rg_nI (Nat.zero_le _) hy (by decide)]
    exact if_neg huv
  refine hv_ofVH (cc := cL_asks) (own := RL) (by decide) rfl rfl (Nat.le_of_ble_eq_true rfl) rfl ?_
  intro p e s m below meth c C hret htab
  refine hv_iload_n C dL_asks_0 rfl 1 rfl ?_
  refine hv_ifN_ne (tgt := 17) C dL_asks_1 (by decide) (by decide) (fun h => absurd rfl h) (fun _ => ?_)
  refine hv_aload_n C dL_asks_4 rfl 0 rfl ?_
  refine hv_iload_n C dL_asks_5 rfl 2 rfl ?_
  refine hv_iload_n C dL_asks_6 rfl 3 rfl ?_
  refine hv_iload C dL_asks_7 4 rfl ?_
  refine hv_iload C dL_asks_9 5 rfl ?_
  refine hv_callVrh (As := [.int (nI u), .int (nI v), .int (nI x), .int (nI y)]) (rest := []) (n := 4) C (c_X4_dig l w g A Z (lY w iv F) hg hlt hI hZ hF (nI u) (nI v) (nI x) (nI y)) gL_asks_X4_dig rfl (by decide +kernel) ⟨(Nat.le_of_ble_eq_true rfl), (Nat.le_of_ble_eq_true rfl)⟩ (cl_rc hg (Or.inl ⟨by decide, rfl⟩) rfl rfl) rfl rfl (Nat.le_of_ble_eq_true rfl) dL_asks_11 ⟨(Nat.le_of_ble_eq_true rfl), (Nat.le_of_ble_eq_true rfl)⟩ (fun E Y1 hE => ?_) (fun r Y1 hr => ?_)
  · obtain ⟨hE, rfl⟩ := hE
    have hE : (E = hv_IO ∧ (q_dig A (nI u) (nI v) (nI x) (nI y)).1 = 1) ∨ (E = hv_IA ∧ (q_dig A (nI u) (nI v) (nI x) (nI y)).1 = 2) ∨ (E = hv_IS ∧ (q_dig A (nI u) (nI v) (nI x) (nI y)).1 = 3) := hE
    rw [hq] at hE
    by_cases hc : A 4 0 = 14
    · rw [if_pos hc] at hE
      have hE9 : E = hv_IS := by
        rcases hE with ⟨h, hq1⟩ | ⟨h, hq1⟩ | ⟨h, hq1⟩
        all_goals first | exact h | (simp at hq1; done)
      subst hE9
      refine ⟨[⟨0, 51, 52, 32⟩], ⟨0, 51, 57, 34⟩, [], hv_IS, htab, fun z hz => by
          rw [List.mem_singleton.mp hz]
          exact Or.inr ⟨by decide, hv_IO, by decide +kernel, hv_ncB C⟩, by decide, by decide, by decide +kernel, hv_cE C hv_nIS, fun q9 => ?_⟩
      refine hv_astore (lv1 := []) C dL_asks_57 (by decide) [] rfl ?_
      refine hv_bipush (v := -108) C dL_asks_59 (by decide) ?_
      exact hv_iret C hret dL_asks_61 (Nat.le_of_ble_eq_true rfl) (Nat.le_of_ble_eq_true rfl) (Or.inl ⟨hc, rfl, ⟨g, Z, hg, hZ, hF, rfl, rfl⟩⟩)
    · rw [if_neg hc] at hE
      exfalso
      rcases hE with ⟨h, hq1⟩ | ⟨h, hq1⟩ | ⟨h, hq1⟩
      all_goals (simp at hq1; done)
  · obtain ⟨hq0, rfl, hS1⟩ := hr
    by_cases hc : A 4 0 = 14
    · rw [hq, if_pos hc] at hq0
      simp at hq0
    · rw [hq, if_neg hc] at hS1
      refine hv_top (y := nI (A 4 0)) (by rw [hq, if_neg hc]) ?_
      refine hv_goto (tgt := 51) C dL_asks_14 (by decide) ?_
      exact hv_iret C hret dL_asks_51 (Nat.le_of_ble_eq_true rfl) (Nat.le_of_ble_eq_true rfl) (Or.inr ⟨hc, rfl, hS1⟩)
set_option maxRecDepth 100000 in
set_option maxHeartbeats 4000000 in
theorem c_L_askOut (l : Launch) (w : hv_W) (o : Nat) (iv : Nat → Option Nat) (F : Nat → Nat → Int32) (A : ab_A) (Y : hv_H) (hlt : l.stackTraces = false) (hS : zLS w o iv F A Y) (hI : ab_I A) (b d n : Nat) (hb : b < 8) (hd : d < 8) (hn : 1 ≤ n) (hn2 : n ≤ 20) : hv_Mr l yL_asks wsL_asks ({ frames := 8, cells := 16, slots := 220, locals := 198 }) w [.ref o, .int (nI 1), .int (nI b), .int (nI d), .int (nI n), .int (nI 0)] Y (fun r Y1 => ((A 15 0 = 40 ∨ (A 2 b = 6 ∧ b ≠ d)) ∧ r = .int (-108) ∧ zLS w o iv F A Y1) ∨ (¬ (A 15 0 = 40 ∨ (A 2 b = 6 ∧ b ≠ d)) ∧ r = .int (nI (A 15 0)) ∧ zLS w o iv F (f_out A b d n) Y1)) := by
  obtain ⟨g, Z, hg, hZ, hF, rfl, rfl⟩ := hS
  have hq : q_setOut A (nI b) (nI d) (nI n) = if A 15 0 = 40 ∨ (A 2 b = 6 ∧ b ≠ d) then (3, 0, A) else (0, nI (A 15 0), f_out A b d n) := by
    unfold q_setOut
    rw [ix_nI hb (by decide), ix_nI hd (by decide), rg_nI hn hn2 (by decide)]
  refine hv_ofVH (cc := cL_asks) (own := RL) (by decide) rfl rfl (Nat.le_of_ble_eq_true rfl) rfl ?_
  intro p e s m below meth c C hret htab
  refine hv_iload_n C dL_asks_0 rfl 1 rfl ?_
  refine hv_ifN_ne (tgt := 17) C dL_asks_1 (by decide) (by decide) (fun _ => ?_) (fun h => absurd h (by decide))
  refine hv_iload_n C dL_asks_17 rfl 1 rfl ?_
  refine hv_iconst (v := nI 1) C dL_asks_18 (by decide) ?_
  refine hv_icmpN_ne (tgt := 33) C dL_asks_19 (by decide) (by decide) (by decide) (fun h => absurd rfl h) (fun _ => ?_)
  refine hv_aload_n C dL_asks_22 rfl 0 rfl ?_
  refine hv_iload_n C dL_asks_23 rfl 2 rfl ?_
  refine hv_iload_n C dL_asks_24 rfl 3 rfl ?_
  refine hv_iload C dL_asks_25 4 rfl ?_
  refine hv_callVrh (As := [.int (nI b), .int (nI d), .int (nI n)]) (rest := []) (n := 3) C (c_X4_setOut l w g A Z (lY w iv F) hg hlt hI hZ hF (nI b) (nI d) (nI n)) gL_asks_X4_setOut rfl (by decide +kernel) ⟨(Nat.le_of_ble_eq_true rfl), (Nat.le_of_ble_eq_true rfl)⟩ (cl_rc hg (Or.inl ⟨by decide, rfl⟩) rfl rfl) rfl rfl (Nat.le_of_ble_eq_true rfl) dL_asks_27 ⟨(Nat.le_of_ble_eq_true rfl), (Nat.le_of_ble_eq_true rfl)⟩ (fun E Y1 hE => ?_) (fun r Y1 hr => ?_)
  · obtain ⟨hE, rfl⟩ := hE
    have hE : (E = hv_IO ∧ (q_setOut A (nI b) (nI d) (nI n)).1 = 1) ∨ (E = hv_IA ∧ (q_setOut A (nI b) (nI d) (nI n)).1 = 2) ∨ (E = hv_IS ∧ (q_setOut A (nI b) (nI d) (nI n)).1 = 3) := hE
    rw [hq] at hE
    by_cases hc : A 15 0 = 40 ∨ (A 2 b = 6 ∧ b ≠ d)
    · rw [if_pos hc] at hE
      have hE9 : E = hv_IS := by
        rcases hE with ⟨h, hq1⟩ | ⟨h, hq1⟩ | ⟨h, hq1⟩
        all_goals first | exact h | (simp at hq1; done)
      subst hE9
      refine ⟨[⟨0, 51, 52, 32⟩], ⟨0, 51, 57, 34⟩, [], hv_IS, htab, fun z hz => by
          rw [List.mem_singleton.mp hz]
          exact Or.inr ⟨by decide, hv_IO, by decide +kernel, hv_ncB C⟩, by decide, by decide, by decide +kernel, hv_cE C hv_nIS, fun q9 => ?_⟩
      refine hv_astore (lv1 := []) C dL_asks_57 (by decide) [] rfl ?_
      refine hv_bipush (v := -108) C dL_asks_59 (by decide) ?_
      exact hv_iret C hret dL_asks_61 (Nat.le_of_ble_eq_true rfl) (Nat.le_of_ble_eq_true rfl) (Or.inl ⟨hc, rfl, ⟨g, Z, hg, hZ, hF, rfl, rfl⟩⟩)
    · rw [if_neg hc] at hE
      exfalso
      rcases hE with ⟨h, hq1⟩ | ⟨h, hq1⟩ | ⟨h, hq1⟩
      all_goals (simp at hq1; done)
  · obtain ⟨hq0, rfl, hS1⟩ := hr
    by_cases hc : A 15 0 = 40 ∨ (A 2 b = 6 ∧ b ≠ d)
    · rw [hq, if_pos hc] at hq0
      simp at hq0
    · rw [hq, if_neg hc] at hS1
      refine hv_top (y := nI (A 15 0)) (by rw [hq, if_neg hc]) ?_
      refine hv_goto (tgt := 51) C dL_asks_30 (by decide) ?_
      exact hv_iret C hret dL_asks_51 (Nat.le_of_ble_eq_true rfl) (Nat.le_of_ble_eq_true rfl) (Or.inr ⟨hc, rfl, hS1⟩)
set_option maxRecDepth 100000 in
set_option maxHeartbeats 4000000 in
theorem c_L_askMove (l : Launch) (w : hv_W) (o : Nat) (iv : Nat → Option Nat) (F : Nat → Nat → Int32) (A : ab_A) (Y : hv_H) (hlt : l.stackTraces = false) (hS : zLS w o iv F A Y) (hI : ab_I A) (t : Nat) (ht : 1 ≤ t) (ht2 : t ≤ 50) : hv_Mr l yL_asks wsL_asks ({ frames := 10, cells := 401, slots := 4006, locals := 240 }) w [.ref o, .int (nI 2), .int (nI t), .int (nI 0), .int (nI 0), .int (nI 0)] Y (fun r Y1 => ((2000 < A 16 0 + t) ∧ r = .int (-108) ∧ zLS w o iv F A Y1) ∨ (¬ (2000 < A 16 0 + t) ∧ r = .int (nI (f_moved A t)) ∧ zLS w o iv F (f_moves A t) Y1)) := by
  obtain ⟨g, Z, hg, hZ, hF, rfl, rfl⟩ := hS
  have hq : q_move A (nI t) = if 2000 < A 16 0 + t then (2, 0, A) else (0, nI (f_moved A t), f_moves A t) := by
    unfold q_move
    rw [rg_nI ht ht2 (by decide)]
  refine hv_ofVH (cc := cL_asks) (own := RL) (by decide) rfl rfl (Nat.le_of_ble_eq_true rfl) rfl ?_
  intro p e s m below meth c C hret htab
  refine hv_iload_n C dL_asks_0 rfl 1 rfl ?_
  refine hv_ifN_ne (tgt := 17) C dL_asks_1 (by decide) (by decide) (fun _ => ?_) (fun h => absurd h (by decide))
  refine hv_iload_n C dL_asks_17 rfl 1 rfl ?_
  refine hv_iconst (v := nI 1) C dL_asks_18 (by decide) ?_
  refine hv_icmpN_ne (tgt := 33) C dL_asks_19 (by decide) (by decide) (by decide) (fun _ => ?_) (fun h => absurd h (by decide))
  refine hv_iload_n C dL_asks_33 rfl 1 rfl ?_
  refine hv_iconst (v := nI 2) C dL_asks_34 (by decide) ?_
  refine hv_icmpN_ne (tgt := 46) C dL_asks_35 (by decide) (by decide) (by decide) (fun h => absurd rfl h) (fun _ => ?_)
  refine hv_aload_n C dL_asks_38 rfl 0 rfl ?_
  refine hv_iload_n C dL_asks_39 rfl 2 rfl ?_
  refine hv_callVrh (As := [.int (nI t)]) (rest := []) (n := 1) C (c_X4_move l w g A Z (lY w iv F) hg hlt hI hZ hF (nI t)) gL_asks_X4_move rfl (by decide +kernel) ⟨(Nat.le_of_ble_eq_true rfl), (Nat.le_of_ble_eq_true rfl)⟩ (cl_rc hg (Or.inl ⟨by decide, rfl⟩) rfl rfl) rfl rfl (Nat.le_of_ble_eq_true rfl) dL_asks_40 ⟨(Nat.le_of_ble_eq_true rfl), (Nat.le_of_ble_eq_true rfl)⟩ (fun E Y1 hE => ?_) (fun r Y1 hr => ?_)
  · obtain ⟨hE, rfl⟩ := hE
    have hE : (E = hv_IA ∧ (q_move A (nI t)).1 = 1) ∨ (E = hv_IS ∧ (q_move A (nI t)).1 = 2) := hE
    rw [hq] at hE
    by_cases hc : 2000 < A 16 0 + t
    · rw [if_pos hc] at hE
      have hE9 : E = hv_IS := by
        rcases hE with ⟨h, hq1⟩ | ⟨h, hq1⟩
        all_goals first | exact h | (simp at hq1; done)
      subst hE9
      refine ⟨[⟨0, 51, 52, 32⟩], ⟨0, 51, 57, 34⟩, [], hv_IS, htab, fun z hz => by
          rw [List.mem_singleton.mp hz]
          exact Or.inr ⟨by decide, hv_IO, by decide +kernel, hv_ncB C⟩, by decide, by decide, by decide +kernel, hv_cE C hv_nIS, fun q9 => ?_⟩
      refine hv_astore (lv1 := []) C dL_asks_57 (by decide) [] rfl ?_
      refine hv_bipush (v := -108) C dL_asks_59 (by decide) ?_
      exact hv_iret C hret dL_asks_61 (Nat.le_of_ble_eq_true rfl) (Nat.le_of_ble_eq_true rfl) (Or.inl ⟨hc, rfl, ⟨g, Z, hg, hZ, hF, rfl, rfl⟩⟩)
    · rw [if_neg hc] at hE
      exfalso
      rcases hE with ⟨h, hq1⟩ | ⟨h, hq1⟩
      all_goals (simp at hq1; done)
  · obtain ⟨hq0, rfl, hS1⟩ := hr
    by_cases hc : 2000 < A 16 0 + t
    · rw [hq, if_pos hc] at hq0
      simp at hq0
    · rw [hq, if_neg hc] at hS1
      refine hv_top (y := nI (f_moved A t)) (by rw [hq, if_neg hc]) ?_
      refine hv_goto (tgt := 51) C dL_asks_43 (by decide) ?_
      exact hv_iret C hret dL_asks_51 (Nat.le_of_ble_eq_true rfl) (Nat.le_of_ble_eq_true rfl) (Or.inr ⟨hc, rfl, hS1⟩)
theorem ix_self {n : Nat} (hn : n < 2 ^ 31) : ix n (nI n) = none := by
  unfold ix
  rw [if_neg]
  intro q
  obtain ⟨j, h1, h2⟩ := (ix_iff hn).mp q
  have := (nI_eq hn (by omega)).mp h2
  omega
set_option maxRecDepth 100000 in
set_option maxHeartbeats 4000000 in
theorem c_L_askCost (l : Launch) (w : hv_W) (o : Nat) (iv : Nat → Option Nat) (F : Nat → Nat → Int32) (A : ab_A) (Y : hv_H) (hlt : l.stackTraces = false) (hS : zLS w o iv F A Y) (hI : ab_I A) : hv_Mr l yL_asks wsL_asks ({ frames := 8, cells := 6, slots := 40, locals := 172 }) w [.ref o, .int (nI 3), .int (nI (A 4 0)), .int (nI 0), .int (nI 0), .int (nI 0)] Y (fun r Y1 => r = .int (-107) ∧ Y1 = Y) := by
  obtain ⟨g, Z, hg, hZ, hF, rfl, rfl⟩ := hS
  have h14 := hI.2.2.2.1
  have hq : q_cost A (nI (A 4 0)) = (1, 0, A) := by
    unfold q_cost
    rw [ix_self (by omega)]
  refine hv_ofVH (cc := cL_asks) (own := RL) (by decide) rfl rfl (Nat.le_of_ble_eq_true rfl) rfl ?_
  intro p e s m below meth c C hret htab
  refine hv_iload_n C dL_asks_0 rfl 1 rfl ?_
  refine hv_ifN_ne (tgt := 17) C dL_asks_1 (by decide) (by decide) (fun _ => ?_) (fun h => absurd h (by decide))
  refine hv_iload_n C dL_asks_17 rfl 1 rfl ?_
  refine hv_iconst (v := nI 1) C dL_asks_18 (by decide) ?_
  refine hv_icmpN_ne (tgt := 33) C dL_asks_19 (by decide) (by decide) (by decide) (fun _ => ?_) (fun h => absurd h (by decide))
  refine hv_iload_n C dL_asks_33 rfl 1 rfl ?_
  refine hv_iconst (v := nI 2) C dL_asks_34 (by decide) ?_
  refine hv_icmpN_ne (tgt := 46) C dL_asks_35 (by decide) (by decide) (by decide) (fun _ => ?_) (fun h => absurd h (by decide))
  refine hv_aload_n C dL_asks_46 rfl 0 rfl ?_
  refine hv_iload_n C dL_asks_47 rfl 2 rfl ?_
  refine hv_callVrh (As := [.int (nI (A 4 0))]) (rest := []) (n := 1) C (c_X4_cost l w g A Z (lY w iv F) hg hlt hI hZ hF (nI (A 4 0))) gL_asks_X4_cost rfl (by decide +kernel) ⟨(Nat.le_of_ble_eq_true rfl), (Nat.le_of_ble_eq_true rfl)⟩ (cl_rc hg (Or.inl ⟨by decide, rfl⟩) rfl rfl) rfl rfl (Nat.le_of_ble_eq_true rfl) dL_asks_48 ⟨(Nat.le_of_ble_eq_true rfl), (Nat.le_of_ble_eq_true rfl)⟩ (fun E Y1 hE => ?_) (fun r Y1 hr => ?_)
  · obtain ⟨hE, rfl⟩ := hE
    have hE : E = hv_IO ∧ (q_cost A (nI (A 4 0))).1 = 1 := hE
    obtain ⟨rfl, -⟩ := hE
    refine ⟨[], ⟨0, 51, 52, 32⟩, [⟨0, 51, 57, 34⟩], hv_IO, htab, fun z hz => absurd hz List.not_mem_nil, by decide, by decide, by decide +kernel, hv_cE C hv_nIO, fun q9 => ?_⟩
    refine hv_astore (lv1 := []) C dL_asks_52 (by decide) [] rfl ?_
    refine hv_bipush (v := -107) C dL_asks_54 (by decide) ?_
    exact hv_iret C hret dL_asks_56 (Nat.le_of_ble_eq_true rfl) (Nat.le_of_ble_eq_true rfl) ⟨rfl, rfl⟩
  · obtain ⟨hq0, -⟩ := hr
    rw [hq] at hq0
    simp at hq0
