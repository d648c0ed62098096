theorem sm_mon {f : Nat → Nat} {n i : Nat} (h : i < n) : sm f i + f i ≤ sm f n := by
  induction n with
  | zero => omega
  | succ n ih =>
    show sm f i + f i ≤ sm f n + f n
    by_cases hi : i = n
    · rw [hi]; omega
    · have := ih (by omega); omega
theorem f_laid_le (A : ab_A) (n : Nat) : f_laid A n ≤ n := by
  induction n with
  | zero => exact Nat.le_refl _
  | succ n ih =>
    have := b2_le (q := A 21 n = 2)
    show f_laid A n + b2 (A 21 n = 2) ≤ n + 1
    omega
/-- what is marked was in a queue that was looked at -/
def sn_I (A : ab_A) (b k : Nat) (z : Int64) : Prop := ∀ j, j < 40 → s_bit z j = true → ∃ b' i', b' < 8 ∧ i' < A 2 b' ∧ A 3 (6 * b' + i') = j ∧ (b' < b ∨ (b' = b ∧ i' < k))
theorem sn_0 (A : ab_A) : sn_I A 0 0 0 := by
  intro j _ h
  rw [sb_0] at h
  cases h
theorem sn_new {A : ab_A} (hI : ab_I A) {b k : Nat} {z : Int64} (h : sn_I A b k z) (hb : b < 8) (hk : k < A 2 b) : s_bit z (A 3 (6 * b + k)) = false := by
  cases hz : s_bit z (A 3 (6 * b + k)) with
  | false => rfl
  | true =>
    have h40 := hI.2.2.2.2.2.2.1
    obtain ⟨a1, a2, a3, -⟩ := hI.2.1 b k hb hk
    obtain ⟨b', i', c1, c2, c3, c4⟩ := h _ (by omega) hz
    have h3 := (hI.2.1 b' i' c1 c2).2.2.1
    rw [c3, a3] at h3
    subst h3
    have := hI.2.2.1 b i' k hb c2 hk c3
    omega
theorem sn_step {A : ab_A} (hI : ab_I A) {b k : Nat} {z : Int64} (h : sn_I A b k z) (hb : b < 8) (hk : k < A 2 b) : sn_I A b (k + 1) (z ||| ((1 : Int64) <<< ((nI (A 3 (6 * b + k))).toInt64 &&& 63))) := by
  have h40 := hI.2.2.2.2.2.2.1
  obtain ⟨a1, -⟩ := hI.2.1 b k hb hk
  intro j hj hz
  rw [sb_or (by omega) hj] at hz
  cases hq : s_bit z j with
  | true =>
    obtain ⟨b', i', c1, c2, c3, c4⟩ := h j hj hq
    exact ⟨b', i', c1, c2, c3, by omega⟩
  | false =>
    rw [hq] at hz
    have hj2 : j = A 3 (6 * b + k) := by simpa using hz
    exact ⟨b, k, hb, hk, hj2.symm, Or.inr ⟨rfl, by omega⟩⟩
theorem sn_next {A : ab_A} {b : Nat} {z : Int64} (h : sn_I A b (A 2 b) z) : sn_I A (b + 1) 0 z := by
  intro j hj hz
  obtain ⟨b', i', c1, c2, c3, c4⟩ := h j hj hz
  exact ⟨b', i', c1, c2, c3, by omega⟩
set_option maxRecDepth 100000 in
set_option maxHeartbeats 4000000 in
theorem c_L_areBarges (l : Launch) (w : hv_W) (o : Nat) (q : Nat → Nat) (iv : Nat → Option Nat) (F : Nat → Nat → Int32) (A : ab_A) (Y : hv_H) (hq : lok q iv) (hS : zLS w o iv F A Y) {M : Nat} (hL : zLI A F M) : hv_Mr l yL_areBarges wsL_areBarges ({ frames := 8, cells := 0, slots := 0, locals := 190 }) w [.ref (o), .ref (q 1), .ref (q 2)] Y (fun r Y1 => r = .int (nI 1) ∧ Y1 = Y) := by
  refine hv_ofV (cc := cL_areBarges) (own := RL) (by decide) rfl rfl (Nat.le_of_ble_eq_true rfl) rfl ?_
  intro p e s m below meth c C hret hnm
  obtain ⟨hI, hJ, ⟨hM, hM2⟩, hG, hB, hc0, hc1, hc2⟩ := id hL
  have h15 := hI.2.2.2.2.2.2.1
  have h16 := hI.2.2.2.2.2.2.2.1
  have hld9 := f_laid_le A (A 15 0)
  have hs8 := sm_le (f := A 2) (c := 6) (n := 8) (fun i hi => (hI.1 i hi).2.2.2.2)
  have hsm : ∀ i, i < 8 → sm (A 2) i ≤ 48 := fun i hi => by have := sm_le (f := A 2) (c := 6) (n := i) (fun j hj => (hI.1 j (by omega)).2.2.2.2); omega
  refine hv_lconst (v := 0) C dL_areBarges_0 (by decide) ?_
  refine hv_lstore_n (lv1 := [(0, .ref (o)), (1, .ref (q 1)), (2, .ref (q 2)), (3, .long (0))]) C dL_areBarges_1 rfl (by decide) [1, 2, 3, 0] rfl ?_
  refine hv_iconst (v := nI 0) C dL_areBarges_2 (by decide) ?_
  refine hv_istore (lv1 := [(0, .ref (o)), (1, .ref (q 1)), (2, .ref (q 2)), (3, .long (0)), (5, .int (nI 0))]) C dL_areBarges_3 (by decide) [1, 2, 3, 4, 0] rfl ?_
  refine hv_iconst (v := nI 0) C dL_areBarges_5 (by decide) ?_
  refine hv_istore (lv1 := [(0, .ref (o)), (1, .ref (q 1)), (2, .ref (q 2)), (3, .long (0)), (5, .int (nI 0)), (6, .int (nI 0))]) C dL_areBarges_6 (by decide) [1, 2, 3, 4, 5, 0] rfl ?_
  refine hv_aload_n C dL_areBarges_8 rfl 0 rfl ?_
  refine hv_callVr (As := []) (rest := []) (n := 0) C (k_barges l w o (lY w iv F) A Y hS hI) gL_areBarges_X4_barges rfl (by decide +kernel) ⟨(Nat.le_of_ble_eq_true rfl), (Nat.le_of_ble_eq_true rfl)⟩ (zLS_rc hS) rfl rfl (Nat.le_of_ble_eq_true rfl) dL_areBarges_9 ⟨by first | exact Nat.le_of_ble_eq_true rfl | omega | (simp; done) | (simp; omega), by first | exact Nat.le_of_ble_eq_true rfl | omega | (simp; done) | (simp; omega)⟩ (fun r1 Y1 hr => ?_)
  obtain ⟨rfl, hy9⟩ := hr; obtain rfl := hy9.symm
  refine hv_aload_n C dL_areBarges_12 rfl 2 rfl ?_
  refine hv_iconst (v := nI 1) C dL_areBarges_13 (by decide) ?_
  refine hl_ald (k := 2) (i := 1) (x := (nI (A 15 0))) C hS hq (by decide) (show 1 < 3 by omega) hc1 dL_areBarges_14 ?_
  refine hv_icmpN_ne (tgt := 32) C dL_areBarges_15 (by decide) (by omega) (by omega) (fun h2 => ?_) (fun h2 => ?_)
  · skip
    exact absurd rfl h2
  · skip
    refine hv_aload_n C dL_areBarges_18 rfl 0 rfl ?_
    refine hv_callVr (As := []) (rest := []) (n := 0) C (k_ticks l w o (lY w iv F) A Y hS hI) gL_areBarges_X4_ticks rfl (by decide +kernel) ⟨(Nat.le_of_ble_eq_true rfl), (Nat.le_of_ble_eq_true rfl)⟩ (zLS_rc hS) rfl rfl (Nat.le_of_ble_eq_true rfl) dL_areBarges_19 ⟨by first | exact Nat.le_of_ble_eq_true rfl | omega | (simp; done) | (simp; omega), by first | exact Nat.le_of_ble_eq_true rfl | omega | (simp; done) | (simp; omega)⟩ (fun r3 Y1 hr => ?_)
    obtain ⟨rfl, hy9⟩ := hr; obtain rfl := hy9.symm
    refine hv_aload_n C dL_areBarges_22 rfl 2 rfl ?_
    refine hv_iconst (v := nI 2) C dL_areBarges_23 (by decide) ?_
    refine hl_ald (k := 2) (i := 2) (x := (nI (A 16 0))) C hS hq (by decide) (show 2 < 3 by omega) hc2 dL_areBarges_24 ?_
    refine hv_icmpN_ne (tgt := 32) C dL_areBarges_25 (by decide) (by omega) (by omega) (fun h4 => ?_) (fun h4 => ?_)
    · skip
      exact absurd rfl h4
    · skip
      refine hv_iconst (v := nI 1) C dL_areBarges_28 (by decide) ?_
      refine hv_goto (tgt := 33) C dL_areBarges_29 (by decide) ?_
      refine hv_istore (lv1 := [(0, .ref (o)), (1, .ref (q 1)), (2, .ref (q 2)), (3, .long (0)), (5, .int (nI 0)), (6, .int (nI 0)), (7, .int (nI 1))]) C dL_areBarges_33 (by decide) [1, 2, 3, 4, 5, 6, 0] rfl ?_
      refine hv_iconst (v := nI 0) C dL_areBarges_35 (by decide) ?_
      refine hv_istore (lv1 := [(0, .ref (o)), (1, .ref (q 1)), (2, .ref (q 2)), (3, .long (0)), (5, .int (nI 0)), (6, .int (nI 0)), (7, .int (nI 1)), (8, .int (nI 0))]) C dL_areBarges_36 (by decide) [1, 2, 3, 4, 5, 6, 7, 0] rfl ?_
      refine hv_loopP (σ := Int64) 8 (fun _ _ => Y) (fun i z => [(0, .ref (o)), (1, .ref (q 1)), (2, .ref (q 2)), (3, .long (z)), (5, .int (nI 0)), (6, .int (nI (sm (A 2) i))), (7, .int (nI 1)), (8, .int (nI i))]) (fun i z => sn_I A i 0 z) ?_ ?_ 0 (sn_0 A)
      · intro z hsn
        refine hv_iload C dL_areBarges_38 7 rfl ?_
        refine hv_bipush (v := nI 8) C dL_areBarges_40 (by decide) ?_
        refine hv_icmpN_ge (tgt := 199) C dL_areBarges_42 (by decide) (by omega) (by omega) (fun _ => ?_) (fun h => absurd h (by decide))
        refine hv_iconst (v := nI 0) C dL_areBarges_199 (by decide) ?_
        refine hv_istore (lv1 := [(0, .ref (o)), (1, .ref (q 1)), (2, .ref (q 2)), (3, .long (z)), (5, .int (nI 0)), (6, .int (nI (sm (A 2) 8))), (7, .int (nI 1)), (8, .int (nI 0))]) C dL_areBarges_200 (by decide) [1, 2, 3, 4, 5, 6, 7, 0] rfl ?_
        refine hv_sub (lv1 := [(0, .ref (o)), (1, .ref (q 1)), (2, .ref (q 2)), (5, .int (nI (f_laid A 0))), (6, .int (nI (sm (A 2) 8 - sm (s_w A) 0))), (7, .int (nI 1)), (8, .int (nI 0))]) [0, 1, 2, 4, 5, 6, 7] rfl ?_
        refine hv_loop (A 15 0) (fun _ => Y) (fun i => [(0, .ref (o)), (1, .ref (q 1)), (2, .ref (q 2)), (5, .int (nI (f_laid A i))), (6, .int (nI (sm (A 2) 8 - sm (s_w A) i))), (7, .int (nI 1)), (8, .int (nI i))]) ?_ ?_
        · skip
          refine hv_iload C dL_areBarges_202 6 rfl ?_
          refine hv_aload_n C dL_areBarges_204 rfl 2 rfl ?_
          refine hv_iconst (v := nI 1) C dL_areBarges_205 (by decide) ?_
          refine hl_ald (k := 2) (i := 1) (x := (nI (A 15 0))) C hS hq (by decide) (show 1 < 3 by omega) hc1 dL_areBarges_206 ?_
          refine hv_icmpN_ge (tgt := 403) C dL_areBarges_207 (by decide) (by omega) (by omega) (fun h6 => ?_) (fun h6 => ?_)
          · skip
            refine hv_iload C dL_areBarges_403 5 rfl ?_
            refine hv_ifN_eq (tgt := 426) C dL_areBarges_405 (by decide) (by omega) (fun h => absurd h (by decide)) (fun _ => ?_)
            refine hv_iload C dL_areBarges_408 4 rfl ?_
            refine hv_ifN_ne (tgt := 426) C dL_areBarges_410 (by decide) (by omega) (fun h8 => ?_) (fun h8 => ?_)
            · skip
              exact absurd (by rw [hJ.2.2.2]; exact Nat.sub_self _) h8
            · skip
              refine hv_aload_n C dL_areBarges_413 rfl 0 rfl ?_
              refine hv_callVr (As := []) (rest := []) (n := 0) C (k_laidBy l w o (lY w iv F) A Y hS hI) gL_areBarges_X4_laidBy rfl (by decide +kernel) ⟨(Nat.le_of_ble_eq_true rfl), (Nat.le_of_ble_eq_true rfl)⟩ (zLS_rc hS) rfl rfl (Nat.le_of_ble_eq_true rfl) dL_areBarges_414 ⟨by first | exact Nat.le_of_ble_eq_true rfl | omega | (simp; done) | (simp; omega), by first | exact Nat.le_of_ble_eq_true rfl | omega | (simp; done) | (simp; omega)⟩ (fun r9 Y1 hr => ?_)
              obtain ⟨rfl, hy9⟩ := hr; obtain rfl := hy9.symm
              refine hv_iload C dL_areBarges_417 3 rfl ?_
              refine hv_icmpN_ne (tgt := 426) C dL_areBarges_419 (by decide) (by omega) (by omega) (fun h10 => ?_) (fun h10 => ?_)
              · skip
                exact absurd rfl h10
              · skip
                refine hv_iconst (v := nI 1) C dL_areBarges_422 (by decide) ?_
                refine hv_goto (tgt := 427) C dL_areBarges_423 (by decide) ?_
                exact hv_zret C hret (by decide) dL_areBarges_427 (by first | exact Nat.le_refl _ | decide | omega | (simp; done) | (simp; omega)) (by first | exact Nat.le_refl _ | decide | omega | (simp; done) | (simp; omega)) ⟨rfl, rfl⟩
          · skip
            exact absurd h6 (by omega)
        · intro i hi ih
          obtain ⟨j0, j1, j2, j3⟩ := hJ.1 i hi
          obtain ⟨hBi, hB20⟩ := hB i hi
          obtain ⟨v17, v18, v21, v22, v23, v24⟩ := hI.2.2.2.2.2.2.2.2.1 i hi
          have hws := sm_mon (f := s_w A) hi
          rw [← hJ.2.2.2] at hws
          have hld := f_laid_le A i
          have hsw : s_w A i = b2 (A 21 i = 0) := rfl
          refine hv_iload C dL_areBarges_202 6 rfl ?_
          refine hv_aload_n C dL_areBarges_204 rfl 2 rfl ?_
          refine hv_iconst (v := nI 1) C dL_areBarges_205 (by decide) ?_
          refine hl_ald (k := 2) (i := 1) (x := (nI (A 15 0))) C hS hq (by decide) (show 1 < 3 by omega) hc1 dL_areBarges_206 ?_
          refine hv_icmpN_ge (tgt := 403) C dL_areBarges_207 (by decide) (by omega) (by omega) (fun h11 => ?_) (fun h11 => ?_)
          · skip
            exact absurd h11 (by omega)
          · skip
            refine hv_iload C dL_areBarges_210 5 rfl ?_
            refine hv_ifN_eq (tgt := 403) C dL_areBarges_212 (by decide) (by omega) (fun h => absurd h (by decide)) (fun _ => ?_)
            refine hv_aload_n C dL_areBarges_215 rfl 0 rfl ?_
            refine hv_iload C dL_areBarges_216 6 rfl ?_
            refine hv_callVr (As := [.int (nI i)]) (rest := []) (n := 1) C (k_state l w o (lY w iv F) A Y hS hI i hi) gL_areBarges_X4_state rfl (by decide +kernel) ⟨(Nat.le_of_ble_eq_true rfl), (Nat.le_of_ble_eq_true rfl)⟩ (zLS_rc hS) rfl rfl (Nat.le_of_ble_eq_true rfl) dL_areBarges_218 ⟨by first | exact Nat.le_of_ble_eq_true rfl | omega | (simp; done) | (simp; omega), by first | exact Nat.le_of_ble_eq_true rfl | omega | (simp; done) | (simp; omega)⟩ (fun r13 Y1 hr => ?_)
            obtain ⟨rfl, hy9⟩ := hr; obtain rfl := hy9.symm
            refine hv_istore (lv1 := [(0, .ref (o)), (1, .ref (q 1)), (2, .ref (q 2)), (5, .int (nI (f_laid A i))), (6, .int (nI (sm (A 2) 8 - sm (s_w A) i))), (7, .int (nI 1)), (8, .int (nI i)), (9, .int (nI (A 21 i)))]) C dL_areBarges_221 (by decide) [1, 2, 3, 4, 5, 6, 7, 0] rfl ?_
            refine hv_aload_n C dL_areBarges_223 rfl 0 rfl ?_
            refine hv_iload C dL_areBarges_224 6 rfl ?_
            refine hv_callVr (As := [.int (nI i)]) (rest := []) (n := 1) C (k_life l w o (lY w iv F) A Y hS hI i hi) gL_areBarges_X4_life rfl (by decide +kernel) ⟨(Nat.le_of_ble_eq_true rfl), (Nat.le_of_ble_eq_true rfl)⟩ (zLS_rc hS) rfl rfl (Nat.le_of_ble_eq_true rfl) dL_areBarges_226 ⟨by first | exact Nat.le_of_ble_eq_true rfl | omega | (simp; done) | (simp; omega), by first | exact Nat.le_of_ble_eq_true rfl | omega | (simp; done) | (simp; omega)⟩ (fun r14 Y1 hr => ?_)
            obtain ⟨rfl, hy9⟩ := hr; obtain rfl := hy9.symm
            refine hv_istore (lv1 := [(0, .ref (o)), (1, .ref (q 1)), (2, .ref (q 2)), (5, .int (nI (f_laid A i))), (6, .int (nI (sm (A 2) 8 - sm (s_w A) i))), (7, .int (nI 1)), (8, .int (nI i)), (9, .int (nI (A 21 i))), (10, .int (nI (A 18 i)))]) C dL_areBarges_229 (by decide) [1, 2, 3, 4, 5, 6, 7, 8, 0] rfl ?_
            refine hv_iload C dL_areBarges_231 3 rfl ?_
            refine hv_join (α := Nat) (pcJ := 244) (fun _ => Y) (fun _ => [(0, .ref (o)), (1, .ref (q 1)), (2, .ref (q 2)), (5, .int (nI (f_laid A i))), (6, .int (nI (sm (A 2) 8 - sm (s_w A) i))), (7, .int (nI 1)), (8, .int (nI i)), (9, .int (nI (A 21 i))), (10, .int (nI (A 18 i)))]) (fun t9 => .int (nI t9) :: [.int (nI (f_laid A i))]) (fun t9 => t9 = b2 (A 21 i = 2)) ?_ ?_
            · rintro _ rfl
              refine hv_iaddN C dL_areBarges_244 ?_
              refine hv_istore (lv1 := [(0, .ref (o)), (1, .ref (q 1)), (2, .ref (q 2)), (5, .int (nI ((f_laid A i) + (b2 (A 21 i = 2))))), (6, .int (nI (sm (A 2) 8 - sm (s_w A) i))), (7, .int (nI 1)), (8, .int (nI i)), (9, .int (nI (A 21 i))), (10, .int (nI (A 18 i)))]) C dL_areBarges_245 (by decide) [1, 2, 3, 0, 4, 5, 6, 7, 8] rfl ?_
              refine hv_iload C dL_areBarges_247 4 rfl ?_
              refine hv_join (α := Nat) (pcJ := 259) (fun _ => Y) (fun _ => [(0, .ref (o)), (1, .ref (q 1)), (2, .ref (q 2)), (5, .int (nI ((f_laid A i) + (b2 (A 21 i = 2))))), (6, .int (nI (sm (A 2) 8 - sm (s_w A) i))), (7, .int (nI 1)), (8, .int (nI i)), (9, .int (nI (A 21 i))), (10, .int (nI (A 18 i)))]) (fun t9 => .int (nI t9) :: [.int (nI (sm (A 2) 8 - sm (s_w A) i))]) (fun t9 => t9 = b2 (A 21 i = 0)) ?_ ?_
              · rintro _ rfl
                refine hv_isubN C dL_areBarges_259 (show b2 (A 21 i = 0) ≤ sm (A 2) 8 - sm (s_w A) i by omega) ?_
                refine hv_top (y := nI (sm (A 2) 8 - sm (s_w A) (i + 1))) (congrArg nI (Nat.sub_sub _ _ _)) ?_
                refine hv_istore (lv1 := [(0, .ref (o)), (1, .ref (q 1)), (2, .ref (q 2)), (5, .int (nI ((f_laid A i) + (b2 (A 21 i = 2))))), (6, .int (nI (sm (A 2) 8 - sm (s_w A) (i + 1)))), (7, .int (nI 1)), (8, .int (nI i)), (9, .int (nI (A 21 i))), (10, .int (nI (A 18 i)))]) C dL_areBarges_260 (by decide) [1, 2, 3, 4, 0, 5, 6, 7, 8] rfl ?_
                refine hv_iload C dL_areBarges_262 8 rfl ?_
                refine hv_ifN_lt (tgt := 394) C dL_areBarges_264 (by decide) (by omega) (fun h17 => ?_) (fun h17 => ?_)
                · skip
                  exact (h17).elim
                · skip
                  refine hv_aload_n C dL_areBarges_267 rfl 0 rfl ?_
                  refine hv_iload C dL_areBarges_268 6 rfl ?_
                  refine hv_callVr (As := [.int (nI i)]) (rest := []) (n := 1) C (k_hops l w o (lY w iv F) A Y hS hI i hi) gL_areBarges_X4_hops rfl (by decide +kernel) ⟨(Nat.le_of_ble_eq_true rfl), (Nat.le_of_ble_eq_true rfl)⟩ (zLS_rc hS) rfl rfl (Nat.le_of_ble_eq_true rfl) dL_areBarges_270 ⟨by first | exact Nat.le_of_ble_eq_true rfl | omega | (simp; done) | (simp; omega), by first | exact Nat.le_of_ble_eq_true rfl | omega | (simp; done) | (simp; omega)⟩ (fun r18 Y1 hr => ?_)
                  obtain ⟨rfl, hy9⟩ := hr; obtain rfl := hy9.symm
                  refine hv_iload C dL_areBarges_273 8 rfl ?_
                  refine hv_iaddN C dL_areBarges_275 ?_
                  refine hv_aload_n C dL_areBarges_276 rfl 1 rfl ?_
                  refine hv_iload C dL_areBarges_277 6 rfl ?_
                  refine hl_ald (k := 1) (i := i) (x := (nI (A 17 i + 8 * (A 18 i + A 19 i)))) C hS hq (by decide) (show i < 40 by omega) hBi dL_areBarges_279 ?_
                  refine hv_iconst (v := nI 3) C dL_areBarges_280 (by decide) ?_
                  refine hv_ishr C dL_areBarges_281 ?_
                  refine hv_top (y := nI (A 19 i + A 18 i)) ((pk_shrN (by omega) _ 3 (by decide)).trans (congrArg nI (by omega))) ?_
                  refine hv_icmpN_ne (tgt := 394) C dL_areBarges_282 (by decide) (by omega) (by omega) (fun h19 => ?_) (fun h19 => ?_)
                  · skip
                    exact absurd rfl h19
                  · skip
                    refine hv_aload_n C dL_areBarges_285 rfl 0 rfl ?_
                    refine hv_iload C dL_areBarges_286 6 rfl ?_
                    refine hv_callVr (As := [.int (nI i)]) (rest := []) (n := 1) C (k_repeats l w o (lY w iv F) A Y hS hI i hi) gL_areBarges_X4_repeats rfl (by decide +kernel) ⟨(Nat.le_of_ble_eq_true rfl), (Nat.le_of_ble_eq_true rfl)⟩ (zLS_rc hS) rfl rfl (Nat.le_of_ble_eq_true rfl) dL_areBarges_288 ⟨by first | exact Nat.le_of_ble_eq_true rfl | omega | (simp; done) | (simp; omega), by first | exact Nat.le_of_ble_eq_true rfl | omega | (simp; done) | (simp; omega)⟩ (fun r20 Y1 hr => ?_)
                    obtain ⟨rfl, hy9⟩ := hr; obtain rfl := hy9.symm
                    refine hv_ifN_lt (tgt := 394) C dL_areBarges_291 (by decide) (by omega) (fun h21 => ?_) (fun h21 => ?_)
                    · skip
                      exact (h21).elim
                    · skip
                      refine hv_aload_n C dL_areBarges_294 rfl 0 rfl ?_
                      refine hv_iload C dL_areBarges_295 6 rfl ?_
                      refine hv_callVr (As := [.int (nI i)]) (rest := []) (n := 1) C (k_repeats l w o (lY w iv F) A Y hS hI i hi) gL_areBarges_X4_repeats rfl (by decide +kernel) ⟨(Nat.le_of_ble_eq_true rfl), (Nat.le_of_ble_eq_true rfl)⟩ (zLS_rc hS) rfl rfl (Nat.le_of_ble_eq_true rfl) dL_areBarges_297 ⟨by first | exact Nat.le_of_ble_eq_true rfl | omega | (simp; done) | (simp; omega), by first | exact Nat.le_of_ble_eq_true rfl | omega | (simp; done) | (simp; omega)⟩ (fun r22 Y1 hr => ?_)
                      obtain ⟨rfl, hy9⟩ := hr; obtain rfl := hy9.symm
                      refine hv_aload_n C dL_areBarges_300 rfl 0 rfl ?_
                      refine hv_iload C dL_areBarges_301 6 rfl ?_
                      refine hv_callVr (As := [.int (nI i)]) (rest := [.int (nI (A 20 i))]) (n := 1) C (k_hops l w o (lY w iv F) A Y hS hI i hi) gL_areBarges_X4_hops rfl (by decide +kernel) ⟨(Nat.le_of_ble_eq_true rfl), (Nat.le_of_ble_eq_true rfl)⟩ (zLS_rc hS) rfl rfl (Nat.le_of_ble_eq_true rfl) dL_areBarges_303 ⟨by first | exact Nat.le_of_ble_eq_true rfl | omega | (simp; done) | (simp; omega), by first | exact Nat.le_of_ble_eq_true rfl | omega | (simp; done) | (simp; omega)⟩ (fun r23 Y1 hr => ?_)
                      obtain ⟨rfl, hy9⟩ := hr; obtain rfl := hy9.symm
                      refine hv_icmpN_gt (tgt := 394) C dL_areBarges_306 (by decide) (by omega) (by omega) (fun h24 => ?_) (fun h24 => ?_)
                      · skip
                        exact absurd h24 (by omega)
                      · skip
                        refine hv_iload C dL_areBarges_309 7 rfl ?_
                        refine hv_ifN_ne (tgt := 338) C dL_areBarges_311 (by decide) (by omega) (fun h25 => ?_) (fun h25 => ?_)
                        · skip
                          refine hv_iload C dL_areBarges_338 7 rfl ?_
                          refine hv_iconst (v := nI 1) C dL_areBarges_340 (by decide) ?_
                          refine hv_icmpN_ne (tgt := 363) C dL_areBarges_341 (by decide) (by omega) (by omega) (fun h26 => ?_) (fun h26 => ?_)
                          · skip
                            refine hv_iload C dL_areBarges_363 7 rfl ?_
                            refine hv_iconst (v := nI 2) C dL_areBarges_365 (by decide) ?_
                            refine hv_icmpN_ne (tgt := 394) C dL_areBarges_366 (by decide) (by omega) (by omega) (fun h27 => ?_) (fun h27 => ?_)
                            · skip
                              exact absurd h27 (by omega)
                            · skip
                              refine hv_iload C dL_areBarges_369 8 rfl ?_
                              refine hv_ifN_ne (tgt := 394) C dL_areBarges_371 (by decide) (by omega) (fun h28 => ?_) (fun h28 => ?_)
                              · skip
                                exact absurd h28 (by omega)
                              · skip
                                refine hv_aload_n C dL_areBarges_374 rfl 0 rfl ?_
                                refine hv_iload C dL_areBarges_375 6 rfl ?_
                                refine hv_callVr (As := [.int (nI i)]) (rest := []) (n := 1) C (k_basinOf l w o (lY w iv F) A Y hS hI i hi) gL_areBarges_X4_basinOf rfl (by decide +kernel) ⟨(Nat.le_of_ble_eq_true rfl), (Nat.le_of_ble_eq_true rfl)⟩ (zLS_rc hS) rfl rfl (Nat.le_of_ble_eq_true rfl) dL_areBarges_377 ⟨by first | exact Nat.le_of_ble_eq_true rfl | omega | (simp; done) | (simp; omega), by first | exact Nat.le_of_ble_eq_true rfl | omega | (simp; done) | (simp; omega)⟩ (fun r29 Y1 hr => ?_)
                                obtain ⟨rfl, hy9⟩ := hr; obtain rfl := hy9.symm
                                refine hv_aload_n C dL_areBarges_380 rfl 1 rfl ?_
                                refine hv_iload C dL_areBarges_381 6 rfl ?_
                                refine hl_ald (k := 1) (i := i) (x := (nI (A 17 i + 8 * (A 18 i + A 19 i)))) C hS hq (by decide) (show i < 40 by omega) hBi dL_areBarges_383 ?_
                                refine hv_bipush (v := nI 7) C dL_areBarges_384 (by decide) ?_
                                refine hv_iand C dL_areBarges_386 ?_
                                refine hv_top (y := nI (A 17 i)) ((pk_andN (by omega) 3 (by decide)).trans (congrArg nI (by omega))) ?_
                                refine hv_icmpN_eq (tgt := 394) C dL_areBarges_387 (by decide) (by omega) (by omega) (fun h30 => ?_) (fun h30 => ?_)
                                · skip
                                  exact absurd h30 (by omega)
                                · skip
                                  refine hv_iconst (v := nI 1) C dL_areBarges_390 (by decide) ?_
                                  refine hv_goto (tgt := 395) C dL_areBarges_391 (by decide) ?_
                                  refine hv_istore (lv1 := [(0, .ref (o)), (1, .ref (q 1)), (2, .ref (q 2)), (5, .int (nI ((f_laid A i) + (b2 (A 21 i = 2))))), (6, .int (nI (sm (A 2) 8 - sm (s_w A) (i + 1)))), (7, .int (nI 1)), (8, .int (nI i)), (9, .int (nI (A 21 i))), (10, .int (nI (A 18 i)))]) C dL_areBarges_395 (by decide) [1, 2, 3, 4, 5, 0, 6, 7, 8] rfl ?_
                                  refine hv_iinc (v := nI (i + 1)) (lv1 := [(0, .ref (o)), (1, .ref (q 1)), (2, .ref (q 2)), (5, .int (nI ((f_laid A i) + (b2 (A 21 i = 2))))), (6, .int (nI (sm (A 2) 8 - sm (s_w A) (i + 1)))), (7, .int (nI 1)), (8, .int (nI (i + 1))), (9, .int (nI (A 21 i))), (10, .int (nI (A 18 i)))]) C dL_areBarges_397 (k := 6) rfl (nI_1 _) (by decide) [1, 2, 3, 4, 5, 6, 0, 7, 8] rfl ?_
                                  refine hv_goto (tgt := 202) C dL_areBarges_400 (by decide) ?_
                                  exact hv_sub (lv1 := [(0, .ref (o)), (1, .ref (q 1)), (2, .ref (q 2)), (5, .int (nI (f_laid A (i + 1)))), (6, .int (nI (sm (A 2) 8 - sm (s_w A) (i + 1)))), (7, .int (nI 1)), (8, .int (nI (i + 1)))]) [0, 1, 2, 3, 4, 5, 6] rfl ih
                          · skip
                            refine hv_aload_n C dL_areBarges_344 rfl 0 rfl ?_
                            refine hv_iload C dL_areBarges_345 6 rfl ?_
                            refine hv_callVr (As := [.int (nI i)]) (rest := []) (n := 1) C (k_basinOf l w o (lY w iv F) A Y hS hI i hi) gL_areBarges_X4_basinOf rfl (by decide +kernel) ⟨(Nat.le_of_ble_eq_true rfl), (Nat.le_of_ble_eq_true rfl)⟩ (zLS_rc hS) rfl rfl (Nat.le_of_ble_eq_true rfl) dL_areBarges_347 ⟨by first | exact Nat.le_of_ble_eq_true rfl | omega | (simp; done) | (simp; omega), by first | exact Nat.le_of_ble_eq_true rfl | omega | (simp; done) | (simp; omega)⟩ (fun r31 Y1 hr => ?_)
                            obtain ⟨rfl, hy9⟩ := hr; obtain rfl := hy9.symm
                            refine hv_aload_n C dL_areBarges_350 rfl 1 rfl ?_
                            refine hv_iload C dL_areBarges_351 6 rfl ?_
                            refine hl_ald (k := 1) (i := i) (x := (nI (A 17 i + 8 * (A 18 i + A 19 i)))) C hS hq (by decide) (show i < 40 by omega) hBi dL_areBarges_353 ?_
                            refine hv_bipush (v := nI 7) C dL_areBarges_354 (by decide) ?_
                            refine hv_iand C dL_areBarges_356 ?_
                            refine hv_top (y := nI (A 17 i)) ((pk_andN (by omega) 3 (by decide)).trans (congrArg nI (by omega))) ?_
                            refine hv_icmpN_ne (tgt := 394) C dL_areBarges_357 (by decide) (by omega) (by omega) (fun h32 => ?_) (fun h32 => ?_)
                            · skip
                              exact absurd h32 (by omega)
                            · skip
                              refine hv_goto (tgt := 390) C dL_areBarges_360 (by decide) ?_
                              refine hv_iconst (v := nI 1) C dL_areBarges_390 (by decide) ?_
                              refine hv_goto (tgt := 395) C dL_areBarges_391 (by decide) ?_
                              refine hv_istore (lv1 := [(0, .ref (o)), (1, .ref (q 1)), (2, .ref (q 2)), (5, .int (nI ((f_laid A i) + (b2 (A 21 i = 2))))), (6, .int (nI (sm (A 2) 8 - sm (s_w A) (i + 1)))), (7, .int (nI 1)), (8, .int (nI i)), (9, .int (nI (A 21 i))), (10, .int (nI (A 18 i)))]) C dL_areBarges_395 (by decide) [1, 2, 3, 4, 5, 0, 6, 7, 8] rfl ?_
                              refine hv_iinc (v := nI (i + 1)) (lv1 := [(0, .ref (o)), (1, .ref (q 1)), (2, .ref (q 2)), (5, .int (nI ((f_laid A i) + (b2 (A 21 i = 2))))), (6, .int (nI (sm (A 2) 8 - sm (s_w A) (i + 1)))), (7, .int (nI 1)), (8, .int (nI (i + 1))), (9, .int (nI (A 21 i))), (10, .int (nI (A 18 i)))]) C dL_areBarges_397 (k := 6) rfl (nI_1 _) (by decide) [1, 2, 3, 4, 5, 6, 0, 7, 8] rfl ?_
                              refine hv_goto (tgt := 202) C dL_areBarges_400 (by decide) ?_
                              exact hv_sub (lv1 := [(0, .ref (o)), (1, .ref (q 1)), (2, .ref (q 2)), (5, .int (nI (f_laid A (i + 1)))), (6, .int (nI (sm (A 2) 8 - sm (s_w A) (i + 1)))), (7, .int (nI 1)), (8, .int (nI (i + 1)))]) [0, 1, 2, 3, 4, 5, 6] rfl ih
                        · skip
                          refine hv_iload C dL_areBarges_314 8 rfl ?_
                          refine hv_ifN_le (tgt := 394) C dL_areBarges_316 (by decide) (by omega) (fun h33 => ?_) (fun h33 => ?_)
                          · skip
                            exact absurd h33 (by omega)
                          · skip
                            refine hv_aload_n C dL_areBarges_319 rfl 0 rfl ?_
                            refine hv_iload C dL_areBarges_320 6 rfl ?_
                            refine hv_callVr (As := [.int (nI i)]) (rest := []) (n := 1) C (k_basinOf l w o (lY w iv F) A Y hS hI i hi) gL_areBarges_X4_basinOf rfl (by decide +kernel) ⟨(Nat.le_of_ble_eq_true rfl), (Nat.le_of_ble_eq_true rfl)⟩ (zLS_rc hS) rfl rfl (Nat.le_of_ble_eq_true rfl) dL_areBarges_322 ⟨by first | exact Nat.le_of_ble_eq_true rfl | omega | (simp; done) | (simp; omega), by first | exact Nat.le_of_ble_eq_true rfl | omega | (simp; done) | (simp; omega)⟩ (fun r34 Y1 hr => ?_)
                            obtain ⟨rfl, hy9⟩ := hr; obtain rfl := hy9.symm
                            refine hv_aload_n C dL_areBarges_325 rfl 1 rfl ?_
                            refine hv_iload C dL_areBarges_326 6 rfl ?_
                            refine hl_ald (k := 1) (i := i) (x := (nI (A 17 i + 8 * (A 18 i + A 19 i)))) C hS hq (by decide) (show i < 40 by omega) hBi dL_areBarges_328 ?_
                            refine hv_bipush (v := nI 7) C dL_areBarges_329 (by decide) ?_
                            refine hv_iand C dL_areBarges_331 ?_
                            refine hv_top (y := nI (A 17 i)) ((pk_andN (by omega) 3 (by decide)).trans (congrArg nI (by omega))) ?_
                            refine hv_icmpN_eq (tgt := 394) C dL_areBarges_332 (by decide) (by omega) (by omega) (fun h35 => ?_) (fun h35 => ?_)
                            · skip
                              exact absurd h35 (by omega)
                            · skip
                              refine hv_goto (tgt := 390) C dL_areBarges_335 (by decide) ?_
                              refine hv_iconst (v := nI 1) C dL_areBarges_390 (by decide) ?_
                              refine hv_goto (tgt := 395) C dL_areBarges_391 (by decide) ?_
                              refine hv_istore (lv1 := [(0, .ref (o)), (1, .ref (q 1)), (2, .ref (q 2)), (5, .int (nI ((f_laid A i) + (b2 (A 21 i = 2))))), (6, .int (nI (sm (A 2) 8 - sm (s_w A) (i + 1)))), (7, .int (nI 1)), (8, .int (nI i)), (9, .int (nI (A 21 i))), (10, .int (nI (A 18 i)))]) C dL_areBarges_395 (by decide) [1, 2, 3, 4, 5, 0, 6, 7, 8] rfl ?_
                              refine hv_iinc (v := nI (i + 1)) (lv1 := [(0, .ref (o)), (1, .ref (q 1)), (2, .ref (q 2)), (5, .int (nI ((f_laid A i) + (b2 (A 21 i = 2))))), (6, .int (nI (sm (A 2) 8 - sm (s_w A) (i + 1)))), (7, .int (nI 1)), (8, .int (nI (i + 1))), (9, .int (nI (A 21 i))), (10, .int (nI (A 18 i)))]) C dL_areBarges_397 (k := 6) rfl (nI_1 _) (by decide) [1, 2, 3, 4, 5, 6, 0, 7, 8] rfl ?_
                              refine hv_goto (tgt := 202) C dL_areBarges_400 (by decide) ?_
                              exact hv_sub (lv1 := [(0, .ref (o)), (1, .ref (q 1)), (2, .ref (q 2)), (5, .int (nI (f_laid A (i + 1)))), (6, .int (nI (sm (A 2) 8 - sm (s_w A) (i + 1)))), (7, .int (nI 1)), (8, .int (nI (i + 1)))]) [0, 1, 2, 3, 4, 5, 6] rfl ih
              · intro k16
                refine hv_iload C dL_areBarges_249 7 rfl ?_
                refine hv_ifN_ne (tgt := 258) C dL_areBarges_251 (by decide) (by omega) (fun h36 => ?_) (fun h36 => ?_)
                · skip
                  refine hv_iconst (v := nI 0) C dL_areBarges_258 (by decide) ?_
                  exact k16 _ (b2_f (by omega)).symm
                · skip
                  refine hv_iconst (v := nI 1) C dL_areBarges_254 (by decide) ?_
                  refine hv_goto (tgt := 259) C dL_areBarges_255 (by decide) ?_
                  exact k16 _ (b2_t (by omega)).symm
            · intro k15
              refine hv_iload C dL_areBarges_233 7 rfl ?_
              refine hv_iconst (v := nI 2) C dL_areBarges_235 (by decide) ?_
              refine hv_icmpN_ne (tgt := 243) C dL_areBarges_236 (by decide) (by omega) (by omega) (fun h37 => ?_) (fun h37 => ?_)
              · skip
                refine hv_iconst (v := nI 0) C dL_areBarges_243 (by decide) ?_
                exact k15 _ (b2_f (by omega)).symm
              · skip
                refine hv_iconst (v := nI 1) C dL_areBarges_239 (by decide) ?_
                refine hv_goto (tgt := 244) C dL_areBarges_240 (by decide) ?_
                exact k15 _ (b2_t (by omega)).symm
      · intro i z hi hsn ih
        have hb2 := (hI.1 i hi).2.2.2.2
        have hs2 := hsm i hi
        refine hv_iload C dL_areBarges_38 7 rfl ?_
        refine hv_bipush (v := nI 8) C dL_areBarges_40 (by decide) ?_
        refine hv_icmpN_ge (tgt := 199) C dL_areBarges_42 (by decide) (by omega) (by omega) (fun h38 => ?_) (fun h38 => ?_)
        · skip
          exact absurd h38 (by omega)
        · skip
          refine hv_iload C dL_areBarges_45 6 rfl ?_
          refine hv_ifN_eq (tgt := 199) C dL_areBarges_47 (by decide) (by omega) (fun h => absurd h (by decide)) (fun _ => ?_)
          refine hv_aload_n C dL_areBarges_50 rfl 0 rfl ?_
          refine hv_iload C dL_areBarges_51 7 rfl ?_
          refine hv_callVr (As := [.int (nI i)]) (rest := []) (n := 1) C (k_queue l w o (lY w iv F) A Y hS hI i hi) gL_areBarges_X4_queue rfl (by decide +kernel) ⟨(Nat.le_of_ble_eq_true rfl), (Nat.le_of_ble_eq_true rfl)⟩ (zLS_rc hS) rfl rfl (Nat.le_of_ble_eq_true rfl) dL_areBarges_53 ⟨by first | exact Nat.le_of_ble_eq_true rfl | omega | (simp; done) | (simp; omega), by first | exact Nat.le_of_ble_eq_true rfl | omega | (simp; done) | (simp; omega)⟩ (fun r40 Y1 hr => ?_)
          obtain ⟨rfl, hy9⟩ := hr; obtain rfl := hy9.symm
          refine hv_istore (lv1 := [(0, .ref (o)), (1, .ref (q 1)), (2, .ref (q 2)), (3, .long (z)), (5, .int (nI 0)), (6, .int (nI (sm (A 2) i))), (7, .int (nI 1)), (8, .int (nI i)), (9, .int (nI (A 2 i)))]) C dL_areBarges_56 (by decide) [1, 2, 3, 4, 5, 6, 7, 8, 0] rfl ?_
          refine hv_iload C dL_areBarges_58 8 rfl ?_
          refine hv_ifN_lt (tgt := 98) C dL_areBarges_60 (by decide) (by omega) (fun h41 => ?_) (fun h41 => ?_)
          · skip
            exact (h41).elim
          · skip
            refine hv_iload C dL_areBarges_63 8 rfl ?_
            refine hv_bipush (v := nI 6) C dL_areBarges_65 (by decide) ?_
            refine hv_icmpN_gt (tgt := 98) C dL_areBarges_67 (by decide) (by omega) (by omega) (fun h42 => ?_) (fun h42 => ?_)
            · skip
              exact absurd h42 (by omega)
            · skip
              refine hv_aload_n C dL_areBarges_70 rfl 0 rfl ?_
              refine hv_iload C dL_areBarges_71 7 rfl ?_
              refine hv_iload C dL_areBarges_73 8 rfl ?_
              refine hv_callVr (As := [.int (nI i), .int (nI (A 2 i))]) (rest := []) (n := 2) C (k_queued l w o (lY w iv F) A Y hS hI i hi (A 2 i) (by omega)) gL_areBarges_X4_queued rfl (by decide +kernel) ⟨(Nat.le_of_ble_eq_true rfl), (Nat.le_of_ble_eq_true rfl)⟩ (zLS_rc hS) rfl rfl (Nat.le_of_ble_eq_true rfl) dL_areBarges_75 ⟨by first | exact Nat.le_of_ble_eq_true rfl | omega | (simp; done) | (simp; omega), by first | exact Nat.le_of_ble_eq_true rfl | omega | (simp; done) | (simp; omega)⟩ (fun r43 Y1 hr => ?_)
              obtain ⟨rfl, hy9⟩ := hr; obtain rfl := hy9.symm
              refine hv_top (y := (nI (0) + (-1))) (if_neg (by omega)) ?_
              refine hv_iconst (v := nI 0 + (-1)) C dL_areBarges_78 (by decide) ?_
              refine hv_icmpE_ne (tgt := 98) C dL_areBarges_79 (by decide) (by omega) (by omega) (fun h => absurd h (by decide)) (fun _ => ?_)
              refine hv_aload_n C dL_areBarges_82 rfl 0 rfl ?_
              refine hv_iload C dL_areBarges_83 7 rfl ?_
              refine hv_ldc (v := 2147483647) C (by decide +kernel) dL_areBarges_85 ?_
              refine hv_top (y := nI 2147483647) (by decide) ?_
              refine hv_callVr (As := [.int (nI i), .int (nI 2147483647)]) (rest := []) (n := 2) C (k_queued l w o (lY w iv F) A Y hS hI i hi 2147483647 (by decide)) gL_areBarges_X4_queued rfl (by decide +kernel) ⟨(Nat.le_of_ble_eq_true rfl), (Nat.le_of_ble_eq_true rfl)⟩ (zLS_rc hS) rfl rfl (Nat.le_of_ble_eq_true rfl) dL_areBarges_87 ⟨by first | exact Nat.le_of_ble_eq_true rfl | omega | (simp; done) | (simp; omega), by first | exact Nat.le_of_ble_eq_true rfl | omega | (simp; done) | (simp; omega)⟩ (fun r45 Y1 hr => ?_)
              obtain ⟨rfl, hy9⟩ := hr; obtain rfl := hy9.symm
              refine hv_top (y := (nI (0) + (-1))) (if_neg (by omega)) ?_
              refine hv_iconst (v := nI 0 + (-1)) C dL_areBarges_90 (by decide) ?_
              refine hv_icmpE_ne (tgt := 98) C dL_areBarges_91 (by decide) (by omega) (by omega) (fun h => absurd h (by decide)) (fun _ => ?_)
              refine hv_iconst (v := nI 1) C dL_areBarges_94 (by decide) ?_
              refine hv_goto (tgt := 99) C dL_areBarges_95 (by decide) ?_
              refine hv_istore (lv1 := [(0, .ref (o)), (1, .ref (q 1)), (2, .ref (q 2)), (3, .long (z)), (5, .int (nI 0)), (6, .int (nI (sm (A 2) i))), (7, .int (nI 1)), (8, .int (nI i)), (9, .int (nI (A 2 i)))]) C dL_areBarges_99 (by decide) [1, 2, 3, 4, 5, 6, 0, 7, 8] rfl ?_
              refine hv_iconst (v := nI 0) C dL_areBarges_101 (by decide) ?_
              refine hv_istore (lv1 := [(0, .ref (o)), (1, .ref (q 1)), (2, .ref (q 2)), (3, .long (z)), (5, .int (nI 0)), (6, .int (nI (sm (A 2) i))), (7, .int (nI 1)), (8, .int (nI i)), (9, .int (nI (A 2 i))), (10, .int (nI 0))]) C dL_areBarges_102 (by decide) [1, 2, 3, 4, 5, 6, 7, 8, 9, 0] rfl ?_
              refine hv_loopP (σ := Int64) (A 2 i) (fun _ _ => Y) (fun k z => [(0, .ref (o)), (1, .ref (q 1)), (2, .ref (q 2)), (3, .long (z)), (5, .int (nI 0)), (6, .int (nI (sm (A 2) i + k))), (7, .int (nI 1)), (8, .int (nI i)), (9, .int (nI (A 2 i))), (10, .int (nI k))]) (fun k z => sn_I A i k z) ?_ ?_ z hsn
              · intro z2 hsn2
                refine hv_iload C dL_areBarges_104 9 rfl ?_
                refine hv_iload C dL_areBarges_106 8 rfl ?_
                refine hv_icmpN_ge (tgt := 193) C dL_areBarges_108 (by decide) (by omega) (by omega) (fun h47 => ?_) (fun h47 => ?_)
                · skip
                  refine hv_iinc (v := nI (i + 1)) (lv1 := [(0, .ref (o)), (1, .ref (q 1)), (2, .ref (q 2)), (3, .long (z2)), (5, .int (nI 0)), (6, .int (nI (sm (A 2) i + (A 2 i)))), (7, .int (nI 1)), (8, .int (nI (i + 1))), (9, .int (nI (A 2 i))), (10, .int (nI (A 2 i)))]) C dL_areBarges_193 (k := 7) rfl (nI_1 _) (by decide) [1, 2, 3, 4, 5, 6, 7, 0, 8, 9] rfl ?_
                  refine hv_goto (tgt := 38) C dL_areBarges_196 (by decide) ?_
                  exact hv_sub (lv1 := [(0, .ref (o)), (1, .ref (q 1)), (2, .ref (q 2)), (3, .long (z2)), (5, .int (nI 0)), (6, .int (nI (sm (A 2) (i + 1)))), (7, .int (nI 1)), (8, .int (nI (i + 1)))]) [0, 1, 2, 3, 4, 5, 6, 7] rfl (ih _ (sn_next hsn2))
                · skip
                  exact absurd h47 (by omega)
              · intro k z3 hk hsn3 ih2
                obtain ⟨a15, a21, a22, a18, a17⟩ := hI.2.1 i k hi hk
                refine hv_iload C dL_areBarges_104 9 rfl ?_
                refine hv_iload C dL_areBarges_106 8 rfl ?_
                refine hv_icmpN_ge (tgt := 193) C dL_areBarges_108 (by decide) (by omega) (by omega) (fun h48 => ?_) (fun h48 => ?_)
                · skip
                  exact absurd h48 (by omega)
                · skip
                  refine hv_iload C dL_areBarges_111 6 rfl ?_
                  refine hv_ifN_eq (tgt := 193) C dL_areBarges_113 (by decide) (by omega) (fun h => absurd h (by decide)) (fun _ => ?_)
                  refine hv_aload_n C dL_areBarges_116 rfl 0 rfl ?_
                  refine hv_iload C dL_areBarges_117 7 rfl ?_
                  refine hv_iload C dL_areBarges_119 9 rfl ?_
                  refine hv_callVr (As := [.int (nI i), .int (nI k)]) (rest := []) (n := 2) C (k_queued l w o (lY w iv F) A Y hS hI i hi k (by omega)) gL_areBarges_X4_queued rfl (by decide +kernel) ⟨(Nat.le_of_ble_eq_true rfl), (Nat.le_of_ble_eq_true rfl)⟩ (zLS_rc hS) rfl rfl (Nat.le_of_ble_eq_true rfl) dL_areBarges_121 ⟨by first | exact Nat.le_of_ble_eq_true rfl | omega | (simp; done) | (simp; omega), by first | exact Nat.le_of_ble_eq_true rfl | omega | (simp; done) | (simp; omega)⟩ (fun r50 Y1 hr => ?_)
                  obtain ⟨rfl, hy9⟩ := hr; obtain rfl := hy9.symm
                  refine hv_top (y := (nI (A 3 (6 * i + k)))) (if_pos hk) ?_
                  refine hv_istore (lv1 := [(0, .ref (o)), (1, .ref (q 1)), (2, .ref (q 2)), (3, .long (z3)), (5, .int (nI 0)), (6, .int (nI (sm (A 2) i + k))), (7, .int (nI 1)), (8, .int (nI i)), (9, .int (nI (A 2 i))), (10, .int (nI k)), (11, .int (nI (A 3 (6 * i + k))))]) C dL_areBarges_124 (by decide) [1, 2, 3, 4, 5, 6, 7, 8, 9, 10, 0] rfl ?_
                  refine hv_iload C dL_areBarges_126 10 rfl ?_
                  refine hv_ifN_lt (tgt := 174) C dL_areBarges_128 (by decide) (by omega) (fun h51 => ?_) (fun h51 => ?_)
                  · skip
                    exact (h51).elim
                  · skip
                    refine hv_iload C dL_areBarges_131 10 rfl ?_
                    refine hv_aload_n C dL_areBarges_133 rfl 2 rfl ?_
                    refine hv_iconst (v := nI 1) C dL_areBarges_134 (by decide) ?_
                    refine hl_ald (k := 2) (i := 1) (x := (nI (A 15 0))) C hS hq (by decide) (show 1 < 3 by omega) hc1 dL_areBarges_135 ?_
                    refine hv_icmpN_ge (tgt := 174) C dL_areBarges_136 (by decide) (by omega) (by omega) (fun h52 => ?_) (fun h52 => ?_)
                    · skip
                      exact absurd h52 (by omega)
                    · skip
                      refine hv_lload_n C dL_areBarges_139 rfl 3 rfl ?_
                      refine hv_iload C dL_areBarges_140 10 rfl ?_
                      refine hv_lshr C dL_areBarges_142 ?_
                      refine hv_lconst (v := 1) C dL_areBarges_143 (by decide) ?_
                      refine hv_land C dL_areBarges_144 ?_
                      refine hv_lconst (v := 0) C dL_areBarges_145 (by decide) ?_
                      refine hv_lcmpE C (sb_test (by omega) (sn_new hI hsn3 hi hk)) dL_areBarges_146 ?_
                      refine hv_top (y := nI 0) (by decide) ?_
                      refine hv_ifN_ne (tgt := 174) C dL_areBarges_147 (by decide) (by omega) (fun h => absurd h (by decide)) (fun _ => ?_)
                      refine hv_aload_n C dL_areBarges_150 rfl 0 rfl ?_
                      refine hv_iload C dL_areBarges_151 10 rfl ?_
                      refine hv_callVr (As := [.int (nI (A 3 (6 * i + k)))]) (rest := []) (n := 1) C (k_state l w o (lY w iv F) A Y hS hI (A 3 (6 * i + k)) a15) gL_areBarges_X4_state rfl (by decide +kernel) ⟨(Nat.le_of_ble_eq_true rfl), (Nat.le_of_ble_eq_true rfl)⟩ (zLS_rc hS) rfl rfl (Nat.le_of_ble_eq_true rfl) dL_areBarges_153 ⟨by first | exact Nat.le_of_ble_eq_true rfl | omega | (simp; done) | (simp; omega), by first | exact Nat.le_of_ble_eq_true rfl | omega | (simp; done) | (simp; omega)⟩ (fun r54 Y1 hr => ?_)
                      obtain ⟨rfl, hy9⟩ := hr; obtain rfl := hy9.symm
                      refine hv_ifN_ne (tgt := 174) C dL_areBarges_156 (by decide) (by omega) (fun h55 => ?_) (fun h55 => ?_)
                      · skip
                        exact absurd a21 h55
                      · skip
                        refine hv_aload_n C dL_areBarges_159 rfl 0 rfl ?_
                        refine hv_iload C dL_areBarges_160 10 rfl ?_
                        refine hv_callVr (As := [.int (nI (A 3 (6 * i + k)))]) (rest := []) (n := 1) C (k_basinOf l w o (lY w iv F) A Y hS hI (A 3 (6 * i + k)) a15) gL_areBarges_X4_basinOf rfl (by decide +kernel) ⟨(Nat.le_of_ble_eq_true rfl), (Nat.le_of_ble_eq_true rfl)⟩ (zLS_rc hS) rfl rfl (Nat.le_of_ble_eq_true rfl) dL_areBarges_162 ⟨by first | exact Nat.le_of_ble_eq_true rfl | omega | (simp; done) | (simp; omega), by first | exact Nat.le_of_ble_eq_true rfl | omega | (simp; done) | (simp; omega)⟩ (fun r56 Y1 hr => ?_)
                        obtain ⟨rfl, hy9⟩ := hr; obtain rfl := hy9.symm
                        refine hv_iload C dL_areBarges_165 7 rfl ?_
                        refine hv_icmpN_ne (tgt := 174) C dL_areBarges_167 (by decide) (by omega) (by omega) (fun h57 => ?_) (fun h57 => ?_)
                        · skip
                          exact absurd a22 h57
                        · skip
                          refine hv_iconst (v := nI 1) C dL_areBarges_170 (by decide) ?_
                          refine hv_goto (tgt := 175) C dL_areBarges_171 (by decide) ?_
                          refine hv_istore (lv1 := [(0, .ref (o)), (1, .ref (q 1)), (2, .ref (q 2)), (3, .long (z3)), (5, .int (nI 0)), (6, .int (nI (sm (A 2) i + k))), (7, .int (nI 1)), (8, .int (nI i)), (9, .int (nI (A 2 i))), (10, .int (nI k)), (11, .int (nI (A 3 (6 * i + k))))]) C dL_areBarges_175 (by decide) [1, 2, 3, 4, 5, 6, 0, 7, 8, 9, 10] rfl ?_
                          refine hv_lload_n C dL_areBarges_177 rfl 3 rfl ?_
                          refine hv_lconst (v := 1) C dL_areBarges_178 (by decide) ?_
                          refine hv_iload C dL_areBarges_179 10 rfl ?_
                          refine hv_lshl C dL_areBarges_181 ?_
                          refine hv_lor C dL_areBarges_182 ?_
                          refine hv_lstore_n (lv1 := [(0, .ref (o)), (1, .ref (q 1)), (2, .ref (q 2)), (3, .long (z3 ||| (1 <<< (((nI (A 3 (6 * i + k)))).toInt64 &&& 63)))), (5, .int (nI 0)), (6, .int (nI (sm (A 2) i + k))), (7, .int (nI 1)), (8, .int (nI i)), (9, .int (nI (A 2 i))), (10, .int (nI k)), (11, .int (nI (A 3 (6 * i + k))))]) C dL_areBarges_183 rfl (by decide) [1, 2, 3, 0, 4, 5, 6, 7, 8, 9, 10] rfl ?_
                          refine hv_iinc (v := nI (sm (A 2) i + k + 1)) (lv1 := [(0, .ref (o)), (1, .ref (q 1)), (2, .ref (q 2)), (3, .long (z3 ||| (1 <<< (((nI (A 3 (6 * i + k)))).toInt64 &&& 63)))), (5, .int (nI 0)), (6, .int (nI (sm (A 2) i + k + 1))), (7, .int (nI 1)), (8, .int (nI i)), (9, .int (nI (A 2 i))), (10, .int (nI k)), (11, .int (nI (A 3 (6 * i + k))))]) C dL_areBarges_184 (k := 5) rfl (nI_1 _) (by decide) [1, 2, 3, 4, 5, 0, 6, 7, 8, 9, 10] rfl ?_
                          refine hv_iinc (v := nI (k + 1)) (lv1 := [(0, .ref (o)), (1, .ref (q 1)), (2, .ref (q 2)), (3, .long (z3 ||| (1 <<< (((nI (A 3 (6 * i + k)))).toInt64 &&& 63)))), (5, .int (nI 0)), (6, .int (nI (sm (A 2) i + k + 1))), (7, .int (nI 1)), (8, .int (nI i)), (9, .int (nI (A 2 i))), (10, .int (nI (k + 1))), (11, .int (nI (A 3 (6 * i + k))))]) C dL_areBarges_187 (k := 9) rfl (nI_1 _) (by decide) [1, 2, 3, 4, 5, 6, 7, 8, 9, 0, 10] rfl ?_
                          refine hv_goto (tgt := 104) C dL_areBarges_190 (by decide) ?_
                          exact hv_sub (lv1 := [(0, .ref (o)), (1, .ref (q 1)), (2, .ref (q 2)), (3, .long (z3 ||| (1 <<< (((nI (A 3 (6 * i + k)))).toInt64 &&& 63)))), (5, .int (nI 0)), (6, .int (nI (sm (A 2) i + (k + 1)))), (7, .int (nI 1)), (8, .int (nI i)), (9, .int (nI (A 2 i))), (10, .int (nI (k + 1)))]) [0, 1, 2, 3, 4, 5, 6, 7, 8, 9] rfl (ih2 _ (sn_step hI hsn3 hi hk))
