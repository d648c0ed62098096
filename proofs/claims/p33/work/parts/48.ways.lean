theorem b2_iff {P Q : Prop} [Decidable P] [Decidable Q] (h : P ↔ Q) : b2 P = b2 Q := by
  by_cases hp : P
  · rw [b2_t hp, b2_t (h.mp hp)]
  · rw [b2_f hp, b2_f (fun q => hp (h.mpr q))]
theorem e_ge : ∀ x : Nat, x < 42 → ¬ ((nI x + (-1) : Int32) < nI 0 + (-1)) := by decide
theorem e_40 : ∀ x : Nat, x < 42 → ¬ ((nI 40 : Int32) < nI x + (-1)) := by decide
theorem e_eq0 : ∀ x : Nat, x < 42 → ((nI x + (-1) : Int32) = 0 ↔ x = 1) := by decide
theorem e_lt0 : ∀ x : Nat, x < 42 → ((nI x + (-1) : Int32) < 0 ↔ x = 0) := by decide
theorem e_ge0 : ∀ x : Nat, x < 42 → ((0 : Int32) ≤ nI x + (-1) ↔ x ≠ 0) := by decide
theorem f_loops_le (A : ab_A) (n : Nat) : f_loops A n ≤ n := by
  induction n with
  | zero => exact Nat.le_refl _
  | succ n ih =>
    have := b2_le (q := f_walk A (n % 8) 8 (n / 8) = true)
    show f_loops A n + b2 (f_walk A (n % 8) 8 (n / 8) = true) ≤ n + 1
    omega
/-- one who follows the tables, s steps done, at v -/
def wk_I (A : ab_A) (o b s v : Nat) : Prop := v < 8 ∧ f_walk A o (9 - s) v = f_walk A o 9 b ∧ (s ≤ 8 → f_walk A o (8 - s) v = f_walk A o 8 b)
theorem wk_0 {A : ab_A} {o b s v : Nat} (h : wk_I A o b s v) (hs : s < 9) (hc : v = o ∨ A 12 (8 * v + o) = 0) : f_walk A o 9 b = false := by
  rw [← h.2.1, show 9 - s = (8 - s) + 1 by omega, fw_s]
  by_cases hv : v = o
  · rw [if_pos hv]
  · rw [if_neg hv]
    rcases hc with q | q
    · exact absurd q hv
    · rw [if_pos q]
theorem wk_s {A : ab_A} {o b s v : Nat} (h : wk_I A o b s v) (hs : s < 9) (hv : v ≠ o) (hc : A 12 (8 * v + o) ≠ 0) (h8 : f_bey A (A 12 (8 * v + o) - 1) v < 8) : wk_I A o b (s + 1) (f_bey A (A 12 (8 * v + o) - 1) v) := by
  refine ⟨h8, ?_, fun q => ?_⟩
  · rw [← h.2.1, show 9 - s = (9 - (s + 1)) + 1 by omega, fw_s, if_neg hv, if_neg hc]
  · rw [← h.2.2 (by omega), show 8 - s = (8 - (s + 1)) + 1 by omega, fw_s, if_neg hv, if_neg hc]
theorem tb_dg {A : ab_A} (hJ : ab_J A) {i : Nat} (hi : i < 64) (h : i % 9 = 0) : A 11 i = 1 ∧ A 12 i = 0 := by
  have h1 := hJ.2.1 (i / 9) (by omega)
  rw [show 8 * (i / 9) + i / 9 = i by omega] at h1
  exact h1
theorem tb_iff {A : ab_A} (hJ : ab_J A) {i : Nat} (hi : i < 64) : A 11 i ≠ 0 ↔ (A 12 i ≠ 0 ∨ i % 9 = 0) := by
  by_cases h : i % 9 = 0
  · obtain ⟨h1, h2⟩ := tb_dg hJ hi h
    rw [h1]
    exact ⟨fun _ => Or.inr h, fun _ => by decide⟩
  · have h1 := hJ.2.2.1 (i / 8) (i % 8) (by omega) (by omega) (by omega)
    rw [show 8 * (i / 8) + i % 8 = i by omega] at h1
    constructor
    · intro q
      exact Or.inl (fun z => q (h1.mpr z))
    · rintro (q | q)
      · exact fun z => q (h1.mp z)
      · exact absurd q h
set_option maxRecDepth 100000 in
set_option maxHeartbeats 4000000 in
theorem c_L_areWays (l : Launch) (w : hv_W) (o : Nat) (q : Nat → Nat) (iv : Nat → Option Nat) (F : Nat → Nat → Int32) (A : ab_A) (Y : hv_H) (hq : lok q iv) (hS : zLS w o iv F A Y) {M : Nat} (hL : zLI A F M) : hv_Mr l yL_areWays wsL_areWays ({ frames := 9, cells := 0, slots := 0, locals := 200 }) w [.ref (o), .ref (q 0), .ref (q 3), .ref (q 4)] Y (fun r Y1 => r = .int (nI 1) ∧ zLS w o iv (Fn F A 64) A Y1) := by
  refine hv_ofV (cc := cL_areWays) (own := RL) (by decide) rfl rfl (Nat.le_of_ble_eq_true rfl) rfl ?_
  intro p e s m below meth c C hret hnm
  obtain ⟨hI, hJ, ⟨hM, hM2⟩, hG, hB, hc0, hc1, hc2⟩ := id hL
  have hl64 := f_loops_le A 64
  have i4 := hI.2.2.2.1
  refine hv_aload_n C dL_areWays_0 rfl 0 rfl ?_
  refine hv_callVr (As := []) (rest := []) (n := 0) C (k_areStill l w o (lY w iv F) A Y hS hI) gL_areWays_X4_areStill rfl (by decide +kernel) ⟨(Nat.le_of_ble_eq_true rfl), (Nat.le_of_ble_eq_true rfl)⟩ (zLS_rc hS) rfl rfl (Nat.le_of_ble_eq_true rfl) dL_areWays_1 ⟨by first | exact Nat.le_of_ble_eq_true rfl | omega | (simp; done) | (simp; omega), by first | exact Nat.le_of_ble_eq_true rfl | omega | (simp; done) | (simp; omega)⟩ (fun r1 Y2 hr => ?_)
  obtain ⟨rfl, hS3⟩ := hr
  refine hv_istore (lv1 := [(0, .ref (o)), (1, .ref (q 0)), (2, .ref (q 3)), (3, .ref (q 4)), (4, .int (nI (b2 (f_chg A 64 = 0))))]) C dL_areWays_4 (by decide) [1, 2, 3, 4, 0] rfl ?_
  refine hv_iconst (v := nI 0) C dL_areWays_6 (by decide) ?_
  refine hv_istore (lv1 := [(0, .ref (o)), (1, .ref (q 0)), (2, .ref (q 3)), (3, .ref (q 4)), (4, .int (nI (b2 (f_chg A 64 = 0)))), (5, .int (nI 0))]) C dL_areWays_7 (by decide) [1, 2, 3, 4, 5, 0] rfl ?_
  refine hv_iconst (v := nI 1) C dL_areWays_9 (by decide) ?_
  refine hv_istore (lv1 := [(0, .ref (o)), (1, .ref (q 0)), (2, .ref (q 3)), (3, .ref (q 4)), (4, .int (nI (b2 (f_chg A 64 = 0)))), (5, .int (nI 0)), (6, .int (nI 1))]) C dL_areWays_10 (by decide) [1, 2, 3, 4, 5, 6, 0] rfl ?_
  refine hv_aload_n C dL_areWays_12 rfl 0 rfl ?_
  refine hv_aload_n C dL_areWays_13 rfl 2 rfl ?_
  refine hv_aload_n C dL_areWays_14 rfl 3 rfl ?_
  refine hv_callSv (As := [.ref (o), .ref (q 3), .ref (q 4)]) (rest := []) (n := 3) C (c_L_notes l w o q iv F A Y2 hq hS3 hI) gL_areWays_L_notes rfl (by decide +kernel) ⟨(Nat.le_of_ble_eq_true rfl), (Nat.le_of_ble_eq_true rfl)⟩ rfl rfl (Nat.le_of_ble_eq_true rfl) dL_areWays_15 ⟨by first | exact Nat.le_of_ble_eq_true rfl | omega | (simp; done) | (simp; omega), by first | exact Nat.le_of_ble_eq_true rfl | omega | (simp; done) | (simp; omega)⟩ (fun Y6 hr => ?_)
  have hS7 : zLS w o iv (Fn F A 64) A Y6 := hr
  refine hv_iconst (v := nI 0) C dL_areWays_18 (by decide) ?_
  refine hv_istore (lv1 := [(0, .ref (o)), (1, .ref (q 0)), (2, .ref (q 3)), (3, .ref (q 4)), (4, .int (nI (b2 (f_chg A 64 = 0)))), (5, .int (nI 0)), (6, .int (nI 1)), (7, .int (nI 0))]) C dL_areWays_19 (by decide) [1, 2, 3, 4, 5, 6, 7, 0] rfl ?_
  refine hv_loopP (σ := hv_H) 64 (fun _ Y => Y) (fun i _ => [(0, .ref (o)), (1, .ref (q 0)), (2, .ref (q 3)), (3, .ref (q 4)), (4, .int (nI (b2 (f_chg A 64 = 0)))), (5, .int (nI (f_loops A i))), (6, .int (nI 1)), (7, .int (nI i))]) (fun _ Y => zLS w o iv (Fn F A 64) A Y) ?_ ?_ Y6 hS7
  · intro Y7 hS7
    refine hv_iload C dL_areWays_21 7 rfl ?_
    refine hv_bipush (v := nI 64) C dL_areWays_23 (by decide) ?_
    refine hv_icmpN_ge (tgt := 304) C dL_areWays_25 (by decide) (by omega) (by omega) (fun _ => ?_) (fun h => absurd h (by decide))
    refine hv_iload C dL_areWays_304 6 rfl ?_
    refine hv_ifN_eq (tgt := 322) C dL_areWays_306 (by decide) (by omega) (fun h => absurd h (by decide)) (fun _ => ?_)
    refine hv_aload_n C dL_areWays_309 rfl 0 rfl ?_
    refine hv_callVr (As := []) (rest := []) (n := 0) C (k_loops l w o (lY w iv (Fn F A 64)) A Y7 hS7 hI) gL_areWays_X4_loops rfl (by decide +kernel) ⟨(Nat.le_of_ble_eq_true rfl), (Nat.le_of_ble_eq_true rfl)⟩ (zLS_rc hS7) rfl rfl (Nat.le_of_ble_eq_true rfl) dL_areWays_310 ⟨by first | exact Nat.le_of_ble_eq_true rfl | omega | (simp; done) | (simp; omega), by first | exact Nat.le_of_ble_eq_true rfl | omega | (simp; done) | (simp; omega)⟩ (fun r10 Y1 hr => ?_)
    obtain ⟨rfl, hy9⟩ := hr; obtain rfl := hy9.symm
    refine hv_iload C dL_areWays_313 5 rfl ?_
    refine hv_icmpN_ne (tgt := 322) C dL_areWays_315 (by decide) (by omega) (by omega) (fun h11 => ?_) (fun h11 => ?_)
    · skip
      exact absurd rfl h11
    · skip
      refine hv_iconst (v := nI 1) C dL_areWays_318 (by decide) ?_
      refine hv_goto (tgt := 323) C dL_areWays_319 (by decide) ?_
      exact hv_zret C hret (by decide) dL_areWays_323 (by first | exact Nat.le_refl _ | decide | omega | (simp; done) | (simp; omega)) (by first | exact Nat.le_refl _ | decide | omega | (simp; done) | (simp; omega)) ⟨rfl, hS7⟩
  · intro i Y8 hi hS8 ih
    have hb8 : i / 8 < 8 := by omega
    have ho8 : i % 8 < 8 := by omega
    have h41 := ch_41 (A := A) (i / 8) (i % 8)
    have hlp := f_loops_le A i
    have h11 := hI.2.2.2.2.2.1 (i / 8) (i % 8) hb8 ho8
    rw [show 8 * (i / 8) + i % 8 = i by omega] at h11
    have h11a := h11.1
    have h11b := h11.2.1
    refine hv_iload C dL_areWays_21 7 rfl ?_
    refine hv_bipush (v := nI 64) C dL_areWays_23 (by decide) ?_
    refine hv_icmpN_ge (tgt := 304) C dL_areWays_25 (by decide) (by omega) (by omega) (fun h12 => ?_) (fun h12 => ?_)
    · skip
      exact absurd h12 (by omega)
    · skip
      refine hv_iload C dL_areWays_28 6 rfl ?_
      refine hv_ifN_eq (tgt := 304) C dL_areWays_30 (by decide) (by omega) (fun h => absurd h (by decide)) (fun _ => ?_)
      refine hv_iload C dL_areWays_33 7 rfl ?_
      refine hv_bipush (v := nI 8) C dL_areWays_35 (by decide) ?_
      refine hv_idivN C dL_areWays_37 (by omega) (by omega) (by omega) ?_
      refine hv_istore (lv1 := [(0, .ref (o)), (1, .ref (q 0)), (2, .ref (q 3)), (3, .ref (q 4)), (4, .int (nI (b2 (f_chg A 64 = 0)))), (5, .int (nI (f_loops A i))), (6, .int (nI 1)), (7, .int (nI i)), (8, .int (nI (i / 8)))]) C dL_areWays_38 (by decide) [1, 2, 3, 4, 5, 6, 7, 8, 0] rfl ?_
      refine hv_iconst (v := nI 0) C dL_areWays_40 (by decide) ?_
      refine hv_istore (lv1 := [(0, .ref (o)), (1, .ref (q 0)), (2, .ref (q 3)), (3, .ref (q 4)), (4, .int (nI (b2 (f_chg A 64 = 0)))), (5, .int (nI (f_loops A i))), (6, .int (nI 1)), (7, .int (nI i)), (8, .int (nI (i / 8))), (9, .int (nI 0))]) C dL_areWays_41 (by decide) [1, 2, 3, 4, 5, 6, 7, 8, 9, 0] rfl ?_
      refine hv_join (α := Nat) (pcJ := 106) (fun _ => Y8) (fun t => [(0, .ref (o)), (1, .ref (q 0)), (2, .ref (q 3)), (3, .ref (q 4)), (4, .int (nI (b2 (f_chg A 64 = 0)))), (5, .int (nI (f_loops A i))), (6, .int (nI 1)), (7, .int (nI i)), (9, .int (nI t))]) (fun _ => []) (fun t => t ≤ 9 ∧ (t = 9 ↔ f_walk A (i % 8) 8 (i / 8) = true)) ?_ ?_
      · rintro t ⟨ht9, hw9⟩
        refine hv_join (α := Nat) (pcJ := 118) (fun _ => Y8) (fun _ => [(0, .ref (o)), (1, .ref (q 0)), (2, .ref (q 3)), (3, .ref (q 4)), (4, .int (nI (b2 (f_chg A 64 = 0)))), (5, .int (nI (f_loops A i))), (6, .int (nI 1)), (7, .int (nI i)), (9, .int (nI t))]) (fun t9 => .int (nI t9) :: []) (fun t9 => t9 = b2 (f_walk A (i % 8) 8 (i / 8) = true)) ?_ ?_
        · rintro _ rfl
          refine hv_istore (lv1 := [(0, .ref (o)), (1, .ref (q 0)), (2, .ref (q 3)), (3, .ref (q 4)), (4, .int (nI (b2 (f_chg A 64 = 0)))), (5, .int (nI (f_loops A i))), (6, .int (nI 1)), (7, .int (nI i)), (9, .int (nI t)), (10, .int (nI (b2 (f_walk A (i % 8) 8 (i / 8) = true))))]) C dL_areWays_118 (by decide) [1, 2, 3, 4, 5, 6, 7, 8, 9, 0] rfl ?_
          refine hv_aload_n C dL_areWays_120 rfl 0 rfl ?_
          refine hv_iload C dL_areWays_121 7 rfl ?_
          refine hv_bipush (v := nI 8) C dL_areWays_123 (by decide) ?_
          refine hv_idivN C dL_areWays_125 (by omega) (by omega) (by omega) ?_
          refine hv_iload C dL_areWays_126 7 rfl ?_
          refine hv_bipush (v := nI 8) C dL_areWays_128 (by decide) ?_
          refine hv_iremN C dL_areWays_130 (by omega) (by omega) (by omega) ?_
          refine hv_callVr (As := [.int (nI (i / 8)), .int (nI (i % 8))]) (rest := []) (n := 2) C (k_cheapest l w o (lY w iv (Fn F A 64)) A Y8 hS8 hI (i / 8) hb8 (i % 8) ho8) gL_areWays_X4_cheapest rfl (by decide +kernel) ⟨(Nat.le_of_ble_eq_true rfl), (Nat.le_of_ble_eq_true rfl)⟩ (zLS_rc hS8) rfl rfl (Nat.le_of_ble_eq_true rfl) dL_areWays_131 ⟨by first | exact Nat.le_of_ble_eq_true rfl | omega | (simp; done) | (simp; omega), by first | exact Nat.le_of_ble_eq_true rfl | omega | (simp; done) | (simp; omega)⟩ (fun r15 Y16 hr => ?_)
          obtain ⟨rfl, hS17⟩ := hr
          refine hv_istore (lv1 := [(0, .ref (o)), (1, .ref (q 0)), (2, .ref (q 3)), (3, .ref (q 4)), (4, .int (nI (b2 (f_chg A 64 = 0)))), (5, .int (nI (f_loops A i))), (6, .int (nI 1)), (7, .int (nI i)), (9, .int (nI t)), (10, .int (nI (b2 (f_walk A (i % 8) 8 (i / 8) = true)))), (11, .int (nI (s_ch A (i / 8) (i % 8)) + (-1)))]) C dL_areWays_134 (by decide) [1, 2, 3, 4, 5, 6, 7, 8, 9, 10, 0] rfl ?_
          refine hv_iload C dL_areWays_136 5 rfl ?_
          refine hv_join (α := Nat) (pcJ := 148) (fun _ => Y16) (fun _ => [(0, .ref (o)), (1, .ref (q 0)), (2, .ref (q 3)), (3, .ref (q 4)), (4, .int (nI (b2 (f_chg A 64 = 0)))), (5, .int (nI (f_loops A i))), (6, .int (nI 1)), (7, .int (nI i)), (9, .int (nI t)), (10, .int (nI (b2 (f_walk A (i % 8) 8 (i / 8) = true)))), (11, .int (nI (s_ch A (i / 8) (i % 8)) + (-1)))]) (fun t9 => .int (nI t9) :: [.int (nI (f_loops A i))]) (fun t9 => t9 = b2 (f_walk A (i % 8) 8 (i / 8) = true)) ?_ ?_
          · rintro _ rfl
            refine hv_iaddN C dL_areWays_148 ?_
            refine hv_istore (lv1 := [(0, .ref (o)), (1, .ref (q 0)), (2, .ref (q 3)), (3, .ref (q 4)), (4, .int (nI (b2 (f_chg A 64 = 0)))), (5, .int (nI ((f_loops A i) + (b2 (f_walk A (i % 8) 8 (i / 8) = true))))), (6, .int (nI 1)), (7, .int (nI i)), (9, .int (nI t)), (10, .int (nI (b2 (f_walk A (i % 8) 8 (i / 8) = true)))), (11, .int (nI (s_ch A (i / 8) (i % 8)) + (-1)))]) C dL_areWays_149 (by decide) [1, 2, 3, 4, 5, 0, 6, 7, 8, 9, 10] rfl ?_
            refine hv_aload_n C dL_areWays_151 rfl 0 rfl ?_
            refine hv_iload C dL_areWays_152 7 rfl ?_
            refine hv_bipush (v := nI 8) C dL_areWays_154 (by decide) ?_
            refine hv_idivN C dL_areWays_156 (by omega) (by omega) (by omega) ?_
            refine hv_iload C dL_areWays_157 7 rfl ?_
            refine hv_bipush (v := nI 8) C dL_areWays_159 (by decide) ?_
            refine hv_iremN C dL_areWays_161 (by omega) (by omega) (by omega) ?_
            refine hv_callVr (As := [.int (nI (i / 8)), .int (nI (i % 8))]) (rest := []) (n := 2) C (k_isLoop l w o (lY w iv (Fn F A 64)) A Y16 hS17 hI (i / 8) hb8 (i % 8) ho8) gL_areWays_X4_isLoop rfl (by decide +kernel) ⟨(Nat.le_of_ble_eq_true rfl), (Nat.le_of_ble_eq_true rfl)⟩ (zLS_rc hS17) rfl rfl (Nat.le_of_ble_eq_true rfl) dL_areWays_162 ⟨by first | exact Nat.le_of_ble_eq_true rfl | omega | (simp; done) | (simp; omega), by first | exact Nat.le_of_ble_eq_true rfl | omega | (simp; done) | (simp; omega)⟩ (fun r20 Y1 hr => ?_)
            obtain ⟨rfl, hy9⟩ := hr; obtain rfl := hy9.symm
            refine hv_iload C dL_areWays_165 9 rfl ?_
            refine hv_icmp_ne (tgt := 295) C dL_areWays_167 (by decide) (fun h21 => ?_) (fun h21 => ?_)
            · skip
              exact absurd rfl h21
            · skip
              refine hv_iload C dL_areWays_170 10 rfl ?_
              refine hv_iconst (v := nI 0 + (-1)) C dL_areWays_172 (by decide) ?_
              refine hv_icmp_lt (tgt := 295) C dL_areWays_173 (by decide) (fun h22 => ?_) (fun h22 => ?_)
              · skip
                exact absurd h22 (e_ge _ (by omega))
              · skip
                refine hv_iload C dL_areWays_176 10 rfl ?_
                refine hv_bipush (v := nI 40) C dL_areWays_178 (by decide) ?_
                refine hv_icmp_gt (tgt := 295) C dL_areWays_180 (by decide) (fun h23 => ?_) (fun h23 => ?_)
                · skip
                  exact absurd h23 (e_40 _ (by omega))
                · skip
                  refine hv_join (α := Nat) (pcJ := 193) (fun _ => Y16) (fun _ => [(0, .ref (o)), (1, .ref (q 0)), (2, .ref (q 3)), (3, .ref (q 4)), (4, .int (nI (b2 (f_chg A 64 = 0)))), (5, .int (nI ((f_loops A i) + (b2 (f_walk A (i % 8) 8 (i / 8) = true))))), (6, .int (nI 1)), (7, .int (nI i)), (9, .int (nI t)), (10, .int (nI (b2 (f_walk A (i % 8) 8 (i / 8) = true)))), (11, .int (nI (s_ch A (i / 8) (i % 8)) + (-1)))]) (fun t9 => .int (nI t9) :: []) (fun t9 => t9 = b2 (s_ch A (i / 8) (i % 8) = 1)) ?_ ?_
                  · rintro _ rfl
                    refine hv_join (α := Nat) (pcJ := 211) (fun _ => Y16) (fun _ => [(0, .ref (o)), (1, .ref (q 0)), (2, .ref (q 3)), (3, .ref (q 4)), (4, .int (nI (b2 (f_chg A 64 = 0)))), (5, .int (nI ((f_loops A i) + (b2 (f_walk A (i % 8) 8 (i / 8) = true))))), (6, .int (nI 1)), (7, .int (nI i)), (9, .int (nI t)), (10, .int (nI (b2 (f_walk A (i % 8) 8 (i / 8) = true)))), (11, .int (nI (s_ch A (i / 8) (i % 8)) + (-1)))]) (fun t9 => .int (nI t9) :: [.int (nI (b2 (s_ch A (i / 8) (i % 8) = 1)))]) (fun t9 => t9 = b2 (i / 8 = i % 8)) ?_ ?_
                    · rintro _ rfl
                      refine hv_icmp_ne (tgt := 295) C dL_areWays_211 (by decide) (fun h26 => ?_) (fun h26 => ?_)
                      · skip
                        exact absurd (congrArg nI (b2_iff (ch_1 hI hb8 ho8))) h26
                      · skip
                        refine hv_iload C dL_areWays_214 4 rfl ?_
                        refine hv_ifb_eq (tgt := 233) C dL_areWays_216 (by decide) (fun h27 => ?_) (fun h27 => ?_)
                        · skip
                          refine hv_iload C dL_areWays_233 7 rfl ?_
                          refine hv_bipush (v := nI 9) C dL_areWays_235 (by decide) ?_
                          refine hv_iremN C dL_areWays_237 (by omega) (by omega) (by omega) ?_
                          refine hv_ifN_gt (tgt := 256) C dL_areWays_238 (by decide) (by omega) (fun h28 => ?_) (fun h28 => ?_)
                          · skip
                            refine hv_join (α := Nat) (pcJ := 268) (fun _ => Y16) (fun _ => [(0, .ref (o)), (1, .ref (q 0)), (2, .ref (q 3)), (3, .ref (q 4)), (4, .int (nI (b2 (f_chg A 64 = 0)))), (5, .int (nI ((f_loops A i) + (b2 (f_walk A (i % 8) 8 (i / 8) = true))))), (6, .int (nI 1)), (7, .int (nI i)), (9, .int (nI t)), (10, .int (nI (b2 (f_walk A (i % 8) 8 (i / 8) = true)))), (11, .int (nI (s_ch A (i / 8) (i % 8)) + (-1)))]) (fun t9 => .int (nI t9) :: []) (fun t9 => t9 = b2 (A 11 i ≠ 0)) ?_ ?_
                            · rintro _ rfl
                              refine hv_join (α := Nat) (pcJ := 288) (fun _ => Y16) (fun _ => [(0, .ref (o)), (1, .ref (q 0)), (2, .ref (q 3)), (3, .ref (q 4)), (4, .int (nI (b2 (f_chg A 64 = 0)))), (5, .int (nI ((f_loops A i) + (b2 (f_walk A (i % 8) 8 (i / 8) = true))))), (6, .int (nI 1)), (7, .int (nI i)), (9, .int (nI t)), (10, .int (nI (b2 (f_walk A (i % 8) 8 (i / 8) = true)))), (11, .int (nI (s_ch A (i / 8) (i % 8)) + (-1)))]) (fun t9 => .int (nI t9) :: [.int (nI (b2 (A 11 i ≠ 0)))]) (fun t9 => t9 = b2 (A 12 i ≠ 0 ∨ i % 9 = 0)) ?_ ?_
                              · rintro _ rfl
                                refine hv_icmp_ne (tgt := 295) C dL_areWays_288 (by decide) (fun h31 => ?_) (fun h31 => ?_)
                                · skip
                                  exact absurd (congrArg nI (b2_iff (tb_iff hJ hi))) h31
                                · skip
                                  refine hv_iconst (v := nI 1) C dL_areWays_291 (by decide) ?_
                                  refine hv_goto (tgt := 296) C dL_areWays_292 (by decide) ?_
                                  refine hv_istore (lv1 := [(0, .ref (o)), (1, .ref (q 0)), (2, .ref (q 3)), (3, .ref (q 4)), (4, .int (nI (b2 (f_chg A 64 = 0)))), (5, .int (nI ((f_loops A i) + (b2 (f_walk A (i % 8) 8 (i / 8) = true))))), (6, .int (nI 1)), (7, .int (nI i)), (9, .int (nI t)), (10, .int (nI (b2 (f_walk A (i % 8) 8 (i / 8) = true)))), (11, .int (nI (s_ch A (i / 8) (i % 8)) + (-1)))]) C dL_areWays_296 (by decide) [1, 2, 3, 4, 5, 6, 0, 7, 8, 9, 10] rfl ?_
                                  refine hv_iinc (v := nI (i + 1)) (lv1 := [(0, .ref (o)), (1, .ref (q 0)), (2, .ref (q 3)), (3, .ref (q 4)), (4, .int (nI (b2 (f_chg A 64 = 0)))), (5, .int (nI ((f_loops A i) + (b2 (f_walk A (i % 8) 8 (i / 8) = true))))), (6, .int (nI 1)), (7, .int (nI (i + 1))), (9, .int (nI t)), (10, .int (nI (b2 (f_walk A (i % 8) 8 (i / 8) = true)))), (11, .int (nI (s_ch A (i / 8) (i % 8)) + (-1)))]) C dL_areWays_298 (k := 7) rfl (nI_1 _) (by decide) [1, 2, 3, 4, 5, 6, 7, 0, 8, 9, 10] rfl ?_
                                  refine hv_goto (tgt := 21) C dL_areWays_301 (by decide) ?_
                                  exact hv_sub (lv1 := [(0, .ref (o)), (1, .ref (q 0)), (2, .ref (q 3)), (3, .ref (q 4)), (4, .int (nI (b2 (f_chg A 64 = 0)))), (5, .int (nI (f_loops A (i + 1)))), (6, .int (nI 1)), (7, .int (nI (i + 1)))]) [0, 1, 2, 3, 4, 5, 6, 7] rfl (ih _ hS17)
                              · intro k30
                                refine hv_aload_n C dL_areWays_268 rfl 3 rfl ?_
                                refine hv_iload C dL_areWays_269 7 rfl ?_
                                refine hl_ald (k := 4) (i := i) (x := (nI (A 12 i) + (-1))) C hS17 hq (by decide) (show i < 64 by omega) (Fn_4 F A hi) dL_areWays_271 ?_
                                refine hv_if_ge (tgt := 283) C dL_areWays_272 (by decide) (fun h32 => ?_) (fun h32 => ?_)
                                · skip
                                  refine hv_iconst (v := nI 1) C dL_areWays_283 (by decide) ?_
                                  refine hv_goto (tgt := 288) C dL_areWays_284 (by decide) ?_
                                  exact k30 _ (b2_t (Or.inl ((e_ge0 _ (by omega)).mp h32))).symm
                                · skip
                                  refine hv_iload C dL_areWays_275 7 rfl ?_
                                  refine hv_bipush (v := nI 9) C dL_areWays_277 (by decide) ?_
                                  refine hv_iremN C dL_areWays_279 (by omega) (by omega) (by omega) ?_
                                  refine hv_ifN_ne (tgt := 287) C dL_areWays_280 (by decide) (by omega) (fun h33 => ?_) (fun h33 => ?_)
                                  · skip
                                    refine hv_iconst (v := nI 0) C dL_areWays_287 (by decide) ?_
                                    exact k30 _ (b2_f (fun z => z.elim (fun z => h32 ((e_ge0 _ (by omega)).mpr z)) (fun z => h33 z))).symm
                                  · skip
                                    refine hv_iconst (v := nI 1) C dL_areWays_283 (by decide) ?_
                                    refine hv_goto (tgt := 288) C dL_areWays_284 (by decide) ?_
                                    exact k30 _ (b2_t (Or.inr h33)).symm
                            · intro k29
                              refine hv_aload_n C dL_areWays_256 rfl 2 rfl ?_
                              refine hv_iload C dL_areWays_257 7 rfl ?_
                              refine hl_ald (k := 3) (i := i) (x := (nI (A 11 i) + (-1))) C hS17 hq (by decide) (show i < 64 by omega) (Fn_3 F A hi) dL_areWays_259 ?_
                              refine hv_if_lt (tgt := 267) C dL_areWays_260 (by decide) (fun h34 => ?_) (fun h34 => ?_)
                              · skip
                                refine hv_iconst (v := nI 0) C dL_areWays_267 (by decide) ?_
                                exact k29 _ (b2_f (fun z => z ((e_lt0 _ (by omega)).mp h34))).symm
                              · skip
                                refine hv_iconst (v := nI 1) C dL_areWays_263 (by decide) ?_
                                refine hv_goto (tgt := 268) C dL_areWays_264 (by decide) ?_
                                exact k29 _ (b2_t (show A 11 i ≠ 0 from fun z => h34 ((e_lt0 _ (by omega)).mpr z))).symm
                          · skip
                            refine hv_aload_n C dL_areWays_241 rfl 2 rfl ?_
                            refine hv_iload C dL_areWays_242 7 rfl ?_
                            refine hl_ald (k := 3) (i := i) (x := (nI (A 11 i) + (-1))) C hS17 hq (by decide) (show i < 64 by omega) (Fn_3 F A hi) dL_areWays_244 ?_
                            refine hv_if_ne (tgt := 295) C dL_areWays_245 (by decide) (fun h35 => ?_) (fun h35 => ?_)
                            · skip
                              exact absurd (by rw [(tb_dg hJ hi h28).1]; decide) h35
                            · skip
                              refine hv_aload_n C dL_areWays_248 rfl 3 rfl ?_
                              refine hv_iload C dL_areWays_249 7 rfl ?_
                              refine hl_ald (k := 4) (i := i) (x := (nI (A 12 i) + (-1))) C hS17 hq (by decide) (show i < 64 by omega) (Fn_4 F A hi) dL_areWays_251 ?_
                              refine hv_iconst (v := nI 0 + (-1)) C dL_areWays_252 (by decide) ?_
                              refine hv_icmpE_ne (tgt := 295) C dL_areWays_253 (by decide) (by omega) (by omega) (fun h36 => ?_) (fun h36 => ?_)
                              · skip
                                exact absurd (tb_dg hJ hi h28).2 h36
                              · skip
                                refine hv_join (α := Nat) (pcJ := 268) (fun _ => Y16) (fun _ => [(0, .ref (o)), (1, .ref (q 0)), (2, .ref (q 3)), (3, .ref (q 4)), (4, .int (nI (b2 (f_chg A 64 = 0)))), (5, .int (nI ((f_loops A i) + (b2 (f_walk A (i % 8) 8 (i / 8) = true))))), (6, .int (nI 1)), (7, .int (nI i)), (9, .int (nI t)), (10, .int (nI (b2 (f_walk A (i % 8) 8 (i / 8) = true)))), (11, .int (nI (s_ch A (i / 8) (i % 8)) + (-1)))]) (fun t9 => .int (nI t9) :: []) (fun t9 => t9 = b2 (A 11 i ≠ 0)) ?_ ?_
                                · rintro _ rfl
                                  refine hv_join (α := Nat) (pcJ := 288) (fun _ => Y16) (fun _ => [(0, .ref (o)), (1, .ref (q 0)), (2, .ref (q 3)), (3, .ref (q 4)), (4, .int (nI (b2 (f_chg A 64 = 0)))), (5, .int (nI ((f_loops A i) + (b2 (f_walk A (i % 8) 8 (i / 8) = true))))), (6, .int (nI 1)), (7, .int (nI i)), (9, .int (nI t)), (10, .int (nI (b2 (f_walk A (i % 8) 8 (i / 8) = true)))), (11, .int (nI (s_ch A (i / 8) (i % 8)) + (-1)))]) (fun t9 => .int (nI t9) :: [.int (nI (b2 (A 11 i ≠ 0)))]) (fun t9 => t9 = b2 (A 12 i ≠ 0 ∨ i % 9 = 0)) ?_ ?_
                                  · rintro _ rfl
                                    refine hv_icmp_ne (tgt := 295) C dL_areWays_288 (by decide) (fun h39 => ?_) (fun h39 => ?_)
                                    · skip
                                      exact absurd (congrArg nI (b2_iff (tb_iff hJ hi))) h39
                                    · skip
                                      refine hv_iconst (v := nI 1) C dL_areWays_291 (by decide) ?_
                                      refine hv_goto (tgt := 296) C dL_areWays_292 (by decide) ?_
                                      refine hv_istore (lv1 := [(0, .ref (o)), (1, .ref (q 0)), (2, .ref (q 3)), (3, .ref (q 4)), (4, .int (nI (b2 (f_chg A 64 = 0)))), (5, .int (nI ((f_loops A i) + (b2 (f_walk A (i % 8) 8 (i / 8) = true))))), (6, .int (nI 1)), (7, .int (nI i)), (9, .int (nI t)), (10, .int (nI (b2 (f_walk A (i % 8) 8 (i / 8) = true)))), (11, .int (nI (s_ch A (i / 8) (i % 8)) + (-1)))]) C dL_areWays_296 (by decide) [1, 2, 3, 4, 5, 6, 0, 7, 8, 9, 10] rfl ?_
                                      refine hv_iinc (v := nI (i + 1)) (lv1 := [(0, .ref (o)), (1, .ref (q 0)), (2, .ref (q 3)), (3, .ref (q 4)), (4, .int (nI (b2 (f_chg A 64 = 0)))), (5, .int (nI ((f_loops A i) + (b2 (f_walk A (i % 8) 8 (i / 8) = true))))), (6, .int (nI 1)), (7, .int (nI (i + 1))), (9, .int (nI t)), (10, .int (nI (b2 (f_walk A (i % 8) 8 (i / 8) = true)))), (11, .int (nI (s_ch A (i / 8) (i % 8)) + (-1)))]) C dL_areWays_298 (k := 7) rfl (nI_1 _) (by decide) [1, 2, 3, 4, 5, 6, 7, 0, 8, 9, 10] rfl ?_
                                      refine hv_goto (tgt := 21) C dL_areWays_301 (by decide) ?_
                                      exact hv_sub (lv1 := [(0, .ref (o)), (1, .ref (q 0)), (2, .ref (q 3)), (3, .ref (q 4)), (4, .int (nI (b2 (f_chg A 64 = 0)))), (5, .int (nI (f_loops A (i + 1)))), (6, .int (nI 1)), (7, .int (nI (i + 1)))]) [0, 1, 2, 3, 4, 5, 6, 7] rfl (ih _ hS17)
                                  · intro k38
                                    refine hv_aload_n C dL_areWays_268 rfl 3 rfl ?_
                                    refine hv_iload C dL_areWays_269 7 rfl ?_
                                    refine hl_ald (k := 4) (i := i) (x := (nI (A 12 i) + (-1))) C hS17 hq (by decide) (show i < 64 by omega) (Fn_4 F A hi) dL_areWays_271 ?_
                                    refine hv_if_ge (tgt := 283) C dL_areWays_272 (by decide) (fun h40 => ?_) (fun h40 => ?_)
                                    · skip
                                      refine hv_iconst (v := nI 1) C dL_areWays_283 (by decide) ?_
                                      refine hv_goto (tgt := 288) C dL_areWays_284 (by decide) ?_
                                      exact k38 _ (b2_t (Or.inl ((e_ge0 _ (by omega)).mp h40))).symm
                                    · skip
                                      refine hv_iload C dL_areWays_275 7 rfl ?_
                                      refine hv_bipush (v := nI 9) C dL_areWays_277 (by decide) ?_
                                      refine hv_iremN C dL_areWays_279 (by omega) (by omega) (by omega) ?_
                                      refine hv_ifN_ne (tgt := 287) C dL_areWays_280 (by decide) (by omega) (fun h41 => ?_) (fun h41 => ?_)
                                      · skip
                                        refine hv_iconst (v := nI 0) C dL_areWays_287 (by decide) ?_
                                        exact k38 _ (b2_f (fun z => z.elim (fun z => h40 ((e_ge0 _ (by omega)).mpr z)) (fun z => h41 z))).symm
                                      · skip
                                        refine hv_iconst (v := nI 1) C dL_areWays_283 (by decide) ?_
                                        refine hv_goto (tgt := 288) C dL_areWays_284 (by decide) ?_
                                        exact k38 _ (b2_t (Or.inr h41)).symm
                                · intro k37
                                  refine hv_aload_n C dL_areWays_256 rfl 2 rfl ?_
                                  refine hv_iload C dL_areWays_257 7 rfl ?_
                                  refine hl_ald (k := 3) (i := i) (x := (nI (A 11 i) + (-1))) C hS17 hq (by decide) (show i < 64 by omega) (Fn_3 F A hi) dL_areWays_259 ?_
                                  refine hv_if_lt (tgt := 267) C dL_areWays_260 (by decide) (fun h42 => ?_) (fun h42 => ?_)
                                  · skip
                                    refine hv_iconst (v := nI 0) C dL_areWays_267 (by decide) ?_
                                    exact k37 _ (b2_f (fun z => z ((e_lt0 _ (by omega)).mp h42))).symm
                                  · skip
                                    refine hv_iconst (v := nI 1) C dL_areWays_263 (by decide) ?_
                                    refine hv_goto (tgt := 268) C dL_areWays_264 (by decide) ?_
                                    exact k37 _ (b2_t (show A 11 i ≠ 0 from fun z => h42 ((e_lt0 _ (by omega)).mpr z))).symm
                        · skip
                          refine hv_iload C dL_areWays_219 10 rfl ?_
                          refine hv_aload_n C dL_areWays_221 rfl 2 rfl ?_
                          refine hv_iload C dL_areWays_222 7 rfl ?_
                          refine hl_ald (k := 3) (i := i) (x := (nI (A 11 i) + (-1))) C hS17 hq (by decide) (show i < 64 by omega) (Fn_3 F A hi) dL_areWays_224 ?_
                          refine hv_icmpE_ne (tgt := 295) C dL_areWays_225 (by decide) (by omega) (by omega) (fun h43 => ?_) (fun h43 => ?_)
                          · skip
                            exact absurd (by have h9 := ch_st hI hJ h27 hb8 ho8; rw [show 8 * (i / 8) + i % 8 = i by omega] at h9; exact h9) h43
                          · skip
                            refine hv_iload C dL_areWays_228 9 rfl ?_
                            refine hv_ifb_ne (tgt := 295) C dL_areWays_230 (by decide) (fun h44 => ?_) (fun h44 => ?_)
                            · skip
                              exact absurd h44 (by rw [st_noloop hI h27 hb8 ho8]; decide)
                            · skip
                              refine hv_iload C dL_areWays_233 7 rfl ?_
                              refine hv_bipush (v := nI 9) C dL_areWays_235 (by decide) ?_
                              refine hv_iremN C dL_areWays_237 (by omega) (by omega) (by omega) ?_
                              refine hv_ifN_gt (tgt := 256) C dL_areWays_238 (by decide) (by omega) (fun h45 => ?_) (fun h45 => ?_)
                              · skip
                                refine hv_join (α := Nat) (pcJ := 268) (fun _ => Y16) (fun _ => [(0, .ref (o)), (1, .ref (q 0)), (2, .ref (q 3)), (3, .ref (q 4)), (4, .int (nI (b2 (f_chg A 64 = 0)))), (5, .int (nI ((f_loops A i) + (b2 (f_walk A (i % 8) 8 (i / 8) = true))))), (6, .int (nI 1)), (7, .int (nI i)), (9, .int (nI t)), (10, .int (nI (b2 (f_walk A (i % 8) 8 (i / 8) = true)))), (11, .int (nI (s_ch A (i / 8) (i % 8)) + (-1)))]) (fun t9 => .int (nI t9) :: []) (fun t9 => t9 = b2 (A 11 i ≠ 0)) ?_ ?_
                                · rintro _ rfl
                                  refine hv_join (α := Nat) (pcJ := 288) (fun _ => Y16) (fun _ => [(0, .ref (o)), (1, .ref (q 0)), (2, .ref (q 3)), (3, .ref (q 4)), (4, .int (nI (b2 (f_chg A 64 = 0)))), (5, .int (nI ((f_loops A i) + (b2 (f_walk A (i % 8) 8 (i / 8) = true))))), (6, .int (nI 1)), (7, .int (nI i)), (9, .int (nI t)), (10, .int (nI (b2 (f_walk A (i % 8) 8 (i / 8) = true)))), (11, .int (nI (s_ch A (i / 8) (i % 8)) + (-1)))]) (fun t9 => .int (nI t9) :: [.int (nI (b2 (A 11 i ≠ 0)))]) (fun t9 => t9 = b2 (A 12 i ≠ 0 ∨ i % 9 = 0)) ?_ ?_
                                  · rintro _ rfl
                                    refine hv_icmp_ne (tgt := 295) C dL_areWays_288 (by decide) (fun h48 => ?_) (fun h48 => ?_)
                                    · skip
                                      exact absurd (congrArg nI (b2_iff (tb_iff hJ hi))) h48
                                    · skip
                                      refine hv_iconst (v := nI 1) C dL_areWays_291 (by decide) ?_
                                      refine hv_goto (tgt := 296) C dL_areWays_292 (by decide) ?_
                                      refine hv_istore (lv1 := [(0, .ref (o)), (1, .ref (q 0)), (2, .ref (q 3)), (3, .ref (q 4)), (4, .int (nI (b2 (f_chg A 64 = 0)))), (5, .int (nI ((f_loops A i) + (b2 (f_walk A (i % 8) 8 (i / 8) = true))))), (6, .int (nI 1)), (7, .int (nI i)), (9, .int (nI t)), (10, .int (nI (b2 (f_walk A (i % 8) 8 (i / 8) = true)))), (11, .int (nI (s_ch A (i / 8) (i % 8)) + (-1)))]) C dL_areWays_296 (by decide) [1, 2, 3, 4, 5, 6, 0, 7, 8, 9, 10] rfl ?_
                                      refine hv_iinc (v := nI (i + 1)) (lv1 := [(0, .ref (o)), (1, .ref (q 0)), (2, .ref (q 3)), (3, .ref (q 4)), (4, .int (nI (b2 (f_chg A 64 = 0)))), (5, .int (nI ((f_loops A i) + (b2 (f_walk A (i % 8) 8 (i / 8) = true))))), (6, .int (nI 1)), (7, .int (nI (i + 1))), (9, .int (nI t)), (10, .int (nI (b2 (f_walk A (i % 8) 8 (i / 8) = true)))), (11, .int (nI (s_ch A (i / 8) (i % 8)) + (-1)))]) C dL_areWays_298 (k := 7) rfl (nI_1 _) (by decide) [1, 2, 3, 4, 5, 6, 7, 0, 8, 9, 10] rfl ?_
                                      refine hv_goto (tgt := 21) C dL_areWays_301 (by decide) ?_
                                      exact hv_sub (lv1 := [(0, .ref (o)), (1, .ref (q 0)), (2, .ref (q 3)), (3, .ref (q 4)), (4, .int (nI (b2 (f_chg A 64 = 0)))), (5, .int (nI (f_loops A (i + 1)))), (6, .int (nI 1)), (7, .int (nI (i + 1)))]) [0, 1, 2, 3, 4, 5, 6, 7] rfl (ih _ hS17)
                                  · intro k47
                                    refine hv_aload_n C dL_areWays_268 rfl 3 rfl ?_
                                    refine hv_iload C dL_areWays_269 7 rfl ?_
                                    refine hl_ald (k := 4) (i := i) (x := (nI (A 12 i) + (-1))) C hS17 hq (by decide) (show i < 64 by omega) (Fn_4 F A hi) dL_areWays_271 ?_
                                    refine hv_if_ge (tgt := 283) C dL_areWays_272 (by decide) (fun h49 => ?_) (fun h49 => ?_)
                                    · skip
                                      refine hv_iconst (v := nI 1) C dL_areWays_283 (by decide) ?_
                                      refine hv_goto (tgt := 288) C dL_areWays_284 (by decide) ?_
                                      exact k47 _ (b2_t (Or.inl ((e_ge0 _ (by omega)).mp h49))).symm
                                    · skip
                                      refine hv_iload C dL_areWays_275 7 rfl ?_
                                      refine hv_bipush (v := nI 9) C dL_areWays_277 (by decide) ?_
                                      refine hv_iremN C dL_areWays_279 (by omega) (by omega) (by omega) ?_
                                      refine hv_ifN_ne (tgt := 287) C dL_areWays_280 (by decide) (by omega) (fun h50 => ?_) (fun h50 => ?_)
                                      · skip
                                        refine hv_iconst (v := nI 0) C dL_areWays_287 (by decide) ?_
                                        exact k47 _ (b2_f (fun z => z.elim (fun z => h49 ((e_ge0 _ (by omega)).mpr z)) (fun z => h50 z))).symm
                                      · skip
                                        refine hv_iconst (v := nI 1) C dL_areWays_283 (by decide) ?_
                                        refine hv_goto (tgt := 288) C dL_areWays_284 (by decide) ?_
                                        exact k47 _ (b2_t (Or.inr h50)).symm
                                · intro k46
                                  refine hv_aload_n C dL_areWays_256 rfl 2 rfl ?_
                                  refine hv_iload C dL_areWays_257 7 rfl ?_
                                  refine hl_ald (k := 3) (i := i) (x := (nI (A 11 i) + (-1))) C hS17 hq (by decide) (show i < 64 by omega) (Fn_3 F A hi) dL_areWays_259 ?_
                                  refine hv_if_lt (tgt := 267) C dL_areWays_260 (by decide) (fun h51 => ?_) (fun h51 => ?_)
                                  · skip
                                    refine hv_iconst (v := nI 0) C dL_areWays_267 (by decide) ?_
                                    exact k46 _ (b2_f (fun z => z ((e_lt0 _ (by omega)).mp h51))).symm
                                  · skip
                                    refine hv_iconst (v := nI 1) C dL_areWays_263 (by decide) ?_
                                    refine hv_goto (tgt := 268) C dL_areWays_264 (by decide) ?_
                                    exact k46 _ (b2_t (show A 11 i ≠ 0 from fun z => h51 ((e_lt0 _ (by omega)).mpr z))).symm
                              · skip
                                refine hv_aload_n C dL_areWays_241 rfl 2 rfl ?_
                                refine hv_iload C dL_areWays_242 7 rfl ?_
                                refine hl_ald (k := 3) (i := i) (x := (nI (A 11 i) + (-1))) C hS17 hq (by decide) (show i < 64 by omega) (Fn_3 F A hi) dL_areWays_244 ?_
                                refine hv_if_ne (tgt := 295) C dL_areWays_245 (by decide) (fun h52 => ?_) (fun h52 => ?_)
                                · skip
                                  exact absurd (by rw [(tb_dg hJ hi h45).1]; decide) h52
                                · skip
                                  refine hv_aload_n C dL_areWays_248 rfl 3 rfl ?_
                                  refine hv_iload C dL_areWays_249 7 rfl ?_
                                  refine hl_ald (k := 4) (i := i) (x := (nI (A 12 i) + (-1))) C hS17 hq (by decide) (show i < 64 by omega) (Fn_4 F A hi) dL_areWays_251 ?_
                                  refine hv_iconst (v := nI 0 + (-1)) C dL_areWays_252 (by decide) ?_
                                  refine hv_icmpE_ne (tgt := 295) C dL_areWays_253 (by decide) (by omega) (by omega) (fun h53 => ?_) (fun h53 => ?_)
                                  · skip
                                    exact absurd (tb_dg hJ hi h45).2 h53
                                  · skip
                                    refine hv_join (α := Nat) (pcJ := 268) (fun _ => Y16) (fun _ => [(0, .ref (o)), (1, .ref (q 0)), (2, .ref (q 3)), (3, .ref (q 4)), (4, .int (nI (b2 (f_chg A 64 = 0)))), (5, .int (nI ((f_loops A i) + (b2 (f_walk A (i % 8) 8 (i / 8) = true))))), (6, .int (nI 1)), (7, .int (nI i)), (9, .int (nI t)), (10, .int (nI (b2 (f_walk A (i % 8) 8 (i / 8) = true)))), (11, .int (nI (s_ch A (i / 8) (i % 8)) + (-1)))]) (fun t9 => .int (nI t9) :: []) (fun t9 => t9 = b2 (A 11 i ≠ 0)) ?_ ?_
                                    · rintro _ rfl
                                      refine hv_join (α := Nat) (pcJ := 288) (fun _ => Y16) (fun _ => [(0, .ref (o)), (1, .ref (q 0)), (2, .ref (q 3)), (3, .ref (q 4)), (4, .int (nI (b2 (f_chg A 64 = 0)))), (5, .int (nI ((f_loops A i) + (b2 (f_walk A (i % 8) 8 (i / 8) = true))))), (6, .int (nI 1)), (7, .int (nI i)), (9, .int (nI t)), (10, .int (nI (b2 (f_walk A (i % 8) 8 (i / 8) = true)))), (11, .int (nI (s_ch A (i / 8) (i % 8)) + (-1)))]) (fun t9 => .int (nI t9) :: [.int (nI (b2 (A 11 i ≠ 0)))]) (fun t9 => t9 = b2 (A 12 i ≠ 0 ∨ i % 9 = 0)) ?_ ?_
                                      · rintro _ rfl
                                        refine hv_icmp_ne (tgt := 295) C dL_areWays_288 (by decide) (fun h56 => ?_) (fun h56 => ?_)
                                        · skip
                                          exact absurd (congrArg nI (b2_iff (tb_iff hJ hi))) h56
                                        · skip
                                          refine hv_iconst (v := nI 1) C dL_areWays_291 (by decide) ?_
                                          refine hv_goto (tgt := 296) C dL_areWays_292 (by decide) ?_
                                          refine hv_istore (lv1 := [(0, .ref (o)), (1, .ref (q 0)), (2, .ref (q 3)), (3, .ref (q 4)), (4, .int (nI (b2 (f_chg A 64 = 0)))), (5, .int (nI ((f_loops A i) + (b2 (f_walk A (i % 8) 8 (i / 8) = true))))), (6, .int (nI 1)), (7, .int (nI i)), (9, .int (nI t)), (10, .int (nI (b2 (f_walk A (i % 8) 8 (i / 8) = true)))), (11, .int (nI (s_ch A (i / 8) (i % 8)) + (-1)))]) C dL_areWays_296 (by decide) [1, 2, 3, 4, 5, 6, 0, 7, 8, 9, 10] rfl ?_
                                          refine hv_iinc (v := nI (i + 1)) (lv1 := [(0, .ref (o)), (1, .ref (q 0)), (2, .ref (q 3)), (3, .ref (q 4)), (4, .int (nI (b2 (f_chg A 64 = 0)))), (5, .int (nI ((f_loops A i) + (b2 (f_walk A (i % 8) 8 (i / 8) = true))))), (6, .int (nI 1)), (7, .int (nI (i + 1))), (9, .int (nI t)), (10, .int (nI (b2 (f_walk A (i % 8) 8 (i / 8) = true)))), (11, .int (nI (s_ch A (i / 8) (i % 8)) + (-1)))]) C dL_areWays_298 (k := 7) rfl (nI_1 _) (by decide) [1, 2, 3, 4, 5, 6, 7, 0, 8, 9, 10] rfl ?_
                                          refine hv_goto (tgt := 21) C dL_areWays_301 (by decide) ?_
                                          exact hv_sub (lv1 := [(0, .ref (o)), (1, .ref (q 0)), (2, .ref (q 3)), (3, .ref (q 4)), (4, .int (nI (b2 (f_chg A 64 = 0)))), (5, .int (nI (f_loops A (i + 1)))), (6, .int (nI 1)), (7, .int (nI (i + 1)))]) [0, 1, 2, 3, 4, 5, 6, 7] rfl (ih _ hS17)
                                      · intro k55
                                        refine hv_aload_n C dL_areWays_268 rfl 3 rfl ?_
                                        refine hv_iload C dL_areWays_269 7 rfl ?_
                                        refine hl_ald (k := 4) (i := i) (x := (nI (A 12 i) + (-1))) C hS17 hq (by decide) (show i < 64 by omega) (Fn_4 F A hi) dL_areWays_271 ?_
                                        refine hv_if_ge (tgt := 283) C dL_areWays_272 (by decide) (fun h57 => ?_) (fun h57 => ?_)
                                        · skip
                                          refine hv_iconst (v := nI 1) C dL_areWays_283 (by decide) ?_
                                          refine hv_goto (tgt := 288) C dL_areWays_284 (by decide) ?_
                                          exact k55 _ (b2_t (Or.inl ((e_ge0 _ (by omega)).mp h57))).symm
                                        · skip
                                          refine hv_iload C dL_areWays_275 7 rfl ?_
                                          refine hv_bipush (v := nI 9) C dL_areWays_277 (by decide) ?_
                                          refine hv_iremN C dL_areWays_279 (by omega) (by omega) (by omega) ?_
                                          refine hv_ifN_ne (tgt := 287) C dL_areWays_280 (by decide) (by omega) (fun h58 => ?_) (fun h58 => ?_)
                                          · skip
                                            refine hv_iconst (v := nI 0) C dL_areWays_287 (by decide) ?_
                                            exact k55 _ (b2_f (fun z => z.elim (fun z => h57 ((e_ge0 _ (by omega)).mpr z)) (fun z => h58 z))).symm
                                          · skip
                                            refine hv_iconst (v := nI 1) C dL_areWays_283 (by decide) ?_
                                            refine hv_goto (tgt := 288) C dL_areWays_284 (by decide) ?_
                                            exact k55 _ (b2_t (Or.inr h58)).symm
                                    · intro k54
                                      refine hv_aload_n C dL_areWays_256 rfl 2 rfl ?_
                                      refine hv_iload C dL_areWays_257 7 rfl ?_
                                      refine hl_ald (k := 3) (i := i) (x := (nI (A 11 i) + (-1))) C hS17 hq (by decide) (show i < 64 by omega) (Fn_3 F A hi) dL_areWays_259 ?_
                                      refine hv_if_lt (tgt := 267) C dL_areWays_260 (by decide) (fun h59 => ?_) (fun h59 => ?_)
                                      · skip
                                        refine hv_iconst (v := nI 0) C dL_areWays_267 (by decide) ?_
                                        exact k54 _ (b2_f (fun z => z ((e_lt0 _ (by omega)).mp h59))).symm
                                      · skip
                                        refine hv_iconst (v := nI 1) C dL_areWays_263 (by decide) ?_
                                        refine hv_goto (tgt := 268) C dL_areWays_264 (by decide) ?_
                                        exact k54 _ (b2_t (show A 11 i ≠ 0 from fun z => h59 ((e_lt0 _ (by omega)).mpr z))).symm
                    · intro k25
                      refine hv_iload C dL_areWays_193 7 rfl ?_
                      refine hv_bipush (v := nI 8) C dL_areWays_195 (by decide) ?_
                      refine hv_idivN C dL_areWays_197 (by omega) (by omega) (by omega) ?_
                      refine hv_iload C dL_areWays_198 7 rfl ?_
                      refine hv_bipush (v := nI 8) C dL_areWays_200 (by decide) ?_
                      refine hv_iremN C dL_areWays_202 (by omega) (by omega) (by omega) ?_
                      refine hv_icmpN_ne (tgt := 210) C dL_areWays_203 (by decide) (by omega) (by omega) (fun h60 => ?_) (fun h60 => ?_)
                      · skip
                        refine hv_iconst (v := nI 0) C dL_areWays_210 (by decide) ?_
                        exact k25 _ (b2_f h60).symm
                      · skip
                        refine hv_iconst (v := nI 1) C dL_areWays_206 (by decide) ?_
                        refine hv_goto (tgt := 211) C dL_areWays_207 (by decide) ?_
                        exact k25 _ (b2_t h60).symm
                  · intro k24
                    refine hv_iload C dL_areWays_183 10 rfl ?_
                    refine hv_if_ne (tgt := 192) C dL_areWays_185 (by decide) (fun h61 => ?_) (fun h61 => ?_)
                    · skip
                      refine hv_iconst (v := nI 0) C dL_areWays_192 (by decide) ?_
                      exact k24 _ (b2_f (fun z => h61 ((e_eq0 _ (by omega)).mpr z))).symm
                    · skip
                      refine hv_iconst (v := nI 1) C dL_areWays_188 (by decide) ?_
                      refine hv_goto (tgt := 193) C dL_areWays_189 (by decide) ?_
                      exact k24 _ (b2_t ((e_eq0 _ (by omega)).mp h61)).symm
          · intro k19
            refine hv_iload C dL_areWays_138 9 rfl ?_
            refine hv_ifb_eq (tgt := 147) C dL_areWays_140 (by decide) (fun h62 => ?_) (fun h62 => ?_)
            · skip
              refine hv_iconst (v := nI 0) C dL_areWays_147 (by decide) ?_
              exact k19 _ (b2_f h62).symm
            · skip
              refine hv_iconst (v := nI 1) C dL_areWays_143 (by decide) ?_
              refine hv_goto (tgt := 148) C dL_areWays_144 (by decide) ?_
              exact k19 _ (b2_t h62).symm
        · intro k14
          refine hv_iload C dL_areWays_106 8 rfl ?_
          refine hv_bipush (v := nI 9) C dL_areWays_108 (by decide) ?_
          refine hv_icmpN_ne (tgt := 117) C dL_areWays_110 (by decide) (by omega) (by omega) (fun h63 => ?_) (fun h63 => ?_)
          · skip
            refine hv_iconst (v := nI 0) C dL_areWays_117 (by decide) ?_
            exact k14 _ (b2_f (fun z => h63 (hw9.mpr z))).symm
          · skip
            refine hv_iconst (v := nI 1) C dL_areWays_113 (by decide) ?_
            refine hv_goto (tgt := 118) C dL_areWays_114 (by decide) ?_
            exact k14 _ (b2_t (hw9.mp h63)).symm
      · intro k9
        have h89 : f_walk A (i % 8) 9 (i / 8) = f_walk A (i % 8) 8 (i / 8) := fw_st hI ho8 (by decide) hb8
        refine hv_loopP (σ := Nat) 9 (fun _ _ => Y8) (fun s9 v => [(0, .ref (o)), (1, .ref (q 0)), (2, .ref (q 3)), (3, .ref (q 4)), (4, .int (nI (b2 (f_chg A 64 = 0)))), (5, .int (nI (f_loops A i))), (6, .int (nI 1)), (7, .int (nI i)), (8, .int (nI v)), (9, .int (nI s9))]) (fun s9 v => wk_I A (i % 8) (i / 8) s9 v) ?_ ?_ (i / 8) ⟨hb8, rfl, fun _ => rfl⟩
        · intro v hwk
          have hv8 := hwk.1
          have hT : f_walk A (i % 8) 8 (i / 8) = true := by rw [← h89, ← hwk.2.1]; rfl
          refine hv_iload C dL_areWays_43 8 rfl ?_
          refine hv_ifN_lt (tgt := 106) C dL_areWays_45 (by decide) (by omega) (fun h64 => ?_) (fun h64 => ?_)
          · skip
            exact (h64).elim
          · skip
            refine hv_iload C dL_areWays_48 8 rfl ?_
            refine hv_iload C dL_areWays_50 7 rfl ?_
            refine hv_bipush (v := nI 8) C dL_areWays_52 (by decide) ?_
            refine hv_iremN C dL_areWays_54 (by omega) (by omega) (by omega) ?_
            refine hv_icmpN_eq (tgt := 106) C dL_areWays_55 (by decide) (by omega) (by omega) (fun h65 => ?_) (fun h65 => ?_)
            · skip
              exact hv_sub (lv1 := [(0, .ref (o)), (1, .ref (q 0)), (2, .ref (q 3)), (3, .ref (q 4)), (4, .int (nI (b2 (f_chg A 64 = 0)))), (5, .int (nI (f_loops A i))), (6, .int (nI 1)), (7, .int (nI i)), (9, .int (nI 9))]) [0, 1, 2, 3, 4, 5, 6, 7, 9] rfl (k9 9 ⟨Nat.le_refl _, fun _ => hT, fun _ => rfl⟩)
            · skip
              refine hv_iload C dL_areWays_58 9 rfl ?_
              refine hv_bipush (v := nI 9) C dL_areWays_60 (by decide) ?_
              refine hv_icmpN_ge (tgt := 106) C dL_areWays_62 (by decide) (by omega) (by omega) (fun _ => ?_) (fun h => absurd h (by decide))
              exact hv_sub (lv1 := [(0, .ref (o)), (1, .ref (q 0)), (2, .ref (q 3)), (3, .ref (q 4)), (4, .int (nI (b2 (f_chg A 64 = 0)))), (5, .int (nI (f_loops A i))), (6, .int (nI 1)), (7, .int (nI i)), (9, .int (nI 9))]) [0, 1, 2, 3, 4, 5, 6, 7, 9] rfl (k9 9 ⟨Nat.le_refl _, fun _ => hT, fun _ => rfl⟩)
        · intro s9 v hs9 hwk ihw
          have hv8 := hwk.1
          have h12 := (hI.2.2.2.2.2.1 v (i % 8) hv8 ho8).2.1
          refine hv_iload C dL_areWays_43 8 rfl ?_
          refine hv_ifN_lt (tgt := 106) C dL_areWays_45 (by decide) (by omega) (fun h67 => ?_) (fun h67 => ?_)
          · skip
            exact (h67).elim
          · skip
            refine hv_iload C dL_areWays_48 8 rfl ?_
            refine hv_iload C dL_areWays_50 7 rfl ?_
            refine hv_bipush (v := nI 8) C dL_areWays_52 (by decide) ?_
            refine hv_iremN C dL_areWays_54 (by omega) (by omega) (by omega) ?_
            refine hv_icmpN_eq (tgt := 106) C dL_areWays_55 (by decide) (by omega) (by omega) (fun h68 => ?_) (fun h68 => ?_)
            · skip
              exact hv_sub (lv1 := [(0, .ref (o)), (1, .ref (q 0)), (2, .ref (q 3)), (3, .ref (q 4)), (4, .int (nI (b2 (f_chg A 64 = 0)))), (5, .int (nI (f_loops A i))), (6, .int (nI 1)), (7, .int (nI i)), (9, .int (nI s9))]) [0, 1, 2, 3, 4, 5, 6, 7, 9] rfl (k9 s9 ⟨by omega, fun z => by omega, fun z => by rw [← h89, wk_0 hwk hs9 (Or.inl h68)] at z; exact absurd z (by decide)⟩)
            · skip
              refine hv_iload C dL_areWays_58 9 rfl ?_
              refine hv_bipush (v := nI 9) C dL_areWays_60 (by decide) ?_
              refine hv_icmpN_ge (tgt := 106) C dL_areWays_62 (by decide) (by omega) (by omega) (fun h69 => ?_) (fun h69 => ?_)
              · skip
                exact absurd h69 (by omega)
              · skip
                refine hv_aload_n C dL_areWays_65 rfl 3 rfl ?_
                refine hv_bipush (v := nI 8) C dL_areWays_66 (by decide) ?_
                refine hv_iload C dL_areWays_68 8 rfl ?_
                refine hv_imulN C dL_areWays_70 ?_
                refine hv_iload C dL_areWays_71 7 rfl ?_
                refine hv_bipush (v := nI 8) C dL_areWays_73 (by decide) ?_
                refine hv_iremN C dL_areWays_75 (by omega) (by omega) (by omega) ?_
                refine hv_iaddN C dL_areWays_76 ?_
                refine hl_ald (k := 4) (i := (8 * v) + (i % 8)) (x := (nI (A 12 (8 * v + i % 8)) + (-1))) C hS8 hq (by decide) (show (8 * v) + (i % 8) < 64 by omega) (Fn_4 F A (by omega)) dL_areWays_77 ?_
                refine hv_istore (lv1 := [(0, .ref (o)), (1, .ref (q 0)), (2, .ref (q 3)), (3, .ref (q 4)), (4, .int (nI (b2 (f_chg A 64 = 0)))), (5, .int (nI (f_loops A i))), (6, .int (nI 1)), (7, .int (nI i)), (8, .int (nI v)), (9, .int (nI s9)), (10, .int (nI (A 12 (8 * v + i % 8)) + (-1)))]) C dL_areWays_78 (by decide) [1, 2, 3, 4, 5, 6, 7, 8, 9, 10, 0] rfl ?_
                refine hv_iload C dL_areWays_80 10 rfl ?_
                by_cases hc : A 12 (8 * v + i % 8) = 0
                · skip
                  refine hv_top (y := -1) (by rw [hc]; decide) ?_
                  refine hv_if_ge (tgt := 89) C dL_areWays_82 (by decide) (fun h => absurd h (by decide)) (fun _ => ?_)
                  refine hv_iconst (v := nI 0 + (-1)) C dL_areWays_85 (by decide) ?_
                  refine hv_goto (tgt := 98) C dL_areWays_86 (by decide) ?_
                  refine hv_istore (lv1 := [(0, .ref (o)), (1, .ref (q 0)), (2, .ref (q 3)), (3, .ref (q 4)), (4, .int (nI (b2 (f_chg A 64 = 0)))), (5, .int (nI (f_loops A i))), (6, .int (nI 1)), (7, .int (nI i)), (8, .int (nI (0) + (-1))), (9, .int (nI s9)), (10, .int (nI (A 12 (8 * v + i % 8)) + (-1)))]) C dL_areWays_98 (by decide) [1, 2, 3, 4, 5, 6, 7, 8, 0, 9, 10] rfl ?_
                  refine hv_iinc (v := nI (s9 + 1)) (lv1 := [(0, .ref (o)), (1, .ref (q 0)), (2, .ref (q 3)), (3, .ref (q 4)), (4, .int (nI (b2 (f_chg A 64 = 0)))), (5, .int (nI (f_loops A i))), (6, .int (nI 1)), (7, .int (nI i)), (8, .int (nI (0) + (-1))), (9, .int (nI (s9 + 1))), (10, .int (nI (A 12 (8 * v + i % 8)) + (-1)))]) C dL_areWays_100 (k := 9) rfl (nI_1 _) (by decide) [1, 2, 3, 4, 5, 6, 7, 8, 9, 0, 10] rfl ?_
                  refine hv_goto (tgt := 43) C dL_areWays_103 (by decide) ?_
                  refine hv_iload C dL_areWays_43 8 rfl ?_
                  refine hv_if_lt (tgt := 106) C dL_areWays_45 (by decide) (fun _ => ?_) (fun h => absurd (by decide) h)
                  exact hv_sub (lv1 := [(0, .ref (o)), (1, .ref (q 0)), (2, .ref (q 3)), (3, .ref (q 4)), (4, .int (nI (b2 (f_chg A 64 = 0)))), (5, .int (nI (f_loops A i))), (6, .int (nI 1)), (7, .int (nI i)), (9, .int (nI (s9 + 1)))]) [0, 1, 2, 3, 4, 5, 6, 7, 9] rfl (k9 (s9 + 1) ⟨by omega, fun z => by exfalso; have h8 := hwk.2.2 (by omega); rw [show 8 - s9 = 0 by omega, ← h89, wk_0 hwk hs9 (Or.inr hc)] at h8; exact absurd (show true = false from h8) (by decide), fun z => by rw [← h89, wk_0 hwk hs9 (Or.inr hc)] at z; exact absurd z (by decide)⟩)
                · skip
                  have hbl := fb_lt hI hv8 ho8 hc
                  obtain ⟨cd0, cd1, cd2, cd3, cd4, cd5⟩ := code_p hI hbl.1
                  have i4 := hI.2.2.2.1
                  refine hv_top (y := nI (A 12 (8 * v + i % 8) - 1)) (nI_em (by omega)) ?_
                  refine hv_ifN_ge (tgt := 89) C dL_areWays_82 (by decide) (by omega) (fun _ => ?_) (fun h => h.elim)
                  refine hv_aload_n C dL_areWays_89 rfl 1 rfl ?_
                  refine hv_iload C dL_areWays_90 10 rfl ?_
                  refine hv_top (y := nI (A 12 (8 * v + i % 8) - 1)) (nI_em (by omega)) ?_
                  refine hl_ald (k := 0) (i := A 12 (8 * v + i % 8) - 1) (x := (nI (f_code A (A 12 (8 * v + i % 8) - 1)))) C hS8 hq (by decide) (show A 12 (8 * v + i % 8) - 1 < 14 by omega) (by rw [Fn_k F A (by decide) (by decide)]; exact hG _ hbl.1) dL_areWays_92 ?_
                  refine hv_iload C dL_areWays_93 8 rfl ?_
                  refine hv_callSr (As := [.int (nI (f_code A (A 12 (8 * v + i % 8) - 1))), .int (nI v)]) (rest := []) (n := 2) C (c_L_beyond l w Y8 (f_code A (A 12 (8 * v + i % 8) - 1)) v (by omega) hv8) gL_areWays_L_beyond rfl (by decide +kernel) ⟨(Nat.le_of_ble_eq_true rfl), (Nat.le_of_ble_eq_true rfl)⟩ rfl rfl (Nat.le_of_ble_eq_true rfl) dL_areWays_95 ⟨by first | exact Nat.le_of_ble_eq_true rfl | omega | (simp; done) | (simp; omega), by first | exact Nat.le_of_ble_eq_true rfl | omega | (simp; done) | (simp; omega)⟩ (fun r70 Y1 hr => ?_)
                  obtain ⟨rfl, hy9⟩ := hr; obtain rfl := hy9.symm
                  refine hv_top (y := nI (f_bey A (A 12 (8 * v + i % 8) - 1) v)) (by rw [cd1, cd2]; rfl) ?_
                  refine hv_istore (lv1 := [(0, .ref (o)), (1, .ref (q 0)), (2, .ref (q 3)), (3, .ref (q 4)), (4, .int (nI (b2 (f_chg A 64 = 0)))), (5, .int (nI (f_loops A i))), (6, .int (nI 1)), (7, .int (nI i)), (8, .int (nI (f_bey A (A 12 (8 * v + i % 8) - 1) v))), (9, .int (nI s9)), (10, .int (nI (A 12 (8 * v + i % 8)) + (-1)))]) C dL_areWays_98 (by decide) [1, 2, 3, 4, 5, 6, 7, 8, 0, 9, 10] rfl ?_
                  refine hv_iinc (v := nI (s9 + 1)) (lv1 := [(0, .ref (o)), (1, .ref (q 0)), (2, .ref (q 3)), (3, .ref (q 4)), (4, .int (nI (b2 (f_chg A 64 = 0)))), (5, .int (nI (f_loops A i))), (6, .int (nI 1)), (7, .int (nI i)), (8, .int (nI (f_bey A (A 12 (8 * v + i % 8) - 1) v))), (9, .int (nI (s9 + 1))), (10, .int (nI (A 12 (8 * v + i % 8)) + (-1)))]) C dL_areWays_100 (k := 9) rfl (nI_1 _) (by decide) [1, 2, 3, 4, 5, 6, 7, 8, 9, 0, 10] rfl ?_
                  refine hv_goto (tgt := 43) C dL_areWays_103 (by decide) ?_
                  exact hv_sub (lv1 := [(0, .ref (o)), (1, .ref (q 0)), (2, .ref (q 3)), (3, .ref (q 4)), (4, .int (nI (b2 (f_chg A 64 = 0)))), (5, .int (nI (f_loops A i))), (6, .int (nI 1)), (7, .int (nI i)), (8, .int (nI (f_bey A (A 12 (8 * v + i % 8) - 1) v))), (9, .int (nI (s9 + 1)))]) [0, 1, 2, 3, 4, 5, 6, 7, 8, 9] rfl (ihw _ (wk_s hwk hs9 h68 hc hbl.2))
