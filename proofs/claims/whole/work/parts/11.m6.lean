theorem fw_le {A : ab_A} {b : Nat} (hI : ab_I A) (hb : b < 8) : f_way A b ≤ 14 := by
  by_cases h : f_way A b = 0
  · omega
  · obtain ⟨z, c, t, hz, hc1, ht, m1, m6, z15, k40, hc, c4, k14, hr⟩ := fw_facts hI hb h
    omega
theorem f_send_0 {A : ab_A} {b : Nat} (h : f_way A b = 0) : f_send A b = A := if_pos h
theorem f_send_1 {A : ab_A} {b : Nat} (h : f_way A b ≠ 0) : f_send A b = f_pass A b (f_way A b - 1) := if_neg h
theorem f_sent_0 {T : ab_A} {k : Nat} (h : f_way (f_sends T k) k = 0) : f_sent T (k + 1) = f_sent T k := by
  show f_sent T k + b2 (f_way (f_sends T k) k ≠ 0) = _
  rw [b2_f (fun q => q h)]
  rfl
theorem f_sent_1 {T : ab_A} {k : Nat} (h : f_way (f_sends T k) k ≠ 0) : f_sent T (k + 1) = f_sent T k + 1 := by
  show f_sent T k + b2 (f_way (f_sends T k) k ≠ 0) = _
  rw [b2_t h]
/-! whether a way ends -/
def f_g (A : ab_A) (o x : Nat) : Nat := if A 12 (8 * x + o) = 0 then o else f_bey A (A 12 (8 * x + o) - 1) x
def f_xs (A : ab_A) (o b : Nat) : Nat → Nat
  | 0 => b
  | k + 1 => f_g A o (f_xs A o b k)
def f_pc (s : Nat) : Nat := s % 2 + s / 2 % 2 + s / 4 % 2 + s / 8 % 2 + s / 16 % 2 + s / 32 % 2 + s / 64 % 2 + s / 128 % 2
theorem f_pc_s : ∀ s, s < 256 → ∀ x, x < 8 → s / 2 ^ x % 2 = 0 → f_pc (s ||| 2 ^ x) = f_pc s + 1 := by decide +kernel
theorem f_pc_o : ∀ s, s < 256 → ∀ o, o < 8 → s / 2 ^ o % 2 = 0 → f_pc s ≤ 7 := by decide +kernel
theorem nb_bit : ∀ s, s < 256 → ∀ x, x < 8 → ∀ y, y < 8 → (s ||| 2 ^ x) / 2 ^ y % 2 = if y = x then 1 else s / 2 ^ y % 2 := by decide +kernel
def f_cI (A : ab_A) (o b i v s : Nat) : Prop := v = f_xs A o b i ∧ v < 8 ∧ s < 256 ∧ f_pc s = i ∧ s / 2 ^ o % 2 = 0 ∧ ∀ y, y < 8 → (s / 2 ^ y % 2 = 1 ↔ ∃ j, j < i ∧ f_xs A o b j = y)
theorem f_xs_s (A : ab_A) (o b k : Nat) : f_xs A o b (k + 1) = f_xs A o (f_g A o b) k := by
  induction k with
  | zero => rfl
  | succ k ih =>
    show f_g A o (f_xs A o b (k + 1)) = f_g A o (f_xs A o (f_g A o b) k)
    rw [ih]
theorem cw_iff (A : ab_A) (o n b : Nat) : f_walk A o n b = true ↔ ∀ k, k < n → f_xs A o b k ≠ o ∧ A 12 (8 * f_xs A o b k + o) ≠ 0 := by
  induction n generalizing b with
  | zero => exact ⟨fun _ k h => absurd h (Nat.not_lt_zero k), fun _ => rfl⟩
  | succ n ih =>
    have e : f_walk A o (n + 1) b = if b = o then false else if A 12 (8 * b + o) = 0 then false else f_walk A o n (f_bey A (A 12 (8 * b + o) - 1) b) := rfl
    rw [e]
    by_cases h1 : b = o
    · rw [if_pos h1]
      exact ⟨fun h => absurd h (by decide), fun h => absurd h1 (h 0 (Nat.zero_lt_succ n)).1⟩
    · rw [if_neg h1]
      by_cases h2 : A 12 (8 * b + o) = 0
      · rw [if_pos h2]
        exact ⟨fun h => absurd h (by decide), fun h => absurd h2 (h 0 (Nat.zero_lt_succ n)).2⟩
      · rw [if_neg h2, ih]
        have eg : f_bey A (A 12 (8 * b + o) - 1) b = f_g A o b := (if_neg h2).symm
        rw [eg]
        constructor
        · intro h k hk
          rcases k with _ | k
          · exact ⟨h1, h2⟩
          · rw [f_xs_s]
            exact h k (by omega)
        · intro h k hk
          have := h (k + 1) (by omega)
          rw [f_xs_s] at this
          exact this
theorem ci_0 (A : ab_A) (o : Nat) {b : Nat} (hb : b < 8) : f_cI A o b 0 b 0 := by
  refine ⟨rfl, hb, by decide, rfl, by rw [Nat.zero_div], ?_⟩
  intro y _
  rw [Nat.zero_div]
  exact ⟨fun h => absurd h (by decide), fun ⟨j, h, _⟩ => absurd h (Nat.not_lt_zero j)⟩
theorem ci_o {A : ab_A} {o b i v s : Nat} (ho : o < 8) (h : f_cI A o b i v s) (hv : v = o) : ¬ (f_walk A o 8 b = true) := by
  obtain ⟨h1, h2, h3, h4, h5, h6⟩ := h
  have := f_pc_o s h3 o ho h5
  rw [cw_iff]
  intro q
  exact (q i (by omega)).1 (by rw [← h1, hv])
theorem ci_s {A : ab_A} {o b i v s : Nat} (ho : o < 8) (h : f_cI A o b i v s) (hs : s / 2 ^ v % 2 = 1) : f_walk A o 8 b = true := by
  obtain ⟨h1, h2, h3, h4, h5, h6⟩ := h
  obtain ⟨j0, hj0, he⟩ := (h6 v h2).mp hs
  have hno : ∀ j, j < i → f_xs A o b j ≠ o := by
    intro j hj q
    have := (h6 o ho).mpr ⟨j, hj, q⟩
    omega
  have hall : ∀ j, ∃ k, k < i ∧ f_xs A o b j = f_xs A o b k := by
    intro j
    induction j with
    | zero => exact ⟨0, by omega, rfl⟩
    | succ j ih =>
      obtain ⟨k, hk, e⟩ := ih
      have e1 : f_xs A o b (j + 1) = f_xs A o b (k + 1) := by
        show f_g A o (f_xs A o b j) = f_g A o (f_xs A o b k)
        rw [e]
      by_cases hk1 : k + 1 < i
      · exact ⟨k + 1, hk1, e1⟩
      · refine ⟨j0, hj0, ?_⟩
        rw [e1, show k + 1 = i by omega, ← h1, he]
  have hne : ∀ j, f_xs A o b j ≠ o := by
    intro j
    obtain ⟨k, hk, e⟩ := hall j
    rw [e]
    exact hno k hk
  rw [cw_iff]
  intro k _
  refine ⟨hne k, fun q => hne (k + 1) ?_⟩
  exact if_pos q
theorem ci_n {A : ab_A} {o b i v s : Nat} (ho : o < 8) (hI : ab_I A) (h : f_cI A o b i v s) (hv : v ≠ o) (hs : s / 2 ^ v % 2 ≠ 1) : f_cI A o b (i + 1) (f_g A o v) (s ||| 2 ^ v) := by
  obtain ⟨h1, h2, h3, h4, h5, h6⟩ := h
  have hp := two_pow8 h2
  have hs0 : s / 2 ^ v % 2 = 0 := by omega
  refine ⟨?_, ?_, Nat.or_lt_two_pow (n := 8) h3 hp, ?_, ?_, ?_⟩
  · rw [h1]; rfl
  · unfold f_g
    split
    · exact ho
    · rename_i q
      obtain ⟨-, a2, -⟩ := hI.2.2.2.2.2.1 v o h2 ho
      obtain ⟨g1, g2, -⟩ := hI.2.2.2.2.1 (A 12 (8 * v + o) - 1) (by omega)
      exact f_bey_lt g1 g2
  · rw [f_pc_s s h3 v h2 hs0, h4]
  · rw [nb_bit s h3 v h2 o ho, if_neg (Ne.symm hv)]
    exact h5
  · intro y hy
    rw [nb_bit s h3 v h2 y hy]
    by_cases q : y = v
    · rw [if_pos q]
      exact ⟨fun _ => ⟨i, Nat.lt_succ_self i, by rw [← h1, q]⟩, fun _ => rfl⟩
    · rw [if_neg q, h6 y hy]
      constructor
      · rintro ⟨j, hj, e⟩
        exact ⟨j, by omega, e⟩
      · rintro ⟨j, hj, e⟩
        by_cases hji : j = i
        · subst hji
          exact absurd (e.symm.trans h1.symm) q
        · exact ⟨j, by omega, e⟩
theorem ci_8 {A : ab_A} {o b v s : Nat} (ho : o < 8) (h : f_cI A o b 8 v s) : False := by
  obtain ⟨h1, h2, h3, h4, h5, h6⟩ := h
  have := f_pc_o s h3 o ho h5
  omega
set_option maxRecDepth 100000 in
set_option maxHeartbeats 4000000 in
theorem c_X5_move (l : Launch) (w : hv_W) (g : md_g) (hg : md_ok g) (A : ab_A) (th : Nat) (Y0 : hv_H) (x : Int32) (hI : ab_I A) : hv_Mr l yX5_move wsX5_move ({ frames := 2, cells := 0, slots := 0, locals := 48 }) w [.ref (g.1), .int (x)] (md_Y w g A th Y0) (fun r Y1 => md_P w g Y0 (q_move A x) r Y1) := by
  refine hv_ofV (cc := cX5_move) (own := RX5) (by decide) rfl rfl (Nat.le_of_ble_eq_true rfl) rfl ?_
  intro p e s m below meth c C hret _
  have hin : ∀ x ∈ wsX50, x ∈ wsX5_move := by decide +kernel
  rcases hx : rg 1 50 x with _ | t
  · skip
    refine hv_aload_n C dX5_move_0 rfl 0 rfl ?_
    refine hv_iload_n C dX5_move_1 rfl 1 rfl ?_
    refine hv_iconst (v := nI 1) C dX5_move_2 (by decide) ?_
    refine hv_bipush (v := nI 50) C dX5_move_3 (by decide) ?_
    refine hv_callSr (As := [.int (x), .int (nI 1), .int (nI 50)]) (rest := [.ref (g.1)]) (n := 3) C (c_X5_isIn l w _ ((x)) ((nI 1)) ((nI 50))) gX5_move_X5_isIn rfl (by decide +kernel) ⟨Nat.le_of_ble_eq_true rfl, Nat.le_of_ble_eq_true rfl⟩ rfl rfl (Nat.le_of_ble_eq_true rfl) dX5_move_5 ⟨by first | exact Nat.le_of_ble_eq_true rfl | omega, by first | exact Nat.le_of_ble_eq_true rfl | omega⟩ (fun r1 Y1 hr => ?_)
    obtain ⟨rfl, rfl⟩ := hr
    refine hv_ifb_ne (tgt := 15) C dX5_move_8 (by decide) (fun h => absurd h (rg_n hx)) (fun _ => ?_)
    refine hv_iconst (v := nI 1) C dX5_move_11 (by decide) ?_
    refine hv_goto (tgt := 32) C dX5_move_12 (by decide) ?_
    refine hv_callVr (As := [.int (nI 1)]) (rest := []) (n := 1) C (c_X5_can l w g hg A th Y0 1 (by omega)) gX5_move_X5_can rfl (by decide +kernel) ⟨Nat.le_of_ble_eq_true rfl, Nat.le_of_ble_eq_true rfl⟩ (hv_rcO md_o rfl) rfl rfl (Nat.le_of_ble_eq_true rfl) dX5_move_32 ⟨by first | exact Nat.le_of_ble_eq_true rfl | omega, by first | exact Nat.le_of_ble_eq_true rfl | omega⟩ (fun r3 Y1 hr => ?_)
    obtain ⟨rfl, rfl⟩ := hr
    refine hv_ifb_ne (tgt := 40) C dX5_move_35 (by decide) (fun h => absurd h (by decide)) (fun _ => ?_)
    refine hv_iconst (v := nI 0) C dX5_move_38 (by decide) ?_
    exact hv_iret C hret dX5_move_39 (by first | exact Nat.le_refl _ | decide) (by first | exact Nat.le_refl _ | decide) ⟨by first | (simp [q_move, hx, md_ans]; done) | (simp only [q_move, hx]; rw [if_pos (by omega)]; rfl) | (simp only [q_move, hx]; rw [if_neg (by omega)]; rfl), by first | (simp [q_move, hx]; done) | (simp only [q_move, hx]; rw [if_pos (by omega)]) | (simp only [q_move, hx]; rw [if_neg (by omega)])⟩
  · skip
    obtain ⟨ht, ht2, rfl⟩ := rg_s (by decide) (by decide) hx
    have h2000 := hI.2.2.2.2.2.2.2.1
    refine hv_aload_n C dX5_move_0 rfl 0 rfl ?_
    refine hv_iload_n C dX5_move_1 rfl 1 rfl ?_
    refine hv_iconst (v := nI 1) C dX5_move_2 (by decide) ?_
    refine hv_bipush (v := nI 50) C dX5_move_3 (by decide) ?_
    refine hv_callSr (As := [.int (nI t), .int (nI 1), .int (nI 50)]) (rest := [.ref (g.1)]) (n := 3) C (c_X5_isIn l w _ ((nI t)) ((nI 1)) ((nI 50))) gX5_move_X5_isIn rfl (by decide +kernel) ⟨Nat.le_of_ble_eq_true rfl, Nat.le_of_ble_eq_true rfl⟩ rfl rfl (Nat.le_of_ble_eq_true rfl) dX5_move_5 ⟨by first | exact Nat.le_of_ble_eq_true rfl | omega, by first | exact Nat.le_of_ble_eq_true rfl | omega⟩ (fun r5 Y1 hr => ?_)
    obtain ⟨rfl, rfl⟩ := hr
    refine hv_ifb_ne (tgt := 15) C dX5_move_8 (by decide) (fun _ => ?_) (fun h => absurd (rg_c ht ht2 (by decide)) h)
    refine hv_aload_n C dX5_move_15 rfl 0 rfl ?_
    refine hm_get (k := 16) (v := .int (nI (A 16 0))) C hin (by decide) (by decide +kernel) rfl rfl dX5_move_16 ?_
    refine hv_iload_n C dX5_move_19 rfl 1 rfl ?_
    refine hv_iaddN C dX5_move_20 ?_
    refine hv_sipush (v := nI 2000) C dX5_move_21 (by decide) ?_
    refine hv_icmpN_le (tgt := 31) C dX5_move_24 (by decide) (by omega) (by omega) (fun h7 => ?_) (fun h7 => ?_)
    · skip
      refine hv_iconst (v := nI 0) C dX5_move_31 (by decide) ?_
      refine hv_callVr (As := [.int (nI 0)]) (rest := []) (n := 1) C (c_X5_can l w g hg A th Y0 0 (by omega)) gX5_move_X5_can rfl (by decide +kernel) ⟨Nat.le_of_ble_eq_true rfl, Nat.le_of_ble_eq_true rfl⟩ (hv_rcO md_o rfl) rfl rfl (Nat.le_of_ble_eq_true rfl) dX5_move_32 ⟨by first | exact Nat.le_of_ble_eq_true rfl | omega, by first | exact Nat.le_of_ble_eq_true rfl | omega⟩ (fun r8 Y1 hr => ?_)
      obtain ⟨rfl, rfl⟩ := hr
      refine hv_ifb_ne (tgt := 40) C dX5_move_35 (by decide) (fun _ => ?_) (fun h => absurd rfl h)
      refine hv_iconst (v := nI 0) C dX5_move_40 (by decide) ?_
      refine hv_istore_n (lv1 := [(0, .ref (g.1)), (1, .int (nI t)), (2, .int (nI 0))]) C dX5_move_41 rfl (by decide) [1, 2, 0] rfl ?_
      refine hv_iconst (v := nI 0) C dX5_move_42 (by decide) ?_
      refine hv_istore_n (lv1 := [(0, .ref (g.1)), (1, .int (nI t)), (2, .int (nI 0)), (3, .int (nI 0))]) C dX5_move_43 rfl (by decide) [1, 2, 3, 0] rfl ?_
      refine hv_loop t (fun i => md_Y w g (f_moves A i) 0 Y0) (fun i => [(0, .ref (g.1)), (1, .int (nI t)), (2, .int (nI (f_moved A i))), (3, .int (nI i))]) ?_ ?_
      · skip
        refine hv_iload_n C dX5_move_44 rfl 3 rfl ?_
        refine hv_iload_n C dX5_move_45 rfl 1 rfl ?_
        refine hv_icmpN_ge (tgt := 106) C dX5_move_46 (by decide) (by omega) (by omega) (fun h10 => ?_) (fun h10 => ?_)
        · skip
          refine hv_iload_n C dX5_move_106 rfl 2 rfl ?_
          exact hv_iret C hret dX5_move_107 (by first | exact Nat.le_refl _ | decide) (by first | exact Nat.le_refl _ | decide) ⟨by first | (simp [q_move, hx, md_ans]; done) | (simp only [q_move, hx]; rw [if_pos (by omega)]; rfl) | (simp only [q_move, hx]; rw [if_neg (by omega)]; rfl), by first | (simp [q_move, hx]; done) | (simp only [q_move, hx]; rw [if_pos (by omega)]) | (simp only [q_move, hx]; rw [if_neg (by omega)])⟩
        · skip
          exact absurd h10 (by omega)
      · intro i hi ih
        have hIi := I_tk (I_moves (n := i) hI (by omega)) (by rw [f_moves_16]; omega)
        refine hv_iload_n C dX5_move_44 rfl 3 rfl ?_
        refine hv_iload_n C dX5_move_45 rfl 1 rfl ?_
        refine hv_icmpN_ge (tgt := 106) C dX5_move_46 (by decide) (by omega) (by omega) (fun h11 => ?_) (fun h11 => ?_)
        · skip
          exact absurd h11 (by omega)
        · skip
          refine hv_aload_n C dX5_move_49 rfl 0 rfl ?_
          refine hv_dup C dX5_move_50 rfl ?_
          refine hm_get (k := 16) (v := .int (nI ((f_moves A i) 16 0))) C hin (by decide) (by decide +kernel) rfl rfl dX5_move_51 ?_
          refine hv_iconst (v := nI 1) C dX5_move_54 (by decide) ?_
          refine hv_iaddN C dX5_move_55 ?_
          refine hm_put (k := 16) (n := ((f_moves A i) 16 0) + 1) C hg (by decide) rfl hin (by decide +kernel) rfl dX5_move_56 ?_
          refine hv_iconst (v := nI 0) C dX5_move_59 (by decide) ?_
          refine hv_istore (lv1 := [(0, .ref (g.1)), (1, .int (nI t)), (2, .int (nI (f_moved A i))), (3, .int (nI i)), (4, .int (nI 0))]) C dX5_move_60 (by decide) [1, 2, 3, 4, 0] rfl ?_
          refine hv_loop 8 (fun k => md_Y w g (f_sends (f_tk (f_moves A i)) k) 0 Y0) (fun k => [(0, .ref (g.1)), (1, .int (nI t)), (2, .int (nI (f_moved A i + f_sent (f_tk (f_moves A i)) k))), (3, .int (nI i)), (4, .int (nI k))]) ?_ ?_
          · skip
            refine hv_iload C dX5_move_62 4 rfl ?_
            refine hv_bipush (v := nI 8) C dX5_move_64 (by decide) ?_
            refine hv_icmpN_ge (tgt := 100) C dX5_move_66 (by decide) (by omega) (by omega) (fun _ => ?_) (fun h => absurd h (by decide))
            refine hv_iinc (v := nI (i + 1)) (lv1 := [(0, .ref (g.1)), (1, .int (nI t)), (2, .int (nI (f_moved A i + f_sent (f_tk (f_moves A i)) 8))), (3, .int (nI (i + 1))), (4, .int (nI 8))]) C dX5_move_100 (k := 3) rfl (nI_1 _) (by decide) [1, 2, 3, 0, 4] rfl ?_
            refine hv_goto (tgt := 44) C dX5_move_103 (by decide) ?_
            exact hv_sub (lv1 := [(0, .ref (g.1)), (1, .int (nI t)), (2, .int (nI (f_moved A i + f_sent (f_tk (f_moves A i)) 8))), (3, .int (nI (i + 1)))]) [0, 1, 2, 3] rfl ih
          · intro k hk ihk
            have hIk := I_sends hIi (n := k) (by omega)
            have hfl := fw_le hIk hk
            refine hv_iload C dX5_move_62 4 rfl ?_
            refine hv_bipush (v := nI 8) C dX5_move_64 (by decide) ?_
            refine hv_icmpN_ge (tgt := 100) C dX5_move_66 (by decide) (by omega) (by omega) (fun h13 => ?_) (fun h13 => ?_)
            · skip
              exact absurd h13 (by omega)
            · skip
              refine hv_aload_n C dX5_move_69 rfl 0 rfl ?_
              refine hv_iload C dX5_move_70 4 rfl ?_
              refine hv_callVr (As := [.int (nI k)]) (rest := []) (n := 1) C (c_X5_wayFrom l w g hg (f_sends (f_tk (f_moves A i)) k) 0 Y0 k hk hIk) gX5_move_X5_wayFrom rfl (by decide +kernel) ⟨Nat.le_of_ble_eq_true rfl, Nat.le_of_ble_eq_true rfl⟩ (hv_rcO md_o rfl) rfl rfl (Nat.le_of_ble_eq_true rfl) dX5_move_72 ⟨by first | exact Nat.le_of_ble_eq_true rfl | omega, by first | exact Nat.le_of_ble_eq_true rfl | omega⟩ (fun r14 Y1 hr => ?_)
              obtain ⟨rfl, rfl⟩ := hr
              refine hv_istore (lv1 := [(0, .ref (g.1)), (1, .int (nI t)), (2, .int (nI (f_moved A i + f_sent (f_tk (f_moves A i)) k))), (3, .int (nI i)), (4, .int (nI k)), (5, .int (nI (f_way (f_sends (f_tk (f_moves A i)) k) k) + (-1)))]) C dX5_move_75 (by decide) [1, 2, 3, 4, 5, 0] rfl ?_
              refine hv_iload C dX5_move_77 5 rfl ?_
              refine hv_iconst (v := nI 0 + (-1)) C dX5_move_79 (by decide) ?_
              refine hv_icmpE_eq (tgt := 94) C dX5_move_80 (by decide) (by omega) (by omega) (fun h15 => ?_) (fun h15 => ?_)
              · skip
                refine hv_iinc (v := nI (k + 1)) (lv1 := [(0, .ref (g.1)), (1, .int (nI t)), (2, .int (nI (f_moved A i + f_sent (f_tk (f_moves A i)) k))), (3, .int (nI i)), (4, .int (nI (k + 1))), (5, .int (nI (f_way (f_sends (f_tk (f_moves A i)) k) k) + (-1)))]) C dX5_move_94 (k := 4) rfl (nI_1 _) (by decide) [1, 2, 3, 4, 0, 5] rfl ?_
                refine hv_goto (tgt := 62) C dX5_move_97 (by decide) ?_
                exact hv_sub (lv1 := [(0, .ref (g.1)), (1, .int (nI t)), (2, .int (nI (f_moved A i + f_sent (f_tk (f_moves A i)) k))), (3, .int (nI i)), (4, .int (nI (k + 1)))]) [0, 1, 2, 3, 4] rfl (hv_fin ihk (md_eq (f_send_0 h15).symm) (by first | (rw [f_sent_0 h15]; done) | (rw [f_sent_0 h15]; rfl)))
              · skip
                refine hv_aload_n C dX5_move_83 rfl 0 rfl ?_
                refine hv_iload C dX5_move_84 4 rfl ?_
                refine hv_iload C dX5_move_86 5 rfl ?_
                refine hv_top (nI_em (by omega)) ?_
                refine hv_callVv (As := [.int (nI k), .int (nI ((f_way (f_sends (f_tk (f_moves A i)) k) k) - 1))]) (rest := []) (n := 2) C (c_X5_passes l w g hg (f_sends (f_tk (f_moves A i)) k) 0 Y0 k (f_way (f_sends (f_tk (f_moves A i)) k) k - 1) hk hIk (by omega)) gX5_move_X5_passes rfl (by decide +kernel) ⟨Nat.le_of_ble_eq_true rfl, Nat.le_of_ble_eq_true rfl⟩ (hv_rcO md_o rfl) rfl rfl (Nat.le_of_ble_eq_true rfl) dX5_move_88 ⟨by first | exact Nat.le_of_ble_eq_true rfl | omega, by first | exact Nat.le_of_ble_eq_true rfl | omega⟩ (fun Y1 hr => ?_)
                subst hr
                refine hv_iinc (v := nI (f_moved A i + f_sent (f_tk (f_moves A i)) k + 1)) (lv1 := [(0, .ref (g.1)), (1, .int (nI t)), (2, .int (nI (f_moved A i + f_sent (f_tk (f_moves A i)) k + 1))), (3, .int (nI i)), (4, .int (nI k)), (5, .int (nI (f_way (f_sends (f_tk (f_moves A i)) k) k) + (-1)))]) C dX5_move_91 (k := 2) rfl (nI_1 _) (by decide) [1, 2, 0, 3, 4, 5] rfl ?_
                refine hv_iinc (v := nI (k + 1)) (lv1 := [(0, .ref (g.1)), (1, .int (nI t)), (2, .int (nI (f_moved A i + f_sent (f_tk (f_moves A i)) k + 1))), (3, .int (nI i)), (4, .int (nI (k + 1))), (5, .int (nI (f_way (f_sends (f_tk (f_moves A i)) k) k) + (-1)))]) C dX5_move_94 (k := 4) rfl (nI_1 _) (by decide) [1, 2, 3, 4, 0, 5] rfl ?_
                refine hv_goto (tgt := 62) C dX5_move_97 (by decide) ?_
                exact hv_sub (lv1 := [(0, .ref (g.1)), (1, .int (nI t)), (2, .int (nI (f_moved A i + f_sent (f_tk (f_moves A i)) k + 1))), (3, .int (nI i)), (4, .int (nI (k + 1)))]) [0, 1, 2, 3, 4] rfl (hv_fin ihk (md_eq (f_send_1 h15).symm) (by first | (rw [f_sent_1 h15]; done) | (rw [f_sent_1 h15]; rfl)))
    · skip
      refine hv_iconst (v := nI 2) C dX5_move_27 (by decide) ?_
      refine hv_goto (tgt := 32) C dX5_move_28 (by decide) ?_
      refine hv_callVr (As := [.int (nI 2)]) (rest := []) (n := 1) C (c_X5_can l w g hg A th Y0 2 (by omega)) gX5_move_X5_can rfl (by decide +kernel) ⟨Nat.le_of_ble_eq_true rfl, Nat.le_of_ble_eq_true rfl⟩ (hv_rcO md_o rfl) rfl rfl (Nat.le_of_ble_eq_true rfl) dX5_move_32 ⟨by first | exact Nat.le_of_ble_eq_true rfl | omega, by first | exact Nat.le_of_ble_eq_true rfl | omega⟩ (fun r17 Y1 hr => ?_)
      obtain ⟨rfl, rfl⟩ := hr
      refine hv_ifb_ne (tgt := 40) C dX5_move_35 (by decide) (fun h => absurd h (by decide)) (fun _ => ?_)
      refine hv_iconst (v := nI 0) C dX5_move_38 (by decide) ?_
      exact hv_iret C hret dX5_move_39 (by first | exact Nat.le_refl _ | decide) (by first | exact Nat.le_refl _ | decide) ⟨by first | (simp [q_move, hx, md_ans]; done) | (simp only [q_move, hx]; rw [if_pos (by omega)]; rfl) | (simp only [q_move, hx]; rw [if_neg (by omega)]; rfl), by first | (simp [q_move, hx]; done) | (simp only [q_move, hx]; rw [if_pos (by omega)]) | (simp only [q_move, hx]; rw [if_neg (by omega)])⟩
set_option maxRecDepth 100000 in
set_option maxHeartbeats 4000000 in
theorem c_X5_circles (l : Launch) (w : hv_W) (g : md_g) (hg : md_ok g) (A : ab_A) (th : Nat) (Y0 : hv_H) (b o : Nat) (hb : b < 8) (ho : o < 8) (hI : ab_I A) : hv_Mr l yX5_circles wsX5_circles ({ frames := 1, cells := 0, slots := 0, locals := 22 }) w [.ref (g.1), .int (nI b), .int (nI o)] (md_Y w g A th Y0) (fun r Y1 => r = .int (nI (b2 (f_walk A o 8 b = true))) ∧ Y1 = md_Y w g A th Y0) := by
  refine hv_ofV (cc := cX5_circles) (own := RX5) (by decide) rfl rfl (Nat.le_of_ble_eq_true rfl) rfl ?_
  intro p e s m below meth c C hret _
  have hin : ∀ x ∈ wsX50, x ∈ wsX5_circles := by decide +kernel
  refine hv_iload_n C dX5_circles_0 rfl 1 rfl ?_
  refine hv_istore_n (lv1 := [(0, .ref (g.1)), (1, .int (nI b)), (2, .int (nI o)), (3, .int (nI b))]) C dX5_circles_1 rfl (by decide) [1, 2, 3, 0] rfl ?_
  refine hv_iconst (v := nI 0) C dX5_circles_2 (by decide) ?_
  refine hv_istore (lv1 := [(0, .ref (g.1)), (1, .int (nI b)), (2, .int (nI o)), (3, .int (nI b)), (4, .int (nI 0))]) C dX5_circles_3 (by decide) [1, 2, 3, 4, 0] rfl ?_
  refine hv_loopP (σ := Nat × Nat) 8 (fun _ _ => md_Y w g A th Y0) (fun _ z => [(0, .ref g.1), (1, .int (nI b)), (2, .int (nI o)), (3, .int (nI z.1)), (4, .int (nI z.2))]) (fun i z => f_cI A o b i z.1 z.2) (fun z hz => (ci_8 ho hz).elim) ?_ (b, 0) (ci_0 A o hb)
  rintro i ⟨v, sn⟩ hi hv ih
  dsimp only at hv ⊢
  obtain ⟨v8, s256, -⟩ := hv.2
  obtain ⟨-, a2, -⟩ := hI.2.2.2.2.2.1 v o v8 ho
  have a3 := hI.2.2.2.1
  refine hv_iload_n C dX5_circles_5 rfl 3 rfl ?_
  refine hv_iload_n C dX5_circles_6 rfl 2 rfl ?_
  refine hv_icmpN_eq (tgt := 61) C dX5_circles_7 (by decide) (by omega) (by omega) (fun h1 => ?_) (fun h1 => ?_)
  · skip
    refine hv_iload_n C dX5_circles_61 rfl 3 rfl ?_
    refine hv_iload_n C dX5_circles_62 rfl 2 rfl ?_
    refine hv_icmpN_eq (tgt := 70) C dX5_circles_63 (by decide) (by omega) (by omega) (fun h2 => ?_) (fun h2 => ?_)
    · skip
      refine hv_iconst (v := nI 0) C dX5_circles_70 (by decide) ?_
      exact hv_zret C hret (by decide) dX5_circles_71 (by first | exact Nat.le_refl _ | decide) (by first | exact Nat.le_refl _ | decide) ⟨by rw [b2_f (show ¬ (f_walk A o 8 b = true) from ci_o ho hv (by omega))], rfl⟩
    · skip
      exact absurd (by assumption) h2
  · skip
    refine hv_iload C dX5_circles_10 4 rfl ?_
    refine hv_iload_n C dX5_circles_12 rfl 3 rfl ?_
    refine hv_ishr C dX5_circles_13 ?_
    refine hv_top (nb_shr (by omega) (by omega)) ?_
    refine hv_iconst (v := nI 1) C dX5_circles_14 (by decide) ?_
    refine hv_iand C dX5_circles_15 ?_
    refine hv_top (nb_and1 (by have := Nat.div_le_self sn (2 ^ v); omega)) ?_
    refine hv_ifN_ne (tgt := 61) C dX5_circles_16 (by decide) (by omega) (fun h3 => ?_) (fun h3 => ?_)
    · skip
      refine hv_iload_n C dX5_circles_61 rfl 3 rfl ?_
      refine hv_iload_n C dX5_circles_62 rfl 2 rfl ?_
      refine hv_icmpN_eq (tgt := 70) C dX5_circles_63 (by decide) (by omega) (by omega) (fun h4 => ?_) (fun h4 => ?_)
      · skip
        exact absurd h4 (by assumption)
      · skip
        refine hv_iconst (v := nI 1) C dX5_circles_66 (by decide) ?_
        refine hv_goto (tgt := 71) C dX5_circles_67 (by decide) ?_
        exact hv_zret C hret (by decide) dX5_circles_71 (by first | exact Nat.le_refl _ | decide) (by first | exact Nat.le_refl _ | decide) ⟨by rw [b2_t (show f_walk A o 8 b = true from ci_s ho hv (by omega))], rfl⟩
    · skip
      refine hv_iload C dX5_circles_19 4 rfl ?_
      refine hv_iconst (v := nI 1) C dX5_circles_21 (by decide) ?_
      refine hv_iload_n C dX5_circles_22 rfl 3 rfl ?_
      refine hv_ishl C dX5_circles_23 ?_
      refine hv_top (nb_shl v (by omega)) ?_
      refine hv_ior C dX5_circles_24 ?_
      refine hv_top (nb_or _ _) ?_
      refine hv_istore (lv1 := [(0, .ref (g.1)), (1, .int (nI b)), (2, .int (nI o)), (3, .int (nI v)), (4, .int (nI (sn ||| (2 ^ v))))]) C dX5_circles_25 (by decide) [1, 2, 3, 4, 0] rfl ?_
      refine hv_aload_n C dX5_circles_27 rfl 0 rfl ?_
      refine hm_get (k := 12) (v := .ref (g.2.1 12)) C hin (by decide) (by decide +kernel) rfl rfl dX5_circles_28 ?_
      refine hv_bipush (v := nI 8) C dX5_circles_31 (by decide) ?_
      refine hv_iload_n C dX5_circles_33 rfl 3 rfl ?_
      refine hv_imulN C dX5_circles_34 ?_
      refine hv_iload_n C dX5_circles_35 rfl 2 rfl ?_
      refine hv_iaddN C dX5_circles_36 ?_
      refine hm_iald (k := 12) (n := (8 * v) + o) (x := (nI (A 12 ((8 * v) + o)) + (-1))) C hg (by decide) (by decide) (show (8 * v) + o < 64 from by omega) rfl dX5_circles_37 ?_
      refine hv_istore (lv1 := [(0, .ref (g.1)), (1, .int (nI b)), (2, .int (nI o)), (3, .int (nI v)), (4, .int (nI (sn ||| (2 ^ v)))), (5, .int (nI (A 12 ((8 * v) + o)) + (-1)))]) C dX5_circles_38 (by decide) [1, 2, 3, 4, 5, 0] rfl ?_
      refine hv_join (α := Nat) (pcJ := 57) (fun _ => md_Y w g A th Y0) (fun _ => [(0, .ref (g.1)), (1, .int (nI b)), (2, .int (nI o)), (3, .int (nI v)), (4, .int (nI (sn ||| (2 ^ v)))), (5, .int (nI (A 12 ((8 * v) + o)) + (-1)))]) (fun t9 => .int (nI t9) :: []) (fun t9 => t9 = f_g A o v) ?_ ?_
      · rintro _ rfl
        refine hv_istore_n (lv1 := [(0, .ref (g.1)), (1, .int (nI b)), (2, .int (nI o)), (3, .int (nI (f_g A o v))), (4, .int (nI (sn ||| (2 ^ v)))), (5, .int (nI (A 12 ((8 * v) + o)) + (-1)))]) C dX5_circles_57 rfl (by decide) [1, 2, 3, 0, 4, 5] rfl ?_
        refine hv_goto (tgt := 5) C dX5_circles_58 (by decide) ?_
        exact hv_sub (lv1 := [(0, .ref (g.1)), (1, .int (nI b)), (2, .int (nI o)), (3, .int (nI (f_g A o v))), (4, .int (nI (sn ||| (2 ^ v))))]) [0, 1, 2, 3, 4] rfl (ih (f_g A o v, sn ||| 2 ^ v) (ci_n ho hI hv h1 (by omega)))
      · intro kj
        refine hv_iload C dX5_circles_40 5 rfl ?_
        refine hv_iconst (v := nI 0 + (-1)) C dX5_circles_42 (by decide) ?_
        refine hv_icmpE_ne (tgt := 50) C dX5_circles_43 (by decide) (by omega) (by omega) (fun h5 => ?_) (fun h5 => ?_)
        · skip
          refine hv_aload_n C dX5_circles_50 rfl 0 rfl ?_
          refine hv_iload C dX5_circles_51 5 rfl ?_
          refine hv_top (nI_em (by omega)) ?_
          refine hv_iload_n C dX5_circles_53 rfl 3 rfl ?_
          obtain ⟨g1, g2, -⟩ := hI.2.2.2.2.1 (A 12 (8 * v + o) - 1) (by omega)
          refine hv_callVr (As := [.int (nI ((A 12 ((8 * v) + o)) - 1)), .int (nI v)]) (rest := []) (n := 2) C (c_X5_beyond l w g hg A th Y0 (A 12 (8 * v + o) - 1) v (by omega) g1 (by omega)) gX5_circles_X5_beyond rfl (by decide +kernel) ⟨Nat.le_of_ble_eq_true rfl, Nat.le_of_ble_eq_true rfl⟩ (hv_rcO md_o rfl) rfl rfl (Nat.le_of_ble_eq_true rfl) dX5_circles_54 ⟨by first | exact Nat.le_of_ble_eq_true rfl | omega, by first | exact Nat.le_of_ble_eq_true rfl | omega⟩ (fun r6 Y1 hr => ?_)
          obtain ⟨rfl, rfl⟩ := hr
          exact kj _ (by first | exact (if_pos h5).symm | exact (if_neg h5).symm)
        · skip
          refine hv_iload_n C dX5_circles_46 rfl 2 rfl ?_
          refine hv_goto (tgt := 57) C dX5_circles_47 (by decide) ?_
          exact kj _ (by first | exact (if_pos h5).symm | exact (if_neg h5).symm)
set_option maxRecDepth 100000 in
set_option maxHeartbeats 4000000 in
theorem c_X5_isLoop (l : Launch) (w : hv_W) (g : md_g) (hg : md_ok g) (A : ab_A) (th : Nat) (Y0 : hv_H) (x y : Int32) (hI : ab_I A) : hv_Mr l yX5_isLoop wsX5_isLoop ({ frames := 3, cells := 0, slots := 0, locals := 64 }) w [.ref (g.1), .int (x), .int (y)] (md_Y w g A th Y0) (fun r Y1 => md_P w g Y0 (q_isLoop A x y) r Y1) := by
  refine hv_ofV (cc := cX5_isLoop) (own := RX5) (by decide) rfl rfl (Nat.le_of_ble_eq_true rfl) rfl ?_
  intro p e s m below meth c C hret _
  have hin : ∀ x ∈ wsX50, x ∈ wsX5_isLoop := by decide +kernel
  rcases hx : ix 8 x with _ | b
  · skip
    refine hv_aload_n C dX5_isLoop_0 rfl 0 rfl ?_
    refine hv_iload_n C dX5_isLoop_1 rfl 1 rfl ?_
    refine hv_iload_n C dX5_isLoop_2 rfl 2 rfl ?_
    refine hv_callVr (As := [.int (x), .int (y)]) (rest := []) (n := 2) C (c_X5_areAsked l w g hg A th Y0 ((x)) ((y))) gX5_isLoop_X5_areAsked rfl (by decide +kernel) ⟨Nat.le_of_ble_eq_true rfl, Nat.le_of_ble_eq_true rfl⟩ (hv_rcO md_o rfl) rfl rfl (Nat.le_of_ble_eq_true rfl) dX5_isLoop_3 ⟨by first | exact Nat.le_of_ble_eq_true rfl | omega, by first | exact Nat.le_of_ble_eq_true rfl | omega⟩ (fun r1 Y1 hr => ?_)
    obtain ⟨rfl, rfl⟩ := hr
    rw [if_neg (show ¬ ((nI 0 ≤ x ∧ x ≤ nI 7) ∧ (nI 0 ≤ y ∧ y ≤ nI 7)) from (fun q => (ix_8n hx) q.1))]
    refine hv_ifb_eq (tgt := 22) C dX5_isLoop_6 (by decide) (fun _ => ?_) (fun h => absurd h (fun q => (ix_8n hx) q.1))
    refine hv_iconst (v := nI 0) C dX5_isLoop_22 (by decide) ?_
    exact hv_zret C hret (by decide) dX5_isLoop_23 (by first | exact Nat.le_refl _ | decide) (by first | exact Nat.le_refl _ | decide) ⟨by first | (simp_all [q_isLoop, md_ans, b2]; done) | (simp_all [q_isLoop, md_ans, b2]; rfl), by simp_all [q_isLoop]⟩
  · skip
    obtain ⟨hb, rfl⟩ := ix_y hx
    rcases hy : ix 8 y with _ | o
    · skip
      refine hv_aload_n C dX5_isLoop_0 rfl 0 rfl ?_
      refine hv_iload_n C dX5_isLoop_1 rfl 1 rfl ?_
      refine hv_iload_n C dX5_isLoop_2 rfl 2 rfl ?_
      refine hv_callVr (As := [.int (nI b), .int (y)]) (rest := []) (n := 2) C (c_X5_areAsked l w g hg A th Y0 ((nI b)) ((y))) gX5_isLoop_X5_areAsked rfl (by decide +kernel) ⟨Nat.le_of_ble_eq_true rfl, Nat.le_of_ble_eq_true rfl⟩ (hv_rcO md_o rfl) rfl rfl (Nat.le_of_ble_eq_true rfl) dX5_isLoop_3 ⟨by first | exact Nat.le_of_ble_eq_true rfl | omega, by first | exact Nat.le_of_ble_eq_true rfl | omega⟩ (fun r3 Y1 hr => ?_)
      obtain ⟨rfl, rfl⟩ := hr
      rw [if_neg (show ¬ ((nI 0 ≤ nI b ∧ nI b ≤ nI 7) ∧ (nI 0 ≤ y ∧ y ≤ nI 7)) from (fun q => (ix_8n hy) q.2))]
      refine hv_ifb_eq (tgt := 22) C dX5_isLoop_6 (by decide) (fun _ => ?_) (fun h => absurd h (fun q => (ix_8n hy) q.2))
      refine hv_iconst (v := nI 0) C dX5_isLoop_22 (by decide) ?_
      exact hv_zret C hret (by decide) dX5_isLoop_23 (by first | exact Nat.le_refl _ | decide) (by first | exact Nat.le_refl _ | decide) ⟨by first | (simp_all [q_isLoop, md_ans, b2]; done) | (simp_all [q_isLoop, md_ans, b2]; rfl), by simp_all [q_isLoop]⟩
    · skip
      obtain ⟨ho, rfl⟩ := ix_y hy
      refine hv_aload_n C dX5_isLoop_0 rfl 0 rfl ?_
      refine hv_iload_n C dX5_isLoop_1 rfl 1 rfl ?_
      refine hv_iload_n C dX5_isLoop_2 rfl 2 rfl ?_
      refine hv_callVr (As := [.int (nI b), .int (nI o)]) (rest := []) (n := 2) C (c_X5_areAsked l w g hg A th Y0 ((nI b)) ((nI o))) gX5_isLoop_X5_areAsked rfl (by decide +kernel) ⟨Nat.le_of_ble_eq_true rfl, Nat.le_of_ble_eq_true rfl⟩ (hv_rcO md_o rfl) rfl rfl (Nat.le_of_ble_eq_true rfl) dX5_isLoop_3 ⟨by first | exact Nat.le_of_ble_eq_true rfl | omega, by first | exact Nat.le_of_ble_eq_true rfl | omega⟩ (fun r5 Y1 hr => ?_)
      obtain ⟨rfl, rfl⟩ := hr
      rw [if_pos (show ((nI 0 ≤ nI b ∧ nI b ≤ nI 7) ∧ (nI 0 ≤ nI o ∧ nI o ≤ nI 7)) from ⟨(ix_8c hb), (ix_8c ho)⟩)]
      refine hv_ifb_eq (tgt := 22) C dX5_isLoop_6 (by decide) (fun h => absurd ⟨(ix_8c hb), (ix_8c ho)⟩ h) (fun _ => ?_)
      refine hv_aload_n C dX5_isLoop_9 rfl 0 rfl ?_
      refine hv_iload_n C dX5_isLoop_10 rfl 1 rfl ?_
      refine hv_iload_n C dX5_isLoop_11 rfl 2 rfl ?_
      refine hv_callVr (As := [.int (nI b), .int (nI o)]) (rest := []) (n := 2) C (c_X5_circles l w g hg A 0 Y0 b o hb ho hI) gX5_isLoop_X5_circles rfl (by decide +kernel) ⟨Nat.le_of_ble_eq_true rfl, Nat.le_of_ble_eq_true rfl⟩ (hv_rcO md_o rfl) rfl rfl (Nat.le_of_ble_eq_true rfl) dX5_isLoop_12 ⟨by first | exact Nat.le_of_ble_eq_true rfl | omega, by first | exact Nat.le_of_ble_eq_true rfl | omega⟩ (fun r7 Y1 hr => ?_)
      obtain ⟨rfl, rfl⟩ := hr
      refine hv_ifb_eq (tgt := 22) C dX5_isLoop_15 (by decide) (fun h8 => ?_) (fun h8 => ?_)
      · skip
        refine hv_iconst (v := nI 0) C dX5_isLoop_22 (by decide) ?_
        exact hv_zret C hret (by decide) dX5_isLoop_23 (by first | exact Nat.le_refl _ | decide) (by first | exact Nat.le_refl _ | decide) ⟨by first | (simp_all [q_isLoop, md_ans, b2]; done) | (simp_all [q_isLoop, md_ans, b2]; rfl), by simp_all [q_isLoop]⟩
      · skip
        refine hv_iconst (v := nI 1) C dX5_isLoop_18 (by decide) ?_
        refine hv_goto (tgt := 23) C dX5_isLoop_19 (by decide) ?_
        exact hv_zret C hret (by decide) dX5_isLoop_23 (by first | exact Nat.le_refl _ | decide) (by first | exact Nat.le_refl _ | decide) ⟨by first | (simp_all [q_isLoop, md_ans, b2]; done) | (simp_all [q_isLoop, md_ans, b2]; rfl), by simp_all [q_isLoop]⟩

set_option maxRecDepth 100000 in
set_option maxHeartbeats 4000000 in
theorem c_X5_loops (l : Launch) (w : hv_W) (g : md_g) (hg : md_ok g) (A : ab_A) (th : Nat) (Y0 : hv_H) (hI : ab_I A) : hv_Mr l yX5_loops wsX5_loops ({ frames := 2, cells := 0, slots := 0, locals := 47 }) w [.ref (g.1)] (md_Y w g A th Y0) (fun r Y1 => r = .int (nI (f_loops A 64)) ∧ Y1 = md_Y w g A 0 Y0) := by
  refine hv_ofV (cc := cX5_loops) (own := RX5) (by decide) rfl rfl (Nat.le_of_ble_eq_true rfl) rfl ?_
  intro p e s m below meth c C hret _
  have hin : ∀ x ∈ wsX50, x ∈ wsX5_loops := by decide +kernel
  refine hv_aload_n C dX5_loops_0 rfl 0 rfl ?_
  refine hv_iconst (v := nI 0) C dX5_loops_1 (by decide) ?_
  refine hm_putT (n := 0) C rfl hin (by decide +kernel) dX5_loops_2 ?_
  refine hv_iconst (v := nI 0) C dX5_loops_5 (by decide) ?_
  refine hv_istore_n (lv1 := [(0, .ref (g.1)), (1, .int (nI 0))]) C dX5_loops_6 rfl (by decide) [1, 0] rfl ?_
  refine hv_iconst (v := nI 0) C dX5_loops_7 (by decide) ?_
  refine hv_istore_n (lv1 := [(0, .ref (g.1)), (1, .int (nI 0)), (2, .int (nI 0))]) C dX5_loops_8 rfl (by decide) [1, 2, 0] rfl ?_
  refine hv_loop 64 (fun i => md_Y w g A 0 Y0) (fun i => [(0, .ref (g.1)), (1, .int (nI (f_loops A i))), (2, .int (nI i))]) ?_ ?_
  · skip
    refine hv_iload_n C dX5_loops_9 rfl 2 rfl ?_
    refine hv_bipush (v := nI 64) C dX5_loops_10 (by decide) ?_
    refine hv_icmpN_ge (tgt := 44) C dX5_loops_12 (by decide) (by omega) (by omega) (fun _ => ?_) (fun h => absurd h (by decide))
    refine hv_iload_n C dX5_loops_44 rfl 1 rfl ?_
    exact hv_iret C hret dX5_loops_45 (by first | exact Nat.le_refl _ | decide) (by first | exact Nat.le_refl _ | decide) ⟨rfl, rfl⟩
  · intro i hi ih
    refine hv_iload_n C dX5_loops_9 rfl 2 rfl ?_
    refine hv_bipush (v := nI 64) C dX5_loops_10 (by decide) ?_
    refine hv_icmpN_ge (tgt := 44) C dX5_loops_12 (by decide) (by omega) (by omega) (fun h2 => ?_) (fun h2 => ?_)
    · skip
      exact absurd h2 (by omega)
    · skip
      refine hv_iload_n C dX5_loops_15 rfl 1 rfl ?_
      refine hv_join (α := Nat) (pcJ := 36) (fun _ => md_Y w g A 0 Y0) (fun _ => [(0, .ref (g.1)), (1, .int (nI (f_loops A i))), (2, .int (nI i))]) (fun t9 => .int (nI t9) :: [.int (nI (f_loops A i))]) (fun t9 => t9 = b2 (f_walk A (i % 8) 8 (i / 8) = true)) ?_ ?_
      · rintro _ rfl
        refine hv_iaddN C dX5_loops_36 ?_
        refine hv_istore_n (lv1 := [(0, .ref (g.1)), (1, .int (nI ((f_loops A i) + (b2 (f_walk A (i % 8) 8 (i / 8) = true))))), (2, .int (nI i))]) C dX5_loops_37 rfl (by decide) [1, 0, 2] rfl ?_
        refine hv_iinc (v := nI (i + 1)) (lv1 := [(0, .ref (g.1)), (1, .int (nI ((f_loops A i) + (b2 (f_walk A (i % 8) 8 (i / 8) = true))))), (2, .int (nI (i + 1)))]) C dX5_loops_38 (k := 2) rfl (nI_1 _) (by decide) [1, 2, 0] rfl ?_
        refine hv_goto (tgt := 9) C dX5_loops_41 (by decide) ?_
        exact ih
      · intro k3
        refine hv_aload_n C dX5_loops_16 rfl 0 rfl ?_
        refine hv_iload_n C dX5_loops_17 rfl 2 rfl ?_
        refine hv_bipush (v := nI 8) C dX5_loops_18 (by decide) ?_
        refine hv_idivN C dX5_loops_20 (by omega) (by omega) (by omega) ?_
        refine hv_iload_n C dX5_loops_21 rfl 2 rfl ?_
        refine hv_bipush (v := nI 8) C dX5_loops_22 (by decide) ?_
        refine hv_iremN C dX5_loops_24 (by omega) (by omega) (by omega) ?_
        refine hv_callVr (As := [.int (nI (i / 8)), .int (nI (i % 8))]) (rest := [.int (nI (f_loops A i))]) (n := 2) C (c_X5_circles l w g hg A 0 Y0 (i / 8) (i % 8) (by omega) (by omega) hI) gX5_loops_X5_circles rfl (by decide +kernel) ⟨Nat.le_of_ble_eq_true rfl, Nat.le_of_ble_eq_true rfl⟩ (hv_rcO md_o rfl) rfl rfl (Nat.le_of_ble_eq_true rfl) dX5_loops_25 ⟨by first | exact Nat.le_of_ble_eq_true rfl | omega, by first | exact Nat.le_of_ble_eq_true rfl | omega⟩ (fun r4 Y1 hr => ?_)
        obtain ⟨rfl, rfl⟩ := hr
        refine hv_ifb_eq (tgt := 35) C dX5_loops_28 (by decide) (fun h5 => ?_) (fun h5 => ?_)
        · skip
          refine hv_iconst (v := nI 0) C dX5_loops_35 (by decide) ?_
          exact k3 _ (by first | exact (b2_t h5).symm | exact (b2_f h5).symm)
        · skip
          refine hv_iconst (v := nI 1) C dX5_loops_31 (by decide) ?_
          refine hv_goto (tgt := 36) C dX5_loops_32 (by decide) ?_
          exact k3 _ (by first | exact (b2_t h5).symm | exact (b2_f h5).symm)
