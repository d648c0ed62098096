theorem f_dry_ge (A : ab_A) (d : Nat) {n k : Nat} (h : n ≤ k) : f_dry A d n 0 k = A 0 k := by
  induction n with
  | zero => rfl
  | succ n ih =>
    show au (f_dry A d n) 0 n _ 0 k = _
    rw [au_i _ (by omega)]
    exact ih (by omega)
theorem f_dry_at (A : ab_A) (d : Nat) {n k : Nat} (h : k < n) : f_dry A d n 0 k = f_left (A 0 k) d := by
  induction n with
  | zero => omega
  | succ n ih =>
    show au (f_dry A d n) 0 n _ 0 k = _
    by_cases hk : k = n
    · subst hk
      rw [au_s]
    · rw [au_i _ hk]
      exact ih (by omega)
theorem f_dry_k (A : ab_A) (d n : Nat) {k : Nat} (h : k ≠ 0) : f_dry A d n k = A k := by
  induction n with
  | zero => rfl
  | succ n ih =>
    show au (f_dry A d n) 0 n _ k = _
    rw [au_k _ h]
    exact ih
theorem f_left_le (x d : Nat) (h : x ≤ 200) : f_left x d ≤ 200 := by unfold f_left; split <;> omega
theorem f_left_ge (x d : Nat) : 5 ≤ f_left x d := by unfold f_left; split <;> omega
theorem f_low_le (A : ab_A) (n : Nat) : f_low A n ≤ n := by
  induction n with
  | zero => exact Nat.le_refl _
  | succ n ih =>
    have := b2_le (q := A 0 n < 30)
    show f_low A n + b2 (A 0 n < 30) ≤ n + 1
    omega
set_option maxRecDepth 100000 in
set_option maxHeartbeats 4000000 in
theorem c_X5_allWater (l : Launch) (w : hv_W) (g : md_g) (hg : md_ok g) (A : ab_A) (th : Nat) (Y0 : hv_H)  : hv_Mr l yX5_allWater wsX5_allWater ({ frames := 0, cells := 0, slots := 0, locals := 0 }) w [.ref (g.1)] (md_Y w g A th Y0) (fun r Y1 => r = .int (nI (f_all A 8)) ∧ Y1 = md_Y w g A 0 Y0) := by
  refine hv_ofV (cc := cX5_allWater) (own := RX5) (by decide) rfl rfl (Nat.le_of_ble_eq_true rfl) rfl ?_
  intro p e s m below meth c C hret _
  have hin : ∀ x ∈ wsX50, x ∈ wsX5_allWater := by decide +kernel
  refine hv_aload_n C dX5_allWater_0 rfl 0 rfl ?_
  refine hv_iconst (v := nI 0) C dX5_allWater_1 (by decide) ?_
  refine hm_putT (n := 0) C rfl hin (by decide +kernel) dX5_allWater_2 ?_
  refine hv_iconst (v := nI 0) C dX5_allWater_5 (by decide) ?_
  refine hv_istore_n (lv1 := [(0, .ref (g.1)), (1, .int (nI 0))]) C dX5_allWater_6 rfl (by decide) [1, 0] rfl ?_
  refine hv_iconst (v := nI 0) C dX5_allWater_7 (by decide) ?_
  refine hv_istore_n (lv1 := [(0, .ref (g.1)), (1, .int (nI 0)), (2, .int (nI 0))]) C dX5_allWater_8 rfl (by decide) [1, 2, 0] rfl ?_
  refine hv_loop 8 (fun i => md_Y w g A 0 Y0) (fun i => [(0, .ref (g.1)), (1, .int (nI (f_all A i))), (2, .int (nI i))]) ?_ ?_
  · skip
    refine hv_iload_n C dX5_allWater_9 rfl 2 rfl ?_
    refine hv_bipush (v := nI 8) C dX5_allWater_10 (by decide) ?_
    refine hv_icmpN_ge (tgt := 30) C dX5_allWater_12 (by decide) (by omega) (by omega) (fun _ => ?_) (fun h => absurd h (by decide))
    refine hv_iload_n C dX5_allWater_30 rfl 1 rfl ?_
    exact hv_iret C hret dX5_allWater_31 (by first | exact Nat.le_refl _ | decide) (by first | exact Nat.le_refl _ | decide) ⟨rfl, rfl⟩
  · intro i hi ih
    refine hv_iload_n C dX5_allWater_9 rfl 2 rfl ?_
    refine hv_bipush (v := nI 8) C dX5_allWater_10 (by decide) ?_
    refine hv_icmpN_ge (tgt := 30) C dX5_allWater_12 (by decide) (by omega) (by omega) (fun h2 => ?_) (fun h2 => ?_)
    · skip
      exact absurd h2 (by omega)
    · skip
      refine hv_iload_n C dX5_allWater_15 rfl 1 rfl ?_
      refine hv_aload_n C dX5_allWater_16 rfl 0 rfl ?_
      refine hm_get (k := 0) (v := .ref (g.2.1 0)) C hin (by decide) (by decide +kernel) rfl rfl dX5_allWater_17 ?_
      refine hv_iload_n C dX5_allWater_20 rfl 2 rfl ?_
      refine hm_iald (k := 0) (n := i) (x := (nI (A 0 i))) C hg (by decide) (by decide) (show i < 8 from by omega) rfl dX5_allWater_21 ?_
      refine hv_iaddN C dX5_allWater_22 ?_
      refine hv_istore_n (lv1 := [(0, .ref (g.1)), (1, .int (nI ((f_all A i) + (A 0 i)))), (2, .int (nI i))]) C dX5_allWater_23 rfl (by decide) [1, 0, 2] rfl ?_
      refine hv_iinc (v := nI (i + 1)) (lv1 := [(0, .ref (g.1)), (1, .int (nI ((f_all A i) + (A 0 i)))), (2, .int (nI (i + 1)))]) C dX5_allWater_24 (k := 2) rfl (nI_1 _) (by decide) [1, 2, 0] rfl ?_
      refine hv_goto (tgt := 9) C dX5_allWater_27 (by decide) ?_
      exact ih
set_option maxRecDepth 100000 in
set_option maxHeartbeats 4000000 in
theorem c_X5_laidBy (l : Launch) (w : hv_W) (g : md_g) (hg : md_ok g) (A : ab_A) (th : Nat) (Y0 : hv_H) (h15 : A 15 0 ≤ 40) (h21 : ∀ j, j < A 15 0 → A 21 j ≤ 2) : hv_Mr l yX5_laidBy wsX5_laidBy ({ frames := 0, cells := 0, slots := 0, locals := 0 }) w [.ref (g.1)] (md_Y w g A th Y0) (fun r Y1 => r = .int (nI (f_laid A (A 15 0))) ∧ Y1 = md_Y w g A 0 Y0) := by
  refine hv_ofV (cc := cX5_laidBy) (own := RX5) (by decide) rfl rfl (Nat.le_of_ble_eq_true rfl) rfl ?_
  intro p e s m below meth c C hret _
  have hin : ∀ x ∈ wsX50, x ∈ wsX5_laidBy := by decide +kernel
  refine hv_aload_n C dX5_laidBy_0 rfl 0 rfl ?_
  refine hv_iconst (v := nI 0) C dX5_laidBy_1 (by decide) ?_
  refine hm_putT (n := 0) C rfl hin (by decide +kernel) dX5_laidBy_2 ?_
  refine hv_iconst (v := nI 0) C dX5_laidBy_5 (by decide) ?_
  refine hv_istore_n (lv1 := [(0, .ref (g.1)), (1, .int (nI 0))]) C dX5_laidBy_6 rfl (by decide) [1, 0] rfl ?_
  refine hv_iconst (v := nI 0) C dX5_laidBy_7 (by decide) ?_
  refine hv_istore_n (lv1 := [(0, .ref (g.1)), (1, .int (nI 0)), (2, .int (nI 0))]) C dX5_laidBy_8 rfl (by decide) [1, 2, 0] rfl ?_
  refine hv_loop (A 15 0) (fun i => md_Y w g A 0 Y0) (fun i => [(0, .ref (g.1)), (1, .int (nI (f_laid A i))), (2, .int (nI i))]) ?_ ?_
  · skip
    refine hv_iload_n C dX5_laidBy_9 rfl 2 rfl ?_
    refine hv_aload_n C dX5_laidBy_10 rfl 0 rfl ?_
    refine hm_get (k := 15) (v := .int (nI (A 15 0))) C hin (by decide) (by decide +kernel) rfl rfl dX5_laidBy_11 ?_
    refine hv_icmpN_ge (tgt := 41) C dX5_laidBy_14 (by decide) (by omega) (by omega) (fun h1 => ?_) (fun h1 => ?_)
    · skip
      refine hv_iload_n C dX5_laidBy_41 rfl 1 rfl ?_
      exact hv_iret C hret dX5_laidBy_42 (by first | exact Nat.le_refl _ | decide) (by first | exact Nat.le_refl _ | decide) ⟨rfl, rfl⟩
    · skip
      exact absurd h1 (by omega)
  · intro i hi ih
    have := h21 i hi
    refine hv_iload_n C dX5_laidBy_9 rfl 2 rfl ?_
    refine hv_aload_n C dX5_laidBy_10 rfl 0 rfl ?_
    refine hm_get (k := 15) (v := .int (nI (A 15 0))) C hin (by decide) (by decide +kernel) rfl rfl dX5_laidBy_11 ?_
    refine hv_icmpN_ge (tgt := 41) C dX5_laidBy_14 (by decide) (by omega) (by omega) (fun h2 => ?_) (fun h2 => ?_)
    · skip
      exact absurd h2 (by omega)
    · skip
      refine hv_iload_n C dX5_laidBy_17 rfl 1 rfl ?_
      refine hv_join (α := Nat) (pcJ := 33) (fun _ => md_Y w g A 0 Y0) (fun _ => [(0, .ref (g.1)), (1, .int (nI (f_laid A i))), (2, .int (nI i))]) (fun t => .int (nI t) :: [.int (nI (f_laid A i))]) (fun t => t = b2 (A 21 i = 2)) ?_ ?_
      · rintro _ rfl
        refine hv_iaddN C dX5_laidBy_33 ?_
        refine hv_istore_n (lv1 := [(0, .ref (g.1)), (1, .int (nI ((f_laid A i) + (b2 (A 21 i = 2))))), (2, .int (nI i))]) C dX5_laidBy_34 rfl (by decide) [1, 0, 2] rfl ?_
        refine hv_iinc (v := nI (i + 1)) (lv1 := [(0, .ref (g.1)), (1, .int (nI ((f_laid A i) + (b2 (A 21 i = 2))))), (2, .int (nI (i + 1)))]) C dX5_laidBy_35 (k := 2) rfl (nI_1 _) (by decide) [1, 2, 0] rfl ?_
        refine hv_goto (tgt := 9) C dX5_laidBy_38 (by decide) ?_
        exact ih
      · intro k3
        refine hv_aload_n C dX5_laidBy_18 rfl 0 rfl ?_
        refine hm_get (k := 21) (v := .ref (g.2.1 21)) C hin (by decide) (by decide +kernel) rfl rfl dX5_laidBy_19 ?_
        refine hv_iload_n C dX5_laidBy_22 rfl 2 rfl ?_
        refine hm_iald (k := 21) (n := i) (x := (nI (A 21 i))) C hg (by decide) (by decide) (show i < 40 from by omega) rfl dX5_laidBy_23 ?_
        refine hv_iconst (v := nI 2) C dX5_laidBy_24 (by decide) ?_
        refine hv_icmpN_ne (tgt := 32) C dX5_laidBy_25 (by decide) (by omega) (by omega) (fun h4 => ?_) (fun h4 => ?_)
        · skip
          refine hv_iconst (v := nI 0) C dX5_laidBy_32 (by decide) ?_
          exact k3 _ (b2_f (by omega)).symm
        · skip
          refine hv_iconst (v := nI 1) C dX5_laidBy_28 (by decide) ?_
          refine hv_goto (tgt := 33) C dX5_laidBy_29 (by decide) ?_
          exact k3 _ (b2_t (by omega)).symm
set_option maxRecDepth 100000 in
set_option maxHeartbeats 4000000 in
theorem c_X5_dry (l : Launch) (w : hv_W) (g : md_g) (hg : md_ok g) (A : ab_A) (th : Nat) (Y0 : hv_H) (x : Int32) (h0 : ∀ b, b < 8 → A 0 b ≤ 200) : hv_Mr l yX5_dry wsX5_dry ({ frames := 1, cells := 0, slots := 0, locals := 22 }) w [.ref (g.1), .int (x)] (md_Y w g A th Y0) (fun r Y1 => md_P w g Y0 (q_dry A x) r Y1) := by
  refine hv_ofV (cc := cX5_dry) (own := RX5) (by decide) rfl rfl (Nat.le_of_ble_eq_true rfl) rfl ?_
  intro p e s m below meth c C hret _
  have hin : ∀ x ∈ wsX50, x ∈ wsX5_dry := by decide +kernel
  rcases hx : rg 1 50 x with _ | d
  · skip
    refine hv_aload_n C dX5_dry_0 rfl 0 rfl ?_
    refine hv_iload_n C dX5_dry_1 rfl 1 rfl ?_
    refine hv_iconst (v := nI 1) C dX5_dry_2 (by decide) ?_
    refine hv_bipush (v := nI 50) C dX5_dry_3 (by decide) ?_
    refine hv_callSr (As := [.int (x), .int (nI 1), .int (nI 50)]) (rest := [.ref (g.1)]) (n := 3) C (c_X5_isIn l w _ ((x)) ((nI 1)) ((nI 50))) gX5_dry_X5_isIn rfl (by decide +kernel) ⟨Nat.le_of_ble_eq_true rfl, Nat.le_of_ble_eq_true rfl⟩ rfl rfl (Nat.le_of_ble_eq_true rfl) dX5_dry_5 ⟨by first | exact Nat.le_of_ble_eq_true rfl | omega, by first | exact Nat.le_of_ble_eq_true rfl | omega⟩ (fun r1 Y1 hr => ?_)
    obtain ⟨rfl, rfl⟩ := hr
    refine hv_ifb_eq (tgt := 15) C dX5_dry_8 (by decide) (fun _ => ?_) (fun h => absurd h (rg_n hx))
    refine hv_iconst (v := nI 1) C dX5_dry_15 (by decide) ?_
    refine hv_callVr (As := [.int (nI 1)]) (rest := []) (n := 1) C (c_X5_can l w g hg A th Y0 1 (by omega)) gX5_dry_X5_can rfl (by decide +kernel) ⟨Nat.le_of_ble_eq_true rfl, Nat.le_of_ble_eq_true rfl⟩ (hv_rcO md_o rfl) rfl rfl (Nat.le_of_ble_eq_true rfl) dX5_dry_16 ⟨by first | exact Nat.le_of_ble_eq_true rfl | omega, by first | exact Nat.le_of_ble_eq_true rfl | omega⟩ (fun r3 Y1 hr => ?_)
    obtain ⟨rfl, rfl⟩ := hr
    refine hv_ifb_ne (tgt := 24) C dX5_dry_19 (by decide) (fun h => absurd h (by decide)) (fun _ => ?_)
    refine hv_iconst (v := nI 0) C dX5_dry_22 (by decide) ?_
    exact hv_iret C hret dX5_dry_23 (by first | exact Nat.le_refl _ | decide) (by first | exact Nat.le_refl _ | decide) ⟨by simp [q_dry, hx, md_ans], by simp [q_dry, hx]⟩
  · skip
    obtain ⟨hd, hd2, rfl⟩ := rg_s (by decide) (by decide) hx
    refine hv_aload_n C dX5_dry_0 rfl 0 rfl ?_
    refine hv_iload_n C dX5_dry_1 rfl 1 rfl ?_
    refine hv_iconst (v := nI 1) C dX5_dry_2 (by decide) ?_
    refine hv_bipush (v := nI 50) C dX5_dry_3 (by decide) ?_
    refine hv_callSr (As := [.int (nI d), .int (nI 1), .int (nI 50)]) (rest := [.ref (g.1)]) (n := 3) C (c_X5_isIn l w _ ((nI d)) ((nI 1)) ((nI 50))) gX5_dry_X5_isIn rfl (by decide +kernel) ⟨Nat.le_of_ble_eq_true rfl, Nat.le_of_ble_eq_true rfl⟩ rfl rfl (Nat.le_of_ble_eq_true rfl) dX5_dry_5 ⟨by first | exact Nat.le_of_ble_eq_true rfl | omega, by first | exact Nat.le_of_ble_eq_true rfl | omega⟩ (fun r5 Y1 hr => ?_)
    obtain ⟨rfl, rfl⟩ := hr
    refine hv_ifb_eq (tgt := 15) C dX5_dry_8 (by decide) (fun h => absurd (rg_c hd hd2 (by decide)) h) (fun _ => ?_)
    refine hv_iconst (v := nI 0) C dX5_dry_11 (by decide) ?_
    refine hv_goto (tgt := 16) C dX5_dry_12 (by decide) ?_
    refine hv_callVr (As := [.int (nI 0)]) (rest := []) (n := 1) C (c_X5_can l w g hg A th Y0 0 (by omega)) gX5_dry_X5_can rfl (by decide +kernel) ⟨Nat.le_of_ble_eq_true rfl, Nat.le_of_ble_eq_true rfl⟩ (hv_rcO md_o rfl) rfl rfl (Nat.le_of_ble_eq_true rfl) dX5_dry_16 ⟨by first | exact Nat.le_of_ble_eq_true rfl | omega, by first | exact Nat.le_of_ble_eq_true rfl | omega⟩ (fun r7 Y1 hr => ?_)
    obtain ⟨rfl, rfl⟩ := hr
    refine hv_ifb_ne (tgt := 24) C dX5_dry_19 (by decide) (fun _ => ?_) (fun h => absurd rfl h)
    refine hv_iconst (v := nI 0) C dX5_dry_24 (by decide) ?_
    refine hv_istore_n (lv1 := [(0, .ref (g.1)), (1, .int (nI d)), (2, .int (nI 0))]) C dX5_dry_25 rfl (by decide) [1, 2, 0] rfl ?_
    refine hv_iconst (v := nI 0) C dX5_dry_26 (by decide) ?_
    refine hv_istore_n (lv1 := [(0, .ref (g.1)), (1, .int (nI d)), (2, .int (nI 0)), (3, .int (nI 0))]) C dX5_dry_27 rfl (by decide) [1, 2, 3, 0] rfl ?_
    refine hv_loop 8 (fun i => md_Y w g (f_dry A d i) 0 Y0) (fun i => [(0, .ref (g.1)), (1, .int (nI d)), (2, .int (nI (f_low (f_dry A d 8) i))), (3, .int (nI i))]) ?_ ?_
    · skip
      refine hv_iload_n C dX5_dry_28 rfl 3 rfl ?_
      refine hv_bipush (v := nI 8) C dX5_dry_29 (by decide) ?_
      refine hv_icmpN_ge (tgt := 89) C dX5_dry_31 (by decide) (by omega) (by omega) (fun _ => ?_) (fun h => absurd h (by decide))
      refine hv_iload_n C dX5_dry_89 rfl 2 rfl ?_
      exact hv_iret C hret dX5_dry_90 (by first | exact Nat.le_refl _ | decide) (by first | exact Nat.le_refl _ | decide) ⟨by simp [q_dry, hx, md_ans], by simp [q_dry, hx]⟩
    · intro i hi ih
      have hwi := h0 i hi
      have hl2 := f_left_le (A 0 i) d hwi
      have hlo := f_low_le (f_dry A d 8) i
      refine hv_iload_n C dX5_dry_28 rfl 3 rfl ?_
      refine hv_bipush (v := nI 8) C dX5_dry_29 (by decide) ?_
      refine hv_icmpN_ge (tgt := 89) C dX5_dry_31 (by decide) (by omega) (by omega) (fun h10 => ?_) (fun h10 => ?_)
      · skip
        exact absurd h10 (by omega)
      · skip
        refine hv_join (α := Nat) (pcJ := 63) (fun _ => md_Y w g (f_dry A d i) 0 Y0) (fun _ => [(0, .ref (g.1)), (1, .int (nI d)), (2, .int (nI (f_low (f_dry A d 8) i))), (3, .int (nI i))]) (fun t => .int (nI t) :: [.int (nI i), .ref (g.2.1 0)]) (fun t => t = f_left (A 0 i) d) ?_ ?_
        · rintro _ rfl
          refine hm_iast (k := 0) (n := i) (v := f_left (A 0 i) d) C hg (by decide) (by decide) (show i < 8 from by omega) rfl dX5_dry_63 ?_
          refine hv_iload_n C dX5_dry_64 rfl 2 rfl ?_
          refine hv_join (α := Nat) (pcJ := 81) (fun _ => md_Y w g (au (f_dry A d i) 0 i (f_left (A 0 i) d)) 0 Y0) (fun _ => [(0, .ref (g.1)), (1, .int (nI d)), (2, .int (nI (f_low (f_dry A d 8) i))), (3, .int (nI i))]) (fun t => .int (nI t) :: [.int (nI (f_low (f_dry A d 8) i))]) (fun t => t = b2 (f_left (A 0 i) d < 30)) ?_ ?_
          · rintro _ rfl
            refine hv_iaddN C dX5_dry_81 ?_
            refine hv_istore_n (lv1 := [(0, .ref (g.1)), (1, .int (nI d)), (2, .int (nI ((f_low (f_dry A d 8) i) + (b2 (f_left (A 0 i) d < 30))))), (3, .int (nI i))]) C dX5_dry_82 rfl (by decide) [1, 2, 0, 3] rfl ?_
            refine hv_iinc (v := nI (i + 1)) (lv1 := [(0, .ref (g.1)), (1, .int (nI d)), (2, .int (nI ((f_low (f_dry A d 8) i) + (b2 (f_left (A 0 i) d < 30))))), (3, .int (nI (i + 1)))]) C dX5_dry_83 (k := 3) rfl (nI_1 _) (by decide) [1, 2, 3, 0] rfl ?_
            refine hv_goto (tgt := 28) C dX5_dry_86 (by decide) ?_
            exact hv_fin ih rfl (by rw [show f_low (f_dry A d 8) (i + 1) = f_low (f_dry A d 8) i + b2 (f_dry A d 8 0 i < 30) from rfl, f_dry_at A d hi])
          · intro k11
            refine hv_aload_n C dX5_dry_65 rfl 0 rfl ?_
            refine hm_get (k := 0) (v := .ref (g.2.1 0)) C hin (by decide) (by decide +kernel) rfl rfl dX5_dry_66 ?_
            refine hv_iload_n C dX5_dry_69 rfl 3 rfl ?_
            refine hm_iald (k := 0) (n := i) (x := (nI (f_left (A 0 i) d))) C hg (by decide) (by decide) (show i < 8 from by omega) (by simp [md_S, md_e, md_neg, au]) dX5_dry_70 ?_
            refine hv_bipush (v := nI 30) C dX5_dry_71 (by decide) ?_
            refine hv_icmpN_ge (tgt := 80) C dX5_dry_73 (by decide) (by omega) (by omega) (fun h12 => ?_) (fun h12 => ?_)
            · skip
              refine hv_iconst (v := nI 0) C dX5_dry_80 (by decide) ?_
              exact k11 _ (b2_f (by omega)).symm
            · skip
              refine hv_iconst (v := nI 1) C dX5_dry_76 (by decide) ?_
              refine hv_goto (tgt := 81) C dX5_dry_77 (by decide) ?_
              exact k11 _ (b2_t (by omega)).symm
        · intro kj
          refine hv_aload_n C dX5_dry_34 rfl 0 rfl ?_
          refine hm_get (k := 0) (v := .ref (g.2.1 0)) C hin (by decide) (by decide +kernel) rfl rfl dX5_dry_35 ?_
          refine hv_iload_n C dX5_dry_38 rfl 3 rfl ?_
          refine hm_iald (k := 0) (n := i) (x := (nI (A 0 i))) C hg (by decide) (by decide) (show i < 8 from by omega) (by show md_e 0 _ = _; rw [f_dry_ge A d (Nat.le_refl i)]; rfl) dX5_dry_39 ?_
          refine hv_iconst (v := nI 3) C dX5_dry_40 (by decide) ?_
          refine hv_iload_n C dX5_dry_41 rfl 1 rfl ?_
          refine hv_imulN C dX5_dry_42 ?_
          by_cases hq : 3 * d ≤ A 0 i
          · skip
            refine hv_isubN C dX5_dry_43 (by omega) ?_
            refine hv_istore (lv1 := [(0, .ref (g.1)), (1, .int (nI d)), (2, .int (nI (f_low (f_dry A d 8) i))), (3, .int (nI i)), (4, .int (nI (A 0 i - 3 * d)))]) C dX5_dry_44 (by decide) [1, 2, 3, 4, 0] rfl ?_
            refine hv_aload_n C dX5_dry_46 rfl 0 rfl ?_
            refine hm_get (k := 0) (v := .ref (g.2.1 0)) C hin (by decide) (by decide +kernel) rfl rfl dX5_dry_47 ?_
            refine hv_iload_n C dX5_dry_50 rfl 3 rfl ?_
            refine hv_iload C dX5_dry_51 4 rfl ?_
            refine hv_iconst (v := nI 5) C dX5_dry_53 (by decide) ?_
            refine hv_icmpN_ge (tgt := 61) C dX5_dry_54 (by decide) (by omega) (by omega) (fun h13 => ?_) (fun h13 => ?_)
            · skip
              refine hv_iload C dX5_dry_61 4 rfl ?_
              exact hv_sub [0, 1, 2, 3] rfl (kj _ (by unfold f_left; split <;> omega))
            · skip
              refine hv_iconst (v := nI 5) C dX5_dry_57 (by decide) ?_
              refine hv_goto (tgt := 63) C dX5_dry_58 (by decide) ?_
              exact hv_sub [0, 1, 2, 3] rfl (kj _ (by unfold f_left; split <;> omega))
          · skip
            refine hv_isub C dX5_dry_43 ?_
            refine hv_istore (lv1 := [(0, .ref (g.1)), (1, .int (nI d)), (2, .int (nI (f_low (f_dry A d 8) i))), (3, .int (nI i)), (4, .int (nI (A 0 i) - nI (3 * d)))]) C dX5_dry_44 (by decide) [1, 2, 3, 4, 0] rfl ?_
            refine hv_aload_n C dX5_dry_46 rfl 0 rfl ?_
            refine hm_get (k := 0) (v := .ref (g.2.1 0)) C hin (by decide) (by decide +kernel) rfl rfl dX5_dry_47 ?_
            refine hv_iload_n C dX5_dry_50 rfl 3 rfl ?_
            refine hv_iload C dX5_dry_51 4 rfl ?_
            refine hv_iconst (v := nI 5) C dX5_dry_53 (by decide) ?_
            refine hv_icmp_ge (tgt := 61) C dX5_dry_54 (by decide) (fun h14 => ?_) (fun h14 => ?_)
            · skip
              exact absurd (Int32.lt_of_le_of_lt h14 (pk_sneg (by omega) (by omega))) (by decide)
            · skip
              refine hv_iconst (v := nI 5) C dX5_dry_57 (by decide) ?_
              refine hv_goto (tgt := 63) C dX5_dry_58 (by decide) ?_
              exact hv_sub [0, 1, 2, 3] rfl (kj _ (by unfold f_left; split <;> omega))
