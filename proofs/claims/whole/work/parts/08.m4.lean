def f_cp (A : ab_A) (n : Nat) : ab_A := fun k i => if i < n ∧ k = 11 then f_nf A i else if i < n ∧ k = 12 then f_nb A i else f_look A 64 k i
theorem f_cp_0 (A : ab_A) : f_cp A 0 = f_look A 64 := by
  funext k i
  simp [f_cp]
theorem f_cp_s (A : ab_A) (n : Nat) : au (au (f_cp A n) 11 n (f_nf A n)) 12 n (f_nb A n) = f_cp A (n + 1) := by
  funext k i
  simp only [au, f_cp]
  (repeat' split) <;> first | rfl | omega | (exfalso; omega) | (subst_vars; first | rfl | omega)
theorem f_cp_64 (A : ab_A) : f_cp A 64 = f_tick A := by
  funext k i
  simp only [f_cp, f_tick, f_look]
  (repeat' split) <;> first | rfl | omega | (exfalso; omega)
theorem f_cp_13 {A : ab_A} {n k : Nat} (h : k < 64) : md_S (f_cp A n) 13 k = nI (f_nf A k) + (-1) := by simp [md_S, md_e, md_neg, f_cp, f_look, h]
theorem f_cp_14 {A : ab_A} {n k : Nat} (h : k < 64) {v : Nat} : md_S (au (f_cp A n) 11 k v) 14 k = nI (f_nb A k) + (-1) := by simp [md_S, md_e, md_neg, f_cp, f_look, au, h]
def f_chd (A : ab_A) : Nat → Nat
  | 0 => 0
  | t + 1 => f_chg (f_ticks A t) 64
theorem f_ticks_k (A : ab_A) (n : Nat) {k : Nat} (h : k ≠ 11 ∧ k ≠ 12 ∧ k ≠ 13 ∧ k ≠ 14) : f_ticks A n k = A k := by
  induction n with
  | zero => rfl
  | succ n ih =>
    rw [← ih]
    funext i
    show f_tick (f_ticks A n) k i = _
    simp [f_tick, h.1, h.2.1, h.2.2.1, h.2.2.2]
theorem f_ticks_11 {A : ab_A} (h11 : ∀ k, k < 64 → A 11 k ≤ 41) (n : Nat) : ∀ k, k < 64 → f_ticks A n 11 k ≤ 41 := by
  induction n with
  | zero => exact h11
  | succ n ih =>
    intro k hk
    show f_tick (f_ticks A n) 11 k ≤ 41
    have := f_nf_le (f_ticks A n) k
    simp only [f_tick, hk, if_true]
    simpa using this
theorem f_ticks_12 {A : ab_A} (h12 : ∀ k, k < 64 → A 12 k ≤ A 4 0) (n : Nat) : ∀ k, k < 64 → f_ticks A n 12 k ≤ A 4 0 := by
  induction n with
  | zero => exact h12
  | succ n ih =>
    intro k hk
    show f_tick (f_ticks A n) 12 k ≤ A 4 0
    have h := f_nb_le (f_ticks A n) k
    rw [f_ticks_k A n (k := 4) (by decide)] at h
    simp only [f_tick, hk, if_true]
    simpa using h
/-! bits -/
theorem nb_shl : ∀ b : Nat, b < 8 → (nI 1 <<< (nI b &&& 31) : Int32) = nI (2 ^ b) := by decide
theorem nb_sm : ∀ t : Nat, t < 8 → ((nI t &&& 31 : Int32).toBitVec.smod 32).toNat = t := by decide
theorem nb_shr {x t : Nat} (hx : x < 256) (ht : t < 8) : (nI x >>> (nI t &&& 31) : Int32) = nI (x / 2 ^ t) := pk_shrN (by omega) _ t (nb_sm t ht)
theorem nb_and1 {x : Nat} (hx : x < 2 ^ 32) : (nI x &&& nI 1 : Int32) = nI (x % 2) := pk_andN hx 1 (by decide)
theorem nb_or (a b : Nat) : (nI a ||| nI b : Int32) = nI (a ||| b) := by
  apply Int32.toBitVec_inj.1
  show BitVec.ofNat 32 a ||| BitVec.ofNat 32 b = BitVec.ofNat 32 (a ||| b)
  apply BitVec.eq_of_getLsbD_eq
  intro i hi
  simp [hi]
set_option maxRecDepth 100000 in
set_option maxHeartbeats 4000000 in
theorem c_X5_settle (l : Launch) (w : hv_W) (g : md_g) (hg : md_ok g) (A : ab_A) (th : Nat) (Y0 : hv_H) (x : Int32) (h4 : A 4 0 ≤ 14) (hW : ∀ j, j < A 4 0 → A 5 j < 8 ∧ A 6 j < 8 ∧ A 7 j ≤ 9 ∧ A 9 j ≤ 1) (h0 : ∀ b, b < 8 → A 0 b ≤ 200) (h11 : ∀ k, k < 64 → A 11 k ≤ 41) (h12 : ∀ k, k < 64 → A 12 k ≤ A 4 0) : hv_Mr l yX5_settle wsX5_settle ({ frames := 3, cells := 0, slots := 0, locals := 70 }) w [.ref (g.1), .int (x)] (md_Y w g A th Y0) (fun r Y1 => md_P w g Y0 (q_settle A x) r Y1) := by
  refine hv_ofV (cc := cX5_settle) (own := RX5) (by decide) rfl rfl (Nat.le_of_ble_eq_true rfl) rfl ?_
  intro p e s m below meth c C hret _
  have hin : ∀ x ∈ wsX50, x ∈ wsX5_settle := by decide +kernel
  rcases hx : rg 1 50 x with _ | t
  · skip
    refine hv_aload_n C dX5_settle_0 rfl 0 rfl ?_
    refine hv_iload_n C dX5_settle_1 rfl 1 rfl ?_
    refine hv_iconst (v := nI 1) C dX5_settle_2 (by decide) ?_
    refine hv_bipush (v := nI 50) C dX5_settle_3 (by decide) ?_
    refine hv_callSr (As := [.int (x), .int (nI 1), .int (nI 50)]) (rest := [.ref (g.1)]) (n := 3) C (c_X5_isIn l w _ ((x)) ((nI 1)) ((nI 50))) gX5_settle_X5_isIn rfl (by decide +kernel) ⟨Nat.le_of_ble_eq_true rfl, Nat.le_of_ble_eq_true rfl⟩ rfl rfl (Nat.le_of_ble_eq_true rfl) dX5_settle_5 ⟨by first | exact Nat.le_of_ble_eq_true rfl | omega, by first | exact Nat.le_of_ble_eq_true rfl | omega⟩ (fun r1 Y1 hr => ?_)
    obtain ⟨rfl, rfl⟩ := hr
    refine hv_ifb_eq (tgt := 15) C dX5_settle_8 (by decide) (fun _ => ?_) (fun h => absurd h (rg_n hx))
    refine hv_iconst (v := nI 1) C dX5_settle_15 (by decide) ?_
    refine hv_callVr (As := [.int (nI 1)]) (rest := []) (n := 1) C (c_X5_can l w g hg A th Y0 1 (by omega)) gX5_settle_X5_can rfl (by decide +kernel) ⟨Nat.le_of_ble_eq_true rfl, Nat.le_of_ble_eq_true rfl⟩ (hv_rcO md_o rfl) rfl rfl (Nat.le_of_ble_eq_true rfl) dX5_settle_16 ⟨by first | exact Nat.le_of_ble_eq_true rfl | omega, by first | exact Nat.le_of_ble_eq_true rfl | omega⟩ (fun r3 Y1 hr => ?_)
    obtain ⟨rfl, rfl⟩ := hr
    refine hv_ifb_ne (tgt := 24) C dX5_settle_19 (by decide) (fun h => absurd h (by decide)) (fun _ => ?_)
    refine hv_iconst (v := nI 0) C dX5_settle_22 (by decide) ?_
    exact hv_iret C hret dX5_settle_23 (by first | exact Nat.le_refl _ | decide) (by first | exact Nat.le_refl _ | decide) ⟨by first | (simp [q_settle, hx, md_ans]; done) | (obtain ⟨t9, rfl⟩ : ∃ z, t = z + 1 := ⟨t - 1, by omega⟩; simp [q_settle, hx, md_ans, f_chd]), by simp [q_settle, hx]⟩
  · skip
    obtain ⟨ht, ht2, rfl⟩ := rg_s (by decide) (by decide) hx
    refine hv_aload_n C dX5_settle_0 rfl 0 rfl ?_
    refine hv_iload_n C dX5_settle_1 rfl 1 rfl ?_
    refine hv_iconst (v := nI 1) C dX5_settle_2 (by decide) ?_
    refine hv_bipush (v := nI 50) C dX5_settle_3 (by decide) ?_
    refine hv_callSr (As := [.int (nI t), .int (nI 1), .int (nI 50)]) (rest := [.ref (g.1)]) (n := 3) C (c_X5_isIn l w _ ((nI t)) ((nI 1)) ((nI 50))) gX5_settle_X5_isIn rfl (by decide +kernel) ⟨Nat.le_of_ble_eq_true rfl, Nat.le_of_ble_eq_true rfl⟩ rfl rfl (Nat.le_of_ble_eq_true rfl) dX5_settle_5 ⟨by first | exact Nat.le_of_ble_eq_true rfl | omega, by first | exact Nat.le_of_ble_eq_true rfl | omega⟩ (fun r5 Y1 hr => ?_)
    obtain ⟨rfl, rfl⟩ := hr
    refine hv_ifb_eq (tgt := 15) C dX5_settle_8 (by decide) (fun h => absurd (rg_c ht ht2 (by decide)) h) (fun _ => ?_)
    refine hv_iconst (v := nI 0) C dX5_settle_11 (by decide) ?_
    refine hv_goto (tgt := 16) C dX5_settle_12 (by decide) ?_
    refine hv_callVr (As := [.int (nI 0)]) (rest := []) (n := 1) C (c_X5_can l w g hg A th Y0 0 (by omega)) gX5_settle_X5_can rfl (by decide +kernel) ⟨Nat.le_of_ble_eq_true rfl, Nat.le_of_ble_eq_true rfl⟩ (hv_rcO md_o rfl) rfl rfl (Nat.le_of_ble_eq_true rfl) dX5_settle_16 ⟨by first | exact Nat.le_of_ble_eq_true rfl | omega, by first | exact Nat.le_of_ble_eq_true rfl | omega⟩ (fun r7 Y1 hr => ?_)
    obtain ⟨rfl, rfl⟩ := hr
    refine hv_ifb_ne (tgt := 24) C dX5_settle_19 (by decide) (fun _ => ?_) (fun h => absurd rfl h)
    refine hv_iconst (v := nI 0) C dX5_settle_24 (by decide) ?_
    refine hv_istore_n (lv1 := [(0, .ref (g.1)), (1, .int (nI t)), (2, .int (nI 0))]) C dX5_settle_25 rfl (by decide) [1, 2, 0] rfl ?_
    refine hv_iconst (v := nI 0) C dX5_settle_26 (by decide) ?_
    refine hv_istore_n (lv1 := [(0, .ref (g.1)), (1, .int (nI t)), (2, .int (nI 0)), (3, .int (nI 0))]) C dX5_settle_27 rfl (by decide) [1, 2, 3, 0] rfl ?_
    refine hv_loop t (fun i => md_Y w g (f_ticks A i) 0 Y0) (fun i => [(0, .ref (g.1)), (1, .int (nI t)), (2, .int (nI (f_chd A i))), (3, .int (nI i))]) ?_ ?_
    · skip
      refine hv_iload_n C dX5_settle_28 rfl 3 rfl ?_
      refine hv_iload_n C dX5_settle_29 rfl 1 rfl ?_
      refine hv_icmpN_ge (tgt := 88) C dX5_settle_30 (by decide) (by omega) (by omega) (fun h9 => ?_) (fun h9 => ?_)
      · skip
        refine hv_iload_n C dX5_settle_88 rfl 2 rfl ?_
        exact hv_iret C hret dX5_settle_89 (by first | exact Nat.le_refl _ | decide) (by first | exact Nat.le_refl _ | decide) ⟨by first | (simp [q_settle, hx, md_ans]; done) | (obtain ⟨t9, rfl⟩ : ∃ z, t = z + 1 := ⟨t - 1, by omega⟩; simp [q_settle, hx, md_ans, f_chd]), by simp [q_settle, hx]⟩
      · skip
        exact absurd h9 (by omega)
    · intro i hi ih
      have e4 := f_ticks_k A i (k := 4) (by decide)
      have e5 := f_ticks_k A i (k := 5) (by decide)
      have e6 := f_ticks_k A i (k := 6) (by decide)
      have e7 := f_ticks_k A i (k := 7) (by decide)
      have e9 := f_ticks_k A i (k := 9) (by decide)
      have e0 := f_ticks_k A i (k := 0) (by decide)
      have h11i := f_ticks_11 h11 i
      have h12i := f_ticks_12 h12 i
      refine hv_iload_n C dX5_settle_28 rfl 3 rfl ?_
      refine hv_iload_n C dX5_settle_29 rfl 1 rfl ?_
      refine hv_icmpN_ge (tgt := 88) C dX5_settle_30 (by decide) (by omega) (by omega) (fun h10 => ?_) (fun h10 => ?_)
      · skip
        exact absurd h10 (by omega)
      · skip
        refine hv_aload_n C dX5_settle_33 rfl 0 rfl ?_
        refine hv_callVr (As := []) (rest := []) (n := 0) C (c_X5_looksOn l w g hg (f_ticks A i) 0 Y0 (by rw [e4]; exact h4) (by rw [e4, e5, e6, e7, e9]; exact hW) (by rw [e0]; exact h0) h11i (by rw [e4]; exact h12i)) gX5_settle_X5_looksOn rfl (by decide +kernel) ⟨Nat.le_of_ble_eq_true rfl, Nat.le_of_ble_eq_true rfl⟩ (hv_rcO md_o rfl) rfl rfl (Nat.le_of_ble_eq_true rfl) dX5_settle_34 ⟨by first | exact Nat.le_of_ble_eq_true rfl | omega, by first | exact Nat.le_of_ble_eq_true rfl | omega⟩ (fun r11 Y1 hr => ?_)
        obtain ⟨rfl, rfl⟩ := hr
        refine hv_istore_n (lv1 := [(0, .ref (g.1)), (1, .int (nI t)), (2, .int (nI (f_chg (f_ticks A i) 64))), (3, .int (nI i))]) C dX5_settle_37 rfl (by decide) [1, 2, 0, 3] rfl ?_
        refine hv_iconst (v := nI 0) C dX5_settle_38 (by decide) ?_
        refine hv_istore (lv1 := [(0, .ref (g.1)), (1, .int (nI t)), (2, .int (nI (f_chg (f_ticks A i) 64))), (3, .int (nI i)), (4, .int (nI 0))]) C dX5_settle_39 (by decide) [1, 2, 3, 4, 0] rfl ?_
        refine hv_fin ?_ (md_eq (f_cp_0 _).symm) rfl
        refine hv_loop 64 (fun k => md_Y w g (f_cp (f_ticks A i) k) 0 Y0) (fun k => [(0, .ref (g.1)), (1, .int (nI t)), (2, .int (nI (f_chg (f_ticks A i) 64))), (3, .int (nI i)), (4, .int (nI k))]) ?_ ?_
        · skip
          refine hv_iload C dX5_settle_41 4 rfl ?_
          refine hv_bipush (v := nI 64) C dX5_settle_43 (by decide) ?_
          refine hv_icmpN_ge (tgt := 82) C dX5_settle_45 (by decide) (by omega) (by omega) (fun _ => ?_) (fun h => absurd h (by decide))
          refine hv_iinc (v := nI (i + 1)) (lv1 := [(0, .ref (g.1)), (1, .int (nI t)), (2, .int (nI (f_chg (f_ticks A i) 64))), (3, .int (nI (i + 1))), (4, .int (nI 64))]) C dX5_settle_82 (k := 3) rfl (nI_1 _) (by decide) [1, 2, 3, 0, 4] rfl ?_
          refine hv_goto (tgt := 28) C dX5_settle_85 (by decide) ?_
          exact hv_sub (lv1 := [(0, .ref (g.1)), (1, .int (nI t)), (2, .int (nI (f_chg (f_ticks A i) 64))), (3, .int (nI (i + 1)))]) [0, 1, 2, 3] rfl (hv_fin ih (md_eq (f_cp_64 _)) rfl)
        · intro k hk ihk
          have hnf := f_nf_le (f_ticks A i) k
          have hnb := f_nb_le (f_ticks A i) k
          refine hv_iload C dX5_settle_41 4 rfl ?_
          refine hv_bipush (v := nI 64) C dX5_settle_43 (by decide) ?_
          refine hv_icmpN_ge (tgt := 82) C dX5_settle_45 (by decide) (by omega) (by omega) (fun h13 => ?_) (fun h13 => ?_)
          · skip
            exact absurd h13 (by omega)
          · skip
            refine hv_aload_n C dX5_settle_48 rfl 0 rfl ?_
            refine hm_get (k := 11) (v := .ref (g.2.1 11)) C hin (by decide) (by decide +kernel) rfl rfl dX5_settle_49 ?_
            refine hv_iload C dX5_settle_52 4 rfl ?_
            refine hv_aload_n C dX5_settle_54 rfl 0 rfl ?_
            refine hm_get (k := 13) (v := .ref (g.2.1 13)) C hin (by decide) (by decide +kernel) rfl rfl dX5_settle_55 ?_
            refine hv_iload C dX5_settle_58 4 rfl ?_
            refine hm_iald (k := 13) (n := k) (x := (nI (f_nf (f_ticks A i) k) + (-1))) C hg (by decide) (by decide) (show k < 64 from by omega) (f_cp_13 hk) dX5_settle_60 ?_
            refine hm_iast (k := 11) (n := k) (v := f_nf (f_ticks A i) k) C hg (by decide) (by decide) (show k < 64 from by omega) rfl dX5_settle_61 ?_
            refine hv_aload_n C dX5_settle_62 rfl 0 rfl ?_
            refine hm_get (k := 12) (v := .ref (g.2.1 12)) C hin (by decide) (by decide +kernel) rfl rfl dX5_settle_63 ?_
            refine hv_iload C dX5_settle_66 4 rfl ?_
            refine hv_aload_n C dX5_settle_68 rfl 0 rfl ?_
            refine hm_get (k := 14) (v := .ref (g.2.1 14)) C hin (by decide) (by decide +kernel) rfl rfl dX5_settle_69 ?_
            refine hv_iload C dX5_settle_72 4 rfl ?_
            refine hm_iald (k := 14) (n := k) (x := (nI (f_nb (f_ticks A i) k) + (-1))) C hg (by decide) (by decide) (show k < 64 from by omega) (f_cp_14 hk) dX5_settle_74 ?_
            refine hm_iast (k := 12) (n := k) (v := f_nb (f_ticks A i) k) C hg (by decide) (by decide) (show k < 64 from by omega) rfl dX5_settle_75 ?_
            refine hv_iinc (v := nI (k + 1)) (lv1 := [(0, .ref (g.1)), (1, .int (nI t)), (2, .int (nI (f_chg (f_ticks A i) 64))), (3, .int (nI i)), (4, .int (nI (k + 1)))]) C dX5_settle_76 (k := 4) rfl (nI_1 _) (by decide) [1, 2, 3, 4, 0] rfl ?_
            refine hv_goto (tgt := 41) C dX5_settle_79 (by decide) ?_
            exact hv_fin ihk (md_eq (f_cp_s _ k)) rfl
set_option maxRecDepth 100000 in
set_option maxHeartbeats 4000000 in
theorem c_X5_setOut (l : Launch) (w : hv_W) (g : md_g) (hg : md_ok g) (A : ab_A) (th : Nat) (Y0 : hv_H) (x y z : Int32) (h15 : A 15 0 ≤ 40) (h2 : ∀ b, b < 8 → A 2 b ≤ 6) : hv_Mr l yX5_setOut wsX5_setOut ({ frames := 2, cells := 0, slots := 0, locals := 42 }) w [.ref (g.1), .int (x), .int (y), .int (z)] (md_Y w g A th Y0) (fun r Y1 => md_P w g Y0 (q_setOut A x y z) r Y1) := by
  refine hv_ofV (cc := cX5_setOut) (own := RX5) (by decide) rfl rfl (Nat.le_of_ble_eq_true rfl) rfl ?_
  intro p e s m below meth c C hret _
  have hin : ∀ x ∈ wsX50, x ∈ wsX5_setOut := by decide +kernel
  rcases hx : ix 8 x with _ | b
  · skip
    refine hv_iload_n C dX5_setOut_0 rfl 1 rfl ?_
    refine hv_callSr (As := [.int (x)]) (rest := []) (n := 1) C (c_X5_isBasin l w _ ((x))) gX5_setOut_X5_isBasin rfl (by decide +kernel) ⟨Nat.le_of_ble_eq_true rfl, Nat.le_of_ble_eq_true rfl⟩ rfl rfl (Nat.le_of_ble_eq_true rfl) dX5_setOut_1 ⟨by first | exact Nat.le_of_ble_eq_true rfl | omega, by first | exact Nat.le_of_ble_eq_true rfl | omega⟩ (fun r1 Y1 hr => ?_)
    obtain ⟨rfl, rfl⟩ := hr
    refine hv_ifb_eq (tgt := 18) C dX5_setOut_4 (by decide) (fun _ => ?_) (fun h => absurd h (ix_8n hx))
    refine hv_iconst (v := nI 0) C dX5_setOut_18 (by decide) ?_
    refine hv_istore (lv1 := [(0, .ref (g.1)), (1, .int (x)), (2, .int (y)), (3, .int (z)), (4, .int (nI 0))]) C dX5_setOut_19 (by decide) [1, 2, 3, 4, 0] rfl ?_
    refine hv_iload C dX5_setOut_21 4 rfl ?_
    refine hv_ifN_eq (tgt := 55) C dX5_setOut_23 (by decide) (by omega) (fun _ => ?_) (fun h => absurd h (by decide))
    refine hv_iconst (v := nI 0) C dX5_setOut_55 (by decide) ?_
    refine hv_istore (lv1 := [(0, .ref (g.1)), (1, .int (x)), (2, .int (y)), (3, .int (z)), (4, .int (nI 0)), (5, .int (nI 0))]) C dX5_setOut_56 (by decide) [1, 2, 3, 4, 5, 0] rfl ?_
    refine hv_aload_n C dX5_setOut_58 rfl 0 rfl ?_
    refine hv_iload C dX5_setOut_59 4 rfl ?_
    refine hv_ifN_ne (tgt := 68) C dX5_setOut_61 (by decide) (by omega) (fun h => absurd h (by decide)) (fun _ => ?_)
    refine hv_iconst (v := nI 1) C dX5_setOut_64 (by decide) ?_
    refine hv_goto (tgt := 92) C dX5_setOut_65 (by decide) ?_
    refine hv_callVr (As := [.int (nI 1)]) (rest := []) (n := 1) C (c_X5_can l w g hg A th Y0 1 (by omega)) gX5_setOut_X5_can rfl (by decide +kernel) ⟨Nat.le_of_ble_eq_true rfl, Nat.le_of_ble_eq_true rfl⟩ (hv_rcO md_o rfl) rfl rfl (Nat.le_of_ble_eq_true rfl) dX5_setOut_92 ⟨by first | exact Nat.le_of_ble_eq_true rfl | omega, by first | exact Nat.le_of_ble_eq_true rfl | omega⟩ (fun r5 Y1 hr => ?_)
    obtain ⟨rfl, rfl⟩ := hr
    refine hv_ifb_ne (tgt := 100) C dX5_setOut_95 (by decide) (fun h => absurd h (by decide)) (fun _ => ?_)
    refine hv_iconst (v := nI 0) C dX5_setOut_98 (by decide) ?_
    exact hv_iret C hret dX5_setOut_99 (by first | exact Nat.le_refl _ | decide) (by first | exact Nat.le_refl _ | decide) ⟨by simp_all [q_setOut, md_ans], by simp_all [q_setOut, f_out, f_out0]⟩
  · skip
    obtain ⟨hb, rfl⟩ := ix_y hx
    rcases hy : ix 8 y with _ | d
    · skip
      refine hv_iload_n C dX5_setOut_0 rfl 1 rfl ?_
      refine hv_callSr (As := [.int (nI b)]) (rest := []) (n := 1) C (c_X5_isBasin l w _ ((nI b))) gX5_setOut_X5_isBasin rfl (by decide +kernel) ⟨Nat.le_of_ble_eq_true rfl, Nat.le_of_ble_eq_true rfl⟩ rfl rfl (Nat.le_of_ble_eq_true rfl) dX5_setOut_1 ⟨by first | exact Nat.le_of_ble_eq_true rfl | omega, by first | exact Nat.le_of_ble_eq_true rfl | omega⟩ (fun r7 Y1 hr => ?_)
      obtain ⟨rfl, rfl⟩ := hr
      refine hv_ifb_eq (tgt := 18) C dX5_setOut_4 (by decide) (fun h => absurd (ix_8c hb) h) (fun _ => ?_)
      refine hv_iload_n C dX5_setOut_7 rfl 2 rfl ?_
      refine hv_callSr (As := [.int (y)]) (rest := []) (n := 1) C (c_X5_isBasin l w _ ((y))) gX5_setOut_X5_isBasin rfl (by decide +kernel) ⟨Nat.le_of_ble_eq_true rfl, Nat.le_of_ble_eq_true rfl⟩ rfl rfl (Nat.le_of_ble_eq_true rfl) dX5_setOut_8 ⟨by first | exact Nat.le_of_ble_eq_true rfl | omega, by first | exact Nat.le_of_ble_eq_true rfl | omega⟩ (fun r9 Y1 hr => ?_)
      obtain ⟨rfl, rfl⟩ := hr
      refine hv_ifb_eq (tgt := 18) C dX5_setOut_11 (by decide) (fun _ => ?_) (fun h => absurd h (ix_8n hy))
      refine hv_iconst (v := nI 0) C dX5_setOut_18 (by decide) ?_
      refine hv_istore (lv1 := [(0, .ref (g.1)), (1, .int (nI b)), (2, .int (y)), (3, .int (z)), (4, .int (nI 0))]) C dX5_setOut_19 (by decide) [1, 2, 3, 4, 0] rfl ?_
      refine hv_iload C dX5_setOut_21 4 rfl ?_
      refine hv_ifN_eq (tgt := 55) C dX5_setOut_23 (by decide) (by omega) (fun _ => ?_) (fun h => absurd h (by decide))
      refine hv_iconst (v := nI 0) C dX5_setOut_55 (by decide) ?_
      refine hv_istore (lv1 := [(0, .ref (g.1)), (1, .int (nI b)), (2, .int (y)), (3, .int (z)), (4, .int (nI 0)), (5, .int (nI 0))]) C dX5_setOut_56 (by decide) [1, 2, 3, 4, 5, 0] rfl ?_
      refine hv_aload_n C dX5_setOut_58 rfl 0 rfl ?_
      refine hv_iload C dX5_setOut_59 4 rfl ?_
      refine hv_ifN_ne (tgt := 68) C dX5_setOut_61 (by decide) (by omega) (fun h => absurd h (by decide)) (fun _ => ?_)
      refine hv_iconst (v := nI 1) C dX5_setOut_64 (by decide) ?_
      refine hv_goto (tgt := 92) C dX5_setOut_65 (by decide) ?_
      refine hv_callVr (As := [.int (nI 1)]) (rest := []) (n := 1) C (c_X5_can l w g hg A th Y0 1 (by omega)) gX5_setOut_X5_can rfl (by decide +kernel) ⟨Nat.le_of_ble_eq_true rfl, Nat.le_of_ble_eq_true rfl⟩ (hv_rcO md_o rfl) rfl rfl (Nat.le_of_ble_eq_true rfl) dX5_setOut_92 ⟨by first | exact Nat.le_of_ble_eq_true rfl | omega, by first | exact Nat.le_of_ble_eq_true rfl | omega⟩ (fun r13 Y1 hr => ?_)
      obtain ⟨rfl, rfl⟩ := hr
      refine hv_ifb_ne (tgt := 100) C dX5_setOut_95 (by decide) (fun h => absurd h (by decide)) (fun _ => ?_)
      refine hv_iconst (v := nI 0) C dX5_setOut_98 (by decide) ?_
      exact hv_iret C hret dX5_setOut_99 (by first | exact Nat.le_refl _ | decide) (by first | exact Nat.le_refl _ | decide) ⟨by simp_all [q_setOut, md_ans], by simp_all [q_setOut, f_out, f_out0]⟩
    · skip
      obtain ⟨hd, rfl⟩ := ix_y hy
      have h2b := h2 b hb
      rcases hz : rg 1 20 z with _ | n
      · skip
        refine hv_iload_n C dX5_setOut_0 rfl 1 rfl ?_
        refine hv_callSr (As := [.int (nI b)]) (rest := []) (n := 1) C (c_X5_isBasin l w _ ((nI b))) gX5_setOut_X5_isBasin rfl (by decide +kernel) ⟨Nat.le_of_ble_eq_true rfl, Nat.le_of_ble_eq_true rfl⟩ rfl rfl (Nat.le_of_ble_eq_true rfl) dX5_setOut_1 ⟨by first | exact Nat.le_of_ble_eq_true rfl | omega, by first | exact Nat.le_of_ble_eq_true rfl | omega⟩ (fun r15 Y1 hr => ?_)
        obtain ⟨rfl, rfl⟩ := hr
        refine hv_ifb_eq (tgt := 18) C dX5_setOut_4 (by decide) (fun h => absurd (ix_8c hb) h) (fun _ => ?_)
        refine hv_iload_n C dX5_setOut_7 rfl 2 rfl ?_
        refine hv_callSr (As := [.int (nI d)]) (rest := []) (n := 1) C (c_X5_isBasin l w _ ((nI d))) gX5_setOut_X5_isBasin rfl (by decide +kernel) ⟨Nat.le_of_ble_eq_true rfl, Nat.le_of_ble_eq_true rfl⟩ rfl rfl (Nat.le_of_ble_eq_true rfl) dX5_setOut_8 ⟨by first | exact Nat.le_of_ble_eq_true rfl | omega, by first | exact Nat.le_of_ble_eq_true rfl | omega⟩ (fun r17 Y1 hr => ?_)
        obtain ⟨rfl, rfl⟩ := hr
        refine hv_ifb_eq (tgt := 18) C dX5_setOut_11 (by decide) (fun h => absurd (ix_8c hd) h) (fun _ => ?_)
        refine hv_iconst (v := nI 1) C dX5_setOut_14 (by decide) ?_
        refine hv_goto (tgt := 19) C dX5_setOut_15 (by decide) ?_
        refine hv_istore (lv1 := [(0, .ref (g.1)), (1, .int (nI b)), (2, .int (nI d)), (3, .int (z)), (4, .int (nI 1))]) C dX5_setOut_19 (by decide) [1, 2, 3, 4, 0] rfl ?_
        refine hv_iload C dX5_setOut_21 4 rfl ?_
        refine hv_ifN_eq (tgt := 55) C dX5_setOut_23 (by decide) (by omega) (fun h => absurd h (by decide)) (fun _ => ?_)
        refine hv_join (α := Nat) (pcJ := 56) (fun _ => md_Y w g A th Y0) (fun _ => [(0, .ref (g.1)), (1, .int (nI b)), (2, .int (nI d)), (3, .int (z)), (4, .int (nI 1))]) (fun t => .int (nI t) :: []) (fun t => t = b2 (A 15 0 = 40 ∨ (A 2 b = 6 ∧ b ≠ d))) ?_ ?_
        · rintro _ rfl
          refine hv_istore (lv1 := [(0, .ref (g.1)), (1, .int (nI b)), (2, .int (nI d)), (3, .int (z)), (4, .int (nI 1)), (5, .int (nI (b2 (A 15 0 = 40 ∨ (A 2 b = 6 ∧ b ≠ d)))))]) C dX5_setOut_56 (by decide) [1, 2, 3, 4, 5, 0] rfl ?_
          refine hv_aload_n C dX5_setOut_58 rfl 0 rfl ?_
          refine hv_iload C dX5_setOut_59 4 rfl ?_
          refine hv_ifN_ne (tgt := 68) C dX5_setOut_61 (by decide) (by omega) (fun _ => ?_) (fun h => absurd h (by decide))
          refine hv_iload_n C dX5_setOut_68 rfl 3 rfl ?_
          refine hv_iconst (v := nI 1) C dX5_setOut_69 (by decide) ?_
          refine hv_bipush (v := nI 20) C dX5_setOut_70 (by decide) ?_
          refine hv_callSr (As := [.int (z), .int (nI 1), .int (nI 20)]) (rest := [.ref (g.1)]) (n := 3) C (c_X5_isIn l w _ ((z)) ((nI 1)) ((nI 20))) gX5_setOut_X5_isIn rfl (by decide +kernel) ⟨Nat.le_of_ble_eq_true rfl, Nat.le_of_ble_eq_true rfl⟩ rfl rfl (Nat.le_of_ble_eq_true rfl) dX5_setOut_72 ⟨by first | exact Nat.le_of_ble_eq_true rfl | omega, by first | exact Nat.le_of_ble_eq_true rfl | omega⟩ (fun r22 Y1 hr => ?_)
          obtain ⟨rfl, rfl⟩ := hr
          refine hv_ifb_ne (tgt := 82) C dX5_setOut_75 (by decide) (fun h => absurd h (rg_n hz)) (fun _ => ?_)
          refine hv_iconst (v := nI 2) C dX5_setOut_78 (by decide) ?_
          refine hv_goto (tgt := 92) C dX5_setOut_79 (by decide) ?_
          refine hv_callVr (As := [.int (nI 2)]) (rest := []) (n := 1) C (c_X5_can l w g hg A th Y0 2 (by omega)) gX5_setOut_X5_can rfl (by decide +kernel) ⟨Nat.le_of_ble_eq_true rfl, Nat.le_of_ble_eq_true rfl⟩ (hv_rcO md_o rfl) rfl rfl (Nat.le_of_ble_eq_true rfl) dX5_setOut_92 ⟨by first | exact Nat.le_of_ble_eq_true rfl | omega, by first | exact Nat.le_of_ble_eq_true rfl | omega⟩ (fun r24 Y1 hr => ?_)
          obtain ⟨rfl, rfl⟩ := hr
          refine hv_ifb_ne (tgt := 100) C dX5_setOut_95 (by decide) (fun h => absurd h (by decide)) (fun _ => ?_)
          refine hv_iconst (v := nI 0) C dX5_setOut_98 (by decide) ?_
          exact hv_iret C hret dX5_setOut_99 (by first | exact Nat.le_refl _ | decide) (by first | exact Nat.le_refl _ | decide) ⟨by simp_all [q_setOut, md_ans], by simp_all [q_setOut, f_out, f_out0]⟩
        · intro k20
          refine hv_aload_n C dX5_setOut_26 rfl 0 rfl ?_
          refine hm_get (k := 15) (v := .int (nI (A 15 0))) C hin (by decide) (by decide +kernel) rfl rfl dX5_setOut_27 ?_
          refine hv_bipush (v := nI 40) C dX5_setOut_30 (by decide) ?_
          refine hv_icmpN_eq (tgt := 51) C dX5_setOut_32 (by decide) (by omega) (by omega) (fun h26 => ?_) (fun h26 => ?_)
          · skip
            refine hv_iconst (v := nI 1) C dX5_setOut_51 (by decide) ?_
            refine hv_goto (tgt := 56) C dX5_setOut_52 (by decide) ?_
            exact k20 _ (b2_t (by omega)).symm
          · skip
            refine hv_aload_n C dX5_setOut_35 rfl 0 rfl ?_
            refine hm_get (k := 2) (v := .ref (g.2.1 2)) C hin (by decide) (by decide +kernel) rfl rfl dX5_setOut_36 ?_
            refine hv_iload_n C dX5_setOut_39 rfl 1 rfl ?_
            refine hm_iald (k := 2) (n := b) (x := (nI (A 2 b))) C hg (by decide) (by decide) (show b < 8 from by omega) rfl dX5_setOut_40 ?_
            refine hv_bipush (v := nI 6) C dX5_setOut_41 (by decide) ?_
            refine hv_icmpN_ne (tgt := 55) C dX5_setOut_43 (by decide) (by omega) (by omega) (fun h27 => ?_) (fun h27 => ?_)
            · skip
              refine hv_iconst (v := nI 0) C dX5_setOut_55 (by decide) ?_
              exact k20 _ (b2_f (by omega)).symm
            · skip
              refine hv_iload_n C dX5_setOut_46 rfl 1 rfl ?_
              refine hv_iload_n C dX5_setOut_47 rfl 2 rfl ?_
              refine hv_icmpN_eq (tgt := 55) C dX5_setOut_48 (by decide) (by omega) (by omega) (fun h28 => ?_) (fun h28 => ?_)
              · skip
                refine hv_iconst (v := nI 0) C dX5_setOut_55 (by decide) ?_
                exact k20 _ (b2_f (by omega)).symm
              · skip
                refine hv_iconst (v := nI 1) C dX5_setOut_51 (by decide) ?_
                refine hv_goto (tgt := 56) C dX5_setOut_52 (by decide) ?_
                exact k20 _ (b2_t (by omega)).symm
      · skip
        obtain ⟨hn, hn2, rfl⟩ := rg_s (by decide) (by decide) hz
        have h2b := h2 b hb
        refine hv_iload_n C dX5_setOut_0 rfl 1 rfl ?_
        refine hv_callSr (As := [.int (nI b)]) (rest := []) (n := 1) C (c_X5_isBasin l w _ ((nI b))) gX5_setOut_X5_isBasin rfl (by decide +kernel) ⟨Nat.le_of_ble_eq_true rfl, Nat.le_of_ble_eq_true rfl⟩ rfl rfl (Nat.le_of_ble_eq_true rfl) dX5_setOut_1 ⟨by first | exact Nat.le_of_ble_eq_true rfl | omega, by first | exact Nat.le_of_ble_eq_true rfl | omega⟩ (fun r29 Y1 hr => ?_)
        obtain ⟨rfl, rfl⟩ := hr
        refine hv_ifb_eq (tgt := 18) C dX5_setOut_4 (by decide) (fun h => absurd (ix_8c hb) h) (fun _ => ?_)
        refine hv_iload_n C dX5_setOut_7 rfl 2 rfl ?_
        refine hv_callSr (As := [.int (nI d)]) (rest := []) (n := 1) C (c_X5_isBasin l w _ ((nI d))) gX5_setOut_X5_isBasin rfl (by decide +kernel) ⟨Nat.le_of_ble_eq_true rfl, Nat.le_of_ble_eq_true rfl⟩ rfl rfl (Nat.le_of_ble_eq_true rfl) dX5_setOut_8 ⟨by first | exact Nat.le_of_ble_eq_true rfl | omega, by first | exact Nat.le_of_ble_eq_true rfl | omega⟩ (fun r31 Y1 hr => ?_)
        obtain ⟨rfl, rfl⟩ := hr
        refine hv_ifb_eq (tgt := 18) C dX5_setOut_11 (by decide) (fun h => absurd (ix_8c hd) h) (fun _ => ?_)
        refine hv_iconst (v := nI 1) C dX5_setOut_14 (by decide) ?_
        refine hv_goto (tgt := 19) C dX5_setOut_15 (by decide) ?_
        refine hv_istore (lv1 := [(0, .ref (g.1)), (1, .int (nI b)), (2, .int (nI d)), (3, .int (nI n)), (4, .int (nI 1))]) C dX5_setOut_19 (by decide) [1, 2, 3, 4, 0] rfl ?_
        refine hv_iload C dX5_setOut_21 4 rfl ?_
        refine hv_ifN_eq (tgt := 55) C dX5_setOut_23 (by decide) (by omega) (fun h => absurd h (by decide)) (fun _ => ?_)
        refine hv_join (α := Nat) (pcJ := 56) (fun _ => md_Y w g A th Y0) (fun _ => [(0, .ref (g.1)), (1, .int (nI b)), (2, .int (nI d)), (3, .int (nI n)), (4, .int (nI 1))]) (fun t => .int (nI t) :: []) (fun t => t = b2 (A 15 0 = 40 ∨ (A 2 b = 6 ∧ b ≠ d))) ?_ ?_
        · rintro _ rfl
          refine hv_istore (lv1 := [(0, .ref (g.1)), (1, .int (nI b)), (2, .int (nI d)), (3, .int (nI n)), (4, .int (nI 1)), (5, .int (nI (b2 (A 15 0 = 40 ∨ (A 2 b = 6 ∧ b ≠ d)))))]) C dX5_setOut_56 (by decide) [1, 2, 3, 4, 5, 0] rfl ?_
          refine hv_aload_n C dX5_setOut_58 rfl 0 rfl ?_
          refine hv_iload C dX5_setOut_59 4 rfl ?_
          refine hv_ifN_ne (tgt := 68) C dX5_setOut_61 (by decide) (by omega) (fun _ => ?_) (fun h => absurd h (by decide))
          refine hv_iload_n C dX5_setOut_68 rfl 3 rfl ?_
          refine hv_iconst (v := nI 1) C dX5_setOut_69 (by decide) ?_
          refine hv_bipush (v := nI 20) C dX5_setOut_70 (by decide) ?_
          refine hv_callSr (As := [.int (nI n), .int (nI 1), .int (nI 20)]) (rest := [.ref (g.1)]) (n := 3) C (c_X5_isIn l w _ ((nI n)) ((nI 1)) ((nI 20))) gX5_setOut_X5_isIn rfl (by decide +kernel) ⟨Nat.le_of_ble_eq_true rfl, Nat.le_of_ble_eq_true rfl⟩ rfl rfl (Nat.le_of_ble_eq_true rfl) dX5_setOut_72 ⟨by first | exact Nat.le_of_ble_eq_true rfl | omega, by first | exact Nat.le_of_ble_eq_true rfl | omega⟩ (fun r36 Y1 hr => ?_)
          obtain ⟨rfl, rfl⟩ := hr
          refine hv_ifb_ne (tgt := 82) C dX5_setOut_75 (by decide) (fun _ => ?_) (fun h => absurd (rg_c hn hn2 (by decide)) h)
          refine hv_iload C dX5_setOut_82 5 rfl ?_
          refine hv_ifb_eq (tgt := 91) C dX5_setOut_84 (by decide) (fun h38 => ?_) (fun h38 => ?_)
          · skip
            refine hv_iconst (v := nI 0) C dX5_setOut_91 (by decide) ?_
            refine hv_callVr (As := [.int (nI 0)]) (rest := []) (n := 1) C (c_X5_can l w g hg A th Y0 0 (by omega)) gX5_setOut_X5_can rfl (by decide +kernel) ⟨Nat.le_of_ble_eq_true rfl, Nat.le_of_ble_eq_true rfl⟩ (hv_rcO md_o rfl) rfl rfl (Nat.le_of_ble_eq_true rfl) dX5_setOut_92 ⟨by first | exact Nat.le_of_ble_eq_true rfl | omega, by first | exact Nat.le_of_ble_eq_true rfl | omega⟩ (fun r39 Y1 hr => ?_)
            obtain ⟨rfl, rfl⟩ := hr
            refine hv_ifb_ne (tgt := 100) C dX5_setOut_95 (by decide) (fun _ => ?_) (fun h => absurd rfl h)
            refine hv_aload_n C dX5_setOut_100 rfl 0 rfl ?_
            refine hm_get (k := 15) (v := .int (nI (A 15 0))) C hin (by decide) (by decide +kernel) rfl rfl dX5_setOut_101 ?_
            refine hv_istore (lv1 := [(0, .ref (g.1)), (1, .int (nI b)), (2, .int (nI d)), (3, .int (nI n)), (4, .int (nI 1)), (5, .int (nI (b2 (A 15 0 = 40 ∨ (A 2 b = 6 ∧ b ≠ d))))), (6, .int (nI (A 15 0)))]) C dX5_setOut_104 (by decide) [1, 2, 3, 4, 5, 6, 0] rfl ?_
            refine hv_aload_n C dX5_setOut_106 rfl 0 rfl ?_
            refine hv_dup C dX5_setOut_107 rfl ?_
            refine hm_get (k := 15) (v := .int (nI (A 15 0))) C hin (by decide) (by decide +kernel) rfl rfl dX5_setOut_108 ?_
            refine hv_iconst (v := nI 1) C dX5_setOut_111 (by decide) ?_
            refine hv_iaddN C dX5_setOut_112 ?_
            refine hm_put (k := 15) (n := (A 15 0) + 1) C hg (by decide) rfl hin (by decide +kernel) rfl dX5_setOut_113 ?_
            refine hv_aload_n C dX5_setOut_116 rfl 0 rfl ?_
            refine hm_get (k := 17) (v := .ref (g.2.1 17)) C hin (by decide) (by decide +kernel) rfl rfl dX5_setOut_117 ?_
            refine hv_iload C dX5_setOut_120 6 rfl ?_
            refine hv_iload_n C dX5_setOut_122 rfl 2 rfl ?_
            refine hm_iast (k := 17) (n := A 15 0) (v := d) C hg (by decide) (by decide) (show A 15 0 < 40 from by omega) rfl dX5_setOut_123 ?_
            refine hv_aload_n C dX5_setOut_124 rfl 0 rfl ?_
            refine hm_get (k := 18) (v := .ref (g.2.1 18)) C hin (by decide) (by decide +kernel) rfl rfl dX5_setOut_125 ?_
            refine hv_iload C dX5_setOut_128 6 rfl ?_
            refine hv_iload_n C dX5_setOut_130 rfl 3 rfl ?_
            refine hm_iast (k := 18) (n := A 15 0) (v := n) C hg (by decide) (by decide) (show A 15 0 < 40 from by omega) rfl dX5_setOut_131 ?_
            refine hv_aload_n C dX5_setOut_132 rfl 0 rfl ?_
            refine hm_get (k := 22) (v := .ref (g.2.1 22)) C hin (by decide) (by decide +kernel) rfl rfl dX5_setOut_133 ?_
            refine hv_iload C dX5_setOut_136 6 rfl ?_
            refine hv_iload_n C dX5_setOut_138 rfl 1 rfl ?_
            refine hm_iast (k := 22) (n := A 15 0) (v := b) C hg (by decide) (by decide) (show A 15 0 < 40 from by omega) rfl dX5_setOut_139 ?_
            refine hv_aload_n C dX5_setOut_140 rfl 0 rfl ?_
            refine hm_get (k := 23) (v := .ref (g.2.1 23)) C hin (by decide) (by decide +kernel) rfl rfl dX5_setOut_141 ?_
            refine hv_iload C dX5_setOut_144 6 rfl ?_
            refine hv_iconst (v := nI 1) C dX5_setOut_146 (by decide) ?_
            refine hv_iload_n C dX5_setOut_147 rfl 1 rfl ?_
            refine hv_ishl C dX5_setOut_148 ?_
            refine hv_top (nb_shl b (by omega)) ?_
            refine hm_iast (k := 23) (n := A 15 0) (v := 2 ^ b) C hg (by decide) (by decide) (show A 15 0 < 40 from by omega) rfl dX5_setOut_149 ?_
            refine hv_aload_n C dX5_setOut_150 rfl 0 rfl ?_
            refine hm_get (k := 24) (v := .ref (g.2.1 24)) C hin (by decide) (by decide +kernel) rfl rfl dX5_setOut_151 ?_
            refine hv_iload C dX5_setOut_154 6 rfl ?_
            refine hv_iconst (v := nI 0 + (-1)) C dX5_setOut_156 (by decide) ?_
            refine hm_iast (k := 24) (n := A 15 0) (v := 0) C hg (by decide) (by decide) (show A 15 0 < 40 from by omega) rfl dX5_setOut_157 ?_
            refine hv_aload_n C dX5_setOut_158 rfl 0 rfl ?_
            refine hm_get (k := 21) (v := .ref (g.2.1 21)) C hin (by decide) (by decide +kernel) rfl rfl dX5_setOut_159 ?_
            refine hv_iload C dX5_setOut_162 6 rfl ?_
            refine hv_join (α := Nat) (pcJ := 174) (fun _ => md_Y w g (au (au (au (au (au (au A 15 0 ((A 15 0) + 1)) 17 (A 15 0) d) 18 (A 15 0) n) 22 (A 15 0) b) 23 (A 15 0) (2 ^ b)) 24 (A 15 0) 0) 0 Y0) (fun _ => [(0, .ref (g.1)), (1, .int (nI b)), (2, .int (nI d)), (3, .int (nI n)), (4, .int (nI 1)), (5, .int (nI (b2 (A 15 0 = 40 ∨ (A 2 b = 6 ∧ b ≠ d))))), (6, .int (nI (A 15 0)))]) (fun t => .int (nI t) :: [.int (nI (A 15 0)), .ref (g.2.1 21)]) (fun t => t = if b = d then 1 else 0) ?_ ?_
            · rintro _ rfl
              refine hm_iast (k := 21) (n := A 15 0) (v := if b = d then 1 else 0) C hg (by decide) (by decide) (show A 15 0 < 40 from by omega) rfl dX5_setOut_174 ?_
              refine hv_iload_n C dX5_setOut_175 rfl 1 rfl ?_
              refine hv_iload_n C dX5_setOut_176 rfl 2 rfl ?_
              refine hv_icmpN_eq (tgt := 187) C dX5_setOut_177 (by decide) (by omega) (by omega) (fun h42 => ?_) (fun h42 => ?_)
              · skip
                refine hv_iload C dX5_setOut_187 6 rfl ?_
                exact hv_iret C hret dX5_setOut_189 (by first | exact Nat.le_refl _ | decide) (by first | exact Nat.le_refl _ | decide) ⟨by simp_all [q_setOut, md_ans], by simp_all [q_setOut, f_out, f_out0]⟩
              · skip
                refine hv_aload_n C dX5_setOut_180 rfl 0 rfl ?_
                refine hv_iload C dX5_setOut_181 6 rfl ?_
                refine hv_iload_n C dX5_setOut_183 rfl 1 rfl ?_
                refine hv_callVv (As := [.int (nI (A 15 0)), .int (nI b)]) (rest := []) (n := 2) C (c_X5_joins l w g hg (au (au (au (au (au (au (au A 15 0 ((A 15 0) + 1)) 17 (A 15 0) d) 18 (A 15 0) n) 22 (A 15 0) b) 23 (A 15 0) (2 ^ b)) 24 (A 15 0) 0) 21 (A 15 0) (if b = d then 1 else 0)) 0 Y0 (A 15 0) b (by omega) (show A 2 b < 6 from by omega)) gX5_setOut_X5_joins rfl (by decide +kernel) ⟨Nat.le_of_ble_eq_true rfl, Nat.le_of_ble_eq_true rfl⟩ (hv_rcO md_o rfl) rfl rfl (Nat.le_of_ble_eq_true rfl) dX5_setOut_184 ⟨by first | exact Nat.le_of_ble_eq_true rfl | omega, by first | exact Nat.le_of_ble_eq_true rfl | omega⟩ (fun Y1 hr => ?_)
                subst hr
                refine hv_iload C dX5_setOut_187 6 rfl ?_
                exact hv_iret C hret dX5_setOut_189 (by first | exact Nat.le_refl _ | decide) (by first | exact Nat.le_refl _ | decide) ⟨by simp_all [q_setOut, md_ans], by simp_all [q_setOut, f_out, f_out0]⟩
            · intro k41
              refine hv_iload_n C dX5_setOut_164 rfl 1 rfl ?_
              refine hv_iload_n C dX5_setOut_165 rfl 2 rfl ?_
              refine hv_icmpN_ne (tgt := 173) C dX5_setOut_166 (by decide) (by omega) (by omega) (fun h44 => ?_) (fun h44 => ?_)
              · skip
                refine hv_iconst (v := nI 0) C dX5_setOut_173 (by decide) ?_
                exact k41 _ (by first | rw [if_pos h44] | rw [if_neg h44])
              · skip
                refine hv_iconst (v := nI 1) C dX5_setOut_169 (by decide) ?_
                refine hv_goto (tgt := 174) C dX5_setOut_170 (by decide) ?_
                exact k41 _ (by first | rw [if_pos h44] | rw [if_neg h44])
          · skip
            refine hv_iconst (v := nI 3) C dX5_setOut_87 (by decide) ?_
            refine hv_goto (tgt := 92) C dX5_setOut_88 (by decide) ?_
            refine hv_callVr (As := [.int (nI 3)]) (rest := []) (n := 1) C (c_X5_can l w g hg A th Y0 3 (by omega)) gX5_setOut_X5_can rfl (by decide +kernel) ⟨Nat.le_of_ble_eq_true rfl, Nat.le_of_ble_eq_true rfl⟩ (hv_rcO md_o rfl) rfl rfl (Nat.le_of_ble_eq_true rfl) dX5_setOut_92 ⟨by first | exact Nat.le_of_ble_eq_true rfl | omega, by first | exact Nat.le_of_ble_eq_true rfl | omega⟩ (fun r45 Y1 hr => ?_)
            obtain ⟨rfl, rfl⟩ := hr
            refine hv_ifb_ne (tgt := 100) C dX5_setOut_95 (by decide) (fun h => absurd h (by decide)) (fun _ => ?_)
            refine hv_iconst (v := nI 0) C dX5_setOut_98 (by decide) ?_
            exact hv_iret C hret dX5_setOut_99 (by first | exact Nat.le_refl _ | decide) (by first | exact Nat.le_refl _ | decide) ⟨by simp_all [q_setOut, md_ans], by simp_all [q_setOut, f_out, f_out0]⟩
        · intro k34
          refine hv_aload_n C dX5_setOut_26 rfl 0 rfl ?_
          refine hm_get (k := 15) (v := .int (nI (A 15 0))) C hin (by decide) (by decide +kernel) rfl rfl dX5_setOut_27 ?_
          refine hv_bipush (v := nI 40) C dX5_setOut_30 (by decide) ?_
          refine hv_icmpN_eq (tgt := 51) C dX5_setOut_32 (by decide) (by omega) (by omega) (fun h47 => ?_) (fun h47 => ?_)
          · skip
            refine hv_iconst (v := nI 1) C dX5_setOut_51 (by decide) ?_
            refine hv_goto (tgt := 56) C dX5_setOut_52 (by decide) ?_
            exact k34 _ (b2_t (by omega)).symm
          · skip
            refine hv_aload_n C dX5_setOut_35 rfl 0 rfl ?_
            refine hm_get (k := 2) (v := .ref (g.2.1 2)) C hin (by decide) (by decide +kernel) rfl rfl dX5_setOut_36 ?_
            refine hv_iload_n C dX5_setOut_39 rfl 1 rfl ?_
            refine hm_iald (k := 2) (n := b) (x := (nI (A 2 b))) C hg (by decide) (by decide) (show b < 8 from by omega) rfl dX5_setOut_40 ?_
            refine hv_bipush (v := nI 6) C dX5_setOut_41 (by decide) ?_
            refine hv_icmpN_ne (tgt := 55) C dX5_setOut_43 (by decide) (by omega) (by omega) (fun h48 => ?_) (fun h48 => ?_)
            · skip
              refine hv_iconst (v := nI 0) C dX5_setOut_55 (by decide) ?_
              exact k34 _ (b2_f (by omega)).symm
            · skip
              refine hv_iload_n C dX5_setOut_46 rfl 1 rfl ?_
              refine hv_iload_n C dX5_setOut_47 rfl 2 rfl ?_
              refine hv_icmpN_eq (tgt := 55) C dX5_setOut_48 (by decide) (by omega) (by omega) (fun h49 => ?_) (fun h49 => ?_)
              · skip
                refine hv_iconst (v := nI 0) C dX5_setOut_55 (by decide) ?_
                exact k34 _ (b2_f (by omega)).symm
              · skip
                refine hv_iconst (v := nI 1) C dX5_setOut_51 (by decide) ?_
                refine hv_goto (tgt := 56) C dX5_setOut_52 (by decide) ?_
                exact k34 _ (b2_t (by omega)).symm
theorem q_queued_1 {A : ab_A} {x : Int32} {b j : Nat} (hx : ix 8 x = some b) (hj : j < 2 ^ 31) (hb : A 2 b < 2 ^ 31) : q_queued A x (nI j) = if j < A 2 b then (0, nI (A 3 (6 * b + j)), A) else (0, nI 0 + (-1), A) := by
  unfold q_queued
  rw [hx]
  dsimp only
  rw [if_neg (fun q => absurd ((nI_ltI hj (by decide)).mp q) (by omega)), nI_clamp hj]
  by_cases h : j < A 2 b
  · rw [if_pos ((nI_ltI hj hb).mpr h), if_pos h]
  · rw [if_neg (fun q => h ((nI_ltI hj hb).mp q)), if_neg h]
theorem q_queued_2 {A : ab_A} {x y : Int32} {b : Nat} (hx : ix 8 x = some b) (hy : y < nI 0) : q_queued A x y = (2, nI 0, A) := by
  unfold q_queued
  rw [hx]
  dsimp only
  rw [if_pos hy]
  rfl
theorem q_queued_0 {A : ab_A} {x y : Int32} (hx : ix 8 x = none) : q_queued A x y = (1, nI 0, A) := by
  unfold q_queued
  rw [hx]
  rfl
set_option maxRecDepth 100000 in
set_option maxHeartbeats 4000000 in
theorem c_X5_queued (l : Launch) (w : hv_W) (g : md_g) (hg : md_ok g) (A : ab_A) (th : Nat) (Y0 : hv_H) (x y : Int32) (h2 : ∀ b, b < 8 → A 2 b ≤ 6) : hv_Mr l yX5_queued wsX5_queued ({ frames := 2, cells := 0, slots := 0, locals := 42 }) w [.ref (g.1), .int (x), .int (y)] (md_Y w g A th Y0) (fun r Y1 => md_P w g Y0 (q_queued A x y) r Y1) := by
  refine hv_ofV (cc := cX5_queued) (own := RX5) (by decide) rfl rfl (Nat.le_of_ble_eq_true rfl) rfl ?_
  intro p e s m below meth c C hret _
  have hin : ∀ x ∈ wsX50, x ∈ wsX5_queued := by decide +kernel
  rcases hx : ix 8 x with _ | b
  · skip
    refine hv_aload_n C dX5_queued_0 rfl 0 rfl ?_
    refine hv_iload_n C dX5_queued_1 rfl 1 rfl ?_
    refine hv_callSr (As := [.int (x)]) (rest := [.ref (g.1)]) (n := 1) C (c_X5_isBasin l w _ ((x))) gX5_queued_X5_isBasin rfl (by decide +kernel) ⟨Nat.le_of_ble_eq_true rfl, Nat.le_of_ble_eq_true rfl⟩ rfl rfl (Nat.le_of_ble_eq_true rfl) dX5_queued_2 ⟨by first | exact Nat.le_of_ble_eq_true rfl | omega, by first | exact Nat.le_of_ble_eq_true rfl | omega⟩ (fun r1 Y1 hr => ?_)
    obtain ⟨rfl, rfl⟩ := hr
    refine hv_ifb_ne (tgt := 12) C dX5_queued_5 (by decide) (fun h => absurd h (ix_8n hx)) (fun _ => ?_)
    refine hv_iconst (v := nI 1) C dX5_queued_8 (by decide) ?_
    refine hv_goto (tgt := 21) C dX5_queued_9 (by decide) ?_
    refine hv_callVr (As := [.int (nI 1)]) (rest := []) (n := 1) C (c_X5_can l w g hg A th Y0 1 (by omega)) gX5_queued_X5_can rfl (by decide +kernel) ⟨Nat.le_of_ble_eq_true rfl, Nat.le_of_ble_eq_true rfl⟩ (hv_rcO md_o rfl) rfl rfl (Nat.le_of_ble_eq_true rfl) dX5_queued_21 ⟨by first | exact Nat.le_of_ble_eq_true rfl | omega, by first | exact Nat.le_of_ble_eq_true rfl | omega⟩ (fun r3 Y1 hr => ?_)
    obtain ⟨rfl, rfl⟩ := hr
    refine hv_ifb_ne (tgt := 29) C dX5_queued_24 (by decide) (fun h => absurd h (by decide)) (fun _ => ?_)
    refine hv_iconst (v := nI 0) C dX5_queued_27 (by decide) ?_
    exact hv_iret C hret dX5_queued_28 (by first | exact Nat.le_refl _ | decide) (by first | exact Nat.le_refl _ | decide) ⟨by rw [q_queued_0 hx]; rfl, by rw [q_queued_0 hx]⟩
  · skip
    obtain ⟨hb, rfl⟩ := ix_y hx
    by_cases hy : y < nI 0
    · skip
      refine hv_aload_n C dX5_queued_0 rfl 0 rfl ?_
      refine hv_iload_n C dX5_queued_1 rfl 1 rfl ?_
      refine hv_callSr (As := [.int (nI b)]) (rest := [.ref (g.1)]) (n := 1) C (c_X5_isBasin l w _ ((nI b))) gX5_queued_X5_isBasin rfl (by decide +kernel) ⟨Nat.le_of_ble_eq_true rfl, Nat.le_of_ble_eq_true rfl⟩ rfl rfl (Nat.le_of_ble_eq_true rfl) dX5_queued_2 ⟨by first | exact Nat.le_of_ble_eq_true rfl | omega, by first | exact Nat.le_of_ble_eq_true rfl | omega⟩ (fun r5 Y1 hr => ?_)
      obtain ⟨rfl, rfl⟩ := hr
      refine hv_ifb_ne (tgt := 12) C dX5_queued_5 (by decide) (fun _ => ?_) (fun h => absurd (ix_8c hb) h)
      refine hv_iload_n C dX5_queued_12 rfl 2 rfl ?_
      refine hv_if_ge (tgt := 20) C dX5_queued_13 (by decide) (fun h7 => ?_) (fun h7 => ?_)
      · skip
        exact absurd hy (Int32.not_lt.mpr h7)
      · skip
        refine hv_iconst (v := nI 2) C dX5_queued_16 (by decide) ?_
        refine hv_goto (tgt := 21) C dX5_queued_17 (by decide) ?_
        refine hv_callVr (As := [.int (nI 2)]) (rest := []) (n := 1) C (c_X5_can l w g hg A th Y0 2 (by omega)) gX5_queued_X5_can rfl (by decide +kernel) ⟨Nat.le_of_ble_eq_true rfl, Nat.le_of_ble_eq_true rfl⟩ (hv_rcO md_o rfl) rfl rfl (Nat.le_of_ble_eq_true rfl) dX5_queued_21 ⟨by first | exact Nat.le_of_ble_eq_true rfl | omega, by first | exact Nat.le_of_ble_eq_true rfl | omega⟩ (fun r8 Y1 hr => ?_)
        obtain ⟨rfl, rfl⟩ := hr
        refine hv_ifb_ne (tgt := 29) C dX5_queued_24 (by decide) (fun h => absurd h (by decide)) (fun _ => ?_)
        refine hv_iconst (v := nI 0) C dX5_queued_27 (by decide) ?_
        exact hv_iret C hret dX5_queued_28 (by first | exact Nat.le_refl _ | decide) (by first | exact Nat.le_refl _ | decide) ⟨by rw [q_queued_2 hx hy]; rfl, by rw [q_queued_2 hx hy]⟩
    · skip
      obtain ⟨j, hj, rfl⟩ := nI_pos_of (Int32.not_lt.mp hy)
      have h2b := h2 b hb
      refine hv_aload_n C dX5_queued_0 rfl 0 rfl ?_
      refine hv_iload_n C dX5_queued_1 rfl 1 rfl ?_
      refine hv_callSr (As := [.int (nI b)]) (rest := [.ref (g.1)]) (n := 1) C (c_X5_isBasin l w _ ((nI b))) gX5_queued_X5_isBasin rfl (by decide +kernel) ⟨Nat.le_of_ble_eq_true rfl, Nat.le_of_ble_eq_true rfl⟩ rfl rfl (Nat.le_of_ble_eq_true rfl) dX5_queued_2 ⟨by first | exact Nat.le_of_ble_eq_true rfl | omega, by first | exact Nat.le_of_ble_eq_true rfl | omega⟩ (fun r10 Y1 hr => ?_)
      obtain ⟨rfl, rfl⟩ := hr
      refine hv_ifb_ne (tgt := 12) C dX5_queued_5 (by decide) (fun _ => ?_) (fun h => absurd (ix_8c hb) h)
      refine hv_iload_n C dX5_queued_12 rfl 2 rfl ?_
      refine hv_ifN_ge (tgt := 20) C dX5_queued_13 (by decide) (by omega) (fun h12 => ?_) (fun h12 => ?_)
      · skip
        refine hv_iconst (v := nI 0) C dX5_queued_20 (by decide) ?_
        refine hv_callVr (As := [.int (nI 0)]) (rest := []) (n := 1) C (c_X5_can l w g hg A th Y0 0 (by omega)) gX5_queued_X5_can rfl (by decide +kernel) ⟨Nat.le_of_ble_eq_true rfl, Nat.le_of_ble_eq_true rfl⟩ (hv_rcO md_o rfl) rfl rfl (Nat.le_of_ble_eq_true rfl) dX5_queued_21 ⟨by first | exact Nat.le_of_ble_eq_true rfl | omega, by first | exact Nat.le_of_ble_eq_true rfl | omega⟩ (fun r13 Y1 hr => ?_)
        obtain ⟨rfl, rfl⟩ := hr
        refine hv_ifb_ne (tgt := 29) C dX5_queued_24 (by decide) (fun _ => ?_) (fun h => absurd rfl h)
        refine hv_iload_n C dX5_queued_29 rfl 2 rfl ?_
        refine hv_aload_n C dX5_queued_30 rfl 0 rfl ?_
        refine hm_get (k := 2) (v := .ref (g.2.1 2)) C hin (by decide) (by decide +kernel) rfl rfl dX5_queued_31 ?_
        refine hv_iload_n C dX5_queued_34 rfl 1 rfl ?_
        refine hm_iald (k := 2) (n := b) (x := (nI (A 2 b))) C hg (by decide) (by decide) (show b < 8 from by omega) rfl dX5_queued_35 ?_
        refine hv_icmpN_ge (tgt := 53) C dX5_queued_36 (by decide) (by omega) (by omega) (fun h15 => ?_) (fun h15 => ?_)
        · skip
          refine hv_iconst (v := nI 0 + (-1)) C dX5_queued_53 (by decide) ?_
          exact hv_iret C hret dX5_queued_54 (by first | exact Nat.le_refl _ | decide) (by first | exact Nat.le_refl _ | decide) ⟨by rw [q_queued_1 hx hj (by omega), if_neg (by omega)]; rfl, by rw [q_queued_1 hx hj (by omega), if_neg (by omega)]⟩
        · skip
          refine hv_aload_n C dX5_queued_39 rfl 0 rfl ?_
          refine hm_get (k := 3) (v := .ref (g.2.1 3)) C hin (by decide) (by decide +kernel) rfl rfl dX5_queued_40 ?_
          refine hv_bipush (v := nI 6) C dX5_queued_43 (by decide) ?_
          refine hv_iload_n C dX5_queued_45 rfl 1 rfl ?_
          refine hv_imulN C dX5_queued_46 ?_
          refine hv_iload_n C dX5_queued_47 rfl 2 rfl ?_
          refine hv_iaddN C dX5_queued_48 ?_
          refine hm_iald (k := 3) (n := (6 * b) + j) (x := (nI (A 3 ((6 * b) + j)))) C hg (by decide) (by decide) (show (6 * b) + j < 48 from by omega) rfl dX5_queued_49 ?_
          refine hv_goto (tgt := 54) C dX5_queued_50 (by decide) ?_
          exact hv_iret C hret dX5_queued_54 (by first | exact Nat.le_refl _ | decide) (by first | exact Nat.le_refl _ | decide) ⟨by rw [q_queued_1 hx hj (by omega), if_pos (by omega)]; rfl, by rw [q_queued_1 hx hj (by omega), if_pos (by omega)]⟩
      · skip
        exact h12.elim
