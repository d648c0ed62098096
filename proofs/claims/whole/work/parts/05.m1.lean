theorem md_eq {w : hv_W} {g : md_g} {A B : ab_A} {th : Nat} {Y0 : hv_H} (h : A = B) : md_Y w g A th Y0 = md_Y w g B th Y0 := by rw [h]
def md_ans (q : sp_R) : Value := .int (if q.1 = 0 then q.2.1 else nI 0)
/-- the reference's end of a call: code, answer, state -/
def md_P (w : hv_W) (g : md_g) (Y0 : hv_H) (q : sp_R) : Value → hv_H → Prop := fun r Y1 => r = md_ans q ∧ Y1 = md_Y w g q.2.2 q.1 Y0
theorem ix_y {x : Int32} {b : Nat} (h : ix 8 x = some b) : b < 8 ∧ x = nI b := ix_s (by decide) h
theorem ix_8n {x : Int32} (h : ix 8 x = none) : ¬ (nI 0 ≤ x ∧ x ≤ nI 7) := fun q => ix_n h (ix_8.mp q)
theorem ix_8c {b : Nat} (h : b < 8) : nI 0 ≤ nI b ∧ nI b ≤ nI 7 := (rg_iff (by decide) (by decide)).mpr ⟨b, Nat.zero_le _, by omega, rfl⟩
theorem ix_c {n j : Nat} (h : j < n) (hn : n < 2 ^ 31) : nI 0 ≤ nI j ∧ nI j ≤ nI n - nI 1 := (ix_iff hn).mpr ⟨j, h, rfl⟩
theorem rg_c {lo hi j : Nat} (h1 : lo ≤ j) (h2 : j ≤ hi) (hhi : hi < 2 ^ 31) : nI lo ≤ nI j ∧ nI j ≤ nI hi := (rg_iff (by omega) hhi).mpr ⟨j, h1, h2, rfl⟩
set_option maxRecDepth 100000 in
set_option maxHeartbeats 4000000 in
theorem c_X5_thrown (l : Launch) (w : hv_W) (g : md_g) (hg : md_ok g) (A : ab_A) (th : Nat) (Y0 : hv_H)  : hv_Mr l yX5_thrown wsX5_thrown ({ frames := 0, cells := 0, slots := 0, locals := 0 }) w [.ref (g.1)] (md_Y w g A th Y0) (fun r Y1 => r = .int (nI th) ∧ Y1 = md_Y w g A th Y0) := by
  refine hv_ofV (cc := cX5_thrown) (own := RX5) (by decide) rfl rfl (Nat.le_of_ble_eq_true rfl) rfl ?_
  intro p e s m below meth c C hret _
  have hin : ∀ x ∈ wsX50, x ∈ wsX5_thrown := by decide +kernel
  refine hv_aload_n C dX5_thrown_0 rfl 0 rfl ?_
  refine hm_get (k := 25) (v := .int (nI th)) C hin (by decide) (by decide +kernel) rfl rfl dX5_thrown_1 ?_
  exact hv_iret C hret dX5_thrown_4 (by first | exact Nat.le_refl _ | decide) (by first | exact Nat.le_refl _ | decide) ⟨rfl, rfl⟩
set_option maxRecDepth 100000 in
set_option maxHeartbeats 4000000 in
theorem c_X5_can (l : Launch) (w : hv_W) (g : md_g) (hg : md_ok g) (A : ab_A) (th : Nat) (Y0 : hv_H) (f : Nat) (hf : f < 2 ^ 31) : hv_Mr l yX5_can wsX5_can ({ frames := 0, cells := 0, slots := 0, locals := 0 }) w [.ref (g.1), .int (nI f)] (md_Y w g A th Y0) (fun r Y1 => r = .int (nI (b2 (f = 0))) ∧ Y1 = md_Y w g A f Y0) := by
  refine hv_ofV (cc := cX5_can) (own := RX5) (by decide) rfl rfl (Nat.le_of_ble_eq_true rfl) rfl ?_
  intro p e s m below meth c C hret _
  have hin : ∀ x ∈ wsX50, x ∈ wsX5_can := by decide +kernel
  refine hv_aload_n C dX5_can_0 rfl 0 rfl ?_
  refine hv_iload_n C dX5_can_1 rfl 1 rfl ?_
  refine hm_putT (n := f) C rfl hin (by decide +kernel) dX5_can_2 ?_
  refine hv_iload_n C dX5_can_5 rfl 1 rfl ?_
  refine hv_ifN_ne (tgt := 13) C dX5_can_6 (by decide) (by omega) (fun h1 => ?_) (fun h1 => ?_)
  · skip
    refine hv_iconst (v := nI 0) C dX5_can_13 (by decide) ?_
    exact hv_zret C hret (by decide) dX5_can_14 (by first | exact Nat.le_refl _ | decide) (by first | exact Nat.le_refl _ | decide) ⟨by simp_all [b2], rfl⟩
  · skip
    refine hv_iconst (v := nI 1) C dX5_can_9 (by decide) ?_
    refine hv_goto (tgt := 14) C dX5_can_10 (by decide) ?_
    exact hv_zret C hret (by decide) dX5_can_14 (by first | exact Nat.le_refl _ | decide) (by first | exact Nat.le_refl _ | decide) ⟨by simp_all [b2], rfl⟩
set_option maxRecDepth 100000 in
set_option maxHeartbeats 4000000 in
theorem c_X5_isIn (l : Launch) (w : hv_W) (Y : hv_H) (n a b : Int32) : hv_Mr l yX5_isIn wsX5_isIn ({ frames := 0, cells := 0, slots := 0, locals := 0 }) w [.int (n), .int (a), .int (b)] (Y) (fun r Y1 => r = .int (nI (b2 (a ≤ n ∧ n ≤ b))) ∧ Y1 = Y) := by
  refine hv_ofV (cc := cX5_isIn) (own := RX5) (by decide) rfl rfl (Nat.le_of_ble_eq_true rfl) rfl ?_
  intro p e s m below meth c C hret _
  refine hv_iload_n C dX5_isIn_0 rfl 0 rfl ?_
  refine hv_iload_n C dX5_isIn_1 rfl 1 rfl ?_
  refine hv_icmp_lt (tgt := 14) C dX5_isIn_2 (by decide) (fun h1 => ?_) (fun h1 => ?_)
  · skip
    refine hv_iconst (v := nI 0) C dX5_isIn_14 (by decide) ?_
    exact hv_zret C hret (by decide) dX5_isIn_15 (by first | exact Nat.le_refl _ | decide) (by first | exact Nat.le_refl _ | decide) ⟨by rw [b2_f (fun q => absurd h1 (Int32.not_lt.mpr q.1))], rfl⟩
  · skip
    refine hv_iload_n C dX5_isIn_5 rfl 0 rfl ?_
    refine hv_iload_n C dX5_isIn_6 rfl 2 rfl ?_
    refine hv_icmp_gt (tgt := 14) C dX5_isIn_7 (by decide) (fun h2 => ?_) (fun h2 => ?_)
    · skip
      refine hv_iconst (v := nI 0) C dX5_isIn_14 (by decide) ?_
      exact hv_zret C hret (by decide) dX5_isIn_15 (by first | exact Nat.le_refl _ | decide) (by first | exact Nat.le_refl _ | decide) ⟨by rw [b2_f (fun q => absurd h2 (Int32.not_lt.mpr q.2))], rfl⟩
    · skip
      refine hv_iconst (v := nI 1) C dX5_isIn_10 (by decide) ?_
      refine hv_goto (tgt := 15) C dX5_isIn_11 (by decide) ?_
      exact hv_zret C hret (by decide) dX5_isIn_15 (by first | exact Nat.le_refl _ | decide) (by first | exact Nat.le_refl _ | decide) ⟨by rw [b2_t ⟨Int32.not_lt.mp h1, Int32.not_lt.mp h2⟩], rfl⟩
set_option maxRecDepth 100000 in
set_option maxHeartbeats 4000000 in
theorem c_X5_isBasin (l : Launch) (w : hv_W) (Y : hv_H) (x : Int32) : hv_Mr l yX5_isBasin wsX5_isBasin ({ frames := 1, cells := 0, slots := 0, locals := 22 }) w [.int (x)] (Y) (fun r Y1 => r = .int (nI (b2 (nI 0 ≤ x ∧ x ≤ nI 7))) ∧ Y1 = Y) := by
  refine hv_ofV (cc := cX5_isBasin) (own := RX5) (by decide) rfl rfl (Nat.le_of_ble_eq_true rfl) rfl ?_
  intro p e s m below meth c C hret _
  refine hv_iload_n C dX5_isBasin_0 rfl 0 rfl ?_
  refine hv_iconst (v := nI 0) C dX5_isBasin_1 (by decide) ?_
  refine hv_bipush (v := nI 7) C dX5_isBasin_2 (by decide) ?_
  refine hv_callSr (As := [.int (x), .int (nI 0), .int (nI 7)]) (rest := []) (n := 3) C (c_X5_isIn l w _ ((x)) ((nI 0)) ((nI 7))) gX5_isBasin_X5_isIn rfl (by decide +kernel) ⟨Nat.le_of_ble_eq_true rfl, Nat.le_of_ble_eq_true rfl⟩ rfl rfl (Nat.le_of_ble_eq_true rfl) dX5_isBasin_4 ⟨by first | exact Nat.le_of_ble_eq_true rfl | omega, by first | exact Nat.le_of_ble_eq_true rfl | omega⟩ (fun r1 Y1 hr => ?_)
  obtain ⟨rfl, rfl⟩ := hr
  exact hv_zret C hret b2_nar dX5_isBasin_7 (by first | exact Nat.le_refl _ | decide) (by first | exact Nat.le_refl _ | decide) ⟨rfl, rfl⟩
set_option maxRecDepth 100000 in
set_option maxHeartbeats 4000000 in
theorem c_X5_isCanal (l : Launch) (w : hv_W) (g : md_g) (hg : md_ok g) (A : ab_A) (th : Nat) (Y0 : hv_H) (x : Int32) : hv_Mr l yX5_isCanal wsX5_isCanal ({ frames := 1, cells := 0, slots := 0, locals := 22 }) w [.ref (g.1), .int (x)] (md_Y w g A th Y0) (fun r Y1 => r = .int (nI (b2 (nI 0 ≤ x ∧ x ≤ nI (A 4 0) - nI 1))) ∧ Y1 = md_Y w g A th Y0) := by
  refine hv_ofV (cc := cX5_isCanal) (own := RX5) (by decide) rfl rfl (Nat.le_of_ble_eq_true rfl) rfl ?_
  intro p e s m below meth c C hret _
  have hin : ∀ x ∈ wsX50, x ∈ wsX5_isCanal := by decide +kernel
  refine hv_iload_n C dX5_isCanal_0 rfl 1 rfl ?_
  refine hv_iconst (v := nI 0) C dX5_isCanal_1 (by decide) ?_
  refine hv_aload_n C dX5_isCanal_2 rfl 0 rfl ?_
  refine hm_get (k := 4) (v := .int (nI (A 4 0))) C hin (by decide) (by decide +kernel) rfl rfl dX5_isCanal_3 ?_
  refine hv_iconst (v := nI 1) C dX5_isCanal_6 (by decide) ?_
  refine hv_isub C dX5_isCanal_7 ?_
  refine hv_callSr (As := [.int (x), .int (nI 0), .int ((nI (A 4 0)) - (nI 1))]) (rest := []) (n := 3) C (c_X5_isIn l w _ ((x)) ((nI 0)) (((nI (A 4 0)) - (nI 1)))) gX5_isCanal_X5_isIn rfl (by decide +kernel) ⟨Nat.le_of_ble_eq_true rfl, Nat.le_of_ble_eq_true rfl⟩ rfl rfl (Nat.le_of_ble_eq_true rfl) dX5_isCanal_8 ⟨by first | exact Nat.le_of_ble_eq_true rfl | omega, by first | exact Nat.le_of_ble_eq_true rfl | omega⟩ (fun r1 Y1 hr => ?_)
  obtain ⟨rfl, rfl⟩ := hr
  exact hv_zret C hret b2_nar dX5_isCanal_11 (by first | exact Nat.le_refl _ | decide) (by first | exact Nat.le_refl _ | decide) ⟨rfl, rfl⟩
set_option maxRecDepth 100000 in
set_option maxHeartbeats 4000000 in
theorem c_X5_isBarge (l : Launch) (w : hv_W) (g : md_g) (hg : md_ok g) (A : ab_A) (th : Nat) (Y0 : hv_H) (x : Int32) : hv_Mr l yX5_isBarge wsX5_isBarge ({ frames := 1, cells := 0, slots := 0, locals := 22 }) w [.ref (g.1), .int (x)] (md_Y w g A th Y0) (fun r Y1 => r = .int (nI (b2 (nI 0 ≤ x ∧ x ≤ nI (A 15 0) - nI 1))) ∧ Y1 = md_Y w g A th Y0) := by
  refine hv_ofV (cc := cX5_isBarge) (own := RX5) (by decide) rfl rfl (Nat.le_of_ble_eq_true rfl) rfl ?_
  intro p e s m below meth c C hret _
  have hin : ∀ x ∈ wsX50, x ∈ wsX5_isBarge := by decide +kernel
  refine hv_iload_n C dX5_isBarge_0 rfl 1 rfl ?_
  refine hv_iconst (v := nI 0) C dX5_isBarge_1 (by decide) ?_
  refine hv_aload_n C dX5_isBarge_2 rfl 0 rfl ?_
  refine hm_get (k := 15) (v := .int (nI (A 15 0))) C hin (by decide) (by decide +kernel) rfl rfl dX5_isBarge_3 ?_
  refine hv_iconst (v := nI 1) C dX5_isBarge_6 (by decide) ?_
  refine hv_isub C dX5_isBarge_7 ?_
  refine hv_callSr (As := [.int (x), .int (nI 0), .int ((nI (A 15 0)) - (nI 1))]) (rest := []) (n := 3) C (c_X5_isIn l w _ ((x)) ((nI 0)) (((nI (A 15 0)) - (nI 1)))) gX5_isBarge_X5_isIn rfl (by decide +kernel) ⟨Nat.le_of_ble_eq_true rfl, Nat.le_of_ble_eq_true rfl⟩ rfl rfl (Nat.le_of_ble_eq_true rfl) dX5_isBarge_8 ⟨by first | exact Nat.le_of_ble_eq_true rfl | omega, by first | exact Nat.le_of_ble_eq_true rfl | omega⟩ (fun r1 Y1 hr => ?_)
  obtain ⟨rfl, rfl⟩ := hr
  exact hv_zret C hret b2_nar dX5_isBarge_11 (by first | exact Nat.le_refl _ | decide) (by first | exact Nat.le_refl _ | decide) ⟨rfl, rfl⟩
set_option maxRecDepth 100000 in
set_option maxHeartbeats 4000000 in
theorem c_X5_pours (l : Launch) (w : hv_W) (g : md_g) (hg : md_ok g) (A : ab_A) (th : Nat) (Y0 : hv_H) (b n : Nat) (hb : b < 8) (hn : A 0 b + n < 2 ^ 31) : hv_Mv l yX5_pours wsX5_pours ({ frames := 0, cells := 0, slots := 0, locals := 0 }) w [.ref (g.1), .int (nI b), .int (nI n)] (md_Y w g A th Y0) (fun Y1 => Y1 = md_Y w g (f_pour A b n) th Y0) := by
  refine hv_ofV (cc := cX5_pours) (own := RX5) (by decide) rfl rfl (Nat.le_of_ble_eq_true rfl) rfl ?_
  intro p e s m below meth c C hret _
  have hin : ∀ x ∈ wsX50, x ∈ wsX5_pours := by decide +kernel
  refine hv_aload_n C dX5_pours_0 rfl 0 rfl ?_
  refine hm_get (k := 0) (v := .ref (g.2.1 0)) C hin (by decide) (by decide +kernel) rfl rfl dX5_pours_1 ?_
  refine hv_iload_n C dX5_pours_4 rfl 1 rfl ?_
  refine hm_iald (k := 0) (n := b) (x := (nI (A 0 b))) C hg (by decide) (by decide) (show b < 8 from by omega) rfl dX5_pours_5 ?_
  refine hv_iload_n C dX5_pours_6 rfl 2 rfl ?_
  refine hv_iaddN C dX5_pours_7 ?_
  refine hv_istore_n (lv1 := [(0, .ref (g.1)), (1, .int (nI b)), (2, .int (nI n)), (3, .int (nI ((A 0 b) + n)))]) C dX5_pours_8 rfl (by decide) [1, 2, 3, 0] rfl ?_
  refine hv_aload_n C dX5_pours_9 rfl 0 rfl ?_
  refine hv_dup C dX5_pours_10 rfl ?_
  refine hm_get (k := 10) (v := .int (nI (A 10 0))) C hin (by decide) (by decide +kernel) rfl rfl dX5_pours_11 ?_
  refine hv_iload_n C dX5_pours_14 rfl 3 rfl ?_
  refine hv_sipush (v := nI 200) C dX5_pours_15 (by decide) ?_
  refine hv_icmpN_le (tgt := 29) C dX5_pours_18 (by decide) (by omega) (by omega) (fun h1 => ?_) (fun h1 => ?_)
  · skip
    refine hv_iconst (v := nI 0) C dX5_pours_29 (by decide) ?_
    refine hv_iaddN C dX5_pours_30 ?_
    refine hm_put (k := 10) (n := (A 10 0) + 0) C hg (by decide) rfl hin (by decide +kernel) rfl dX5_pours_31 ?_
    refine hv_aload_n C dX5_pours_34 rfl 0 rfl ?_
    refine hm_get (k := 0) (v := .ref (g.2.1 0)) C hin (by decide) (by decide +kernel) rfl rfl dX5_pours_35 ?_
    refine hv_iload_n C dX5_pours_38 rfl 1 rfl ?_
    refine hv_iload_n C dX5_pours_39 rfl 3 rfl ?_
    refine hv_sipush (v := nI 200) C dX5_pours_40 (by decide) ?_
    refine hv_icmpN_le (tgt := 52) C dX5_pours_43 (by decide) (by omega) (by omega) (fun h2 => ?_) (fun h2 => ?_)
    · skip
      refine hv_iload_n C dX5_pours_52 rfl 3 rfl ?_
      refine hm_iast (k := 0) (n := b) (v := (A 0 b) + n) C hg (by decide) (by decide) (show b < 8 from by omega) rfl dX5_pours_53 ?_
      exact hv_vret C hret dX5_pours_54 (by first | exact Nat.le_refl _ | decide) (by first | exact Nat.le_refl _ | decide) (md_eq (by funext k i; simp only [f_pour, au]; (repeat' split) <;> first | rfl | omega | (exfalso; omega)))
    · skip
      refine hv_sipush (v := nI 200) C dX5_pours_46 (by decide) ?_
      refine hv_goto (tgt := 53) C dX5_pours_49 (by decide) ?_
      refine hm_iast (k := 0) (n := b) (v := 200) C hg (by decide) (by decide) (show b < 8 from by omega) rfl dX5_pours_53 ?_
      exact hv_vret C hret dX5_pours_54 (by first | exact Nat.le_refl _ | decide) (by first | exact Nat.le_refl _ | decide) (md_eq (by funext k i; simp only [f_pour, au]; (repeat' split) <;> first | rfl | omega | (exfalso; omega)))
  · skip
    refine hv_iload_n C dX5_pours_21 rfl 3 rfl ?_
    refine hv_sipush (v := nI 200) C dX5_pours_22 (by decide) ?_
    refine hv_isubN C dX5_pours_25 (by omega) ?_
    refine hv_goto (tgt := 30) C dX5_pours_26 (by decide) ?_
    refine hv_iaddN C dX5_pours_30 ?_
    refine hm_put (k := 10) (n := (A 10 0) + (((A 0 b) + n) - 200)) C hg (by decide) rfl hin (by decide +kernel) rfl dX5_pours_31 ?_
    refine hv_aload_n C dX5_pours_34 rfl 0 rfl ?_
    refine hm_get (k := 0) (v := .ref (g.2.1 0)) C hin (by decide) (by decide +kernel) rfl rfl dX5_pours_35 ?_
    refine hv_iload_n C dX5_pours_38 rfl 1 rfl ?_
    refine hv_iload_n C dX5_pours_39 rfl 3 rfl ?_
    refine hv_sipush (v := nI 200) C dX5_pours_40 (by decide) ?_
    refine hv_icmpN_le (tgt := 52) C dX5_pours_43 (by decide) (by omega) (by omega) (fun h3 => ?_) (fun h3 => ?_)
    · skip
      refine hv_iload_n C dX5_pours_52 rfl 3 rfl ?_
      refine hm_iast (k := 0) (n := b) (v := (A 0 b) + n) C hg (by decide) (by decide) (show b < 8 from by omega) rfl dX5_pours_53 ?_
      exact hv_vret C hret dX5_pours_54 (by first | exact Nat.le_refl _ | decide) (by first | exact Nat.le_refl _ | decide) (md_eq (by funext k i; simp only [f_pour, au]; (repeat' split) <;> first | rfl | omega | (exfalso; omega)))
    · skip
      refine hv_sipush (v := nI 200) C dX5_pours_46 (by decide) ?_
      refine hv_goto (tgt := 53) C dX5_pours_49 (by decide) ?_
      refine hm_iast (k := 0) (n := b) (v := 200) C hg (by decide) (by decide) (show b < 8 from by omega) rfl dX5_pours_53 ?_
      exact hv_vret C hret dX5_pours_54 (by first | exact Nat.le_refl _ | decide) (by first | exact Nat.le_refl _ | decide) (md_eq (by funext k i; simp only [f_pour, au]; (repeat' split) <;> first | rfl | omega | (exfalso; omega)))
set_option maxRecDepth 100000 in
set_option maxHeartbeats 4000000 in
theorem c_X5_dearer (l : Launch) (w : hv_W) (g : md_g) (hg : md_ok g) (A : ab_A) (th : Nat) (Y0 : hv_H) (b : Nat) (hb : b < 8) (hw : A 0 b < 2 ^ 31) : hv_Mr l yX5_dearer wsX5_dearer ({ frames := 0, cells := 0, slots := 0, locals := 0 }) w [.ref (g.1), .int (nI b)] (md_Y w g A th Y0) (fun r Y1 => r = .int (nI (f_dear A b)) ∧ Y1 = md_Y w g A th Y0) := by
  refine hv_ofV (cc := cX5_dearer) (own := RX5) (by decide) rfl rfl (Nat.le_of_ble_eq_true rfl) rfl ?_
  intro p e s m below meth c C hret _
  have hin : ∀ x ∈ wsX50, x ∈ wsX5_dearer := by decide +kernel
  refine hv_aload_n C dX5_dearer_0 rfl 0 rfl ?_
  refine hm_get (k := 0) (v := .ref (g.2.1 0)) C hin (by decide) (by decide +kernel) rfl rfl dX5_dearer_1 ?_
  refine hv_iload_n C dX5_dearer_4 rfl 1 rfl ?_
  refine hm_iald (k := 0) (n := b) (x := (nI (A 0 b))) C hg (by decide) (by decide) (show b < 8 from by omega) rfl dX5_dearer_5 ?_
  refine hv_bipush (v := nI 30) C dX5_dearer_6 (by decide) ?_
  refine hv_icmpN_ge (tgt := 15) C dX5_dearer_8 (by decide) (by omega) (by omega) (fun h1 => ?_) (fun h1 => ?_)
  · skip
    refine hv_iconst (v := nI 0) C dX5_dearer_15 (by decide) ?_
    refine hv_aload_n C dX5_dearer_16 rfl 0 rfl ?_
    refine hm_get (k := 0) (v := .ref (g.2.1 0)) C hin (by decide) (by decide +kernel) rfl rfl dX5_dearer_17 ?_
    refine hv_iload_n C dX5_dearer_20 rfl 1 rfl ?_
    refine hm_iald (k := 0) (n := b) (x := (nI (A 0 b))) C hg (by decide) (by decide) (show b < 8 from by omega) rfl dX5_dearer_21 ?_
    refine hv_bipush (v := nI 15) C dX5_dearer_22 (by decide) ?_
    refine hv_icmpN_ge (tgt := 31) C dX5_dearer_24 (by decide) (by omega) (by omega) (fun h2 => ?_) (fun h2 => ?_)
    · skip
      refine hv_iconst (v := nI 0) C dX5_dearer_31 (by decide) ?_
      refine hv_iaddN C dX5_dearer_32 ?_
      exact hv_iret C hret dX5_dearer_33 (by first | exact Nat.le_refl _ | decide) (by first | exact Nat.le_refl _ | decide) ⟨by first | (exfalso; omega) | (congr 2; unfold f_dear; (repeat' split) <;> omega), rfl⟩
    · skip
      refine hv_iconst (v := nI 5) C dX5_dearer_27 (by decide) ?_
      refine hv_goto (tgt := 32) C dX5_dearer_28 (by decide) ?_
      refine hv_iaddN C dX5_dearer_32 ?_
      exact hv_iret C hret dX5_dearer_33 (by first | exact Nat.le_refl _ | decide) (by first | exact Nat.le_refl _ | decide) ⟨by first | (exfalso; omega) | (congr 2; unfold f_dear; (repeat' split) <;> omega), rfl⟩
  · skip
    refine hv_iconst (v := nI 5) C dX5_dearer_11 (by decide) ?_
    refine hv_goto (tgt := 16) C dX5_dearer_12 (by decide) ?_
    refine hv_aload_n C dX5_dearer_16 rfl 0 rfl ?_
    refine hm_get (k := 0) (v := .ref (g.2.1 0)) C hin (by decide) (by decide +kernel) rfl rfl dX5_dearer_17 ?_
    refine hv_iload_n C dX5_dearer_20 rfl 1 rfl ?_
    refine hm_iald (k := 0) (n := b) (x := (nI (A 0 b))) C hg (by decide) (by decide) (show b < 8 from by omega) rfl dX5_dearer_21 ?_
    refine hv_bipush (v := nI 15) C dX5_dearer_22 (by decide) ?_
    refine hv_icmpN_ge (tgt := 31) C dX5_dearer_24 (by decide) (by omega) (by omega) (fun h3 => ?_) (fun h3 => ?_)
    · skip
      refine hv_iconst (v := nI 0) C dX5_dearer_31 (by decide) ?_
      refine hv_iaddN C dX5_dearer_32 ?_
      exact hv_iret C hret dX5_dearer_33 (by first | exact Nat.le_refl _ | decide) (by first | exact Nat.le_refl _ | decide) ⟨by first | (exfalso; omega) | (congr 2; unfold f_dear; (repeat' split) <;> omega), rfl⟩
    · skip
      refine hv_iconst (v := nI 5) C dX5_dearer_27 (by decide) ?_
      refine hv_goto (tgt := 32) C dX5_dearer_28 (by decide) ?_
      refine hv_iaddN C dX5_dearer_32 ?_
      exact hv_iret C hret dX5_dearer_33 (by first | exact Nat.le_refl _ | decide) (by first | exact Nat.le_refl _ | decide) ⟨by first | (exfalso; omega) | (congr 2; unfold f_dear; (repeat' split) <;> omega), rfl⟩
set_option maxRecDepth 100000 in
set_option maxHeartbeats 4000000 in
theorem c_X5_costOf (l : Launch) (w : hv_W) (g : md_g) (hg : md_ok g) (A : ab_A) (th : Nat) (Y0 : hv_H) (j : Nat) (hj : j < 14) (h5 : A 5 j < 8) (h6 : A 6 j < 8) (h0 : ∀ b, b < 8 → A 0 b ≤ 200) : hv_Mr l yX5_costOf wsX5_costOf ({ frames := 1, cells := 0, slots := 0, locals := 21 }) w [.ref (g.1), .int (nI j)] (md_Y w g A th Y0) (fun r Y1 => r = .int (nI (f_cost A j)) ∧ Y1 = md_Y w g A th Y0) := by
  refine hv_ofV (cc := cX5_costOf) (own := RX5) (by decide) rfl rfl (Nat.le_of_ble_eq_true rfl) rfl ?_
  intro p e s m below meth c C hret _
  have hin : ∀ x ∈ wsX50, x ∈ wsX5_costOf := by decide +kernel
  refine hv_aload_n C dX5_costOf_0 rfl 0 rfl ?_
  refine hm_get (k := 7) (v := .ref (g.2.1 7)) C hin (by decide) (by decide +kernel) rfl rfl dX5_costOf_1 ?_
  refine hv_iload_n C dX5_costOf_4 rfl 1 rfl ?_
  refine hm_iald (k := 7) (n := j) (x := (nI (A 7 j))) C hg (by decide) (by decide) (show j < 14 from by omega) rfl dX5_costOf_5 ?_
  refine hv_aload_n C dX5_costOf_6 rfl 0 rfl ?_
  refine hv_aload_n C dX5_costOf_7 rfl 0 rfl ?_
  refine hm_get (k := 5) (v := .ref (g.2.1 5)) C hin (by decide) (by decide +kernel) rfl rfl dX5_costOf_8 ?_
  refine hv_iload_n C dX5_costOf_11 rfl 1 rfl ?_
  refine hm_iald (k := 5) (n := j) (x := (nI (A 5 j))) C hg (by decide) (by decide) (show j < 14 from by omega) rfl dX5_costOf_12 ?_
  refine hv_callVr (As := [.int (nI (A 5 j))]) (rest := [.int (nI (A 7 j))]) (n := 1) C (c_X5_dearer l w g hg A th Y0 (A 5 j) (by omega) (by have := h0 _ h5; omega)) gX5_costOf_X5_dearer rfl (by decide +kernel) ⟨Nat.le_of_ble_eq_true rfl, Nat.le_of_ble_eq_true rfl⟩ (hv_rcO md_o rfl) rfl rfl (Nat.le_of_ble_eq_true rfl) dX5_costOf_13 ⟨by first | exact Nat.le_of_ble_eq_true rfl | omega, by first | exact Nat.le_of_ble_eq_true rfl | omega⟩ (fun r1 Y1 hr => ?_)
  obtain ⟨rfl, rfl⟩ := hr
  refine hv_iaddN C dX5_costOf_16 ?_
  refine hv_aload_n C dX5_costOf_17 rfl 0 rfl ?_
  refine hv_aload_n C dX5_costOf_18 rfl 0 rfl ?_
  refine hm_get (k := 6) (v := .ref (g.2.1 6)) C hin (by decide) (by decide +kernel) rfl rfl dX5_costOf_19 ?_
  refine hv_iload_n C dX5_costOf_22 rfl 1 rfl ?_
  refine hm_iald (k := 6) (n := j) (x := (nI (A 6 j))) C hg (by decide) (by decide) (show j < 14 from by omega) rfl dX5_costOf_23 ?_
  refine hv_callVr (As := [.int (nI (A 6 j))]) (rest := [.int (nI ((A 7 j) + (f_dear A (A 5 j))))]) (n := 1) C (c_X5_dearer l w g hg A th Y0 (A 6 j) (by omega) (by have := h0 _ h6; omega)) gX5_costOf_X5_dearer rfl (by decide +kernel) ⟨Nat.le_of_ble_eq_true rfl, Nat.le_of_ble_eq_true rfl⟩ (hv_rcO md_o rfl) rfl rfl (Nat.le_of_ble_eq_true rfl) dX5_costOf_24 ⟨by first | exact Nat.le_of_ble_eq_true rfl | omega, by first | exact Nat.le_of_ble_eq_true rfl | omega⟩ (fun r2 Y1 hr => ?_)
  obtain ⟨rfl, rfl⟩ := hr
  refine hv_iaddN C dX5_costOf_27 ?_
  exact hv_iret C hret dX5_costOf_28 (by first | exact Nat.le_refl _ | decide) (by first | exact Nat.le_refl _ | decide) ⟨rfl, rfl⟩
set_option maxRecDepth 100000 in
set_option maxHeartbeats 4000000 in
theorem c_X5_goes (l : Launch) (w : hv_W) (g : md_g) (hg : md_ok g) (A : ab_A) (th : Nat) (Y0 : hv_H) (j : Nat) (hj : j < 14) (h5 : A 5 j < 8) (h8 : A 8 j < 100) (h9 : A 9 j < 100) (h0 : A 0 (A 5 j) ≤ 200) : hv_Mr l yX5_goes wsX5_goes ({ frames := 0, cells := 0, slots := 0, locals := 0 }) w [.ref (g.1), .int (nI j)] (md_Y w g A th Y0) (fun r Y1 => r = .int (nI (b2 (A 9 j ≠ 0 ∧ A 8 j + 5 ≤ A 0 (A 5 j)))) ∧ Y1 = md_Y w g A th Y0) := by
  refine hv_ofV (cc := cX5_goes) (own := RX5) (by decide) rfl rfl (Nat.le_of_ble_eq_true rfl) rfl ?_
  intro p e s m below meth c C hret _
  have hin : ∀ x ∈ wsX50, x ∈ wsX5_goes := by decide +kernel
  refine hv_aload_n C dX5_goes_0 rfl 0 rfl ?_
  refine hm_get (k := 9) (v := .ref (g.2.1 9)) C hin (by decide) (by decide +kernel) rfl rfl dX5_goes_1 ?_
  refine hv_iload_n C dX5_goes_4 rfl 1 rfl ?_
  refine hm_zald (n := j) (x := (nI (A 9 j))) C hg (show j < 14 from by omega) rfl dX5_goes_5 ?_
  refine hv_ifN_eq (tgt := 35) C dX5_goes_6 (by decide) (by omega) (fun h1 => ?_) (fun h1 => ?_)
  · skip
    refine hv_iconst (v := nI 0) C dX5_goes_35 (by decide) ?_
    exact hv_zret C hret (by decide) dX5_goes_36 (by first | exact Nat.le_refl _ | decide) (by first | exact Nat.le_refl _ | decide) ⟨by first | (rw [b2_t (by omega)]) | (rw [b2_f (by omega)]), rfl⟩
  · skip
    refine hv_aload_n C dX5_goes_9 rfl 0 rfl ?_
    refine hm_get (k := 0) (v := .ref (g.2.1 0)) C hin (by decide) (by decide +kernel) rfl rfl dX5_goes_10 ?_
    refine hv_aload_n C dX5_goes_13 rfl 0 rfl ?_
    refine hm_get (k := 5) (v := .ref (g.2.1 5)) C hin (by decide) (by decide +kernel) rfl rfl dX5_goes_14 ?_
    refine hv_iload_n C dX5_goes_17 rfl 1 rfl ?_
    refine hm_iald (k := 5) (n := j) (x := (nI (A 5 j))) C hg (by decide) (by decide) (show j < 14 from by omega) rfl dX5_goes_18 ?_
    refine hm_iald (k := 0) (n := A 5 j) (x := (nI (A 0 (A 5 j)))) C hg (by decide) (by decide) (show A 5 j < 8 from by omega) rfl dX5_goes_19 ?_
    refine hv_aload_n C dX5_goes_20 rfl 0 rfl ?_
    refine hm_get (k := 8) (v := .ref (g.2.1 8)) C hin (by decide) (by decide +kernel) rfl rfl dX5_goes_21 ?_
    refine hv_iload_n C dX5_goes_24 rfl 1 rfl ?_
    refine hm_iald (k := 8) (n := j) (x := (nI (A 8 j))) C hg (by decide) (by decide) (show j < 14 from by omega) rfl dX5_goes_25 ?_
    refine hv_iconst (v := nI 5) C dX5_goes_26 (by decide) ?_
    refine hv_iaddN C dX5_goes_27 ?_
    refine hv_icmpN_lt (tgt := 35) C dX5_goes_28 (by decide) (by omega) (by omega) (fun h2 => ?_) (fun h2 => ?_)
    · skip
      refine hv_iconst (v := nI 0) C dX5_goes_35 (by decide) ?_
      exact hv_zret C hret (by decide) dX5_goes_36 (by first | exact Nat.le_refl _ | decide) (by first | exact Nat.le_refl _ | decide) ⟨by first | (rw [b2_t (by omega)]) | (rw [b2_f (by omega)]), rfl⟩
    · skip
      refine hv_iconst (v := nI 1) C dX5_goes_31 (by decide) ?_
      refine hv_goto (tgt := 36) C dX5_goes_32 (by decide) ?_
      exact hv_zret C hret (by decide) dX5_goes_36 (by first | exact Nat.le_refl _ | decide) (by first | exact Nat.le_refl _ | decide) ⟨by first | (rw [b2_t (by omega)]) | (rw [b2_f (by omega)]), rfl⟩
set_option maxRecDepth 100000 in
set_option maxHeartbeats 4000000 in
theorem c_X5_isAt (l : Launch) (w : hv_W) (g : md_g) (hg : md_ok g) (A : ab_A) (th : Nat) (Y0 : hv_H) (j b : Nat) (hj : j < 14) (h5 : A 5 j < 8) (h6 : A 6 j < 8) (hb : b < 8) : hv_Mr l yX5_isAt wsX5_isAt ({ frames := 0, cells := 0, slots := 0, locals := 0 }) w [.ref (g.1), .int (nI j), .int (nI b)] (md_Y w g A th Y0) (fun r Y1 => r = .int (nI (b2 (A 5 j = b ∨ A 6 j = b))) ∧ Y1 = md_Y w g A th Y0) := by
  refine hv_ofV (cc := cX5_isAt) (own := RX5) (by decide) rfl rfl (Nat.le_of_ble_eq_true rfl) rfl ?_
  intro p e s m below meth c C hret _
  have hin : ∀ x ∈ wsX50, x ∈ wsX5_isAt := by decide +kernel
  refine hv_aload_n C dX5_isAt_0 rfl 0 rfl ?_
  refine hm_get (k := 5) (v := .ref (g.2.1 5)) C hin (by decide) (by decide +kernel) rfl rfl dX5_isAt_1 ?_
  refine hv_iload_n C dX5_isAt_4 rfl 1 rfl ?_
  refine hm_iald (k := 5) (n := j) (x := (nI (A 5 j))) C hg (by decide) (by decide) (show j < 14 from by omega) rfl dX5_isAt_5 ?_
  refine hv_iload_n C dX5_isAt_6 rfl 2 rfl ?_
  refine hv_icmpN_eq (tgt := 20) C dX5_isAt_7 (by decide) (by omega) (by omega) (fun h1 => ?_) (fun h1 => ?_)
  · skip
    refine hv_iconst (v := nI 1) C dX5_isAt_20 (by decide) ?_
    refine hv_goto (tgt := 25) C dX5_isAt_21 (by decide) ?_
    exact hv_zret C hret (by decide) dX5_isAt_25 (by first | exact Nat.le_refl _ | decide) (by first | exact Nat.le_refl _ | decide) ⟨by first | (rw [b2_t (by omega)]) | (rw [b2_f (by omega)]), rfl⟩
  · skip
    refine hv_aload_n C dX5_isAt_10 rfl 0 rfl ?_
    refine hm_get (k := 6) (v := .ref (g.2.1 6)) C hin (by decide) (by decide +kernel) rfl rfl dX5_isAt_11 ?_
    refine hv_iload_n C dX5_isAt_14 rfl 1 rfl ?_
    refine hm_iald (k := 6) (n := j) (x := (nI (A 6 j))) C hg (by decide) (by decide) (show j < 14 from by omega) rfl dX5_isAt_15 ?_
    refine hv_iload_n C dX5_isAt_16 rfl 2 rfl ?_
    refine hv_icmpN_ne (tgt := 24) C dX5_isAt_17 (by decide) (by omega) (by omega) (fun h2 => ?_) (fun h2 => ?_)
    · skip
      refine hv_iconst (v := nI 0) C dX5_isAt_24 (by decide) ?_
      exact hv_zret C hret (by decide) dX5_isAt_25 (by first | exact Nat.le_refl _ | decide) (by first | exact Nat.le_refl _ | decide) ⟨by first | (rw [b2_t (by omega)]) | (rw [b2_f (by omega)]), rfl⟩
    · skip
      refine hv_iconst (v := nI 1) C dX5_isAt_20 (by decide) ?_
      refine hv_goto (tgt := 25) C dX5_isAt_21 (by decide) ?_
      exact hv_zret C hret (by decide) dX5_isAt_25 (by first | exact Nat.le_refl _ | decide) (by first | exact Nat.le_refl _ | decide) ⟨by first | (rw [b2_t (by omega)]) | (rw [b2_f (by omega)]), rfl⟩
set_option maxRecDepth 100000 in
set_option maxHeartbeats 4000000 in
theorem c_X5_beyond (l : Launch) (w : hv_W) (g : md_g) (hg : md_ok g) (A : ab_A) (th : Nat) (Y0 : hv_H) (j b : Nat) (hj : j < 14) (h5 : A 5 j < 8) (hb : b < 8) : hv_Mr l yX5_beyond wsX5_beyond ({ frames := 0, cells := 0, slots := 0, locals := 0 }) w [.ref (g.1), .int (nI j), .int (nI b)] (md_Y w g A th Y0) (fun r Y1 => r = .int (nI (f_bey A j b)) ∧ Y1 = md_Y w g A th Y0) := by
  refine hv_ofV (cc := cX5_beyond) (own := RX5) (by decide) rfl rfl (Nat.le_of_ble_eq_true rfl) rfl ?_
  intro p e s m below meth c C hret _
  have hin : ∀ x ∈ wsX50, x ∈ wsX5_beyond := by decide +kernel
  refine hv_aload_n C dX5_beyond_0 rfl 0 rfl ?_
  refine hm_get (k := 5) (v := .ref (g.2.1 5)) C hin (by decide) (by decide +kernel) rfl rfl dX5_beyond_1 ?_
  refine hv_iload_n C dX5_beyond_4 rfl 1 rfl ?_
  refine hm_iald (k := 5) (n := j) (x := (nI (A 5 j))) C hg (by decide) (by decide) (show j < 14 from by omega) rfl dX5_beyond_5 ?_
  refine hv_iload_n C dX5_beyond_6 rfl 2 rfl ?_
  refine hv_icmpN_ne (tgt := 19) C dX5_beyond_7 (by decide) (by omega) (by omega) (fun h1 => ?_) (fun h1 => ?_)
  · skip
    refine hv_aload_n C dX5_beyond_19 rfl 0 rfl ?_
    refine hm_get (k := 5) (v := .ref (g.2.1 5)) C hin (by decide) (by decide +kernel) rfl rfl dX5_beyond_20 ?_
    refine hv_iload_n C dX5_beyond_23 rfl 1 rfl ?_
    refine hm_iald (k := 5) (n := j) (x := (nI (A 5 j))) C hg (by decide) (by decide) (show j < 14 from by omega) rfl dX5_beyond_24 ?_
    exact hv_iret C hret dX5_beyond_25 (by first | exact Nat.le_refl _ | decide) (by first | exact Nat.le_refl _ | decide) ⟨by unfold f_bey; split <;> first | rfl | omega, rfl⟩
  · skip
    refine hv_aload_n C dX5_beyond_10 rfl 0 rfl ?_
    refine hm_get (k := 6) (v := .ref (g.2.1 6)) C hin (by decide) (by decide +kernel) rfl rfl dX5_beyond_11 ?_
    refine hv_iload_n C dX5_beyond_14 rfl 1 rfl ?_
    refine hm_iald (k := 6) (n := j) (x := (nI (A 6 j))) C hg (by decide) (by decide) (show j < 14 from by omega) rfl dX5_beyond_15 ?_
    refine hv_goto (tgt := 25) C dX5_beyond_16 (by decide) ?_
    exact hv_iret C hret dX5_beyond_25 (by first | exact Nat.le_refl _ | decide) (by first | exact Nat.le_refl _ | decide) ⟨by unfold f_bey; split <;> first | rfl | omega, rfl⟩
set_option maxRecDepth 100000 in
set_option maxHeartbeats 4000000 in
theorem c_X5_joins (l : Launch) (w : hv_W) (g : md_g) (hg : md_ok g) (A : ab_A) (th : Nat) (Y0 : hv_H) (j b : Nat) (hb : b < 8) (hm : A 2 b < 6) : hv_Mv l yX5_joins wsX5_joins ({ frames := 0, cells := 0, slots := 0, locals := 0 }) w [.ref (g.1), .int (nI j), .int (nI b)] (md_Y w g A th Y0) (fun Y1 => Y1 = md_Y w g (f_join A j b) th Y0) := by
  refine hv_ofV (cc := cX5_joins) (own := RX5) (by decide) rfl rfl (Nat.le_of_ble_eq_true rfl) rfl ?_
  intro p e s m below meth c C hret _
  have hin : ∀ x ∈ wsX50, x ∈ wsX5_joins := by decide +kernel
  refine hv_aload_n C dX5_joins_0 rfl 0 rfl ?_
  refine hm_get (k := 3) (v := .ref (g.2.1 3)) C hin (by decide) (by decide +kernel) rfl rfl dX5_joins_1 ?_
  refine hv_bipush (v := nI 6) C dX5_joins_4 (by decide) ?_
  refine hv_iload_n C dX5_joins_6 rfl 2 rfl ?_
  refine hv_imulN C dX5_joins_7 ?_
  refine hv_aload_n C dX5_joins_8 rfl 0 rfl ?_
  refine hm_get (k := 2) (v := .ref (g.2.1 2)) C hin (by decide) (by decide +kernel) rfl rfl dX5_joins_9 ?_
  refine hv_iload_n C dX5_joins_12 rfl 2 rfl ?_
  refine hm_iald (k := 2) (n := b) (x := (nI (A 2 b))) C hg (by decide) (by decide) (show b < 8 from by omega) rfl dX5_joins_13 ?_
  refine hv_iaddN C dX5_joins_14 ?_
  refine hv_iload_n C dX5_joins_15 rfl 1 rfl ?_
  refine hm_iast (k := 3) (n := (6 * b) + (A 2 b)) (v := j) C hg (by decide) (by decide) (show (6 * b) + (A 2 b) < 48 from by omega) rfl dX5_joins_16 ?_
  refine hv_aload_n C dX5_joins_17 rfl 0 rfl ?_
  refine hm_get (k := 2) (v := .ref (g.2.1 2)) C hin (by decide) (by decide +kernel) rfl rfl dX5_joins_18 ?_
  refine hv_iload_n C dX5_joins_21 rfl 2 rfl ?_
  refine hv_dup2 C dX5_joins_22 rfl rfl ?_
  refine hm_iald (k := 2) (n := b) (x := (nI (A 2 b))) C hg (by decide) (by decide) (show b < 8 from by omega) rfl dX5_joins_23 ?_
  refine hv_iconst (v := nI 1) C dX5_joins_24 (by decide) ?_
  refine hv_iaddN C dX5_joins_25 ?_
  refine hm_iast (k := 2) (n := b) (v := (A 2 b) + 1) C hg (by decide) (by decide) (show b < 8 from by omega) rfl dX5_joins_26 ?_
  exact hv_vret C hret dX5_joins_27 (by first | exact Nat.le_refl _ | decide) (by first | exact Nat.le_refl _ | decide) rfl
set_option maxRecDepth 100000 in
set_option maxHeartbeats 4000000 in
theorem c_X5_water (l : Launch) (w : hv_W) (g : md_g) (hg : md_ok g) (A : ab_A) (th : Nat) (Y0 : hv_H) (x : Int32) : hv_Mr l yX5_water wsX5_water ({ frames := 2, cells := 0, slots := 0, locals := 42 }) w [.ref (g.1), .int (x)] (md_Y w g A th Y0) (fun r Y1 => md_P w g Y0 (q_water A x) r Y1) := by
  refine hv_ofV (cc := cX5_water) (own := RX5) (by decide) rfl rfl (Nat.le_of_ble_eq_true rfl) rfl ?_
  intro p e s m below meth c C hret _
  have hin : ∀ x ∈ wsX50, x ∈ wsX5_water := by decide +kernel
  rcases hx : ix 8 x with _ | b
  · skip
    refine hv_aload_n C dX5_water_0 rfl 0 rfl ?_
    refine hv_iload_n C dX5_water_1 rfl 1 rfl ?_
    refine hv_callSr (As := [.int (x)]) (rest := [.ref (g.1)]) (n := 1) C (c_X5_isBasin l w _ ((x))) gX5_water_X5_isBasin rfl (by decide +kernel) ⟨Nat.le_of_ble_eq_true rfl, Nat.le_of_ble_eq_true rfl⟩ rfl rfl (Nat.le_of_ble_eq_true rfl) dX5_water_2 ⟨by first | exact Nat.le_of_ble_eq_true rfl | omega, by first | exact Nat.le_of_ble_eq_true rfl | omega⟩ (fun r1 Y1 hr => ?_)
    obtain ⟨rfl, rfl⟩ := hr
    refine hv_ifb_eq (tgt := 12) C dX5_water_5 (by decide) (fun _ => ?_) (fun h => absurd h (ix_8n hx))
    refine hv_iconst (v := nI 1) C dX5_water_12 (by decide) ?_
    refine hv_callVr (As := [.int (nI 1)]) (rest := []) (n := 1) C (c_X5_can l w g hg A th Y0 1 (by omega)) gX5_water_X5_can rfl (by decide +kernel) ⟨Nat.le_of_ble_eq_true rfl, Nat.le_of_ble_eq_true rfl⟩ (hv_rcO md_o rfl) rfl rfl (Nat.le_of_ble_eq_true rfl) dX5_water_13 ⟨by first | exact Nat.le_of_ble_eq_true rfl | omega, by first | exact Nat.le_of_ble_eq_true rfl | omega⟩ (fun r3 Y1 hr => ?_)
    obtain ⟨rfl, rfl⟩ := hr
    refine hv_ifb_eq (tgt := 28) C dX5_water_16 (by decide) (fun _ => ?_) (fun h => absurd h (by decide))
    refine hv_iconst (v := nI 0) C dX5_water_28 (by decide) ?_
    exact hv_iret C hret dX5_water_29 (by first | exact Nat.le_refl _ | decide) (by first | exact Nat.le_refl _ | decide) ⟨by simp [q_water, hx, md_ans], by simp [q_water, hx]⟩
  · skip
    obtain ⟨hb, rfl⟩ := ix_y hx
    refine hv_aload_n C dX5_water_0 rfl 0 rfl ?_
    refine hv_iload_n C dX5_water_1 rfl 1 rfl ?_
    refine hv_callSr (As := [.int (nI b)]) (rest := [.ref (g.1)]) (n := 1) C (c_X5_isBasin l w _ ((nI b))) gX5_water_X5_isBasin rfl (by decide +kernel) ⟨Nat.le_of_ble_eq_true rfl, Nat.le_of_ble_eq_true rfl⟩ rfl rfl (Nat.le_of_ble_eq_true rfl) dX5_water_2 ⟨by first | exact Nat.le_of_ble_eq_true rfl | omega, by first | exact Nat.le_of_ble_eq_true rfl | omega⟩ (fun r5 Y1 hr => ?_)
    obtain ⟨rfl, rfl⟩ := hr
    refine hv_ifb_eq (tgt := 12) C dX5_water_5 (by decide) (fun h => absurd (ix_8c hb) h) (fun _ => ?_)
    refine hv_iconst (v := nI 0) C dX5_water_8 (by decide) ?_
    refine hv_goto (tgt := 13) C dX5_water_9 (by decide) ?_
    refine hv_callVr (As := [.int (nI 0)]) (rest := []) (n := 1) C (c_X5_can l w g hg A th Y0 0 (by omega)) gX5_water_X5_can rfl (by decide +kernel) ⟨Nat.le_of_ble_eq_true rfl, Nat.le_of_ble_eq_true rfl⟩ (hv_rcO md_o rfl) rfl rfl (Nat.le_of_ble_eq_true rfl) dX5_water_13 ⟨by first | exact Nat.le_of_ble_eq_true rfl | omega, by first | exact Nat.le_of_ble_eq_true rfl | omega⟩ (fun r7 Y1 hr => ?_)
    obtain ⟨rfl, rfl⟩ := hr
    refine hv_ifb_eq (tgt := 28) C dX5_water_16 (by decide) (fun h => absurd rfl h) (fun _ => ?_)
    refine hv_aload_n C dX5_water_19 rfl 0 rfl ?_
    refine hm_get (k := 0) (v := .ref (g.2.1 0)) C hin (by decide) (by decide +kernel) rfl rfl dX5_water_20 ?_
    refine hv_iload_n C dX5_water_23 rfl 1 rfl ?_
    refine hm_iald (k := 0) (n := b) (x := (nI (A 0 b))) C hg (by decide) (by decide) (show b < 8 from by omega) rfl dX5_water_24 ?_
    refine hv_goto (tgt := 29) C dX5_water_25 (by decide) ?_
    exact hv_iret C hret dX5_water_29 (by first | exact Nat.le_refl _ | decide) (by first | exact Nat.le_refl _ | decide) ⟨by simp [q_water, hx, md_ans], by simp [q_water, hx]⟩
set_option maxRecDepth 100000 in
set_option maxHeartbeats 4000000 in
theorem c_X5_queue (l : Launch) (w : hv_W) (g : md_g) (hg : md_ok g) (A : ab_A) (th : Nat) (Y0 : hv_H) (x : Int32) : hv_Mr l yX5_queue wsX5_queue ({ frames := 2, cells := 0, slots := 0, locals := 42 }) w [.ref (g.1), .int (x)] (md_Y w g A th Y0) (fun r Y1 => md_P w g Y0 (q_queue A x) r Y1) := by
  refine hv_ofV (cc := cX5_queue) (own := RX5) (by decide) rfl rfl (Nat.le_of_ble_eq_true rfl) rfl ?_
  intro p e s m below meth c C hret _
  have hin : ∀ x ∈ wsX50, x ∈ wsX5_queue := by decide +kernel
  rcases hx : ix 8 x with _ | b
  · skip
    refine hv_aload_n C dX5_queue_0 rfl 0 rfl ?_
    refine hv_iload_n C dX5_queue_1 rfl 1 rfl ?_
    refine hv_callSr (As := [.int (x)]) (rest := [.ref (g.1)]) (n := 1) C (c_X5_isBasin l w _ ((x))) gX5_queue_X5_isBasin rfl (by decide +kernel) ⟨Nat.le_of_ble_eq_true rfl, Nat.le_of_ble_eq_true rfl⟩ rfl rfl (Nat.le_of_ble_eq_true rfl) dX5_queue_2 ⟨by first | exact Nat.le_of_ble_eq_true rfl | omega, by first | exact Nat.le_of_ble_eq_true rfl | omega⟩ (fun r1 Y1 hr => ?_)
    obtain ⟨rfl, rfl⟩ := hr
    refine hv_ifb_eq (tgt := 12) C dX5_queue_5 (by decide) (fun _ => ?_) (fun h => absurd h (ix_8n hx))
    refine hv_iconst (v := nI 1) C dX5_queue_12 (by decide) ?_
    refine hv_callVr (As := [.int (nI 1)]) (rest := []) (n := 1) C (c_X5_can l w g hg A th Y0 1 (by omega)) gX5_queue_X5_can rfl (by decide +kernel) ⟨Nat.le_of_ble_eq_true rfl, Nat.le_of_ble_eq_true rfl⟩ (hv_rcO md_o rfl) rfl rfl (Nat.le_of_ble_eq_true rfl) dX5_queue_13 ⟨by first | exact Nat.le_of_ble_eq_true rfl | omega, by first | exact Nat.le_of_ble_eq_true rfl | omega⟩ (fun r3 Y1 hr => ?_)
    obtain ⟨rfl, rfl⟩ := hr
    refine hv_ifb_eq (tgt := 28) C dX5_queue_16 (by decide) (fun _ => ?_) (fun h => absurd h (by decide))
    refine hv_iconst (v := nI 0) C dX5_queue_28 (by decide) ?_
    exact hv_iret C hret dX5_queue_29 (by first | exact Nat.le_refl _ | decide) (by first | exact Nat.le_refl _ | decide) ⟨by simp [q_queue, hx, md_ans], by simp [q_queue, hx]⟩
  · skip
    obtain ⟨hb, rfl⟩ := ix_y hx
    refine hv_aload_n C dX5_queue_0 rfl 0 rfl ?_
    refine hv_iload_n C dX5_queue_1 rfl 1 rfl ?_
    refine hv_callSr (As := [.int (nI b)]) (rest := [.ref (g.1)]) (n := 1) C (c_X5_isBasin l w _ ((nI b))) gX5_queue_X5_isBasin rfl (by decide +kernel) ⟨Nat.le_of_ble_eq_true rfl, Nat.le_of_ble_eq_true rfl⟩ rfl rfl (Nat.le_of_ble_eq_true rfl) dX5_queue_2 ⟨by first | exact Nat.le_of_ble_eq_true rfl | omega, by first | exact Nat.le_of_ble_eq_true rfl | omega⟩ (fun r5 Y1 hr => ?_)
    obtain ⟨rfl, rfl⟩ := hr
    refine hv_ifb_eq (tgt := 12) C dX5_queue_5 (by decide) (fun h => absurd (ix_8c hb) h) (fun _ => ?_)
    refine hv_iconst (v := nI 0) C dX5_queue_8 (by decide) ?_
    refine hv_goto (tgt := 13) C dX5_queue_9 (by decide) ?_
    refine hv_callVr (As := [.int (nI 0)]) (rest := []) (n := 1) C (c_X5_can l w g hg A th Y0 0 (by omega)) gX5_queue_X5_can rfl (by decide +kernel) ⟨Nat.le_of_ble_eq_true rfl, Nat.le_of_ble_eq_true rfl⟩ (hv_rcO md_o rfl) rfl rfl (Nat.le_of_ble_eq_true rfl) dX5_queue_13 ⟨by first | exact Nat.le_of_ble_eq_true rfl | omega, by first | exact Nat.le_of_ble_eq_true rfl | omega⟩ (fun r7 Y1 hr => ?_)
    obtain ⟨rfl, rfl⟩ := hr
    refine hv_ifb_eq (tgt := 28) C dX5_queue_16 (by decide) (fun h => absurd rfl h) (fun _ => ?_)
    refine hv_aload_n C dX5_queue_19 rfl 0 rfl ?_
    refine hm_get (k := 2) (v := .ref (g.2.1 2)) C hin (by decide) (by decide +kernel) rfl rfl dX5_queue_20 ?_
    refine hv_iload_n C dX5_queue_23 rfl 1 rfl ?_
    refine hm_iald (k := 2) (n := b) (x := (nI (A 2 b))) C hg (by decide) (by decide) (show b < 8 from by omega) rfl dX5_queue_24 ?_
    refine hv_goto (tgt := 29) C dX5_queue_25 (by decide) ?_
    exact hv_iret C hret dX5_queue_29 (by first | exact Nat.le_refl _ | decide) (by first | exact Nat.le_refl _ | decide) ⟨by simp [q_queue, hx, md_ans], by simp [q_queue, hx]⟩
set_option maxRecDepth 100000 in
set_option maxHeartbeats 4000000 in
theorem c_X5_cost (l : Launch) (w : hv_W) (g : md_g) (hg : md_ok g) (A : ab_A) (th : Nat) (Y0 : hv_H) (x : Int32) (h4 : A 4 0 ≤ 14) (hW : ∀ j, j < A 4 0 → A 5 j < 8 ∧ A 6 j < 8) (h0 : ∀ b, b < 8 → A 0 b ≤ 200) : hv_Mr l yX5_cost wsX5_cost ({ frames := 2, cells := 0, slots := 0, locals := 43 }) w [.ref (g.1), .int (x)] (md_Y w g A th Y0) (fun r Y1 => md_P w g Y0 (q_cost A x) r Y1) := by
  refine hv_ofV (cc := cX5_cost) (own := RX5) (by decide) rfl rfl (Nat.le_of_ble_eq_true rfl) rfl ?_
  intro p e s m below meth c C hret _
  have hin : ∀ x ∈ wsX50, x ∈ wsX5_cost := by decide +kernel
  rcases hx : ix (A 4 0) x with _ | j
  · skip
    refine hv_aload_n C dX5_cost_0 rfl 0 rfl ?_
    refine hv_aload_n C dX5_cost_1 rfl 0 rfl ?_
    refine hv_iload_n C dX5_cost_2 rfl 1 rfl ?_
    refine hv_callVr (As := [.int (x)]) (rest := [.ref (g.1)]) (n := 1) C (c_X5_isCanal l w g hg A th Y0 ((x))) gX5_cost_X5_isCanal rfl (by decide +kernel) ⟨Nat.le_of_ble_eq_true rfl, Nat.le_of_ble_eq_true rfl⟩ (hv_rcO md_o rfl) rfl rfl (Nat.le_of_ble_eq_true rfl) dX5_cost_3 ⟨by first | exact Nat.le_of_ble_eq_true rfl | omega, by first | exact Nat.le_of_ble_eq_true rfl | omega⟩ (fun r1 Y1 hr => ?_)
    obtain ⟨rfl, rfl⟩ := hr
    refine hv_ifb_eq (tgt := 13) C dX5_cost_6 (by decide) (fun _ => ?_) (fun h => absurd h (ix_n hx))
    refine hv_iconst (v := nI 1) C dX5_cost_13 (by decide) ?_
    refine hv_callVr (As := [.int (nI 1)]) (rest := []) (n := 1) C (c_X5_can l w g hg A th Y0 1 (by omega)) gX5_cost_X5_can rfl (by decide +kernel) ⟨Nat.le_of_ble_eq_true rfl, Nat.le_of_ble_eq_true rfl⟩ (hv_rcO md_o rfl) rfl rfl (Nat.le_of_ble_eq_true rfl) dX5_cost_14 ⟨by first | exact Nat.le_of_ble_eq_true rfl | omega, by first | exact Nat.le_of_ble_eq_true rfl | omega⟩ (fun r3 Y1 hr => ?_)
    obtain ⟨rfl, rfl⟩ := hr
    refine hv_ifb_eq (tgt := 28) C dX5_cost_17 (by decide) (fun _ => ?_) (fun h => absurd h (by decide))
    refine hv_iconst (v := nI 0) C dX5_cost_28 (by decide) ?_
    exact hv_iret C hret dX5_cost_29 (by first | exact Nat.le_refl _ | decide) (by first | exact Nat.le_refl _ | decide) ⟨by simp [q_cost, hx, md_ans], by simp [q_cost, hx]⟩
  · skip
    obtain ⟨hj, rfl⟩ := ix_s (by omega) hx
    refine hv_aload_n C dX5_cost_0 rfl 0 rfl ?_
    refine hv_aload_n C dX5_cost_1 rfl 0 rfl ?_
    refine hv_iload_n C dX5_cost_2 rfl 1 rfl ?_
    refine hv_callVr (As := [.int (nI j)]) (rest := [.ref (g.1)]) (n := 1) C (c_X5_isCanal l w g hg A th Y0 ((nI j))) gX5_cost_X5_isCanal rfl (by decide +kernel) ⟨Nat.le_of_ble_eq_true rfl, Nat.le_of_ble_eq_true rfl⟩ (hv_rcO md_o rfl) rfl rfl (Nat.le_of_ble_eq_true rfl) dX5_cost_3 ⟨by first | exact Nat.le_of_ble_eq_true rfl | omega, by first | exact Nat.le_of_ble_eq_true rfl | omega⟩ (fun r5 Y1 hr => ?_)
    obtain ⟨rfl, rfl⟩ := hr
    refine hv_ifb_eq (tgt := 13) C dX5_cost_6 (by decide) (fun h => absurd (ix_c hj (by omega)) h) (fun _ => ?_)
    refine hv_iconst (v := nI 0) C dX5_cost_9 (by decide) ?_
    refine hv_goto (tgt := 14) C dX5_cost_10 (by decide) ?_
    refine hv_callVr (As := [.int (nI 0)]) (rest := []) (n := 1) C (c_X5_can l w g hg A th Y0 0 (by omega)) gX5_cost_X5_can rfl (by decide +kernel) ⟨Nat.le_of_ble_eq_true rfl, Nat.le_of_ble_eq_true rfl⟩ (hv_rcO md_o rfl) rfl rfl (Nat.le_of_ble_eq_true rfl) dX5_cost_14 ⟨by first | exact Nat.le_of_ble_eq_true rfl | omega, by first | exact Nat.le_of_ble_eq_true rfl | omega⟩ (fun r7 Y1 hr => ?_)
    obtain ⟨rfl, rfl⟩ := hr
    refine hv_ifb_eq (tgt := 28) C dX5_cost_17 (by decide) (fun h => absurd rfl h) (fun _ => ?_)
    refine hv_aload_n C dX5_cost_20 rfl 0 rfl ?_
    refine hv_iload_n C dX5_cost_21 rfl 1 rfl ?_
    refine hv_callVr (As := [.int (nI j)]) (rest := []) (n := 1) C (c_X5_costOf l w g hg A 0 Y0 j (by omega) (hW j hj).1 (hW j hj).2 h0) gX5_cost_X5_costOf rfl (by decide +kernel) ⟨Nat.le_of_ble_eq_true rfl, Nat.le_of_ble_eq_true rfl⟩ (hv_rcO md_o rfl) rfl rfl (Nat.le_of_ble_eq_true rfl) dX5_cost_22 ⟨by first | exact Nat.le_of_ble_eq_true rfl | omega, by first | exact Nat.le_of_ble_eq_true rfl | omega⟩ (fun r9 Y1 hr => ?_)
    obtain ⟨rfl, rfl⟩ := hr
    refine hv_goto (tgt := 29) C dX5_cost_25 (by decide) ?_
    exact hv_iret C hret dX5_cost_29 (by first | exact Nat.le_refl _ | decide) (by first | exact Nat.le_refl _ | decide) ⟨by simp [q_cost, hx, md_ans], by simp [q_cost, hx]⟩
set_option maxRecDepth 100000 in
set_option maxHeartbeats 4000000 in
theorem c_X5_canPass (l : Launch) (w : hv_W) (g : md_g) (hg : md_ok g) (A : ab_A) (th : Nat) (Y0 : hv_H) (x : Int32) (h4 : A 4 0 ≤ 14) (hW : ∀ j, j < A 4 0 → A 5 j < 8 ∧ A 8 j ≤ 9 ∧ A 9 j ≤ 1) (h0 : ∀ b, b < 8 → A 0 b ≤ 200) : hv_Mr l yX5_canPass wsX5_canPass ({ frames := 2, cells := 0, slots := 0, locals := 43 }) w [.ref (g.1), .int (x)] (md_Y w g A th Y0) (fun r Y1 => md_P w g Y0 (q_canPass A x) r Y1) := by
  refine hv_ofV (cc := cX5_canPass) (own := RX5) (by decide) rfl rfl (Nat.le_of_ble_eq_true rfl) rfl ?_
  intro p e s m below meth c C hret _
  have hin : ∀ x ∈ wsX50, x ∈ wsX5_canPass := by decide +kernel
  rcases hx : ix (A 4 0) x with _ | j
  · skip
    refine hv_aload_n C dX5_canPass_0 rfl 0 rfl ?_
    refine hv_aload_n C dX5_canPass_1 rfl 0 rfl ?_
    refine hv_iload_n C dX5_canPass_2 rfl 1 rfl ?_
    refine hv_callVr (As := [.int (x)]) (rest := [.ref (g.1)]) (n := 1) C (c_X5_isCanal l w g hg A th Y0 ((x))) gX5_canPass_X5_isCanal rfl (by decide +kernel) ⟨Nat.le_of_ble_eq_true rfl, Nat.le_of_ble_eq_true rfl⟩ (hv_rcO md_o rfl) rfl rfl (Nat.le_of_ble_eq_true rfl) dX5_canPass_3 ⟨by first | exact Nat.le_of_ble_eq_true rfl | omega, by first | exact Nat.le_of_ble_eq_true rfl | omega⟩ (fun r1 Y1 hr => ?_)
    obtain ⟨rfl, rfl⟩ := hr
    refine hv_ifb_eq (tgt := 13) C dX5_canPass_6 (by decide) (fun _ => ?_) (fun h => absurd h (ix_n hx))
    refine hv_iconst (v := nI 1) C dX5_canPass_13 (by decide) ?_
    refine hv_callVr (As := [.int (nI 1)]) (rest := []) (n := 1) C (c_X5_can l w g hg A th Y0 1 (by omega)) gX5_canPass_X5_can rfl (by decide +kernel) ⟨Nat.le_of_ble_eq_true rfl, Nat.le_of_ble_eq_true rfl⟩ (hv_rcO md_o rfl) rfl rfl (Nat.le_of_ble_eq_true rfl) dX5_canPass_14 ⟨by first | exact Nat.le_of_ble_eq_true rfl | omega, by first | exact Nat.le_of_ble_eq_true rfl | omega⟩ (fun r3 Y1 hr => ?_)
    obtain ⟨rfl, rfl⟩ := hr
    refine hv_ifb_eq (tgt := 32) C dX5_canPass_17 (by decide) (fun _ => ?_) (fun h => absurd h (by decide))
    refine hv_iconst (v := nI 0) C dX5_canPass_32 (by decide) ?_
    exact hv_zret C hret (by decide) dX5_canPass_33 (by first | exact Nat.le_refl _ | decide) (by first | exact Nat.le_refl _ | decide) ⟨by simp [q_canPass, hx, md_ans], by simp [q_canPass, hx]⟩
  · skip
    obtain ⟨hj, rfl⟩ := ix_s (by omega) hx
    refine hv_aload_n C dX5_canPass_0 rfl 0 rfl ?_
    refine hv_aload_n C dX5_canPass_1 rfl 0 rfl ?_
    refine hv_iload_n C dX5_canPass_2 rfl 1 rfl ?_
    refine hv_callVr (As := [.int (nI j)]) (rest := [.ref (g.1)]) (n := 1) C (c_X5_isCanal l w g hg A th Y0 ((nI j))) gX5_canPass_X5_isCanal rfl (by decide +kernel) ⟨Nat.le_of_ble_eq_true rfl, Nat.le_of_ble_eq_true rfl⟩ (hv_rcO md_o rfl) rfl rfl (Nat.le_of_ble_eq_true rfl) dX5_canPass_3 ⟨by first | exact Nat.le_of_ble_eq_true rfl | omega, by first | exact Nat.le_of_ble_eq_true rfl | omega⟩ (fun r5 Y1 hr => ?_)
    obtain ⟨rfl, rfl⟩ := hr
    refine hv_ifb_eq (tgt := 13) C dX5_canPass_6 (by decide) (fun h => absurd (ix_c hj (by omega)) h) (fun _ => ?_)
    refine hv_iconst (v := nI 0) C dX5_canPass_9 (by decide) ?_
    refine hv_goto (tgt := 14) C dX5_canPass_10 (by decide) ?_
    refine hv_callVr (As := [.int (nI 0)]) (rest := []) (n := 1) C (c_X5_can l w g hg A th Y0 0 (by omega)) gX5_canPass_X5_can rfl (by decide +kernel) ⟨Nat.le_of_ble_eq_true rfl, Nat.le_of_ble_eq_true rfl⟩ (hv_rcO md_o rfl) rfl rfl (Nat.le_of_ble_eq_true rfl) dX5_canPass_14 ⟨by first | exact Nat.le_of_ble_eq_true rfl | omega, by first | exact Nat.le_of_ble_eq_true rfl | omega⟩ (fun r7 Y1 hr => ?_)
    obtain ⟨rfl, rfl⟩ := hr
    refine hv_ifb_eq (tgt := 32) C dX5_canPass_17 (by decide) (fun h => absurd rfl h) (fun _ => ?_)
    refine hv_aload_n C dX5_canPass_20 rfl 0 rfl ?_
    refine hv_iload_n C dX5_canPass_21 rfl 1 rfl ?_
    refine hv_callVr (As := [.int (nI j)]) (rest := []) (n := 1) C (c_X5_goes l w g hg A 0 Y0 j (by omega) (hW j hj).1 (by have := (hW j hj).2.1; omega) (by have := (hW j hj).2.2; omega) (h0 _ (hW j hj).1)) gX5_canPass_X5_goes rfl (by decide +kernel) ⟨Nat.le_of_ble_eq_true rfl, Nat.le_of_ble_eq_true rfl⟩ (hv_rcO md_o rfl) rfl rfl (Nat.le_of_ble_eq_true rfl) dX5_canPass_22 ⟨by first | exact Nat.le_of_ble_eq_true rfl | omega, by first | exact Nat.le_of_ble_eq_true rfl | omega⟩ (fun r9 Y1 hr => ?_)
    obtain ⟨rfl, rfl⟩ := hr
    refine hv_ifb_eq (tgt := 32) C dX5_canPass_25 (by decide) (fun h10 => ?_) (fun h10 => ?_)
    · skip
      refine hv_iconst (v := nI 0) C dX5_canPass_32 (by decide) ?_
      exact hv_zret C hret (by decide) dX5_canPass_33 (by first | exact Nat.le_refl _ | decide) (by first | exact Nat.le_refl _ | decide) ⟨by first | (simp [q_canPass, hx, md_ans]; rw [b2_t (by assumption)]) | (simp [q_canPass, hx, md_ans]; rw [b2_f (by assumption)]), by simp [q_canPass, hx]⟩
    · skip
      refine hv_iconst (v := nI 1) C dX5_canPass_28 (by decide) ?_
      refine hv_goto (tgt := 33) C dX5_canPass_29 (by decide) ?_
      exact hv_zret C hret (by decide) dX5_canPass_33 (by first | exact Nat.le_refl _ | decide) (by first | exact Nat.le_refl _ | decide) ⟨by first | (simp [q_canPass, hx, md_ans]; rw [b2_t (by assumption)]) | (simp [q_canPass, hx, md_ans]; rw [b2_f (by assumption)]), by simp [q_canPass, hx]⟩
set_option maxRecDepth 100000 in
set_option maxHeartbeats 4000000 in
theorem c_X5_isAsked (l : Launch) (w : hv_W) (g : md_g) (hg : md_ok g) (A : ab_A) (th : Nat) (Y0 : hv_H) (x : Int32) : hv_Mr l yX5_isAsked wsX5_isAsked ({ frames := 2, cells := 0, slots := 0, locals := 43 }) w [.ref (g.1), .int (x)] (md_Y w g A th Y0) (fun r Y1 => r = .int (nI (b2 (nI 0 ≤ x ∧ x ≤ nI (A 15 0) - nI 1))) ∧ Y1 = md_Y w g A (if nI 0 ≤ x ∧ x ≤ nI (A 15 0) - nI 1 then 0 else 1) Y0) := by
  refine hv_ofV (cc := cX5_isAsked) (own := RX5) (by decide) rfl rfl (Nat.le_of_ble_eq_true rfl) rfl ?_
  intro p e s m below meth c C hret _
  have hin : ∀ x ∈ wsX50, x ∈ wsX5_isAsked := by decide +kernel
  refine hv_aload_n C dX5_isAsked_0 rfl 0 rfl ?_
  refine hv_aload_n C dX5_isAsked_1 rfl 0 rfl ?_
  refine hv_iload_n C dX5_isAsked_2 rfl 1 rfl ?_
  refine hv_callVr (As := [.int (x)]) (rest := [.ref (g.1)]) (n := 1) C (c_X5_isBarge l w g hg A th Y0 ((x))) gX5_isAsked_X5_isBarge rfl (by decide +kernel) ⟨Nat.le_of_ble_eq_true rfl, Nat.le_of_ble_eq_true rfl⟩ (hv_rcO md_o rfl) rfl rfl (Nat.le_of_ble_eq_true rfl) dX5_isAsked_3 ⟨by first | exact Nat.le_of_ble_eq_true rfl | omega, by first | exact Nat.le_of_ble_eq_true rfl | omega⟩ (fun r1 Y1 hr => ?_)
  obtain ⟨rfl, rfl⟩ := hr
  refine hv_ifb_eq (tgt := 13) C dX5_isAsked_6 (by decide) (fun h2 => ?_) (fun h2 => ?_)
  · skip
    refine hv_iconst (v := nI 1) C dX5_isAsked_13 (by decide) ?_
    refine hv_callVr (As := [.int (nI 1)]) (rest := []) (n := 1) C (c_X5_can l w g hg A th Y0 1 (by omega)) gX5_isAsked_X5_can rfl (by decide +kernel) ⟨Nat.le_of_ble_eq_true rfl, Nat.le_of_ble_eq_true rfl⟩ (hv_rcO md_o rfl) rfl rfl (Nat.le_of_ble_eq_true rfl) dX5_isAsked_14 ⟨by first | exact Nat.le_of_ble_eq_true rfl | omega, by first | exact Nat.le_of_ble_eq_true rfl | omega⟩ (fun r3 Y1 hr => ?_)
    obtain ⟨rfl, rfl⟩ := hr
    exact hv_zret C hret b2_nar dX5_isAsked_17 (by first | exact Nat.le_refl _ | decide) (by first | exact Nat.le_refl _ | decide) ⟨by rw [b2_f (show ¬ (nI 0 ≤ x ∧ x ≤ nI (A 15 0) - nI 1) from h2)]; rfl, by rw [if_neg (show ¬ (nI 0 ≤ x ∧ x ≤ nI (A 15 0) - nI 1) from h2)]⟩
  · skip
    refine hv_iconst (v := nI 0) C dX5_isAsked_9 (by decide) ?_
    refine hv_goto (tgt := 14) C dX5_isAsked_10 (by decide) ?_
    refine hv_callVr (As := [.int (nI 0)]) (rest := []) (n := 1) C (c_X5_can l w g hg A th Y0 0 (by omega)) gX5_isAsked_X5_can rfl (by decide +kernel) ⟨Nat.le_of_ble_eq_true rfl, Nat.le_of_ble_eq_true rfl⟩ (hv_rcO md_o rfl) rfl rfl (Nat.le_of_ble_eq_true rfl) dX5_isAsked_14 ⟨by first | exact Nat.le_of_ble_eq_true rfl | omega, by first | exact Nat.le_of_ble_eq_true rfl | omega⟩ (fun r4 Y1 hr => ?_)
    obtain ⟨rfl, rfl⟩ := hr
    exact hv_zret C hret b2_nar dX5_isAsked_17 (by first | exact Nat.le_refl _ | decide) (by first | exact Nat.le_refl _ | decide) ⟨by rw [b2_t (show nI 0 ≤ x ∧ x ≤ nI (A 15 0) - nI 1 from h2)]; rfl, by rw [if_pos (show nI 0 ≤ x ∧ x ≤ nI (A 15 0) - nI 1 from h2)]⟩
set_option maxRecDepth 100000 in
set_option maxHeartbeats 4000000 in
theorem c_X5_areAsked (l : Launch) (w : hv_W) (g : md_g) (hg : md_ok g) (A : ab_A) (th : Nat) (Y0 : hv_H) (x y : Int32) : hv_Mr l yX5_areAsked wsX5_areAsked ({ frames := 2, cells := 0, slots := 0, locals := 42 }) w [.ref (g.1), .int (x), .int (y)] (md_Y w g A th Y0) (fun r Y1 => r = .int (nI (b2 ((nI 0 ≤ x ∧ x ≤ nI 7) ∧ (nI 0 ≤ y ∧ y ≤ nI 7)))) ∧ Y1 = md_Y w g A (if (nI 0 ≤ x ∧ x ≤ nI 7) ∧ (nI 0 ≤ y ∧ y ≤ nI 7) then 0 else 1) Y0) := by
  refine hv_ofV (cc := cX5_areAsked) (own := RX5) (by decide) rfl rfl (Nat.le_of_ble_eq_true rfl) rfl ?_
  intro p e s m below meth c C hret _
  have hin : ∀ x ∈ wsX50, x ∈ wsX5_areAsked := by decide +kernel
  refine hv_aload_n C dX5_areAsked_0 rfl 0 rfl ?_
  refine hv_iload_n C dX5_areAsked_1 rfl 1 rfl ?_
  refine hv_callSr (As := [.int (x)]) (rest := [.ref (g.1)]) (n := 1) C (c_X5_isBasin l w _ ((x))) gX5_areAsked_X5_isBasin rfl (by decide +kernel) ⟨Nat.le_of_ble_eq_true rfl, Nat.le_of_ble_eq_true rfl⟩ rfl rfl (Nat.le_of_ble_eq_true rfl) dX5_areAsked_2 ⟨by first | exact Nat.le_of_ble_eq_true rfl | omega, by first | exact Nat.le_of_ble_eq_true rfl | omega⟩ (fun r1 Y1 hr => ?_)
  obtain ⟨rfl, rfl⟩ := hr
  refine hv_ifb_eq (tgt := 19) C dX5_areAsked_5 (by decide) (fun h2 => ?_) (fun h2 => ?_)
  · skip
    refine hv_iconst (v := nI 1) C dX5_areAsked_19 (by decide) ?_
    refine hv_callVr (As := [.int (nI 1)]) (rest := []) (n := 1) C (c_X5_can l w g hg A th Y0 1 (by omega)) gX5_areAsked_X5_can rfl (by decide +kernel) ⟨Nat.le_of_ble_eq_true rfl, Nat.le_of_ble_eq_true rfl⟩ (hv_rcO md_o rfl) rfl rfl (Nat.le_of_ble_eq_true rfl) dX5_areAsked_20 ⟨by first | exact Nat.le_of_ble_eq_true rfl | omega, by first | exact Nat.le_of_ble_eq_true rfl | omega⟩ (fun r3 Y1 hr => ?_)
    obtain ⟨rfl, rfl⟩ := hr
    exact hv_zret C hret b2_nar dX5_areAsked_23 (by first | exact Nat.le_refl _ | decide) (by first | exact Nat.le_refl _ | decide) ⟨by rw [b2_f (show ¬ ((nI 0 ≤ x ∧ x ≤ nI 7) ∧ (nI 0 ≤ y ∧ y ≤ nI 7)) from fun q => h2 q.1)]; rfl, by rw [if_neg (show ¬ ((nI 0 ≤ x ∧ x ≤ nI 7) ∧ (nI 0 ≤ y ∧ y ≤ nI 7)) from fun q => h2 q.1)]⟩
  · skip
    refine hv_iload_n C dX5_areAsked_8 rfl 2 rfl ?_
    refine hv_callSr (As := [.int (y)]) (rest := [.ref (g.1)]) (n := 1) C (c_X5_isBasin l w _ ((y))) gX5_areAsked_X5_isBasin rfl (by decide +kernel) ⟨Nat.le_of_ble_eq_true rfl, Nat.le_of_ble_eq_true rfl⟩ rfl rfl (Nat.le_of_ble_eq_true rfl) dX5_areAsked_9 ⟨by first | exact Nat.le_of_ble_eq_true rfl | omega, by first | exact Nat.le_of_ble_eq_true rfl | omega⟩ (fun r4 Y1 hr => ?_)
    obtain ⟨rfl, rfl⟩ := hr
    refine hv_ifb_eq (tgt := 19) C dX5_areAsked_12 (by decide) (fun h5 => ?_) (fun h5 => ?_)
    · skip
      refine hv_iconst (v := nI 1) C dX5_areAsked_19 (by decide) ?_
      refine hv_callVr (As := [.int (nI 1)]) (rest := []) (n := 1) C (c_X5_can l w g hg A th Y0 1 (by omega)) gX5_areAsked_X5_can rfl (by decide +kernel) ⟨Nat.le_of_ble_eq_true rfl, Nat.le_of_ble_eq_true rfl⟩ (hv_rcO md_o rfl) rfl rfl (Nat.le_of_ble_eq_true rfl) dX5_areAsked_20 ⟨by first | exact Nat.le_of_ble_eq_true rfl | omega, by first | exact Nat.le_of_ble_eq_true rfl | omega⟩ (fun r6 Y1 hr => ?_)
      obtain ⟨rfl, rfl⟩ := hr
      exact hv_zret C hret b2_nar dX5_areAsked_23 (by first | exact Nat.le_refl _ | decide) (by first | exact Nat.le_refl _ | decide) ⟨by rw [b2_f (show ¬ ((nI 0 ≤ x ∧ x ≤ nI 7) ∧ (nI 0 ≤ y ∧ y ≤ nI 7)) from fun q => h5 q.2)]; rfl, by rw [if_neg (show ¬ ((nI 0 ≤ x ∧ x ≤ nI 7) ∧ (nI 0 ≤ y ∧ y ≤ nI 7)) from fun q => h5 q.2)]⟩
    · skip
      refine hv_iconst (v := nI 0) C dX5_areAsked_15 (by decide) ?_
      refine hv_goto (tgt := 20) C dX5_areAsked_16 (by decide) ?_
      refine hv_callVr (As := [.int (nI 0)]) (rest := []) (n := 1) C (c_X5_can l w g hg A th Y0 0 (by omega)) gX5_areAsked_X5_can rfl (by decide +kernel) ⟨Nat.le_of_ble_eq_true rfl, Nat.le_of_ble_eq_true rfl⟩ (hv_rcO md_o rfl) rfl rfl (Nat.le_of_ble_eq_true rfl) dX5_areAsked_20 ⟨by first | exact Nat.le_of_ble_eq_true rfl | omega, by first | exact Nat.le_of_ble_eq_true rfl | omega⟩ (fun r7 Y1 hr => ?_)
      obtain ⟨rfl, rfl⟩ := hr
      exact hv_zret C hret b2_nar dX5_areAsked_23 (by first | exact Nat.le_refl _ | decide) (by first | exact Nat.le_refl _ | decide) ⟨by rw [b2_t (show (nI 0 ≤ x ∧ x ≤ nI 7) ∧ (nI 0 ≤ y ∧ y ≤ nI 7) from ⟨h2, h5⟩)]; rfl, by rw [if_pos (show (nI 0 ≤ x ∧ x ≤ nI 7) ∧ (nI 0 ≤ y ∧ y ≤ nI 7) from ⟨h2, h5⟩)]⟩
set_option maxRecDepth 100000 in
set_option maxHeartbeats 4000000 in
theorem c_X5_state (l : Launch) (w : hv_W) (g : md_g) (hg : md_ok g) (A : ab_A) (th : Nat) (Y0 : hv_H) (x : Int32) (h15 : A 15 0 ≤ 40) : hv_Mr l yX5_state wsX5_state ({ frames := 3, cells := 0, slots := 0, locals := 64 }) w [.ref (g.1), .int (x)] (md_Y w g A th Y0) (fun r Y1 => md_P w g Y0 (q_barge A x 21) r Y1) := by
  refine hv_ofV (cc := cX5_state) (own := RX5) (by decide) rfl rfl (Nat.le_of_ble_eq_true rfl) rfl ?_
  intro p e s m below meth c C hret _
  have hin : ∀ x ∈ wsX50, x ∈ wsX5_state := by decide +kernel
  rcases hx : ix (A 15 0) x with _ | j
  · skip
    refine hv_aload_n C dX5_state_0 rfl 0 rfl ?_
    refine hv_iload_n C dX5_state_1 rfl 1 rfl ?_
    refine hv_callVr (As := [.int (x)]) (rest := []) (n := 1) C (c_X5_isAsked l w g hg A th Y0 ((x))) gX5_state_X5_isAsked rfl (by decide +kernel) ⟨Nat.le_of_ble_eq_true rfl, Nat.le_of_ble_eq_true rfl⟩ (hv_rcO md_o rfl) rfl rfl (Nat.le_of_ble_eq_true rfl) dX5_state_2 ⟨by first | exact Nat.le_of_ble_eq_true rfl | omega, by first | exact Nat.le_of_ble_eq_true rfl | omega⟩ (fun r1 Y1 hr => ?_)
    obtain ⟨rfl, rfl⟩ := hr
    rw [if_neg (show ¬ (nI 0 ≤ x ∧ x ≤ nI (A 15 0) - nI 1) from (ix_n hx))]
    refine hv_ifb_eq (tgt := 17) C dX5_state_5 (by decide) (fun _ => ?_) (fun h => absurd h (ix_n hx))
    refine hv_iconst (v := nI 0) C dX5_state_17 (by decide) ?_
    exact hv_iret C hret dX5_state_18 (by first | exact Nat.le_refl _ | decide) (by first | exact Nat.le_refl _ | decide) ⟨by simp [q_barge, hx, md_ans], by simp [q_barge, hx]⟩
  · skip
    obtain ⟨hj, rfl⟩ := ix_s (by omega) hx
    refine hv_aload_n C dX5_state_0 rfl 0 rfl ?_
    refine hv_iload_n C dX5_state_1 rfl 1 rfl ?_
    refine hv_callVr (As := [.int (nI j)]) (rest := []) (n := 1) C (c_X5_isAsked l w g hg A th Y0 ((nI j))) gX5_state_X5_isAsked rfl (by decide +kernel) ⟨Nat.le_of_ble_eq_true rfl, Nat.le_of_ble_eq_true rfl⟩ (hv_rcO md_o rfl) rfl rfl (Nat.le_of_ble_eq_true rfl) dX5_state_2 ⟨by first | exact Nat.le_of_ble_eq_true rfl | omega, by first | exact Nat.le_of_ble_eq_true rfl | omega⟩ (fun r3 Y1 hr => ?_)
    obtain ⟨rfl, rfl⟩ := hr
    rw [if_pos (show (nI 0 ≤ nI j ∧ nI j ≤ nI (A 15 0) - nI 1) from (ix_c hj (by omega)))]
    refine hv_ifb_eq (tgt := 17) C dX5_state_5 (by decide) (fun h => absurd (ix_c hj (by omega)) h) (fun _ => ?_)
    refine hv_aload_n C dX5_state_8 rfl 0 rfl ?_
    refine hm_get (k := 21) (v := .ref (g.2.1 21)) C hin (by decide) (by decide +kernel) rfl rfl dX5_state_9 ?_
    refine hv_iload_n C dX5_state_12 rfl 1 rfl ?_
    refine hm_iald (k := 21) (n := j) (x := (nI (A 21 j))) C hg (by decide) (by decide) (show j < 40 from by omega) rfl dX5_state_13 ?_
    refine hv_goto (tgt := 18) C dX5_state_14 (by decide) ?_
    exact hv_iret C hret dX5_state_18 (by first | exact Nat.le_refl _ | decide) (by first | exact Nat.le_refl _ | decide) ⟨by simp [q_barge, hx, md_ans], by simp [q_barge, hx]⟩
set_option maxRecDepth 100000 in
set_option maxHeartbeats 4000000 in
theorem c_X5_basinOf (l : Launch) (w : hv_W) (g : md_g) (hg : md_ok g) (A : ab_A) (th : Nat) (Y0 : hv_H) (x : Int32) (h15 : A 15 0 ≤ 40) : hv_Mr l yX5_basinOf wsX5_basinOf ({ frames := 3, cells := 0, slots := 0, locals := 64 }) w [.ref (g.1), .int (x)] (md_Y w g A th Y0) (fun r Y1 => md_P w g Y0 (q_barge A x 22) r Y1) := by
  refine hv_ofV (cc := cX5_basinOf) (own := RX5) (by decide) rfl rfl (Nat.le_of_ble_eq_true rfl) rfl ?_
  intro p e s m below meth c C hret _
  have hin : ∀ x ∈ wsX50, x ∈ wsX5_basinOf := by decide +kernel
  rcases hx : ix (A 15 0) x with _ | j
  · skip
    refine hv_aload_n C dX5_basinOf_0 rfl 0 rfl ?_
    refine hv_iload_n C dX5_basinOf_1 rfl 1 rfl ?_
    refine hv_callVr (As := [.int (x)]) (rest := []) (n := 1) C (c_X5_isAsked l w g hg A th Y0 ((x))) gX5_basinOf_X5_isAsked rfl (by decide +kernel) ⟨Nat.le_of_ble_eq_true rfl, Nat.le_of_ble_eq_true rfl⟩ (hv_rcO md_o rfl) rfl rfl (Nat.le_of_ble_eq_true rfl) dX5_basinOf_2 ⟨by first | exact Nat.le_of_ble_eq_true rfl | omega, by first | exact Nat.le_of_ble_eq_true rfl | omega⟩ (fun r1 Y1 hr => ?_)
    obtain ⟨rfl, rfl⟩ := hr
    rw [if_neg (show ¬ (nI 0 ≤ x ∧ x ≤ nI (A 15 0) - nI 1) from (ix_n hx))]
    refine hv_ifb_eq (tgt := 17) C dX5_basinOf_5 (by decide) (fun _ => ?_) (fun h => absurd h (ix_n hx))
    refine hv_iconst (v := nI 0) C dX5_basinOf_17 (by decide) ?_
    exact hv_iret C hret dX5_basinOf_18 (by first | exact Nat.le_refl _ | decide) (by first | exact Nat.le_refl _ | decide) ⟨by simp [q_barge, hx, md_ans], by simp [q_barge, hx]⟩
  · skip
    obtain ⟨hj, rfl⟩ := ix_s (by omega) hx
    refine hv_aload_n C dX5_basinOf_0 rfl 0 rfl ?_
    refine hv_iload_n C dX5_basinOf_1 rfl 1 rfl ?_
    refine hv_callVr (As := [.int (nI j)]) (rest := []) (n := 1) C (c_X5_isAsked l w g hg A th Y0 ((nI j))) gX5_basinOf_X5_isAsked rfl (by decide +kernel) ⟨Nat.le_of_ble_eq_true rfl, Nat.le_of_ble_eq_true rfl⟩ (hv_rcO md_o rfl) rfl rfl (Nat.le_of_ble_eq_true rfl) dX5_basinOf_2 ⟨by first | exact Nat.le_of_ble_eq_true rfl | omega, by first | exact Nat.le_of_ble_eq_true rfl | omega⟩ (fun r3 Y1 hr => ?_)
    obtain ⟨rfl, rfl⟩ := hr
    rw [if_pos (show (nI 0 ≤ nI j ∧ nI j ≤ nI (A 15 0) - nI 1) from (ix_c hj (by omega)))]
    refine hv_ifb_eq (tgt := 17) C dX5_basinOf_5 (by decide) (fun h => absurd (ix_c hj (by omega)) h) (fun _ => ?_)
    refine hv_aload_n C dX5_basinOf_8 rfl 0 rfl ?_
    refine hm_get (k := 22) (v := .ref (g.2.1 22)) C hin (by decide) (by decide +kernel) rfl rfl dX5_basinOf_9 ?_
    refine hv_iload_n C dX5_basinOf_12 rfl 1 rfl ?_
    refine hm_iald (k := 22) (n := j) (x := (nI (A 22 j))) C hg (by decide) (by decide) (show j < 40 from by omega) rfl dX5_basinOf_13 ?_
    refine hv_goto (tgt := 18) C dX5_basinOf_14 (by decide) ?_
    exact hv_iret C hret dX5_basinOf_18 (by first | exact Nat.le_refl _ | decide) (by first | exact Nat.le_refl _ | decide) ⟨by simp [q_barge, hx, md_ans], by simp [q_barge, hx]⟩
set_option maxRecDepth 100000 in
set_option maxHeartbeats 4000000 in
theorem c_X5_hops (l : Launch) (w : hv_W) (g : md_g) (hg : md_ok g) (A : ab_A) (th : Nat) (Y0 : hv_H) (x : Int32) (h15 : A 15 0 ≤ 40) : hv_Mr l yX5_hops wsX5_hops ({ frames := 3, cells := 0, slots := 0, locals := 64 }) w [.ref (g.1), .int (x)] (md_Y w g A th Y0) (fun r Y1 => md_P w g Y0 (q_barge A x 19) r Y1) := by
  refine hv_ofV (cc := cX5_hops) (own := RX5) (by decide) rfl rfl (Nat.le_of_ble_eq_true rfl) rfl ?_
  intro p e s m below meth c C hret _
  have hin : ∀ x ∈ wsX50, x ∈ wsX5_hops := by decide +kernel
  rcases hx : ix (A 15 0) x with _ | j
  · skip
    refine hv_aload_n C dX5_hops_0 rfl 0 rfl ?_
    refine hv_iload_n C dX5_hops_1 rfl 1 rfl ?_
    refine hv_callVr (As := [.int (x)]) (rest := []) (n := 1) C (c_X5_isAsked l w g hg A th Y0 ((x))) gX5_hops_X5_isAsked rfl (by decide +kernel) ⟨Nat.le_of_ble_eq_true rfl, Nat.le_of_ble_eq_true rfl⟩ (hv_rcO md_o rfl) rfl rfl (Nat.le_of_ble_eq_true rfl) dX5_hops_2 ⟨by first | exact Nat.le_of_ble_eq_true rfl | omega, by first | exact Nat.le_of_ble_eq_true rfl | omega⟩ (fun r1 Y1 hr => ?_)
    obtain ⟨rfl, rfl⟩ := hr
    rw [if_neg (show ¬ (nI 0 ≤ x ∧ x ≤ nI (A 15 0) - nI 1) from (ix_n hx))]
    refine hv_ifb_eq (tgt := 17) C dX5_hops_5 (by decide) (fun _ => ?_) (fun h => absurd h (ix_n hx))
    refine hv_iconst (v := nI 0) C dX5_hops_17 (by decide) ?_
    exact hv_iret C hret dX5_hops_18 (by first | exact Nat.le_refl _ | decide) (by first | exact Nat.le_refl _ | decide) ⟨by simp [q_barge, hx, md_ans], by simp [q_barge, hx]⟩
  · skip
    obtain ⟨hj, rfl⟩ := ix_s (by omega) hx
    refine hv_aload_n C dX5_hops_0 rfl 0 rfl ?_
    refine hv_iload_n C dX5_hops_1 rfl 1 rfl ?_
    refine hv_callVr (As := [.int (nI j)]) (rest := []) (n := 1) C (c_X5_isAsked l w g hg A th Y0 ((nI j))) gX5_hops_X5_isAsked rfl (by decide +kernel) ⟨Nat.le_of_ble_eq_true rfl, Nat.le_of_ble_eq_true rfl⟩ (hv_rcO md_o rfl) rfl rfl (Nat.le_of_ble_eq_true rfl) dX5_hops_2 ⟨by first | exact Nat.le_of_ble_eq_true rfl | omega, by first | exact Nat.le_of_ble_eq_true rfl | omega⟩ (fun r3 Y1 hr => ?_)
    obtain ⟨rfl, rfl⟩ := hr
    rw [if_pos (show (nI 0 ≤ nI j ∧ nI j ≤ nI (A 15 0) - nI 1) from (ix_c hj (by omega)))]
    refine hv_ifb_eq (tgt := 17) C dX5_hops_5 (by decide) (fun h => absurd (ix_c hj (by omega)) h) (fun _ => ?_)
    refine hv_aload_n C dX5_hops_8 rfl 0 rfl ?_
    refine hm_get (k := 19) (v := .ref (g.2.1 19)) C hin (by decide) (by decide +kernel) rfl rfl dX5_hops_9 ?_
    refine hv_iload_n C dX5_hops_12 rfl 1 rfl ?_
    refine hm_iald (k := 19) (n := j) (x := (nI (A 19 j))) C hg (by decide) (by decide) (show j < 40 from by omega) rfl dX5_hops_13 ?_
    refine hv_goto (tgt := 18) C dX5_hops_14 (by decide) ?_
    exact hv_iret C hret dX5_hops_18 (by first | exact Nat.le_refl _ | decide) (by first | exact Nat.le_refl _ | decide) ⟨by simp [q_barge, hx, md_ans], by simp [q_barge, hx]⟩
set_option maxRecDepth 100000 in
set_option maxHeartbeats 4000000 in
theorem c_X5_life (l : Launch) (w : hv_W) (g : md_g) (hg : md_ok g) (A : ab_A) (th : Nat) (Y0 : hv_H) (x : Int32) (h15 : A 15 0 ≤ 40) : hv_Mr l yX5_life wsX5_life ({ frames := 3, cells := 0, slots := 0, locals := 64 }) w [.ref (g.1), .int (x)] (md_Y w g A th Y0) (fun r Y1 => md_P w g Y0 (q_barge A x 18) r Y1) := by
  refine hv_ofV (cc := cX5_life) (own := RX5) (by decide) rfl rfl (Nat.le_of_ble_eq_true rfl) rfl ?_
  intro p e s m below meth c C hret _
  have hin : ∀ x ∈ wsX50, x ∈ wsX5_life := by decide +kernel
  rcases hx : ix (A 15 0) x with _ | j
  · skip
    refine hv_aload_n C dX5_life_0 rfl 0 rfl ?_
    refine hv_iload_n C dX5_life_1 rfl 1 rfl ?_
    refine hv_callVr (As := [.int (x)]) (rest := []) (n := 1) C (c_X5_isAsked l w g hg A th Y0 ((x))) gX5_life_X5_isAsked rfl (by decide +kernel) ⟨Nat.le_of_ble_eq_true rfl, Nat.le_of_ble_eq_true rfl⟩ (hv_rcO md_o rfl) rfl rfl (Nat.le_of_ble_eq_true rfl) dX5_life_2 ⟨by first | exact Nat.le_of_ble_eq_true rfl | omega, by first | exact Nat.le_of_ble_eq_true rfl | omega⟩ (fun r1 Y1 hr => ?_)
    obtain ⟨rfl, rfl⟩ := hr
    rw [if_neg (show ¬ (nI 0 ≤ x ∧ x ≤ nI (A 15 0) - nI 1) from (ix_n hx))]
    refine hv_ifb_eq (tgt := 17) C dX5_life_5 (by decide) (fun _ => ?_) (fun h => absurd h (ix_n hx))
    refine hv_iconst (v := nI 0) C dX5_life_17 (by decide) ?_
    exact hv_iret C hret dX5_life_18 (by first | exact Nat.le_refl _ | decide) (by first | exact Nat.le_refl _ | decide) ⟨by simp [q_barge, hx, md_ans], by simp [q_barge, hx]⟩
  · skip
    obtain ⟨hj, rfl⟩ := ix_s (by omega) hx
    refine hv_aload_n C dX5_life_0 rfl 0 rfl ?_
    refine hv_iload_n C dX5_life_1 rfl 1 rfl ?_
    refine hv_callVr (As := [.int (nI j)]) (rest := []) (n := 1) C (c_X5_isAsked l w g hg A th Y0 ((nI j))) gX5_life_X5_isAsked rfl (by decide +kernel) ⟨Nat.le_of_ble_eq_true rfl, Nat.le_of_ble_eq_true rfl⟩ (hv_rcO md_o rfl) rfl rfl (Nat.le_of_ble_eq_true rfl) dX5_life_2 ⟨by first | exact Nat.le_of_ble_eq_true rfl | omega, by first | exact Nat.le_of_ble_eq_true rfl | omega⟩ (fun r3 Y1 hr => ?_)
    obtain ⟨rfl, rfl⟩ := hr
    rw [if_pos (show (nI 0 ≤ nI j ∧ nI j ≤ nI (A 15 0) - nI 1) from (ix_c hj (by omega)))]
    refine hv_ifb_eq (tgt := 17) C dX5_life_5 (by decide) (fun h => absurd (ix_c hj (by omega)) h) (fun _ => ?_)
    refine hv_aload_n C dX5_life_8 rfl 0 rfl ?_
    refine hm_get (k := 18) (v := .ref (g.2.1 18)) C hin (by decide) (by decide +kernel) rfl rfl dX5_life_9 ?_
    refine hv_iload_n C dX5_life_12 rfl 1 rfl ?_
    refine hm_iald (k := 18) (n := j) (x := (nI (A 18 j))) C hg (by decide) (by decide) (show j < 40 from by omega) rfl dX5_life_13 ?_
    refine hv_goto (tgt := 18) C dX5_life_14 (by decide) ?_
    exact hv_iret C hret dX5_life_18 (by first | exact Nat.le_refl _ | decide) (by first | exact Nat.le_refl _ | decide) ⟨by simp [q_barge, hx, md_ans], by simp [q_barge, hx]⟩
set_option maxRecDepth 100000 in
set_option maxHeartbeats 4000000 in
theorem c_X5_repeats (l : Launch) (w : hv_W) (g : md_g) (hg : md_ok g) (A : ab_A) (th : Nat) (Y0 : hv_H) (x : Int32) (h15 : A 15 0 ≤ 40) : hv_Mr l yX5_repeats wsX5_repeats ({ frames := 3, cells := 0, slots := 0, locals := 64 }) w [.ref (g.1), .int (x)] (md_Y w g A th Y0) (fun r Y1 => md_P w g Y0 (q_barge A x 20) r Y1) := by
  refine hv_ofV (cc := cX5_repeats) (own := RX5) (by decide) rfl rfl (Nat.le_of_ble_eq_true rfl) rfl ?_
  intro p e s m below meth c C hret _
  have hin : ∀ x ∈ wsX50, x ∈ wsX5_repeats := by decide +kernel
  rcases hx : ix (A 15 0) x with _ | j
  · skip
    refine hv_aload_n C dX5_repeats_0 rfl 0 rfl ?_
    refine hv_iload_n C dX5_repeats_1 rfl 1 rfl ?_
    refine hv_callVr (As := [.int (x)]) (rest := []) (n := 1) C (c_X5_isAsked l w g hg A th Y0 ((x))) gX5_repeats_X5_isAsked rfl (by decide +kernel) ⟨Nat.le_of_ble_eq_true rfl, Nat.le_of_ble_eq_true rfl⟩ (hv_rcO md_o rfl) rfl rfl (Nat.le_of_ble_eq_true rfl) dX5_repeats_2 ⟨by first | exact Nat.le_of_ble_eq_true rfl | omega, by first | exact Nat.le_of_ble_eq_true rfl | omega⟩ (fun r1 Y1 hr => ?_)
    obtain ⟨rfl, rfl⟩ := hr
    rw [if_neg (show ¬ (nI 0 ≤ x ∧ x ≤ nI (A 15 0) - nI 1) from (ix_n hx))]
    refine hv_ifb_eq (tgt := 17) C dX5_repeats_5 (by decide) (fun _ => ?_) (fun h => absurd h (ix_n hx))
    refine hv_iconst (v := nI 0) C dX5_repeats_17 (by decide) ?_
    exact hv_iret C hret dX5_repeats_18 (by first | exact Nat.le_refl _ | decide) (by first | exact Nat.le_refl _ | decide) ⟨by simp [q_barge, hx, md_ans], by simp [q_barge, hx]⟩
  · skip
    obtain ⟨hj, rfl⟩ := ix_s (by omega) hx
    refine hv_aload_n C dX5_repeats_0 rfl 0 rfl ?_
    refine hv_iload_n C dX5_repeats_1 rfl 1 rfl ?_
    refine hv_callVr (As := [.int (nI j)]) (rest := []) (n := 1) C (c_X5_isAsked l w g hg A th Y0 ((nI j))) gX5_repeats_X5_isAsked rfl (by decide +kernel) ⟨Nat.le_of_ble_eq_true rfl, Nat.le_of_ble_eq_true rfl⟩ (hv_rcO md_o rfl) rfl rfl (Nat.le_of_ble_eq_true rfl) dX5_repeats_2 ⟨by first | exact Nat.le_of_ble_eq_true rfl | omega, by first | exact Nat.le_of_ble_eq_true rfl | omega⟩ (fun r3 Y1 hr => ?_)
    obtain ⟨rfl, rfl⟩ := hr
    rw [if_pos (show (nI 0 ≤ nI j ∧ nI j ≤ nI (A 15 0) - nI 1) from (ix_c hj (by omega)))]
    refine hv_ifb_eq (tgt := 17) C dX5_repeats_5 (by decide) (fun h => absurd (ix_c hj (by omega)) h) (fun _ => ?_)
    refine hv_aload_n C dX5_repeats_8 rfl 0 rfl ?_
    refine hm_get (k := 20) (v := .ref (g.2.1 20)) C hin (by decide) (by decide +kernel) rfl rfl dX5_repeats_9 ?_
    refine hv_iload_n C dX5_repeats_12 rfl 1 rfl ?_
    refine hm_iald (k := 20) (n := j) (x := (nI (A 20 j))) C hg (by decide) (by decide) (show j < 40 from by omega) rfl dX5_repeats_13 ?_
    refine hv_goto (tgt := 18) C dX5_repeats_14 (by decide) ?_
    exact hv_iret C hret dX5_repeats_18 (by first | exact Nat.le_refl _ | decide) (by first | exact Nat.le_refl _ | decide) ⟨by simp [q_barge, hx, md_ans], by simp [q_barge, hx]⟩
set_option maxRecDepth 100000 in
set_option maxHeartbeats 4000000 in
theorem c_X5_distance (l : Launch) (w : hv_W) (g : md_g) (hg : md_ok g) (A : ab_A) (th : Nat) (Y0 : hv_H) (x y : Int32) : hv_Mr l yX5_distance wsX5_distance ({ frames := 3, cells := 0, slots := 0, locals := 64 }) w [.ref (g.1), .int (x), .int (y)] (md_Y w g A th Y0) (fun r Y1 => md_P w g Y0 (q_distance A x y) r Y1) := by
  refine hv_ofV (cc := cX5_distance) (own := RX5) (by decide) rfl rfl (Nat.le_of_ble_eq_true rfl) rfl ?_
  intro p e s m below meth c C hret _
  have hin : ∀ x ∈ wsX50, x ∈ wsX5_distance := by decide +kernel
  rcases hx : ix 8 x with _ | b
  · skip
    refine hv_aload_n C dX5_distance_0 rfl 0 rfl ?_
    refine hv_iload_n C dX5_distance_1 rfl 1 rfl ?_
    refine hv_iload_n C dX5_distance_2 rfl 2 rfl ?_
    refine hv_callVr (As := [.int (x), .int (y)]) (rest := []) (n := 2) C (c_X5_areAsked l w g hg A th Y0 ((x)) ((y))) gX5_distance_X5_areAsked rfl (by decide +kernel) ⟨Nat.le_of_ble_eq_true rfl, Nat.le_of_ble_eq_true rfl⟩ (hv_rcO md_o rfl) rfl rfl (Nat.le_of_ble_eq_true rfl) dX5_distance_3 ⟨by first | exact Nat.le_of_ble_eq_true rfl | omega, by first | exact Nat.le_of_ble_eq_true rfl | omega⟩ (fun r1 Y1 hr => ?_)
    obtain ⟨rfl, rfl⟩ := hr
    rw [if_neg (show ¬ ((nI 0 ≤ x ∧ x ≤ nI 7) ∧ (nI 0 ≤ y ∧ y ≤ nI 7)) from (fun q => (ix_8n hx) q.1))]
    refine hv_ifb_eq (tgt := 23) C dX5_distance_6 (by decide) (fun _ => ?_) (fun h => absurd h (fun q => (ix_8n hx) q.1))
    refine hv_iconst (v := nI 0) C dX5_distance_23 (by decide) ?_
    exact hv_iret C hret dX5_distance_24 (by first | exact Nat.le_refl _ | decide) (by first | exact Nat.le_refl _ | decide) ⟨by simp_all [q_distance, md_ans], by simp_all [q_distance]⟩
  · skip
    obtain ⟨hb, rfl⟩ := ix_y hx
    rcases hy : ix 8 y with _ | o
    · skip
      refine hv_aload_n C dX5_distance_0 rfl 0 rfl ?_
      refine hv_iload_n C dX5_distance_1 rfl 1 rfl ?_
      refine hv_iload_n C dX5_distance_2 rfl 2 rfl ?_
      refine hv_callVr (As := [.int (nI b), .int (y)]) (rest := []) (n := 2) C (c_X5_areAsked l w g hg A th Y0 ((nI b)) ((y))) gX5_distance_X5_areAsked rfl (by decide +kernel) ⟨Nat.le_of_ble_eq_true rfl, Nat.le_of_ble_eq_true rfl⟩ (hv_rcO md_o rfl) rfl rfl (Nat.le_of_ble_eq_true rfl) dX5_distance_3 ⟨by first | exact Nat.le_of_ble_eq_true rfl | omega, by first | exact Nat.le_of_ble_eq_true rfl | omega⟩ (fun r3 Y1 hr => ?_)
      obtain ⟨rfl, rfl⟩ := hr
      rw [if_neg (show ¬ ((nI 0 ≤ nI b ∧ nI b ≤ nI 7) ∧ (nI 0 ≤ y ∧ y ≤ nI 7)) from (fun q => (ix_8n hy) q.2))]
      refine hv_ifb_eq (tgt := 23) C dX5_distance_6 (by decide) (fun _ => ?_) (fun h => absurd h (fun q => (ix_8n hy) q.2))
      refine hv_iconst (v := nI 0) C dX5_distance_23 (by decide) ?_
      exact hv_iret C hret dX5_distance_24 (by first | exact Nat.le_refl _ | decide) (by first | exact Nat.le_refl _ | decide) ⟨by simp_all [q_distance, md_ans], by simp_all [q_distance]⟩
    · skip
      obtain ⟨ho, rfl⟩ := ix_y hy
      refine hv_aload_n C dX5_distance_0 rfl 0 rfl ?_
      refine hv_iload_n C dX5_distance_1 rfl 1 rfl ?_
      refine hv_iload_n C dX5_distance_2 rfl 2 rfl ?_
      refine hv_callVr (As := [.int (nI b), .int (nI o)]) (rest := []) (n := 2) C (c_X5_areAsked l w g hg A th Y0 ((nI b)) ((nI o))) gX5_distance_X5_areAsked rfl (by decide +kernel) ⟨Nat.le_of_ble_eq_true rfl, Nat.le_of_ble_eq_true rfl⟩ (hv_rcO md_o rfl) rfl rfl (Nat.le_of_ble_eq_true rfl) dX5_distance_3 ⟨by first | exact Nat.le_of_ble_eq_true rfl | omega, by first | exact Nat.le_of_ble_eq_true rfl | omega⟩ (fun r5 Y1 hr => ?_)
      obtain ⟨rfl, rfl⟩ := hr
      rw [if_pos (show ((nI 0 ≤ nI b ∧ nI b ≤ nI 7) ∧ (nI 0 ≤ nI o ∧ nI o ≤ nI 7)) from ⟨(ix_8c hb), (ix_8c ho)⟩)]
      refine hv_ifb_eq (tgt := 23) C dX5_distance_6 (by decide) (fun h => absurd ⟨(ix_8c hb), (ix_8c ho)⟩ h) (fun _ => ?_)
      refine hv_aload_n C dX5_distance_9 rfl 0 rfl ?_
      refine hm_get (k := 11) (v := .ref (g.2.1 11)) C hin (by decide) (by decide +kernel) rfl rfl dX5_distance_10 ?_
      refine hv_bipush (v := nI 8) C dX5_distance_13 (by decide) ?_
      refine hv_iload_n C dX5_distance_15 rfl 1 rfl ?_
      refine hv_imulN C dX5_distance_16 ?_
      refine hv_iload_n C dX5_distance_17 rfl 2 rfl ?_
      refine hv_iaddN C dX5_distance_18 ?_
      refine hm_iald (k := 11) (n := (8 * b) + o) (x := (nI (A 11 ((8 * b) + o)) + (-1))) C hg (by decide) (by decide) (show (8 * b) + o < 64 from by omega) rfl dX5_distance_19 ?_
      refine hv_goto (tgt := 24) C dX5_distance_20 (by decide) ?_
      exact hv_iret C hret dX5_distance_24 (by first | exact Nat.le_refl _ | decide) (by first | exact Nat.le_refl _ | decide) ⟨by simp_all [q_distance, md_ans], by simp_all [q_distance]⟩
set_option maxRecDepth 100000 in
set_option maxHeartbeats 4000000 in
theorem c_X5_canalTo (l : Launch) (w : hv_W) (g : md_g) (hg : md_ok g) (A : ab_A) (th : Nat) (Y0 : hv_H) (x y : Int32) : hv_Mr l yX5_canalTo wsX5_canalTo ({ frames := 3, cells := 0, slots := 0, locals := 64 }) w [.ref (g.1), .int (x), .int (y)] (md_Y w g A th Y0) (fun r Y1 => md_P w g Y0 (q_canalTo A x y) r Y1) := by
  refine hv_ofV (cc := cX5_canalTo) (own := RX5) (by decide) rfl rfl (Nat.le_of_ble_eq_true rfl) rfl ?_
  intro p e s m below meth c C hret _
  have hin : ∀ x ∈ wsX50, x ∈ wsX5_canalTo := by decide +kernel
  rcases hx : ix 8 x with _ | b
  · skip
    refine hv_aload_n C dX5_canalTo_0 rfl 0 rfl ?_
    refine hv_iload_n C dX5_canalTo_1 rfl 1 rfl ?_
    refine hv_iload_n C dX5_canalTo_2 rfl 2 rfl ?_
    refine hv_callVr (As := [.int (x), .int (y)]) (rest := []) (n := 2) C (c_X5_areAsked l w g hg A th Y0 ((x)) ((y))) gX5_canalTo_X5_areAsked rfl (by decide +kernel) ⟨Nat.le_of_ble_eq_true rfl, Nat.le_of_ble_eq_true rfl⟩ (hv_rcO md_o rfl) rfl rfl (Nat.le_of_ble_eq_true rfl) dX5_canalTo_3 ⟨by first | exact Nat.le_of_ble_eq_true rfl | omega, by first | exact Nat.le_of_ble_eq_true rfl | omega⟩ (fun r1 Y1 hr => ?_)
    obtain ⟨rfl, rfl⟩ := hr
    rw [if_neg (show ¬ ((nI 0 ≤ x ∧ x ≤ nI 7) ∧ (nI 0 ≤ y ∧ y ≤ nI 7)) from (fun q => (ix_8n hx) q.1))]
    refine hv_ifb_eq (tgt := 23) C dX5_canalTo_6 (by decide) (fun _ => ?_) (fun h => absurd h (fun q => (ix_8n hx) q.1))
    refine hv_iconst (v := nI 0) C dX5_canalTo_23 (by decide) ?_
    exact hv_iret C hret dX5_canalTo_24 (by first | exact Nat.le_refl _ | decide) (by first | exact Nat.le_refl _ | decide) ⟨by simp_all [q_canalTo, md_ans], by simp_all [q_canalTo]⟩
  · skip
    obtain ⟨hb, rfl⟩ := ix_y hx
    rcases hy : ix 8 y with _ | o
    · skip
      refine hv_aload_n C dX5_canalTo_0 rfl 0 rfl ?_
      refine hv_iload_n C dX5_canalTo_1 rfl 1 rfl ?_
      refine hv_iload_n C dX5_canalTo_2 rfl 2 rfl ?_
      refine hv_callVr (As := [.int (nI b), .int (y)]) (rest := []) (n := 2) C (c_X5_areAsked l w g hg A th Y0 ((nI b)) ((y))) gX5_canalTo_X5_areAsked rfl (by decide +kernel) ⟨Nat.le_of_ble_eq_true rfl, Nat.le_of_ble_eq_true rfl⟩ (hv_rcO md_o rfl) rfl rfl (Nat.le_of_ble_eq_true rfl) dX5_canalTo_3 ⟨by first | exact Nat.le_of_ble_eq_true rfl | omega, by first | exact Nat.le_of_ble_eq_true rfl | omega⟩ (fun r3 Y1 hr => ?_)
      obtain ⟨rfl, rfl⟩ := hr
      rw [if_neg (show ¬ ((nI 0 ≤ nI b ∧ nI b ≤ nI 7) ∧ (nI 0 ≤ y ∧ y ≤ nI 7)) from (fun q => (ix_8n hy) q.2))]
      refine hv_ifb_eq (tgt := 23) C dX5_canalTo_6 (by decide) (fun _ => ?_) (fun h => absurd h (fun q => (ix_8n hy) q.2))
      refine hv_iconst (v := nI 0) C dX5_canalTo_23 (by decide) ?_
      exact hv_iret C hret dX5_canalTo_24 (by first | exact Nat.le_refl _ | decide) (by first | exact Nat.le_refl _ | decide) ⟨by simp_all [q_canalTo, md_ans], by simp_all [q_canalTo]⟩
    · skip
      obtain ⟨ho, rfl⟩ := ix_y hy
      refine hv_aload_n C dX5_canalTo_0 rfl 0 rfl ?_
      refine hv_iload_n C dX5_canalTo_1 rfl 1 rfl ?_
      refine hv_iload_n C dX5_canalTo_2 rfl 2 rfl ?_
      refine hv_callVr (As := [.int (nI b), .int (nI o)]) (rest := []) (n := 2) C (c_X5_areAsked l w g hg A th Y0 ((nI b)) ((nI o))) gX5_canalTo_X5_areAsked rfl (by decide +kernel) ⟨Nat.le_of_ble_eq_true rfl, Nat.le_of_ble_eq_true rfl⟩ (hv_rcO md_o rfl) rfl rfl (Nat.le_of_ble_eq_true rfl) dX5_canalTo_3 ⟨by first | exact Nat.le_of_ble_eq_true rfl | omega, by first | exact Nat.le_of_ble_eq_true rfl | omega⟩ (fun r5 Y1 hr => ?_)
      obtain ⟨rfl, rfl⟩ := hr
      rw [if_pos (show ((nI 0 ≤ nI b ∧ nI b ≤ nI 7) ∧ (nI 0 ≤ nI o ∧ nI o ≤ nI 7)) from ⟨(ix_8c hb), (ix_8c ho)⟩)]
      refine hv_ifb_eq (tgt := 23) C dX5_canalTo_6 (by decide) (fun h => absurd ⟨(ix_8c hb), (ix_8c ho)⟩ h) (fun _ => ?_)
      refine hv_aload_n C dX5_canalTo_9 rfl 0 rfl ?_
      refine hm_get (k := 12) (v := .ref (g.2.1 12)) C hin (by decide) (by decide +kernel) rfl rfl dX5_canalTo_10 ?_
      refine hv_bipush (v := nI 8) C dX5_canalTo_13 (by decide) ?_
      refine hv_iload_n C dX5_canalTo_15 rfl 1 rfl ?_
      refine hv_imulN C dX5_canalTo_16 ?_
      refine hv_iload_n C dX5_canalTo_17 rfl 2 rfl ?_
      refine hv_iaddN C dX5_canalTo_18 ?_
      refine hm_iald (k := 12) (n := (8 * b) + o) (x := (nI (A 12 ((8 * b) + o)) + (-1))) C hg (by decide) (by decide) (show (8 * b) + o < 64 from by omega) rfl dX5_canalTo_19 ?_
      refine hv_goto (tgt := 24) C dX5_canalTo_20 (by decide) ?_
      exact hv_iret C hret dX5_canalTo_24 (by first | exact Nat.le_refl _ | decide) (by first | exact Nat.le_refl _ | decide) ⟨by simp_all [q_canalTo, md_ans], by simp_all [q_canalTo]⟩
set_option maxRecDepth 100000 in
set_option maxHeartbeats 4000000 in
theorem c_X5_canals (l : Launch) (w : hv_W) (g : md_g) (hg : md_ok g) (A : ab_A) (th : Nat) (Y0 : hv_H)  : hv_Mr l yX5_canals wsX5_canals ({ frames := 0, cells := 0, slots := 0, locals := 0 }) w [.ref (g.1)] (md_Y w g A th Y0) (fun r Y1 => r = .int (nI (A 4 0)) ∧ Y1 = md_Y w g A 0 Y0) := by
  refine hv_ofV (cc := cX5_canals) (own := RX5) (by decide) rfl rfl (Nat.le_of_ble_eq_true rfl) rfl ?_
  intro p e s m below meth c C hret _
  have hin : ∀ x ∈ wsX50, x ∈ wsX5_canals := by decide +kernel
  refine hv_aload_n C dX5_canals_0 rfl 0 rfl ?_
  refine hv_iconst (v := nI 0) C dX5_canals_1 (by decide) ?_
  refine hm_putT (n := 0) C rfl hin (by decide +kernel) dX5_canals_2 ?_
  refine hv_aload_n C dX5_canals_5 rfl 0 rfl ?_
  refine hm_get (k := 4) (v := .int (nI (A 4 0))) C hin (by decide) (by decide +kernel) rfl rfl dX5_canals_6 ?_
  exact hv_iret C hret dX5_canals_9 (by first | exact Nat.le_refl _ | decide) (by first | exact Nat.le_refl _ | decide) ⟨rfl, rfl⟩
set_option maxRecDepth 100000 in
set_option maxHeartbeats 4000000 in
theorem c_X5_spilt (l : Launch) (w : hv_W) (g : md_g) (hg : md_ok g) (A : ab_A) (th : Nat) (Y0 : hv_H)  : hv_Mr l yX5_spilt wsX5_spilt ({ frames := 0, cells := 0, slots := 0, locals := 0 }) w [.ref (g.1)] (md_Y w g A th Y0) (fun r Y1 => r = .int (nI (A 10 0)) ∧ Y1 = md_Y w g A 0 Y0) := by
  refine hv_ofV (cc := cX5_spilt) (own := RX5) (by decide) rfl rfl (Nat.le_of_ble_eq_true rfl) rfl ?_
  intro p e s m below meth c C hret _
  have hin : ∀ x ∈ wsX50, x ∈ wsX5_spilt := by decide +kernel
  refine hv_aload_n C dX5_spilt_0 rfl 0 rfl ?_
  refine hv_iconst (v := nI 0) C dX5_spilt_1 (by decide) ?_
  refine hm_putT (n := 0) C rfl hin (by decide +kernel) dX5_spilt_2 ?_
  refine hv_aload_n C dX5_spilt_5 rfl 0 rfl ?_
  refine hm_get (k := 10) (v := .int (nI (A 10 0))) C hin (by decide) (by decide +kernel) rfl rfl dX5_spilt_6 ?_
  exact hv_iret C hret dX5_spilt_9 (by first | exact Nat.le_refl _ | decide) (by first | exact Nat.le_refl _ | decide) ⟨rfl, rfl⟩
set_option maxRecDepth 100000 in
set_option maxHeartbeats 4000000 in
theorem c_X5_barges (l : Launch) (w : hv_W) (g : md_g) (hg : md_ok g) (A : ab_A) (th : Nat) (Y0 : hv_H)  : hv_Mr l yX5_barges wsX5_barges ({ frames := 0, cells := 0, slots := 0, locals := 0 }) w [.ref (g.1)] (md_Y w g A th Y0) (fun r Y1 => r = .int (nI (A 15 0)) ∧ Y1 = md_Y w g A 0 Y0) := by
  refine hv_ofV (cc := cX5_barges) (own := RX5) (by decide) rfl rfl (Nat.le_of_ble_eq_true rfl) rfl ?_
  intro p e s m below meth c C hret _
  have hin : ∀ x ∈ wsX50, x ∈ wsX5_barges := by decide +kernel
  refine hv_aload_n C dX5_barges_0 rfl 0 rfl ?_
  refine hv_iconst (v := nI 0) C dX5_barges_1 (by decide) ?_
  refine hm_putT (n := 0) C rfl hin (by decide +kernel) dX5_barges_2 ?_
  refine hv_aload_n C dX5_barges_5 rfl 0 rfl ?_
  refine hm_get (k := 15) (v := .int (nI (A 15 0))) C hin (by decide) (by decide +kernel) rfl rfl dX5_barges_6 ?_
  exact hv_iret C hret dX5_barges_9 (by first | exact Nat.le_refl _ | decide) (by first | exact Nat.le_refl _ | decide) ⟨rfl, rfl⟩
set_option maxRecDepth 100000 in
set_option maxHeartbeats 4000000 in
theorem c_X5_ticks (l : Launch) (w : hv_W) (g : md_g) (hg : md_ok g) (A : ab_A) (th : Nat) (Y0 : hv_H)  : hv_Mr l yX5_ticks wsX5_ticks ({ frames := 0, cells := 0, slots := 0, locals := 0 }) w [.ref (g.1)] (md_Y w g A th Y0) (fun r Y1 => r = .int (nI (A 16 0)) ∧ Y1 = md_Y w g A 0 Y0) := by
  refine hv_ofV (cc := cX5_ticks) (own := RX5) (by decide) rfl rfl (Nat.le_of_ble_eq_true rfl) rfl ?_
  intro p e s m below meth c C hret _
  have hin : ∀ x ∈ wsX50, x ∈ wsX5_ticks := by decide +kernel
  refine hv_aload_n C dX5_ticks_0 rfl 0 rfl ?_
  refine hv_iconst (v := nI 0) C dX5_ticks_1 (by decide) ?_
  refine hm_putT (n := 0) C rfl hin (by decide +kernel) dX5_ticks_2 ?_
  refine hv_aload_n C dX5_ticks_5 rfl 0 rfl ?_
  refine hm_get (k := 16) (v := .int (nI (A 16 0))) C hin (by decide) (by decide +kernel) rfl rfl dX5_ticks_6 ?_
  exact hv_iret C hret dX5_ticks_9 (by first | exact Nat.le_refl _ | decide) (by first | exact Nat.le_refl _ | decide) ⟨rfl, rfl⟩
set_option maxRecDepth 100000 in
set_option maxHeartbeats 4000000 in
theorem c_X5_setGate (l : Launch) (w : hv_W) (g : md_g) (hg : md_ok g) (A : ab_A) (th : Nat) (Y0 : hv_H) (x : Int32) (o : Nat) (ho : o ≤ 1) (h4 : A 4 0 ≤ 14) (h9 : ∀ j, j < A 4 0 → A 9 j ≤ 1) : hv_Mr l yX5_setGate wsX5_setGate ({ frames := 2, cells := 0, slots := 0, locals := 43 }) w [.ref (g.1), .int (x), .int (nI o)] (md_Y w g A th Y0) (fun r Y1 => md_P w g Y0 (q_setGate A x o) r Y1) := by
  refine hv_ofV (cc := cX5_setGate) (own := RX5) (by decide) rfl rfl (Nat.le_of_ble_eq_true rfl) rfl ?_
  intro p e s m below meth c C hret _
  have hin : ∀ x ∈ wsX50, x ∈ wsX5_setGate := by decide +kernel
  rcases hx : ix (A 4 0) x with _ | j
  · skip
    refine hv_aload_n C dX5_setGate_0 rfl 0 rfl ?_
    refine hv_aload_n C dX5_setGate_1 rfl 0 rfl ?_
    refine hv_iload_n C dX5_setGate_2 rfl 1 rfl ?_
    refine hv_callVr (As := [.int (x)]) (rest := [.ref (g.1)]) (n := 1) C (c_X5_isCanal l w g hg A th Y0 ((x))) gX5_setGate_X5_isCanal rfl (by decide +kernel) ⟨Nat.le_of_ble_eq_true rfl, Nat.le_of_ble_eq_true rfl⟩ (hv_rcO md_o rfl) rfl rfl (Nat.le_of_ble_eq_true rfl) dX5_setGate_3 ⟨by first | exact Nat.le_of_ble_eq_true rfl | omega, by first | exact Nat.le_of_ble_eq_true rfl | omega⟩ (fun r1 Y1 hr => ?_)
    obtain ⟨rfl, rfl⟩ := hr
    refine hv_ifb_eq (tgt := 13) C dX5_setGate_6 (by decide) (fun _ => ?_) (fun h => absurd h (ix_n hx))
    refine hv_iconst (v := nI 1) C dX5_setGate_13 (by decide) ?_
    refine hv_callVr (As := [.int (nI 1)]) (rest := []) (n := 1) C (c_X5_can l w g hg A th Y0 1 (by omega)) gX5_setGate_X5_can rfl (by decide +kernel) ⟨Nat.le_of_ble_eq_true rfl, Nat.le_of_ble_eq_true rfl⟩ (hv_rcO md_o rfl) rfl rfl (Nat.le_of_ble_eq_true rfl) dX5_setGate_14 ⟨by first | exact Nat.le_of_ble_eq_true rfl | omega, by first | exact Nat.le_of_ble_eq_true rfl | omega⟩ (fun r3 Y1 hr => ?_)
    obtain ⟨rfl, rfl⟩ := hr
    refine hv_ifb_ne (tgt := 22) C dX5_setGate_17 (by decide) (fun h => absurd h (by decide)) (fun _ => ?_)
    refine hv_iconst (v := nI 0) C dX5_setGate_20 (by decide) ?_
    exact hv_zret C hret (by decide) dX5_setGate_21 (by first | exact Nat.le_refl _ | decide) (by first | exact Nat.le_refl _ | decide) ⟨by simp [q_setGate, hx, md_ans], by simp [q_setGate, hx]⟩
  · skip
    obtain ⟨hj, rfl⟩ := ix_s (by omega) hx
    refine hv_aload_n C dX5_setGate_0 rfl 0 rfl ?_
    refine hv_aload_n C dX5_setGate_1 rfl 0 rfl ?_
    refine hv_iload_n C dX5_setGate_2 rfl 1 rfl ?_
    refine hv_callVr (As := [.int (nI j)]) (rest := [.ref (g.1)]) (n := 1) C (c_X5_isCanal l w g hg A th Y0 ((nI j))) gX5_setGate_X5_isCanal rfl (by decide +kernel) ⟨Nat.le_of_ble_eq_true rfl, Nat.le_of_ble_eq_true rfl⟩ (hv_rcO md_o rfl) rfl rfl (Nat.le_of_ble_eq_true rfl) dX5_setGate_3 ⟨by first | exact Nat.le_of_ble_eq_true rfl | omega, by first | exact Nat.le_of_ble_eq_true rfl | omega⟩ (fun r5 Y1 hr => ?_)
    obtain ⟨rfl, rfl⟩ := hr
    refine hv_ifb_eq (tgt := 13) C dX5_setGate_6 (by decide) (fun h => absurd (ix_c hj (by omega)) h) (fun _ => ?_)
    refine hv_iconst (v := nI 0) C dX5_setGate_9 (by decide) ?_
    refine hv_goto (tgt := 14) C dX5_setGate_10 (by decide) ?_
    refine hv_callVr (As := [.int (nI 0)]) (rest := []) (n := 1) C (c_X5_can l w g hg A th Y0 0 (by omega)) gX5_setGate_X5_can rfl (by decide +kernel) ⟨Nat.le_of_ble_eq_true rfl, Nat.le_of_ble_eq_true rfl⟩ (hv_rcO md_o rfl) rfl rfl (Nat.le_of_ble_eq_true rfl) dX5_setGate_14 ⟨by first | exact Nat.le_of_ble_eq_true rfl | omega, by first | exact Nat.le_of_ble_eq_true rfl | omega⟩ (fun r7 Y1 hr => ?_)
    obtain ⟨rfl, rfl⟩ := hr
    refine hv_ifb_ne (tgt := 22) C dX5_setGate_17 (by decide) (fun _ => ?_) (fun h => absurd rfl h)
    refine hv_aload_n C dX5_setGate_22 rfl 0 rfl ?_
    refine hm_get (k := 9) (v := .ref (g.2.1 9)) C hin (by decide) (by decide +kernel) rfl rfl dX5_setGate_23 ?_
    refine hv_iload_n C dX5_setGate_26 rfl 1 rfl ?_
    refine hm_zald (n := j) (x := (nI (A 9 j))) C hg (show j < 14 from by omega) rfl dX5_setGate_27 ?_
    refine hv_istore_n (lv1 := [(0, .ref (g.1)), (1, .int (nI j)), (2, .int (nI o)), (3, .int (nI (A 9 j)))]) C dX5_setGate_28 rfl (by decide) [1, 2, 3, 0] rfl ?_
    refine hv_aload_n C dX5_setGate_29 rfl 0 rfl ?_
    refine hm_get (k := 9) (v := .ref (g.2.1 9)) C hin (by decide) (by decide +kernel) rfl rfl dX5_setGate_30 ?_
    refine hv_iload_n C dX5_setGate_33 rfl 1 rfl ?_
    refine hv_iload_n C dX5_setGate_34 rfl 2 rfl ?_
    refine hm_zast (n := j) (v := o) C hg (show j < 14 from by omega) rfl (by rcases (show o = 0 ∨ o = 1 by omega) with rfl | rfl <;> decide) dX5_setGate_35 ?_
    refine hv_iload_n C dX5_setGate_36 rfl 3 rfl ?_
    exact hv_zret C hret (by rcases (show A 9 j = 0 ∨ A 9 j = 1 by have := h9 j hj; omega) with q | q <;> rw [q] <;> decide) dX5_setGate_37 (by first | exact Nat.le_refl _ | decide) (by first | exact Nat.le_refl _ | decide) ⟨by simp [q_setGate, hx, md_ans], by simp [q_setGate, hx]⟩
set_option maxRecDepth 100000 in
set_option maxHeartbeats 4000000 in
theorem c_X5_setMark (l : Launch) (w : hv_W) (g : md_g) (hg : md_ok g) (A : ab_A) (th : Nat) (Y0 : hv_H) (x y : Int32) : hv_Mr l yX5_setMark wsX5_setMark ({ frames := 2, cells := 0, slots := 0, locals := 42 }) w [.ref (g.1), .int (x), .int (y)] (md_Y w g A th Y0) (fun r Y1 => md_P w g Y0 (q_setMark A x y) r Y1) := by
  refine hv_ofV (cc := cX5_setMark) (own := RX5) (by decide) rfl rfl (Nat.le_of_ble_eq_true rfl) rfl ?_
  intro p e s m below meth c C hret _
  have hin : ∀ x ∈ wsX50, x ∈ wsX5_setMark := by decide +kernel
  rcases hx : ix 8 x with _ | b
  · skip
    refine hv_aload_n C dX5_setMark_0 rfl 0 rfl ?_
    refine hv_iload_n C dX5_setMark_1 rfl 1 rfl ?_
    refine hv_callSr (As := [.int (x)]) (rest := [.ref (g.1)]) (n := 1) C (c_X5_isBasin l w _ ((x))) gX5_setMark_X5_isBasin rfl (by decide +kernel) ⟨Nat.le_of_ble_eq_true rfl, Nat.le_of_ble_eq_true rfl⟩ rfl rfl (Nat.le_of_ble_eq_true rfl) dX5_setMark_2 ⟨by first | exact Nat.le_of_ble_eq_true rfl | omega, by first | exact Nat.le_of_ble_eq_true rfl | omega⟩ (fun r1 Y1 hr => ?_)
    obtain ⟨rfl, rfl⟩ := hr
    refine hv_ifb_ne (tgt := 12) C dX5_setMark_5 (by decide) (fun h => absurd h (ix_8n hx)) (fun _ => ?_)
    refine hv_iconst (v := nI 1) C dX5_setMark_8 (by decide) ?_
    refine hv_goto (tgt := 27) C dX5_setMark_9 (by decide) ?_
    refine hv_callVr (As := [.int (nI 1)]) (rest := []) (n := 1) C (c_X5_can l w g hg A th Y0 1 (by omega)) gX5_setMark_X5_can rfl (by decide +kernel) ⟨Nat.le_of_ble_eq_true rfl, Nat.le_of_ble_eq_true rfl⟩ (hv_rcO md_o rfl) rfl rfl (Nat.le_of_ble_eq_true rfl) dX5_setMark_27 ⟨by first | exact Nat.le_of_ble_eq_true rfl | omega, by first | exact Nat.le_of_ble_eq_true rfl | omega⟩ (fun r3 Y1 hr => ?_)
    obtain ⟨rfl, rfl⟩ := hr
    refine hv_ifb_ne (tgt := 35) C dX5_setMark_30 (by decide) (fun h => absurd h (by decide)) (fun _ => ?_)
    refine hv_iconst (v := nI 0) C dX5_setMark_33 (by decide) ?_
    exact hv_iret C hret dX5_setMark_34 (by first | exact Nat.le_refl _ | decide) (by first | exact Nat.le_refl _ | decide) ⟨by simp_all [q_setMark, md_ans], by simp_all [q_setMark]⟩
  · skip
    obtain ⟨hb, rfl⟩ := ix_y hx
    rcases hy : rg 1 6 y with _ | k
    · skip
      refine hv_aload_n C dX5_setMark_0 rfl 0 rfl ?_
      refine hv_iload_n C dX5_setMark_1 rfl 1 rfl ?_
      refine hv_callSr (As := [.int (nI b)]) (rest := [.ref (g.1)]) (n := 1) C (c_X5_isBasin l w _ ((nI b))) gX5_setMark_X5_isBasin rfl (by decide +kernel) ⟨Nat.le_of_ble_eq_true rfl, Nat.le_of_ble_eq_true rfl⟩ rfl rfl (Nat.le_of_ble_eq_true rfl) dX5_setMark_2 ⟨by first | exact Nat.le_of_ble_eq_true rfl | omega, by first | exact Nat.le_of_ble_eq_true rfl | omega⟩ (fun r5 Y1 hr => ?_)
      obtain ⟨rfl, rfl⟩ := hr
      refine hv_ifb_ne (tgt := 12) C dX5_setMark_5 (by decide) (fun _ => ?_) (fun h => absurd (ix_8c hb) h)
      refine hv_iload_n C dX5_setMark_12 rfl 2 rfl ?_
      refine hv_iconst (v := nI 1) C dX5_setMark_13 (by decide) ?_
      refine hv_bipush (v := nI 6) C dX5_setMark_14 (by decide) ?_
      refine hv_callSr (As := [.int (y), .int (nI 1), .int (nI 6)]) (rest := [.ref (g.1)]) (n := 3) C (c_X5_isIn l w _ ((y)) ((nI 1)) ((nI 6))) gX5_setMark_X5_isIn rfl (by decide +kernel) ⟨Nat.le_of_ble_eq_true rfl, Nat.le_of_ble_eq_true rfl⟩ rfl rfl (Nat.le_of_ble_eq_true rfl) dX5_setMark_16 ⟨by first | exact Nat.le_of_ble_eq_true rfl | omega, by first | exact Nat.le_of_ble_eq_true rfl | omega⟩ (fun r7 Y1 hr => ?_)
      obtain ⟨rfl, rfl⟩ := hr
      refine hv_ifb_eq (tgt := 26) C dX5_setMark_19 (by decide) (fun _ => ?_) (fun h => absurd h (rg_n hy))
      refine hv_iconst (v := nI 2) C dX5_setMark_26 (by decide) ?_
      refine hv_callVr (As := [.int (nI 2)]) (rest := []) (n := 1) C (c_X5_can l w g hg A th Y0 2 (by omega)) gX5_setMark_X5_can rfl (by decide +kernel) ⟨Nat.le_of_ble_eq_true rfl, Nat.le_of_ble_eq_true rfl⟩ (hv_rcO md_o rfl) rfl rfl (Nat.le_of_ble_eq_true rfl) dX5_setMark_27 ⟨by first | exact Nat.le_of_ble_eq_true rfl | omega, by first | exact Nat.le_of_ble_eq_true rfl | omega⟩ (fun r9 Y1 hr => ?_)
      obtain ⟨rfl, rfl⟩ := hr
      refine hv_ifb_ne (tgt := 35) C dX5_setMark_30 (by decide) (fun h => absurd h (by decide)) (fun _ => ?_)
      refine hv_iconst (v := nI 0) C dX5_setMark_33 (by decide) ?_
      exact hv_iret C hret dX5_setMark_34 (by first | exact Nat.le_refl _ | decide) (by first | exact Nat.le_refl _ | decide) ⟨by simp_all [q_setMark, md_ans], by simp_all [q_setMark]⟩
    · skip
      obtain ⟨hk, hk2, rfl⟩ := rg_s (by decide) (by decide) hy
      refine hv_aload_n C dX5_setMark_0 rfl 0 rfl ?_
      refine hv_iload_n C dX5_setMark_1 rfl 1 rfl ?_
      refine hv_callSr (As := [.int (nI b)]) (rest := [.ref (g.1)]) (n := 1) C (c_X5_isBasin l w _ ((nI b))) gX5_setMark_X5_isBasin rfl (by decide +kernel) ⟨Nat.le_of_ble_eq_true rfl, Nat.le_of_ble_eq_true rfl⟩ rfl rfl (Nat.le_of_ble_eq_true rfl) dX5_setMark_2 ⟨by first | exact Nat.le_of_ble_eq_true rfl | omega, by first | exact Nat.le_of_ble_eq_true rfl | omega⟩ (fun r11 Y1 hr => ?_)
      obtain ⟨rfl, rfl⟩ := hr
      refine hv_ifb_ne (tgt := 12) C dX5_setMark_5 (by decide) (fun _ => ?_) (fun h => absurd (ix_8c hb) h)
      refine hv_iload_n C dX5_setMark_12 rfl 2 rfl ?_
      refine hv_iconst (v := nI 1) C dX5_setMark_13 (by decide) ?_
      refine hv_bipush (v := nI 6) C dX5_setMark_14 (by decide) ?_
      refine hv_callSr (As := [.int (nI k), .int (nI 1), .int (nI 6)]) (rest := [.ref (g.1)]) (n := 3) C (c_X5_isIn l w _ ((nI k)) ((nI 1)) ((nI 6))) gX5_setMark_X5_isIn rfl (by decide +kernel) ⟨Nat.le_of_ble_eq_true rfl, Nat.le_of_ble_eq_true rfl⟩ rfl rfl (Nat.le_of_ble_eq_true rfl) dX5_setMark_16 ⟨by first | exact Nat.le_of_ble_eq_true rfl | omega, by first | exact Nat.le_of_ble_eq_true rfl | omega⟩ (fun r13 Y1 hr => ?_)
      obtain ⟨rfl, rfl⟩ := hr
      refine hv_ifb_eq (tgt := 26) C dX5_setMark_19 (by decide) (fun h => absurd (rg_c hk hk2 (by decide)) h) (fun _ => ?_)
      refine hv_iconst (v := nI 0) C dX5_setMark_22 (by decide) ?_
      refine hv_goto (tgt := 27) C dX5_setMark_23 (by decide) ?_
      refine hv_callVr (As := [.int (nI 0)]) (rest := []) (n := 1) C (c_X5_can l w g hg A th Y0 0 (by omega)) gX5_setMark_X5_can rfl (by decide +kernel) ⟨Nat.le_of_ble_eq_true rfl, Nat.le_of_ble_eq_true rfl⟩ (hv_rcO md_o rfl) rfl rfl (Nat.le_of_ble_eq_true rfl) dX5_setMark_27 ⟨by first | exact Nat.le_of_ble_eq_true rfl | omega, by first | exact Nat.le_of_ble_eq_true rfl | omega⟩ (fun r15 Y1 hr => ?_)
      obtain ⟨rfl, rfl⟩ := hr
      refine hv_ifb_ne (tgt := 35) C dX5_setMark_30 (by decide) (fun _ => ?_) (fun h => absurd rfl h)
      refine hv_aload_n C dX5_setMark_35 rfl 0 rfl ?_
      refine hm_get (k := 1) (v := .ref (g.2.1 1)) C hin (by decide) (by decide +kernel) rfl rfl dX5_setMark_36 ?_
      refine hv_iload_n C dX5_setMark_39 rfl 1 rfl ?_
      refine hm_iald (k := 1) (n := b) (x := (nI (A 1 b))) C hg (by decide) (by decide) (show b < 8 from by omega) rfl dX5_setMark_40 ?_
      refine hv_istore_n (lv1 := [(0, .ref (g.1)), (1, .int (nI b)), (2, .int (nI k)), (3, .int (nI (A 1 b)))]) C dX5_setMark_41 rfl (by decide) [1, 2, 3, 0] rfl ?_
      refine hv_aload_n C dX5_setMark_42 rfl 0 rfl ?_
      refine hm_get (k := 1) (v := .ref (g.2.1 1)) C hin (by decide) (by decide +kernel) rfl rfl dX5_setMark_43 ?_
      refine hv_iload_n C dX5_setMark_46 rfl 1 rfl ?_
      refine hv_iload_n C dX5_setMark_47 rfl 2 rfl ?_
      refine hm_iast (k := 1) (n := b) (v := k) C hg (by decide) (by decide) (show b < 8 from by omega) rfl dX5_setMark_48 ?_
      refine hv_iload_n C dX5_setMark_49 rfl 3 rfl ?_
      exact hv_iret C hret dX5_setMark_50 (by first | exact Nat.le_refl _ | decide) (by first | exact Nat.le_refl _ | decide) ⟨by simp_all [q_setMark, md_ans], by simp_all [q_setMark]⟩
set_option maxRecDepth 100000 in
set_option maxHeartbeats 4000000 in
theorem c_X5_rain (l : Launch) (w : hv_W) (g : md_g) (hg : md_ok g) (A : ab_A) (th : Nat) (Y0 : hv_H) (x y : Int32) (h0 : ∀ b, b < 8 → A 0 b ≤ 200) : hv_Mr l yX5_rain wsX5_rain ({ frames := 2, cells := 0, slots := 0, locals := 42 }) w [.ref (g.1), .int (x), .int (y)] (md_Y w g A th Y0) (fun r Y1 => md_P w g Y0 (q_rain A x y) r Y1) := by
  refine hv_ofV (cc := cX5_rain) (own := RX5) (by decide) rfl rfl (Nat.le_of_ble_eq_true rfl) rfl ?_
  intro p e s m below meth c C hret _
  have hin : ∀ x ∈ wsX50, x ∈ wsX5_rain := by decide +kernel
  rcases hx : ix 8 x with _ | b
  · skip
    refine hv_aload_n C dX5_rain_0 rfl 0 rfl ?_
    refine hv_iload_n C dX5_rain_1 rfl 1 rfl ?_
    refine hv_callSr (As := [.int (x)]) (rest := [.ref (g.1)]) (n := 1) C (c_X5_isBasin l w _ ((x))) gX5_rain_X5_isBasin rfl (by decide +kernel) ⟨Nat.le_of_ble_eq_true rfl, Nat.le_of_ble_eq_true rfl⟩ rfl rfl (Nat.le_of_ble_eq_true rfl) dX5_rain_2 ⟨by first | exact Nat.le_of_ble_eq_true rfl | omega, by first | exact Nat.le_of_ble_eq_true rfl | omega⟩ (fun r1 Y1 hr => ?_)
    obtain ⟨rfl, rfl⟩ := hr
    refine hv_ifb_ne (tgt := 12) C dX5_rain_5 (by decide) (fun h => absurd h (ix_8n hx)) (fun _ => ?_)
    refine hv_iconst (v := nI 1) C dX5_rain_8 (by decide) ?_
    refine hv_goto (tgt := 28) C dX5_rain_9 (by decide) ?_
    refine hv_callVr (As := [.int (nI 1)]) (rest := []) (n := 1) C (c_X5_can l w g hg A th Y0 1 (by omega)) gX5_rain_X5_can rfl (by decide +kernel) ⟨Nat.le_of_ble_eq_true rfl, Nat.le_of_ble_eq_true rfl⟩ (hv_rcO md_o rfl) rfl rfl (Nat.le_of_ble_eq_true rfl) dX5_rain_28 ⟨by first | exact Nat.le_of_ble_eq_true rfl | omega, by first | exact Nat.le_of_ble_eq_true rfl | omega⟩ (fun r3 Y1 hr => ?_)
    obtain ⟨rfl, rfl⟩ := hr
    refine hv_ifb_ne (tgt := 36) C dX5_rain_31 (by decide) (fun h => absurd h (by decide)) (fun _ => ?_)
    refine hv_iconst (v := nI 0) C dX5_rain_34 (by decide) ?_
    exact hv_iret C hret dX5_rain_35 (by first | exact Nat.le_refl _ | decide) (by first | exact Nat.le_refl _ | decide) ⟨by simp_all [q_rain, md_ans], by simp_all [q_rain]⟩
  · skip
    obtain ⟨hb, rfl⟩ := ix_y hx
    rcases hy : rg 1 200 y with _ | n
    · skip
      refine hv_aload_n C dX5_rain_0 rfl 0 rfl ?_
      refine hv_iload_n C dX5_rain_1 rfl 1 rfl ?_
      refine hv_callSr (As := [.int (nI b)]) (rest := [.ref (g.1)]) (n := 1) C (c_X5_isBasin l w _ ((nI b))) gX5_rain_X5_isBasin rfl (by decide +kernel) ⟨Nat.le_of_ble_eq_true rfl, Nat.le_of_ble_eq_true rfl⟩ rfl rfl (Nat.le_of_ble_eq_true rfl) dX5_rain_2 ⟨by first | exact Nat.le_of_ble_eq_true rfl | omega, by first | exact Nat.le_of_ble_eq_true rfl | omega⟩ (fun r5 Y1 hr => ?_)
      obtain ⟨rfl, rfl⟩ := hr
      refine hv_ifb_ne (tgt := 12) C dX5_rain_5 (by decide) (fun _ => ?_) (fun h => absurd (ix_8c hb) h)
      refine hv_iload_n C dX5_rain_12 rfl 2 rfl ?_
      refine hv_iconst (v := nI 1) C dX5_rain_13 (by decide) ?_
      refine hv_sipush (v := nI 200) C dX5_rain_14 (by decide) ?_
      refine hv_callSr (As := [.int (y), .int (nI 1), .int (nI 200)]) (rest := [.ref (g.1)]) (n := 3) C (c_X5_isIn l w _ ((y)) ((nI 1)) ((nI 200))) gX5_rain_X5_isIn rfl (by decide +kernel) ⟨Nat.le_of_ble_eq_true rfl, Nat.le_of_ble_eq_true rfl⟩ rfl rfl (Nat.le_of_ble_eq_true rfl) dX5_rain_17 ⟨by first | exact Nat.le_of_ble_eq_true rfl | omega, by first | exact Nat.le_of_ble_eq_true rfl | omega⟩ (fun r7 Y1 hr => ?_)
      obtain ⟨rfl, rfl⟩ := hr
      refine hv_ifb_eq (tgt := 27) C dX5_rain_20 (by decide) (fun _ => ?_) (fun h => absurd h (rg_n hy))
      refine hv_iconst (v := nI 2) C dX5_rain_27 (by decide) ?_
      refine hv_callVr (As := [.int (nI 2)]) (rest := []) (n := 1) C (c_X5_can l w g hg A th Y0 2 (by omega)) gX5_rain_X5_can rfl (by decide +kernel) ⟨Nat.le_of_ble_eq_true rfl, Nat.le_of_ble_eq_true rfl⟩ (hv_rcO md_o rfl) rfl rfl (Nat.le_of_ble_eq_true rfl) dX5_rain_28 ⟨by first | exact Nat.le_of_ble_eq_true rfl | omega, by first | exact Nat.le_of_ble_eq_true rfl | omega⟩ (fun r9 Y1 hr => ?_)
      obtain ⟨rfl, rfl⟩ := hr
      refine hv_ifb_ne (tgt := 36) C dX5_rain_31 (by decide) (fun h => absurd h (by decide)) (fun _ => ?_)
      refine hv_iconst (v := nI 0) C dX5_rain_34 (by decide) ?_
      exact hv_iret C hret dX5_rain_35 (by first | exact Nat.le_refl _ | decide) (by first | exact Nat.le_refl _ | decide) ⟨by simp_all [q_rain, md_ans], by simp_all [q_rain]⟩
    · skip
      obtain ⟨hn, hn2, rfl⟩ := rg_s (by decide) (by decide) hy
      refine hv_aload_n C dX5_rain_0 rfl 0 rfl ?_
      refine hv_iload_n C dX5_rain_1 rfl 1 rfl ?_
      refine hv_callSr (As := [.int (nI b)]) (rest := [.ref (g.1)]) (n := 1) C (c_X5_isBasin l w _ ((nI b))) gX5_rain_X5_isBasin rfl (by decide +kernel) ⟨Nat.le_of_ble_eq_true rfl, Nat.le_of_ble_eq_true rfl⟩ rfl rfl (Nat.le_of_ble_eq_true rfl) dX5_rain_2 ⟨by first | exact Nat.le_of_ble_eq_true rfl | omega, by first | exact Nat.le_of_ble_eq_true rfl | omega⟩ (fun r11 Y1 hr => ?_)
      obtain ⟨rfl, rfl⟩ := hr
      refine hv_ifb_ne (tgt := 12) C dX5_rain_5 (by decide) (fun _ => ?_) (fun h => absurd (ix_8c hb) h)
      refine hv_iload_n C dX5_rain_12 rfl 2 rfl ?_
      refine hv_iconst (v := nI 1) C dX5_rain_13 (by decide) ?_
      refine hv_sipush (v := nI 200) C dX5_rain_14 (by decide) ?_
      refine hv_callSr (As := [.int (nI n), .int (nI 1), .int (nI 200)]) (rest := [.ref (g.1)]) (n := 3) C (c_X5_isIn l w _ ((nI n)) ((nI 1)) ((nI 200))) gX5_rain_X5_isIn rfl (by decide +kernel) ⟨Nat.le_of_ble_eq_true rfl, Nat.le_of_ble_eq_true rfl⟩ rfl rfl (Nat.le_of_ble_eq_true rfl) dX5_rain_17 ⟨by first | exact Nat.le_of_ble_eq_true rfl | omega, by first | exact Nat.le_of_ble_eq_true rfl | omega⟩ (fun r13 Y1 hr => ?_)
      obtain ⟨rfl, rfl⟩ := hr
      refine hv_ifb_eq (tgt := 27) C dX5_rain_20 (by decide) (fun h => absurd (rg_c hn hn2 (by decide)) h) (fun _ => ?_)
      refine hv_iconst (v := nI 0) C dX5_rain_23 (by decide) ?_
      refine hv_goto (tgt := 28) C dX5_rain_24 (by decide) ?_
      refine hv_callVr (As := [.int (nI 0)]) (rest := []) (n := 1) C (c_X5_can l w g hg A th Y0 0 (by omega)) gX5_rain_X5_can rfl (by decide +kernel) ⟨Nat.le_of_ble_eq_true rfl, Nat.le_of_ble_eq_true rfl⟩ (hv_rcO md_o rfl) rfl rfl (Nat.le_of_ble_eq_true rfl) dX5_rain_28 ⟨by first | exact Nat.le_of_ble_eq_true rfl | omega, by first | exact Nat.le_of_ble_eq_true rfl | omega⟩ (fun r15 Y1 hr => ?_)
      obtain ⟨rfl, rfl⟩ := hr
      refine hv_ifb_ne (tgt := 36) C dX5_rain_31 (by decide) (fun _ => ?_) (fun h => absurd rfl h)
      refine hv_aload_n C dX5_rain_36 rfl 0 rfl ?_
      refine hv_iload_n C dX5_rain_37 rfl 1 rfl ?_
      refine hv_iload_n C dX5_rain_38 rfl 2 rfl ?_
      refine hv_callVv (As := [.int (nI b), .int (nI n)]) (rest := []) (n := 2) C (c_X5_pours l w g hg A 0 Y0 b n (by omega) (by have := h0 b hb; omega)) gX5_rain_X5_pours rfl (by decide +kernel) ⟨Nat.le_of_ble_eq_true rfl, Nat.le_of_ble_eq_true rfl⟩ (hv_rcO md_o rfl) rfl rfl (Nat.le_of_ble_eq_true rfl) dX5_rain_39 ⟨by first | exact Nat.le_of_ble_eq_true rfl | omega, by first | exact Nat.le_of_ble_eq_true rfl | omega⟩ (fun Y1 hr => ?_)
      subst hr
      refine hv_aload_n C dX5_rain_42 rfl 0 rfl ?_
      refine hm_get (k := 0) (v := .ref (g.2.1 0)) C hin (by decide) (by decide +kernel) rfl rfl dX5_rain_43 ?_
      refine hv_iload_n C dX5_rain_46 rfl 1 rfl ?_
      refine hm_iald (k := 0) (n := b) (x := (nI ((f_pour A b n) 0 b))) C hg (by decide) (by decide) (show b < 8 from by omega) rfl dX5_rain_47 ?_
      exact hv_iret C hret dX5_rain_48 (by first | exact Nat.le_refl _ | decide) (by first | exact Nat.le_refl _ | decide) ⟨by simp_all [q_rain, md_ans], by simp_all [q_rain]⟩
set_option maxRecDepth 100000 in
set_option maxHeartbeats 4000000 in
theorem c_X5_dig (l : Launch) (w : hv_W) (g : md_g) (hg : md_ok g) (A : ab_A) (th : Nat) (Y0 : hv_H) (u v x y : Int32) (h4 : A 4 0 ≤ 14) : hv_Mr l yX5_dig wsX5_dig ({ frames := 2, cells := 0, slots := 0, locals := 42 }) w [.ref (g.1), .int (u), .int (v), .int (x), .int (y)] (md_Y w g A th Y0) (fun r Y1 => md_P w g Y0 (q_dig A u v x y) r Y1) := by
  refine hv_ofV (cc := cX5_dig) (own := RX5) (by decide) rfl rfl (Nat.le_of_ble_eq_true rfl) rfl ?_
  intro p e s m below meth c C hret _
  have hin : ∀ x ∈ wsX50, x ∈ wsX5_dig := by decide +kernel
  rcases hx : ix 8 u with _ | a
  · skip
    refine hv_iload_n C dX5_dig_0 rfl 1 rfl ?_
    refine hv_callSr (As := [.int (u)]) (rest := []) (n := 1) C (c_X5_isBasin l w _ ((u))) gX5_dig_X5_isBasin rfl (by decide +kernel) ⟨Nat.le_of_ble_eq_true rfl, Nat.le_of_ble_eq_true rfl⟩ rfl rfl (Nat.le_of_ble_eq_true rfl) dX5_dig_1 ⟨by first | exact Nat.le_of_ble_eq_true rfl | omega, by first | exact Nat.le_of_ble_eq_true rfl | omega⟩ (fun r1 Y1 hr => ?_)
    obtain ⟨rfl, rfl⟩ := hr
    refine hv_ifb_eq (tgt := 18) C dX5_dig_4 (by decide) (fun _ => ?_) (fun h => absurd h (ix_8n hx))
    refine hv_iconst (v := nI 0) C dX5_dig_18 (by decide) ?_
    refine hv_istore (lv1 := [(0, .ref (g.1)), (1, .int (u)), (2, .int (v)), (3, .int (x)), (4, .int (y)), (5, .int (nI 0))]) C dX5_dig_19 (by decide) [1, 2, 3, 4, 5, 0] rfl ?_
    refine hv_iload_n C dX5_dig_21 rfl 1 rfl ?_
    refine hv_iload_n C dX5_dig_22 rfl 2 rfl ?_
    refine hv_icmp_eq (tgt := 51) C dX5_dig_23 (by decide) (fun h3 => ?_) (fun h3 => ?_)
    · skip
      refine hv_iconst (v := nI 0) C dX5_dig_51 (by decide) ?_
      refine hv_istore (lv1 := [(0, .ref (g.1)), (1, .int (u)), (2, .int (v)), (3, .int (x)), (4, .int (y)), (5, .int (nI 0)), (6, .int (nI 0))]) C dX5_dig_52 (by decide) [1, 2, 3, 4, 5, 6, 0] rfl ?_
      refine hv_aload_n C dX5_dig_54 rfl 0 rfl ?_
      refine hv_iload C dX5_dig_55 5 rfl ?_
      refine hv_ifN_ne (tgt := 64) C dX5_dig_57 (by decide) (by omega) (fun h => absurd h (by decide)) (fun _ => ?_)
      refine hv_iconst (v := nI 1) C dX5_dig_60 (by decide) ?_
      refine hv_goto (tgt := 87) C dX5_dig_61 (by decide) ?_
      refine hv_callVr (As := [.int (nI 1)]) (rest := []) (n := 1) C (c_X5_can l w g hg A th Y0 1 (by omega)) gX5_dig_X5_can rfl (by decide +kernel) ⟨Nat.le_of_ble_eq_true rfl, Nat.le_of_ble_eq_true rfl⟩ (hv_rcO md_o rfl) rfl rfl (Nat.le_of_ble_eq_true rfl) dX5_dig_87 ⟨by first | exact Nat.le_of_ble_eq_true rfl | omega, by first | exact Nat.le_of_ble_eq_true rfl | omega⟩ (fun r5 Y1 hr => ?_)
      obtain ⟨rfl, rfl⟩ := hr
      refine hv_ifb_ne (tgt := 95) C dX5_dig_90 (by decide) (fun h => absurd h (by decide)) (fun _ => ?_)
      refine hv_iconst (v := nI 0) C dX5_dig_93 (by decide) ?_
      exact hv_iret C hret dX5_dig_94 (by first | exact Nat.le_refl _ | decide) (by first | exact Nat.le_refl _ | decide) ⟨by simp_all [q_dig, md_ans, f_dig], by simp_all [q_dig, f_dig]⟩
    · skip
      refine hv_iload_n C dX5_dig_26 rfl 3 rfl ?_
      refine hv_iconst (v := nI 1) C dX5_dig_27 (by decide) ?_
      refine hv_bipush (v := nI 9) C dX5_dig_28 (by decide) ?_
      refine hv_callSr (As := [.int (x), .int (nI 1), .int (nI 9)]) (rest := []) (n := 3) C (c_X5_isIn l w _ ((x)) ((nI 1)) ((nI 9))) gX5_dig_X5_isIn rfl (by decide +kernel) ⟨Nat.le_of_ble_eq_true rfl, Nat.le_of_ble_eq_true rfl⟩ rfl rfl (Nat.le_of_ble_eq_true rfl) dX5_dig_30 ⟨by first | exact Nat.le_of_ble_eq_true rfl | omega, by first | exact Nat.le_of_ble_eq_true rfl | omega⟩ (fun r7 Y1 hr => ?_)
      obtain ⟨rfl, rfl⟩ := hr
      refine hv_ifb_eq (tgt := 51) C dX5_dig_33 (by decide) (fun h8 => ?_) (fun h8 => ?_)
      · skip
        refine hv_iconst (v := nI 0) C dX5_dig_51 (by decide) ?_
        refine hv_istore (lv1 := [(0, .ref (g.1)), (1, .int (u)), (2, .int (v)), (3, .int (x)), (4, .int (y)), (5, .int (nI 0)), (6, .int (nI 0))]) C dX5_dig_52 (by decide) [1, 2, 3, 4, 5, 6, 0] rfl ?_
        refine hv_aload_n C dX5_dig_54 rfl 0 rfl ?_
        refine hv_iload C dX5_dig_55 5 rfl ?_
        refine hv_ifN_ne (tgt := 64) C dX5_dig_57 (by decide) (by omega) (fun h => absurd h (by decide)) (fun _ => ?_)
        refine hv_iconst (v := nI 1) C dX5_dig_60 (by decide) ?_
        refine hv_goto (tgt := 87) C dX5_dig_61 (by decide) ?_
        refine hv_callVr (As := [.int (nI 1)]) (rest := []) (n := 1) C (c_X5_can l w g hg A th Y0 1 (by omega)) gX5_dig_X5_can rfl (by decide +kernel) ⟨Nat.le_of_ble_eq_true rfl, Nat.le_of_ble_eq_true rfl⟩ (hv_rcO md_o rfl) rfl rfl (Nat.le_of_ble_eq_true rfl) dX5_dig_87 ⟨by first | exact Nat.le_of_ble_eq_true rfl | omega, by first | exact Nat.le_of_ble_eq_true rfl | omega⟩ (fun r10 Y1 hr => ?_)
        obtain ⟨rfl, rfl⟩ := hr
        refine hv_ifb_ne (tgt := 95) C dX5_dig_90 (by decide) (fun h => absurd h (by decide)) (fun _ => ?_)
        refine hv_iconst (v := nI 0) C dX5_dig_93 (by decide) ?_
        exact hv_iret C hret dX5_dig_94 (by first | exact Nat.le_refl _ | decide) (by first | exact Nat.le_refl _ | decide) ⟨by simp_all [q_dig, md_ans, f_dig], by simp_all [q_dig, f_dig]⟩
      · skip
        refine hv_iload C dX5_dig_36 4 rfl ?_
        refine hv_iconst (v := nI 0) C dX5_dig_38 (by decide) ?_
        refine hv_bipush (v := nI 9) C dX5_dig_39 (by decide) ?_
        refine hv_callSr (As := [.int (y), .int (nI 0), .int (nI 9)]) (rest := []) (n := 3) C (c_X5_isIn l w _ ((y)) ((nI 0)) ((nI 9))) gX5_dig_X5_isIn rfl (by decide +kernel) ⟨Nat.le_of_ble_eq_true rfl, Nat.le_of_ble_eq_true rfl⟩ rfl rfl (Nat.le_of_ble_eq_true rfl) dX5_dig_41 ⟨by first | exact Nat.le_of_ble_eq_true rfl | omega, by first | exact Nat.le_of_ble_eq_true rfl | omega⟩ (fun r12 Y1 hr => ?_)
        obtain ⟨rfl, rfl⟩ := hr
        refine hv_ifb_eq (tgt := 51) C dX5_dig_44 (by decide) (fun h13 => ?_) (fun h13 => ?_)
        · skip
          refine hv_iconst (v := nI 0) C dX5_dig_51 (by decide) ?_
          refine hv_istore (lv1 := [(0, .ref (g.1)), (1, .int (u)), (2, .int (v)), (3, .int (x)), (4, .int (y)), (5, .int (nI 0)), (6, .int (nI 0))]) C dX5_dig_52 (by decide) [1, 2, 3, 4, 5, 6, 0] rfl ?_
          refine hv_aload_n C dX5_dig_54 rfl 0 rfl ?_
          refine hv_iload C dX5_dig_55 5 rfl ?_
          refine hv_ifN_ne (tgt := 64) C dX5_dig_57 (by decide) (by omega) (fun h => absurd h (by decide)) (fun _ => ?_)
          refine hv_iconst (v := nI 1) C dX5_dig_60 (by decide) ?_
          refine hv_goto (tgt := 87) C dX5_dig_61 (by decide) ?_
          refine hv_callVr (As := [.int (nI 1)]) (rest := []) (n := 1) C (c_X5_can l w g hg A th Y0 1 (by omega)) gX5_dig_X5_can rfl (by decide +kernel) ⟨Nat.le_of_ble_eq_true rfl, Nat.le_of_ble_eq_true rfl⟩ (hv_rcO md_o rfl) rfl rfl (Nat.le_of_ble_eq_true rfl) dX5_dig_87 ⟨by first | exact Nat.le_of_ble_eq_true rfl | omega, by first | exact Nat.le_of_ble_eq_true rfl | omega⟩ (fun r15 Y1 hr => ?_)
          obtain ⟨rfl, rfl⟩ := hr
          refine hv_ifb_ne (tgt := 95) C dX5_dig_90 (by decide) (fun h => absurd h (by decide)) (fun _ => ?_)
          refine hv_iconst (v := nI 0) C dX5_dig_93 (by decide) ?_
          exact hv_iret C hret dX5_dig_94 (by first | exact Nat.le_refl _ | decide) (by first | exact Nat.le_refl _ | decide) ⟨by simp_all [q_dig, md_ans, f_dig], by simp_all [q_dig, f_dig]⟩
        · skip
          refine hv_iconst (v := nI 1) C dX5_dig_47 (by decide) ?_
          refine hv_goto (tgt := 52) C dX5_dig_48 (by decide) ?_
          refine hv_istore (lv1 := [(0, .ref (g.1)), (1, .int (u)), (2, .int (v)), (3, .int (x)), (4, .int (y)), (5, .int (nI 0)), (6, .int (nI 1))]) C dX5_dig_52 (by decide) [1, 2, 3, 4, 5, 6, 0] rfl ?_
          refine hv_aload_n C dX5_dig_54 rfl 0 rfl ?_
          refine hv_iload C dX5_dig_55 5 rfl ?_
          refine hv_ifN_ne (tgt := 64) C dX5_dig_57 (by decide) (by omega) (fun h => absurd h (by decide)) (fun _ => ?_)
          refine hv_iconst (v := nI 1) C dX5_dig_60 (by decide) ?_
          refine hv_goto (tgt := 87) C dX5_dig_61 (by decide) ?_
          refine hv_callVr (As := [.int (nI 1)]) (rest := []) (n := 1) C (c_X5_can l w g hg A th Y0 1 (by omega)) gX5_dig_X5_can rfl (by decide +kernel) ⟨Nat.le_of_ble_eq_true rfl, Nat.le_of_ble_eq_true rfl⟩ (hv_rcO md_o rfl) rfl rfl (Nat.le_of_ble_eq_true rfl) dX5_dig_87 ⟨by first | exact Nat.le_of_ble_eq_true rfl | omega, by first | exact Nat.le_of_ble_eq_true rfl | omega⟩ (fun r18 Y1 hr => ?_)
          obtain ⟨rfl, rfl⟩ := hr
          refine hv_ifb_ne (tgt := 95) C dX5_dig_90 (by decide) (fun h => absurd h (by decide)) (fun _ => ?_)
          refine hv_iconst (v := nI 0) C dX5_dig_93 (by decide) ?_
          exact hv_iret C hret dX5_dig_94 (by first | exact Nat.le_refl _ | decide) (by first | exact Nat.le_refl _ | decide) ⟨by simp_all [q_dig, md_ans, f_dig], by simp_all [q_dig, f_dig]⟩
  · skip
    obtain ⟨ha, rfl⟩ := ix_y hx
    rcases hy : ix 8 v with _ | b
    · skip
      refine hv_iload_n C dX5_dig_0 rfl 1 rfl ?_
      refine hv_callSr (As := [.int (nI a)]) (rest := []) (n := 1) C (c_X5_isBasin l w _ ((nI a))) gX5_dig_X5_isBasin rfl (by decide +kernel) ⟨Nat.le_of_ble_eq_true rfl, Nat.le_of_ble_eq_true rfl⟩ rfl rfl (Nat.le_of_ble_eq_true rfl) dX5_dig_1 ⟨by first | exact Nat.le_of_ble_eq_true rfl | omega, by first | exact Nat.le_of_ble_eq_true rfl | omega⟩ (fun r20 Y1 hr => ?_)
      obtain ⟨rfl, rfl⟩ := hr
      refine hv_ifb_eq (tgt := 18) C dX5_dig_4 (by decide) (fun h => absurd (ix_8c ha) h) (fun _ => ?_)
      refine hv_iload_n C dX5_dig_7 rfl 2 rfl ?_
      refine hv_callSr (As := [.int (v)]) (rest := []) (n := 1) C (c_X5_isBasin l w _ ((v))) gX5_dig_X5_isBasin rfl (by decide +kernel) ⟨Nat.le_of_ble_eq_true rfl, Nat.le_of_ble_eq_true rfl⟩ rfl rfl (Nat.le_of_ble_eq_true rfl) dX5_dig_8 ⟨by first | exact Nat.le_of_ble_eq_true rfl | omega, by first | exact Nat.le_of_ble_eq_true rfl | omega⟩ (fun r22 Y1 hr => ?_)
      obtain ⟨rfl, rfl⟩ := hr
      refine hv_ifb_eq (tgt := 18) C dX5_dig_11 (by decide) (fun _ => ?_) (fun h => absurd h (ix_8n hy))
      refine hv_iconst (v := nI 0) C dX5_dig_18 (by decide) ?_
      refine hv_istore (lv1 := [(0, .ref (g.1)), (1, .int (nI a)), (2, .int (v)), (3, .int (x)), (4, .int (y)), (5, .int (nI 0))]) C dX5_dig_19 (by decide) [1, 2, 3, 4, 5, 0] rfl ?_
      refine hv_iload_n C dX5_dig_21 rfl 1 rfl ?_
      refine hv_iload_n C dX5_dig_22 rfl 2 rfl ?_
      refine hv_icmp_eq (tgt := 51) C dX5_dig_23 (by decide) (fun h24 => ?_) (fun h24 => ?_)
      · skip
        refine hv_iconst (v := nI 0) C dX5_dig_51 (by decide) ?_
        refine hv_istore (lv1 := [(0, .ref (g.1)), (1, .int (nI a)), (2, .int (v)), (3, .int (x)), (4, .int (y)), (5, .int (nI 0)), (6, .int (nI 0))]) C dX5_dig_52 (by decide) [1, 2, 3, 4, 5, 6, 0] rfl ?_
        refine hv_aload_n C dX5_dig_54 rfl 0 rfl ?_
        refine hv_iload C dX5_dig_55 5 rfl ?_
        refine hv_ifN_ne (tgt := 64) C dX5_dig_57 (by decide) (by omega) (fun h => absurd h (by decide)) (fun _ => ?_)
        refine hv_iconst (v := nI 1) C dX5_dig_60 (by decide) ?_
        refine hv_goto (tgt := 87) C dX5_dig_61 (by decide) ?_
        refine hv_callVr (As := [.int (nI 1)]) (rest := []) (n := 1) C (c_X5_can l w g hg A th Y0 1 (by omega)) gX5_dig_X5_can rfl (by decide +kernel) ⟨Nat.le_of_ble_eq_true rfl, Nat.le_of_ble_eq_true rfl⟩ (hv_rcO md_o rfl) rfl rfl (Nat.le_of_ble_eq_true rfl) dX5_dig_87 ⟨by first | exact Nat.le_of_ble_eq_true rfl | omega, by first | exact Nat.le_of_ble_eq_true rfl | omega⟩ (fun r26 Y1 hr => ?_)
        obtain ⟨rfl, rfl⟩ := hr
        refine hv_ifb_ne (tgt := 95) C dX5_dig_90 (by decide) (fun h => absurd h (by decide)) (fun _ => ?_)
        refine hv_iconst (v := nI 0) C dX5_dig_93 (by decide) ?_
        exact hv_iret C hret dX5_dig_94 (by first | exact Nat.le_refl _ | decide) (by first | exact Nat.le_refl _ | decide) ⟨by simp_all [q_dig, md_ans, f_dig], by simp_all [q_dig, f_dig]⟩
      · skip
        refine hv_iload_n C dX5_dig_26 rfl 3 rfl ?_
        refine hv_iconst (v := nI 1) C dX5_dig_27 (by decide) ?_
        refine hv_bipush (v := nI 9) C dX5_dig_28 (by decide) ?_
        refine hv_callSr (As := [.int (x), .int (nI 1), .int (nI 9)]) (rest := []) (n := 3) C (c_X5_isIn l w _ ((x)) ((nI 1)) ((nI 9))) gX5_dig_X5_isIn rfl (by decide +kernel) ⟨Nat.le_of_ble_eq_true rfl, Nat.le_of_ble_eq_true rfl⟩ rfl rfl (Nat.le_of_ble_eq_true rfl) dX5_dig_30 ⟨by first | exact Nat.le_of_ble_eq_true rfl | omega, by first | exact Nat.le_of_ble_eq_true rfl | omega⟩ (fun r28 Y1 hr => ?_)
        obtain ⟨rfl, rfl⟩ := hr
        refine hv_ifb_eq (tgt := 51) C dX5_dig_33 (by decide) (fun h29 => ?_) (fun h29 => ?_)
        · skip
          refine hv_iconst (v := nI 0) C dX5_dig_51 (by decide) ?_
          refine hv_istore (lv1 := [(0, .ref (g.1)), (1, .int (nI a)), (2, .int (v)), (3, .int (x)), (4, .int (y)), (5, .int (nI 0)), (6, .int (nI 0))]) C dX5_dig_52 (by decide) [1, 2, 3, 4, 5, 6, 0] rfl ?_
          refine hv_aload_n C dX5_dig_54 rfl 0 rfl ?_
          refine hv_iload C dX5_dig_55 5 rfl ?_
          refine hv_ifN_ne (tgt := 64) C dX5_dig_57 (by decide) (by omega) (fun h => absurd h (by decide)) (fun _ => ?_)
          refine hv_iconst (v := nI 1) C dX5_dig_60 (by decide) ?_
          refine hv_goto (tgt := 87) C dX5_dig_61 (by decide) ?_
          refine hv_callVr (As := [.int (nI 1)]) (rest := []) (n := 1) C (c_X5_can l w g hg A th Y0 1 (by omega)) gX5_dig_X5_can rfl (by decide +kernel) ⟨Nat.le_of_ble_eq_true rfl, Nat.le_of_ble_eq_true rfl⟩ (hv_rcO md_o rfl) rfl rfl (Nat.le_of_ble_eq_true rfl) dX5_dig_87 ⟨by first | exact Nat.le_of_ble_eq_true rfl | omega, by first | exact Nat.le_of_ble_eq_true rfl | omega⟩ (fun r31 Y1 hr => ?_)
          obtain ⟨rfl, rfl⟩ := hr
          refine hv_ifb_ne (tgt := 95) C dX5_dig_90 (by decide) (fun h => absurd h (by decide)) (fun _ => ?_)
          refine hv_iconst (v := nI 0) C dX5_dig_93 (by decide) ?_
          exact hv_iret C hret dX5_dig_94 (by first | exact Nat.le_refl _ | decide) (by first | exact Nat.le_refl _ | decide) ⟨by simp_all [q_dig, md_ans, f_dig], by simp_all [q_dig, f_dig]⟩
        · skip
          refine hv_iload C dX5_dig_36 4 rfl ?_
          refine hv_iconst (v := nI 0) C dX5_dig_38 (by decide) ?_
          refine hv_bipush (v := nI 9) C dX5_dig_39 (by decide) ?_
          refine hv_callSr (As := [.int (y), .int (nI 0), .int (nI 9)]) (rest := []) (n := 3) C (c_X5_isIn l w _ ((y)) ((nI 0)) ((nI 9))) gX5_dig_X5_isIn rfl (by decide +kernel) ⟨Nat.le_of_ble_eq_true rfl, Nat.le_of_ble_eq_true rfl⟩ rfl rfl (Nat.le_of_ble_eq_true rfl) dX5_dig_41 ⟨by first | exact Nat.le_of_ble_eq_true rfl | omega, by first | exact Nat.le_of_ble_eq_true rfl | omega⟩ (fun r33 Y1 hr => ?_)
          obtain ⟨rfl, rfl⟩ := hr
          refine hv_ifb_eq (tgt := 51) C dX5_dig_44 (by decide) (fun h34 => ?_) (fun h34 => ?_)
          · skip
            refine hv_iconst (v := nI 0) C dX5_dig_51 (by decide) ?_
            refine hv_istore (lv1 := [(0, .ref (g.1)), (1, .int (nI a)), (2, .int (v)), (3, .int (x)), (4, .int (y)), (5, .int (nI 0)), (6, .int (nI 0))]) C dX5_dig_52 (by decide) [1, 2, 3, 4, 5, 6, 0] rfl ?_
            refine hv_aload_n C dX5_dig_54 rfl 0 rfl ?_
            refine hv_iload C dX5_dig_55 5 rfl ?_
            refine hv_ifN_ne (tgt := 64) C dX5_dig_57 (by decide) (by omega) (fun h => absurd h (by decide)) (fun _ => ?_)
            refine hv_iconst (v := nI 1) C dX5_dig_60 (by decide) ?_
            refine hv_goto (tgt := 87) C dX5_dig_61 (by decide) ?_
            refine hv_callVr (As := [.int (nI 1)]) (rest := []) (n := 1) C (c_X5_can l w g hg A th Y0 1 (by omega)) gX5_dig_X5_can rfl (by decide +kernel) ⟨Nat.le_of_ble_eq_true rfl, Nat.le_of_ble_eq_true rfl⟩ (hv_rcO md_o rfl) rfl rfl (Nat.le_of_ble_eq_true rfl) dX5_dig_87 ⟨by first | exact Nat.le_of_ble_eq_true rfl | omega, by first | exact Nat.le_of_ble_eq_true rfl | omega⟩ (fun r36 Y1 hr => ?_)
            obtain ⟨rfl, rfl⟩ := hr
            refine hv_ifb_ne (tgt := 95) C dX5_dig_90 (by decide) (fun h => absurd h (by decide)) (fun _ => ?_)
            refine hv_iconst (v := nI 0) C dX5_dig_93 (by decide) ?_
            exact hv_iret C hret dX5_dig_94 (by first | exact Nat.le_refl _ | decide) (by first | exact Nat.le_refl _ | decide) ⟨by simp_all [q_dig, md_ans, f_dig], by simp_all [q_dig, f_dig]⟩
          · skip
            refine hv_iconst (v := nI 1) C dX5_dig_47 (by decide) ?_
            refine hv_goto (tgt := 52) C dX5_dig_48 (by decide) ?_
            refine hv_istore (lv1 := [(0, .ref (g.1)), (1, .int (nI a)), (2, .int (v)), (3, .int (x)), (4, .int (y)), (5, .int (nI 0)), (6, .int (nI 1))]) C dX5_dig_52 (by decide) [1, 2, 3, 4, 5, 6, 0] rfl ?_
            refine hv_aload_n C dX5_dig_54 rfl 0 rfl ?_
            refine hv_iload C dX5_dig_55 5 rfl ?_
            refine hv_ifN_ne (tgt := 64) C dX5_dig_57 (by decide) (by omega) (fun h => absurd h (by decide)) (fun _ => ?_)
            refine hv_iconst (v := nI 1) C dX5_dig_60 (by decide) ?_
            refine hv_goto (tgt := 87) C dX5_dig_61 (by decide) ?_
            refine hv_callVr (As := [.int (nI 1)]) (rest := []) (n := 1) C (c_X5_can l w g hg A th Y0 1 (by omega)) gX5_dig_X5_can rfl (by decide +kernel) ⟨Nat.le_of_ble_eq_true rfl, Nat.le_of_ble_eq_true rfl⟩ (hv_rcO md_o rfl) rfl rfl (Nat.le_of_ble_eq_true rfl) dX5_dig_87 ⟨by first | exact Nat.le_of_ble_eq_true rfl | omega, by first | exact Nat.le_of_ble_eq_true rfl | omega⟩ (fun r39 Y1 hr => ?_)
            obtain ⟨rfl, rfl⟩ := hr
            refine hv_ifb_ne (tgt := 95) C dX5_dig_90 (by decide) (fun h => absurd h (by decide)) (fun _ => ?_)
            refine hv_iconst (v := nI 0) C dX5_dig_93 (by decide) ?_
            exact hv_iret C hret dX5_dig_94 (by first | exact Nat.le_refl _ | decide) (by first | exact Nat.le_refl _ | decide) ⟨by simp_all [q_dig, md_ans, f_dig], by simp_all [q_dig, f_dig]⟩
    · skip
      obtain ⟨hb, rfl⟩ := ix_y hy
      rcases hz : rg 1 9 x with _ | c
      · skip
        refine hv_iload_n C dX5_dig_0 rfl 1 rfl ?_
        refine hv_callSr (As := [.int (nI a)]) (rest := []) (n := 1) C (c_X5_isBasin l w _ ((nI a))) gX5_dig_X5_isBasin rfl (by decide +kernel) ⟨Nat.le_of_ble_eq_true rfl, Nat.le_of_ble_eq_true rfl⟩ rfl rfl (Nat.le_of_ble_eq_true rfl) dX5_dig_1 ⟨by first | exact Nat.le_of_ble_eq_true rfl | omega, by first | exact Nat.le_of_ble_eq_true rfl | omega⟩ (fun r41 Y1 hr => ?_)
        obtain ⟨rfl, rfl⟩ := hr
        refine hv_ifb_eq (tgt := 18) C dX5_dig_4 (by decide) (fun h => absurd (ix_8c ha) h) (fun _ => ?_)
        refine hv_iload_n C dX5_dig_7 rfl 2 rfl ?_
        refine hv_callSr (As := [.int (nI b)]) (rest := []) (n := 1) C (c_X5_isBasin l w _ ((nI b))) gX5_dig_X5_isBasin rfl (by decide +kernel) ⟨Nat.le_of_ble_eq_true rfl, Nat.le_of_ble_eq_true rfl⟩ rfl rfl (Nat.le_of_ble_eq_true rfl) dX5_dig_8 ⟨by first | exact Nat.le_of_ble_eq_true rfl | omega, by first | exact Nat.le_of_ble_eq_true rfl | omega⟩ (fun r43 Y1 hr => ?_)
        obtain ⟨rfl, rfl⟩ := hr
        refine hv_ifb_eq (tgt := 18) C dX5_dig_11 (by decide) (fun h => absurd (ix_8c hb) h) (fun _ => ?_)
        refine hv_iconst (v := nI 1) C dX5_dig_14 (by decide) ?_
        refine hv_goto (tgt := 19) C dX5_dig_15 (by decide) ?_
        refine hv_istore (lv1 := [(0, .ref (g.1)), (1, .int (nI a)), (2, .int (nI b)), (3, .int (x)), (4, .int (y)), (5, .int (nI 1))]) C dX5_dig_19 (by decide) [1, 2, 3, 4, 5, 0] rfl ?_
        refine hv_iload_n C dX5_dig_21 rfl 1 rfl ?_
        refine hv_iload_n C dX5_dig_22 rfl 2 rfl ?_
        refine hv_icmpN_eq (tgt := 51) C dX5_dig_23 (by decide) (by omega) (by omega) (fun h45 => ?_) (fun h45 => ?_)
        · skip
          refine hv_iconst (v := nI 0) C dX5_dig_51 (by decide) ?_
          refine hv_istore (lv1 := [(0, .ref (g.1)), (1, .int (nI a)), (2, .int (nI b)), (3, .int (x)), (4, .int (y)), (5, .int (nI 1)), (6, .int (nI 0))]) C dX5_dig_52 (by decide) [1, 2, 3, 4, 5, 6, 0] rfl ?_
          refine hv_aload_n C dX5_dig_54 rfl 0 rfl ?_
          refine hv_iload C dX5_dig_55 5 rfl ?_
          refine hv_ifN_ne (tgt := 64) C dX5_dig_57 (by decide) (by omega) (fun _ => ?_) (fun h => absurd h (by decide))
          refine hv_iload C dX5_dig_64 6 rfl ?_
          refine hv_ifN_ne (tgt := 73) C dX5_dig_66 (by decide) (by omega) (fun h => absurd h (by decide)) (fun _ => ?_)
          refine hv_iconst (v := nI 2) C dX5_dig_69 (by decide) ?_
          refine hv_goto (tgt := 87) C dX5_dig_70 (by decide) ?_
          refine hv_callVr (As := [.int (nI 2)]) (rest := []) (n := 1) C (c_X5_can l w g hg A th Y0 2 (by omega)) gX5_dig_X5_can rfl (by decide +kernel) ⟨Nat.le_of_ble_eq_true rfl, Nat.le_of_ble_eq_true rfl⟩ (hv_rcO md_o rfl) rfl rfl (Nat.le_of_ble_eq_true rfl) dX5_dig_87 ⟨by first | exact Nat.le_of_ble_eq_true rfl | omega, by first | exact Nat.le_of_ble_eq_true rfl | omega⟩ (fun r48 Y1 hr => ?_)
          obtain ⟨rfl, rfl⟩ := hr
          refine hv_ifb_ne (tgt := 95) C dX5_dig_90 (by decide) (fun h => absurd h (by decide)) (fun _ => ?_)
          refine hv_iconst (v := nI 0) C dX5_dig_93 (by decide) ?_
          exact hv_iret C hret dX5_dig_94 (by first | exact Nat.le_refl _ | decide) (by first | exact Nat.le_refl _ | decide) ⟨by simp_all [q_dig, md_ans, f_dig], by simp_all [q_dig, f_dig]⟩
        · skip
          refine hv_iload_n C dX5_dig_26 rfl 3 rfl ?_
          refine hv_iconst (v := nI 1) C dX5_dig_27 (by decide) ?_
          refine hv_bipush (v := nI 9) C dX5_dig_28 (by decide) ?_
          refine hv_callSr (As := [.int (x), .int (nI 1), .int (nI 9)]) (rest := []) (n := 3) C (c_X5_isIn l w _ ((x)) ((nI 1)) ((nI 9))) gX5_dig_X5_isIn rfl (by decide +kernel) ⟨Nat.le_of_ble_eq_true rfl, Nat.le_of_ble_eq_true rfl⟩ rfl rfl (Nat.le_of_ble_eq_true rfl) dX5_dig_30 ⟨by first | exact Nat.le_of_ble_eq_true rfl | omega, by first | exact Nat.le_of_ble_eq_true rfl | omega⟩ (fun r50 Y1 hr => ?_)
          obtain ⟨rfl, rfl⟩ := hr
          refine hv_ifb_eq (tgt := 51) C dX5_dig_33 (by decide) (fun _ => ?_) (fun h => absurd h (rg_n hz))
          refine hv_iconst (v := nI 0) C dX5_dig_51 (by decide) ?_
          refine hv_istore (lv1 := [(0, .ref (g.1)), (1, .int (nI a)), (2, .int (nI b)), (3, .int (x)), (4, .int (y)), (5, .int (nI 1)), (6, .int (nI 0))]) C dX5_dig_52 (by decide) [1, 2, 3, 4, 5, 6, 0] rfl ?_
          refine hv_aload_n C dX5_dig_54 rfl 0 rfl ?_
          refine hv_iload C dX5_dig_55 5 rfl ?_
          refine hv_ifN_ne (tgt := 64) C dX5_dig_57 (by decide) (by omega) (fun _ => ?_) (fun h => absurd h (by decide))
          refine hv_iload C dX5_dig_64 6 rfl ?_
          refine hv_ifN_ne (tgt := 73) C dX5_dig_66 (by decide) (by omega) (fun h => absurd h (by decide)) (fun _ => ?_)
          refine hv_iconst (v := nI 2) C dX5_dig_69 (by decide) ?_
          refine hv_goto (tgt := 87) C dX5_dig_70 (by decide) ?_
          refine hv_callVr (As := [.int (nI 2)]) (rest := []) (n := 1) C (c_X5_can l w g hg A th Y0 2 (by omega)) gX5_dig_X5_can rfl (by decide +kernel) ⟨Nat.le_of_ble_eq_true rfl, Nat.le_of_ble_eq_true rfl⟩ (hv_rcO md_o rfl) rfl rfl (Nat.le_of_ble_eq_true rfl) dX5_dig_87 ⟨by first | exact Nat.le_of_ble_eq_true rfl | omega, by first | exact Nat.le_of_ble_eq_true rfl | omega⟩ (fun r54 Y1 hr => ?_)
          obtain ⟨rfl, rfl⟩ := hr
          refine hv_ifb_ne (tgt := 95) C dX5_dig_90 (by decide) (fun h => absurd h (by decide)) (fun _ => ?_)
          refine hv_iconst (v := nI 0) C dX5_dig_93 (by decide) ?_
          exact hv_iret C hret dX5_dig_94 (by first | exact Nat.le_refl _ | decide) (by first | exact Nat.le_refl _ | decide) ⟨by simp_all [q_dig, md_ans, f_dig], by simp_all [q_dig, f_dig]⟩
      · skip
        obtain ⟨hc, hc2, rfl⟩ := rg_s (by decide) (by decide) hz
        rcases hv : rg 0 9 y with _ | d
        · skip
          refine hv_iload_n C dX5_dig_0 rfl 1 rfl ?_
          refine hv_callSr (As := [.int (nI a)]) (rest := []) (n := 1) C (c_X5_isBasin l w _ ((nI a))) gX5_dig_X5_isBasin rfl (by decide +kernel) ⟨Nat.le_of_ble_eq_true rfl, Nat.le_of_ble_eq_true rfl⟩ rfl rfl (Nat.le_of_ble_eq_true rfl) dX5_dig_1 ⟨by first | exact Nat.le_of_ble_eq_true rfl | omega, by first | exact Nat.le_of_ble_eq_true rfl | omega⟩ (fun r56 Y1 hr => ?_)
          obtain ⟨rfl, rfl⟩ := hr
          refine hv_ifb_eq (tgt := 18) C dX5_dig_4 (by decide) (fun h => absurd (ix_8c ha) h) (fun _ => ?_)
          refine hv_iload_n C dX5_dig_7 rfl 2 rfl ?_
          refine hv_callSr (As := [.int (nI b)]) (rest := []) (n := 1) C (c_X5_isBasin l w _ ((nI b))) gX5_dig_X5_isBasin rfl (by decide +kernel) ⟨Nat.le_of_ble_eq_true rfl, Nat.le_of_ble_eq_true rfl⟩ rfl rfl (Nat.le_of_ble_eq_true rfl) dX5_dig_8 ⟨by first | exact Nat.le_of_ble_eq_true rfl | omega, by first | exact Nat.le_of_ble_eq_true rfl | omega⟩ (fun r58 Y1 hr => ?_)
          obtain ⟨rfl, rfl⟩ := hr
          refine hv_ifb_eq (tgt := 18) C dX5_dig_11 (by decide) (fun h => absurd (ix_8c hb) h) (fun _ => ?_)
          refine hv_iconst (v := nI 1) C dX5_dig_14 (by decide) ?_
          refine hv_goto (tgt := 19) C dX5_dig_15 (by decide) ?_
          refine hv_istore (lv1 := [(0, .ref (g.1)), (1, .int (nI a)), (2, .int (nI b)), (3, .int (nI c)), (4, .int (y)), (5, .int (nI 1))]) C dX5_dig_19 (by decide) [1, 2, 3, 4, 5, 0] rfl ?_
          refine hv_iload_n C dX5_dig_21 rfl 1 rfl ?_
          refine hv_iload_n C dX5_dig_22 rfl 2 rfl ?_
          refine hv_icmpN_eq (tgt := 51) C dX5_dig_23 (by decide) (by omega) (by omega) (fun h60 => ?_) (fun h60 => ?_)
          · skip
            refine hv_iconst (v := nI 0) C dX5_dig_51 (by decide) ?_
            refine hv_istore (lv1 := [(0, .ref (g.1)), (1, .int (nI a)), (2, .int (nI b)), (3, .int (nI c)), (4, .int (y)), (5, .int (nI 1)), (6, .int (nI 0))]) C dX5_dig_52 (by decide) [1, 2, 3, 4, 5, 6, 0] rfl ?_
            refine hv_aload_n C dX5_dig_54 rfl 0 rfl ?_
            refine hv_iload C dX5_dig_55 5 rfl ?_
            refine hv_ifN_ne (tgt := 64) C dX5_dig_57 (by decide) (by omega) (fun _ => ?_) (fun h => absurd h (by decide))
            refine hv_iload C dX5_dig_64 6 rfl ?_
            refine hv_ifN_ne (tgt := 73) C dX5_dig_66 (by decide) (by omega) (fun h => absurd h (by decide)) (fun _ => ?_)
            refine hv_iconst (v := nI 2) C dX5_dig_69 (by decide) ?_
            refine hv_goto (tgt := 87) C dX5_dig_70 (by decide) ?_
            refine hv_callVr (As := [.int (nI 2)]) (rest := []) (n := 1) C (c_X5_can l w g hg A th Y0 2 (by omega)) gX5_dig_X5_can rfl (by decide +kernel) ⟨Nat.le_of_ble_eq_true rfl, Nat.le_of_ble_eq_true rfl⟩ (hv_rcO md_o rfl) rfl rfl (Nat.le_of_ble_eq_true rfl) dX5_dig_87 ⟨by first | exact Nat.le_of_ble_eq_true rfl | omega, by first | exact Nat.le_of_ble_eq_true rfl | omega⟩ (fun r63 Y1 hr => ?_)
            obtain ⟨rfl, rfl⟩ := hr
            refine hv_ifb_ne (tgt := 95) C dX5_dig_90 (by decide) (fun h => absurd h (by decide)) (fun _ => ?_)
            refine hv_iconst (v := nI 0) C dX5_dig_93 (by decide) ?_
            exact hv_iret C hret dX5_dig_94 (by first | exact Nat.le_refl _ | decide) (by first | exact Nat.le_refl _ | decide) ⟨by simp_all [q_dig, md_ans, f_dig], by simp_all [q_dig, f_dig]⟩
          · skip
            refine hv_iload_n C dX5_dig_26 rfl 3 rfl ?_
            refine hv_iconst (v := nI 1) C dX5_dig_27 (by decide) ?_
            refine hv_bipush (v := nI 9) C dX5_dig_28 (by decide) ?_
            refine hv_callSr (As := [.int (nI c), .int (nI 1), .int (nI 9)]) (rest := []) (n := 3) C (c_X5_isIn l w _ ((nI c)) ((nI 1)) ((nI 9))) gX5_dig_X5_isIn rfl (by decide +kernel) ⟨Nat.le_of_ble_eq_true rfl, Nat.le_of_ble_eq_true rfl⟩ rfl rfl (Nat.le_of_ble_eq_true rfl) dX5_dig_30 ⟨by first | exact Nat.le_of_ble_eq_true rfl | omega, by first | exact Nat.le_of_ble_eq_true rfl | omega⟩ (fun r65 Y1 hr => ?_)
            obtain ⟨rfl, rfl⟩ := hr
            refine hv_ifb_eq (tgt := 51) C dX5_dig_33 (by decide) (fun h => absurd (rg_c hc hc2 (by decide)) h) (fun _ => ?_)
            refine hv_iload C dX5_dig_36 4 rfl ?_
            refine hv_iconst (v := nI 0) C dX5_dig_38 (by decide) ?_
            refine hv_bipush (v := nI 9) C dX5_dig_39 (by decide) ?_
            refine hv_callSr (As := [.int (y), .int (nI 0), .int (nI 9)]) (rest := []) (n := 3) C (c_X5_isIn l w _ ((y)) ((nI 0)) ((nI 9))) gX5_dig_X5_isIn rfl (by decide +kernel) ⟨Nat.le_of_ble_eq_true rfl, Nat.le_of_ble_eq_true rfl⟩ rfl rfl (Nat.le_of_ble_eq_true rfl) dX5_dig_41 ⟨by first | exact Nat.le_of_ble_eq_true rfl | omega, by first | exact Nat.le_of_ble_eq_true rfl | omega⟩ (fun r67 Y1 hr => ?_)
            obtain ⟨rfl, rfl⟩ := hr
            refine hv_ifb_eq (tgt := 51) C dX5_dig_44 (by decide) (fun _ => ?_) (fun h => absurd h (rg_n hv))
            refine hv_iconst (v := nI 0) C dX5_dig_51 (by decide) ?_
            refine hv_istore (lv1 := [(0, .ref (g.1)), (1, .int (nI a)), (2, .int (nI b)), (3, .int (nI c)), (4, .int (y)), (5, .int (nI 1)), (6, .int (nI 0))]) C dX5_dig_52 (by decide) [1, 2, 3, 4, 5, 6, 0] rfl ?_
            refine hv_aload_n C dX5_dig_54 rfl 0 rfl ?_
            refine hv_iload C dX5_dig_55 5 rfl ?_
            refine hv_ifN_ne (tgt := 64) C dX5_dig_57 (by decide) (by omega) (fun _ => ?_) (fun h => absurd h (by decide))
            refine hv_iload C dX5_dig_64 6 rfl ?_
            refine hv_ifN_ne (tgt := 73) C dX5_dig_66 (by decide) (by omega) (fun h => absurd h (by decide)) (fun _ => ?_)
            refine hv_iconst (v := nI 2) C dX5_dig_69 (by decide) ?_
            refine hv_goto (tgt := 87) C dX5_dig_70 (by decide) ?_
            refine hv_callVr (As := [.int (nI 2)]) (rest := []) (n := 1) C (c_X5_can l w g hg A th Y0 2 (by omega)) gX5_dig_X5_can rfl (by decide +kernel) ⟨Nat.le_of_ble_eq_true rfl, Nat.le_of_ble_eq_true rfl⟩ (hv_rcO md_o rfl) rfl rfl (Nat.le_of_ble_eq_true rfl) dX5_dig_87 ⟨by first | exact Nat.le_of_ble_eq_true rfl | omega, by first | exact Nat.le_of_ble_eq_true rfl | omega⟩ (fun r71 Y1 hr => ?_)
            obtain ⟨rfl, rfl⟩ := hr
            refine hv_ifb_ne (tgt := 95) C dX5_dig_90 (by decide) (fun h => absurd h (by decide)) (fun _ => ?_)
            refine hv_iconst (v := nI 0) C dX5_dig_93 (by decide) ?_
            exact hv_iret C hret dX5_dig_94 (by first | exact Nat.le_refl _ | decide) (by first | exact Nat.le_refl _ | decide) ⟨by simp_all [q_dig, md_ans, f_dig], by simp_all [q_dig, f_dig]⟩
        · skip
          obtain ⟨hd, hd2, rfl⟩ := rg_s (by decide) (by decide) hv
          refine hv_iload_n C dX5_dig_0 rfl 1 rfl ?_
          refine hv_callSr (As := [.int (nI a)]) (rest := []) (n := 1) C (c_X5_isBasin l w _ ((nI a))) gX5_dig_X5_isBasin rfl (by decide +kernel) ⟨Nat.le_of_ble_eq_true rfl, Nat.le_of_ble_eq_true rfl⟩ rfl rfl (Nat.le_of_ble_eq_true rfl) dX5_dig_1 ⟨by first | exact Nat.le_of_ble_eq_true rfl | omega, by first | exact Nat.le_of_ble_eq_true rfl | omega⟩ (fun r73 Y1 hr => ?_)
          obtain ⟨rfl, rfl⟩ := hr
          refine hv_ifb_eq (tgt := 18) C dX5_dig_4 (by decide) (fun h => absurd (ix_8c ha) h) (fun _ => ?_)
          refine hv_iload_n C dX5_dig_7 rfl 2 rfl ?_
          refine hv_callSr (As := [.int (nI b)]) (rest := []) (n := 1) C (c_X5_isBasin l w _ ((nI b))) gX5_dig_X5_isBasin rfl (by decide +kernel) ⟨Nat.le_of_ble_eq_true rfl, Nat.le_of_ble_eq_true rfl⟩ rfl rfl (Nat.le_of_ble_eq_true rfl) dX5_dig_8 ⟨by first | exact Nat.le_of_ble_eq_true rfl | omega, by first | exact Nat.le_of_ble_eq_true rfl | omega⟩ (fun r75 Y1 hr => ?_)
          obtain ⟨rfl, rfl⟩ := hr
          refine hv_ifb_eq (tgt := 18) C dX5_dig_11 (by decide) (fun h => absurd (ix_8c hb) h) (fun _ => ?_)
          refine hv_iconst (v := nI 1) C dX5_dig_14 (by decide) ?_
          refine hv_goto (tgt := 19) C dX5_dig_15 (by decide) ?_
          refine hv_istore (lv1 := [(0, .ref (g.1)), (1, .int (nI a)), (2, .int (nI b)), (3, .int (nI c)), (4, .int (nI d)), (5, .int (nI 1))]) C dX5_dig_19 (by decide) [1, 2, 3, 4, 5, 0] rfl ?_
          refine hv_iload_n C dX5_dig_21 rfl 1 rfl ?_
          refine hv_iload_n C dX5_dig_22 rfl 2 rfl ?_
          refine hv_icmpN_eq (tgt := 51) C dX5_dig_23 (by decide) (by omega) (by omega) (fun h77 => ?_) (fun h77 => ?_)
          · skip
            refine hv_iconst (v := nI 0) C dX5_dig_51 (by decide) ?_
            refine hv_istore (lv1 := [(0, .ref (g.1)), (1, .int (nI a)), (2, .int (nI b)), (3, .int (nI c)), (4, .int (nI d)), (5, .int (nI 1)), (6, .int (nI 0))]) C dX5_dig_52 (by decide) [1, 2, 3, 4, 5, 6, 0] rfl ?_
            refine hv_aload_n C dX5_dig_54 rfl 0 rfl ?_
            refine hv_iload C dX5_dig_55 5 rfl ?_
            refine hv_ifN_ne (tgt := 64) C dX5_dig_57 (by decide) (by omega) (fun _ => ?_) (fun h => absurd h (by decide))
            refine hv_iload C dX5_dig_64 6 rfl ?_
            refine hv_ifN_ne (tgt := 73) C dX5_dig_66 (by decide) (by omega) (fun h => absurd h (by decide)) (fun _ => ?_)
            refine hv_iconst (v := nI 2) C dX5_dig_69 (by decide) ?_
            refine hv_goto (tgt := 87) C dX5_dig_70 (by decide) ?_
            refine hv_callVr (As := [.int (nI 2)]) (rest := []) (n := 1) C (c_X5_can l w g hg A th Y0 2 (by omega)) gX5_dig_X5_can rfl (by decide +kernel) ⟨Nat.le_of_ble_eq_true rfl, Nat.le_of_ble_eq_true rfl⟩ (hv_rcO md_o rfl) rfl rfl (Nat.le_of_ble_eq_true rfl) dX5_dig_87 ⟨by first | exact Nat.le_of_ble_eq_true rfl | omega, by first | exact Nat.le_of_ble_eq_true rfl | omega⟩ (fun r80 Y1 hr => ?_)
            obtain ⟨rfl, rfl⟩ := hr
            refine hv_ifb_ne (tgt := 95) C dX5_dig_90 (by decide) (fun h => absurd h (by decide)) (fun _ => ?_)
            refine hv_iconst (v := nI 0) C dX5_dig_93 (by decide) ?_
            exact hv_iret C hret dX5_dig_94 (by first | exact Nat.le_refl _ | decide) (by first | exact Nat.le_refl _ | decide) ⟨by simp_all [q_dig, md_ans, f_dig], by simp_all [q_dig, f_dig]⟩
          · skip
            refine hv_iload_n C dX5_dig_26 rfl 3 rfl ?_
            refine hv_iconst (v := nI 1) C dX5_dig_27 (by decide) ?_
            refine hv_bipush (v := nI 9) C dX5_dig_28 (by decide) ?_
            refine hv_callSr (As := [.int (nI c), .int (nI 1), .int (nI 9)]) (rest := []) (n := 3) C (c_X5_isIn l w _ ((nI c)) ((nI 1)) ((nI 9))) gX5_dig_X5_isIn rfl (by decide +kernel) ⟨Nat.le_of_ble_eq_true rfl, Nat.le_of_ble_eq_true rfl⟩ rfl rfl (Nat.le_of_ble_eq_true rfl) dX5_dig_30 ⟨by first | exact Nat.le_of_ble_eq_true rfl | omega, by first | exact Nat.le_of_ble_eq_true rfl | omega⟩ (fun r82 Y1 hr => ?_)
            obtain ⟨rfl, rfl⟩ := hr
            refine hv_ifb_eq (tgt := 51) C dX5_dig_33 (by decide) (fun h => absurd (rg_c hc hc2 (by decide)) h) (fun _ => ?_)
            refine hv_iload C dX5_dig_36 4 rfl ?_
            refine hv_iconst (v := nI 0) C dX5_dig_38 (by decide) ?_
            refine hv_bipush (v := nI 9) C dX5_dig_39 (by decide) ?_
            refine hv_callSr (As := [.int (nI d), .int (nI 0), .int (nI 9)]) (rest := []) (n := 3) C (c_X5_isIn l w _ ((nI d)) ((nI 0)) ((nI 9))) gX5_dig_X5_isIn rfl (by decide +kernel) ⟨Nat.le_of_ble_eq_true rfl, Nat.le_of_ble_eq_true rfl⟩ rfl rfl (Nat.le_of_ble_eq_true rfl) dX5_dig_41 ⟨by first | exact Nat.le_of_ble_eq_true rfl | omega, by first | exact Nat.le_of_ble_eq_true rfl | omega⟩ (fun r84 Y1 hr => ?_)
            obtain ⟨rfl, rfl⟩ := hr
            refine hv_ifb_eq (tgt := 51) C dX5_dig_44 (by decide) (fun h => absurd (rg_c hd hd2 (by decide)) h) (fun _ => ?_)
            refine hv_iconst (v := nI 1) C dX5_dig_47 (by decide) ?_
            refine hv_goto (tgt := 52) C dX5_dig_48 (by decide) ?_
            refine hv_istore (lv1 := [(0, .ref (g.1)), (1, .int (nI a)), (2, .int (nI b)), (3, .int (nI c)), (4, .int (nI d)), (5, .int (nI 1)), (6, .int (nI 1))]) C dX5_dig_52 (by decide) [1, 2, 3, 4, 5, 6, 0] rfl ?_
            refine hv_aload_n C dX5_dig_54 rfl 0 rfl ?_
            refine hv_iload C dX5_dig_55 5 rfl ?_
            refine hv_ifN_ne (tgt := 64) C dX5_dig_57 (by decide) (by omega) (fun _ => ?_) (fun h => absurd h (by decide))
            refine hv_iload C dX5_dig_64 6 rfl ?_
            refine hv_ifN_ne (tgt := 73) C dX5_dig_66 (by decide) (by omega) (fun _ => ?_) (fun h => absurd h (by decide))
            refine hv_aload_n C dX5_dig_73 rfl 0 rfl ?_
            refine hm_get (k := 4) (v := .int (nI (A 4 0))) C hin (by decide) (by decide +kernel) rfl rfl dX5_dig_74 ?_
            refine hv_bipush (v := nI 14) C dX5_dig_77 (by decide) ?_
            refine hv_icmpN_ne (tgt := 86) C dX5_dig_79 (by decide) (by omega) (by omega) (fun h88 => ?_) (fun h88 => ?_)
            · skip
              refine hv_iconst (v := nI 0) C dX5_dig_86 (by decide) ?_
              refine hv_callVr (As := [.int (nI 0)]) (rest := []) (n := 1) C (c_X5_can l w g hg A th Y0 0 (by omega)) gX5_dig_X5_can rfl (by decide +kernel) ⟨Nat.le_of_ble_eq_true rfl, Nat.le_of_ble_eq_true rfl⟩ (hv_rcO md_o rfl) rfl rfl (Nat.le_of_ble_eq_true rfl) dX5_dig_87 ⟨by first | exact Nat.le_of_ble_eq_true rfl | omega, by first | exact Nat.le_of_ble_eq_true rfl | omega⟩ (fun r89 Y1 hr => ?_)
              obtain ⟨rfl, rfl⟩ := hr
              refine hv_ifb_ne (tgt := 95) C dX5_dig_90 (by decide) (fun _ => ?_) (fun h => absurd rfl h)
              refine hv_aload_n C dX5_dig_95 rfl 0 rfl ?_
              refine hm_get (k := 5) (v := .ref (g.2.1 5)) C hin (by decide) (by decide +kernel) rfl rfl dX5_dig_96 ?_
              refine hv_aload_n C dX5_dig_99 rfl 0 rfl ?_
              refine hm_get (k := 4) (v := .int (nI (A 4 0))) C hin (by decide) (by decide +kernel) rfl rfl dX5_dig_100 ?_
              refine hv_iload_n C dX5_dig_103 rfl 1 rfl ?_
              refine hm_iast (k := 5) (n := A 4 0) (v := a) C hg (by decide) (by decide) (show A 4 0 < 14 from by omega) rfl dX5_dig_104 ?_
              refine hv_aload_n C dX5_dig_105 rfl 0 rfl ?_
              refine hm_get (k := 6) (v := .ref (g.2.1 6)) C hin (by decide) (by decide +kernel) rfl rfl dX5_dig_106 ?_
              refine hv_aload_n C dX5_dig_109 rfl 0 rfl ?_
              refine hm_get (k := 4) (v := .int (nI (A 4 0))) C hin (by decide) (by decide +kernel) rfl rfl dX5_dig_110 ?_
              refine hv_iload_n C dX5_dig_113 rfl 2 rfl ?_
              refine hm_iast (k := 6) (n := A 4 0) (v := b) C hg (by decide) (by decide) (show A 4 0 < 14 from by omega) rfl dX5_dig_114 ?_
              refine hv_aload_n C dX5_dig_115 rfl 0 rfl ?_
              refine hm_get (k := 7) (v := .ref (g.2.1 7)) C hin (by decide) (by decide +kernel) rfl rfl dX5_dig_116 ?_
              refine hv_aload_n C dX5_dig_119 rfl 0 rfl ?_
              refine hm_get (k := 4) (v := .int (nI (A 4 0))) C hin (by decide) (by decide +kernel) rfl rfl dX5_dig_120 ?_
              refine hv_iload_n C dX5_dig_123 rfl 3 rfl ?_
              refine hm_iast (k := 7) (n := A 4 0) (v := c) C hg (by decide) (by decide) (show A 4 0 < 14 from by omega) rfl dX5_dig_124 ?_
              refine hv_aload_n C dX5_dig_125 rfl 0 rfl ?_
              refine hm_get (k := 8) (v := .ref (g.2.1 8)) C hin (by decide) (by decide +kernel) rfl rfl dX5_dig_126 ?_
              refine hv_aload_n C dX5_dig_129 rfl 0 rfl ?_
              refine hm_get (k := 4) (v := .int (nI (A 4 0))) C hin (by decide) (by decide +kernel) rfl rfl dX5_dig_130 ?_
              refine hv_iload C dX5_dig_133 4 rfl ?_
              refine hm_iast (k := 8) (n := A 4 0) (v := d) C hg (by decide) (by decide) (show A 4 0 < 14 from by omega) rfl dX5_dig_135 ?_
              refine hv_aload_n C dX5_dig_136 rfl 0 rfl ?_
              refine hm_get (k := 9) (v := .ref (g.2.1 9)) C hin (by decide) (by decide +kernel) rfl rfl dX5_dig_137 ?_
              refine hv_aload_n C dX5_dig_140 rfl 0 rfl ?_
              refine hm_get (k := 4) (v := .int (nI (A 4 0))) C hin (by decide) (by decide +kernel) rfl rfl dX5_dig_141 ?_
              refine hv_iconst (v := nI 1) C dX5_dig_144 (by decide) ?_
              refine hm_zast (n := A 4 0) (v := 1) C hg (show A 4 0 < 14 from by omega) rfl (by decide) dX5_dig_145 ?_
              refine hv_aload_n C dX5_dig_146 rfl 0 rfl ?_
              refine hv_dup C dX5_dig_147 rfl ?_
              refine hm_get (k := 4) (v := .int (nI (A 4 0))) C hin (by decide) (by decide +kernel) rfl rfl dX5_dig_148 ?_
              refine hv_iconst (v := nI 1) C dX5_dig_151 (by decide) ?_
              refine hv_iaddN C dX5_dig_152 ?_
              refine hm_put (k := 4) (n := (A 4 0) + 1) C hg (by decide) rfl hin (by decide +kernel) rfl dX5_dig_153 ?_
              refine hv_aload_n C dX5_dig_156 rfl 0 rfl ?_
              refine hm_get (k := 4) (v := .int (nI ((A 4 0) + 1))) C hin (by decide) (by decide +kernel) rfl rfl dX5_dig_157 ?_
              refine hv_iconst (v := nI 1) C dX5_dig_160 (by decide) ?_
              refine hv_isubN C dX5_dig_161 (by omega) ?_
              exact hv_iret C hret dX5_dig_162 (by first | exact Nat.le_refl _ | decide) (by first | exact Nat.le_refl _ | decide) ⟨by simp_all [q_dig, md_ans, f_dig], by simp_all [q_dig, f_dig]⟩
            · skip
              refine hv_iconst (v := nI 3) C dX5_dig_82 (by decide) ?_
              refine hv_goto (tgt := 87) C dX5_dig_83 (by decide) ?_
              refine hv_callVr (As := [.int (nI 3)]) (rest := []) (n := 1) C (c_X5_can l w g hg A th Y0 3 (by omega)) gX5_dig_X5_can rfl (by decide +kernel) ⟨Nat.le_of_ble_eq_true rfl, Nat.le_of_ble_eq_true rfl⟩ (hv_rcO md_o rfl) rfl rfl (Nat.le_of_ble_eq_true rfl) dX5_dig_87 ⟨by first | exact Nat.le_of_ble_eq_true rfl | omega, by first | exact Nat.le_of_ble_eq_true rfl | omega⟩ (fun r91 Y1 hr => ?_)
              obtain ⟨rfl, rfl⟩ := hr
              refine hv_ifb_ne (tgt := 95) C dX5_dig_90 (by decide) (fun h => absurd h (by decide)) (fun _ => ?_)
              refine hv_iconst (v := nI 0) C dX5_dig_93 (by decide) ?_
              exact hv_iret C hret dX5_dig_94 (by first | exact Nat.le_refl _ | decide) (by first | exact Nat.le_refl _ | decide) ⟨by simp_all [q_dig, md_ans, f_dig], by simp_all [q_dig, f_dig]⟩
