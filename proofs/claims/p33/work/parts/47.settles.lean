theorem s_all_1 {A : ab_A} {b o j : Nat} (hx0 : (if A 9 j = 1 ∧ (A 5 j = b ∨ A 6 j = b) then A 11 (8 * f_bey A j b + o) else 0) = 0) : 99 = s_all A b o j := by
  unfold s_all
  rw [if_neg]
  rintro ⟨q1, q2, q3⟩
  rw [if_pos ⟨q1, q2⟩] at hx0
  exact q3 hx0
theorem s_all_2 {A : ab_A} {b o j : Nat} (hx0 : ¬ (if A 9 j = 1 ∧ (A 5 j = b ∨ A 6 j = b) then A 11 (8 * f_bey A j b + o) else 0) = 0) : (if A 9 j = 1 ∧ (A 5 j = b ∨ A 6 j = b) then A 11 (8 * f_bey A j b + o) else 0) - 1 + f_cost A j = s_all A b o j := by
  by_cases hc : A 9 j = 1 ∧ (A 5 j = b ∨ A 6 j = b)
  · rw [if_pos hc] at hx0 ⊢
    unfold s_all
    rw [if_pos ⟨hc.1, hc.2, hx0⟩]
  · exact absurd (if_neg hc) hx0
theorem s_all_le {A : ab_A} (hI : ab_I A) {b o j : Nat} (ho : o < 8) (hj : j < A 4 0) : s_all A b o j ≤ 99 ∧ (if A 9 j = 1 ∧ (A 5 j = b ∨ A 6 j = b) then A 11 (8 * f_bey A j b + o) else 0) ≤ 41 := by
  have h1 := hI.2.2.2.2.1 j hj
  have h2 := (hI.2.2.2.2.2.1 (f_bey A j b) o (f_bey_lt h1.1 h1.2.1) ho).1
  have h3 := f_cost_le hI hj
  constructor
  · unfold s_all
    split <;> omega
  · split <;> omega
theorem tk_cost (A : ab_A) (j : Nat) : f_cost (f_tick A) j = f_cost A j := by
  unfold f_cost f_dear
  rw [f_tick_k A (k := 7) (by decide), f_tick_k A (k := 5) (by decide), f_tick_k A (k := 6) (by decide), f_tick_k A (k := 0) (by decide)]
theorem k_costT (l : Launch) (w : hv_W) (o9 : Nat) (Y0 : hv_H) (A : ab_A) (Y : hv_H) (hY : cl_S w o9 Y0 (f_tick A) Y) (hI : ab_I A) (j : Nat) (hj : j < A 4 0) : hv_Mr l yX4_cost wsX4_cost ({ frames := 7, cells := 0, slots := 0, locals := 151 }) w [.ref o9, .int (nI j)] Y (fun r Y1 => r = .int (nI (f_cost A j)) ∧ Y1 = Y) := by
  have h := k_cost l w o9 Y0 (f_tick A) Y hY (I_tick hI) j (by rw [f_tick_k A (k := 4) (by decide)]; exact hj)
  rw [tk_cost] at h
  exact h
theorem k_distT (l : Launch) (w : hv_W) (o9 : Nat) (Y0 : hv_H) (A : ab_A) (Y : hv_H) (hY : cl_S w o9 Y0 (f_tick A) Y) (hI : ab_I A) (k : Nat) (hk : k < 64) : hv_Mr l yX4_distance wsX4_distance ({ frames := 7, cells := 0, slots := 0, locals := 151 }) w [.ref o9, .int (nI (k / 8)), .int (nI (k % 8))] Y (fun r Y1 => r = .int (nI (f_nf A k) + (-1)) ∧ Y1 = Y) := by
  have h := k_dist64 l w o9 Y0 (f_tick A) Y hY (I_tick hI) k hk
  rw [f_tick_11 A hk] at h
  exact h
theorem k_canT (l : Launch) (w : hv_W) (o9 : Nat) (Y0 : hv_H) (A : ab_A) (Y : hv_H) (hY : cl_S w o9 Y0 (f_tick A) Y) (hI : ab_I A) (k : Nat) (hk : k < 64) : hv_Mr l yX4_canalTo wsX4_canalTo ({ frames := 7, cells := 0, slots := 0, locals := 151 }) w [.ref o9, .int (nI (k / 8)), .int (nI (k % 8))] Y (fun r Y1 => r = .int (nI (f_nb A k) + (-1)) ∧ Y1 = Y) := by
  have h := k_can64 l w o9 Y0 (f_tick A) Y hY (I_tick hI) k hk
  rw [f_tick_12 A hk] at h
  exact h
set_option maxRecDepth 100000 in
set_option maxHeartbeats 4000000 in
theorem c_L_settles (l : Launch) (w : hv_W) (o : Nat) (q : Nat → Nat) (iv : Nat → Option Nat) (F : Nat → Nat → Int32) (A : ab_A) (Y : hv_H) (hq : lok q iv) (hS : zLS w o iv F A Y) {M : Nat} (hL : zLI A F M) : hv_Mr l yL_settles wsL_settles ({ frames := 9, cells := 0, slots := 0, locals := 200 }) w [.ref (o), .ref (q 0), .ref (q 2), .ref (q 3), .ref (q 4)] Y (fun r Y1 => r = .int (nI 1) ∧ zLS w o iv (Fn F A 64) (f_tick A) Y1) := by
  refine hv_ofV (cc := cL_settles) (own := RL) (by decide) rfl rfl (Nat.le_of_ble_eq_true rfl) rfl ?_
  intro p e s m below meth c C hret hnm
  obtain ⟨hI, hJ, ⟨hM, hM2⟩, hG, hB, hc0, hc1, hc2⟩ := id hL
  have i4 := hI.2.2.2.1
  have hch64 := f_chg_le A 64
  refine hv_aload_n C dL_settles_0 rfl 0 rfl ?_
  refine hv_callVr (As := []) (rest := []) (n := 0) C (k_areStill l w o (lY w iv F) A Y hS hI) gL_settles_X4_areStill rfl (by decide +kernel) ⟨(Nat.le_of_ble_eq_true rfl), (Nat.le_of_ble_eq_true rfl)⟩ (zLS_rc hS) rfl rfl (Nat.le_of_ble_eq_true rfl) dL_settles_1 ⟨by first | exact Nat.le_of_ble_eq_true rfl | omega | (simp; done) | (simp; omega), by first | exact Nat.le_of_ble_eq_true rfl | omega | (simp; done) | (simp; omega)⟩ (fun r1 Y2 hr => ?_)
  obtain ⟨rfl, hS3⟩ := hr
  refine hv_istore (lv1 := [(0, .ref (o)), (1, .ref (q 0)), (2, .ref (q 2)), (3, .ref (q 3)), (4, .ref (q 4)), (5, .int (nI (b2 (f_chg A 64 = 0))))]) C dL_settles_4 (by decide) [1, 2, 3, 4, 5, 0] rfl ?_
  refine hv_iconst (v := nI 0) C dL_settles_6 (by decide) ?_
  refine hv_istore (lv1 := [(0, .ref (o)), (1, .ref (q 0)), (2, .ref (q 2)), (3, .ref (q 3)), (4, .ref (q 4)), (5, .int (nI (b2 (f_chg A 64 = 0)))), (6, .int (nI 0))]) C dL_settles_7 (by decide) [1, 2, 3, 4, 5, 6, 0] rfl ?_
  refine hv_iconst (v := nI 1) C dL_settles_9 (by decide) ?_
  refine hv_istore (lv1 := [(0, .ref (o)), (1, .ref (q 0)), (2, .ref (q 2)), (3, .ref (q 3)), (4, .ref (q 4)), (5, .int (nI (b2 (f_chg A 64 = 0)))), (6, .int (nI 0)), (7, .int (nI 1))]) C dL_settles_10 (by decide) [1, 2, 3, 4, 5, 6, 7, 0] rfl ?_
  refine hv_aload_n C dL_settles_12 rfl 0 rfl ?_
  refine hv_aload_n C dL_settles_13 rfl 3 rfl ?_
  refine hv_aload C dL_settles_14 4 rfl ?_
  refine hv_callSv (As := [.ref (o), .ref (q 3), .ref (q 4)]) (rest := []) (n := 3) C (c_L_notes l w o q iv F A Y2 hq hS3 hI) gL_settles_L_notes rfl (by decide +kernel) ⟨(Nat.le_of_ble_eq_true rfl), (Nat.le_of_ble_eq_true rfl)⟩ rfl rfl (Nat.le_of_ble_eq_true rfl) dL_settles_16 ⟨by first | exact Nat.le_of_ble_eq_true rfl | omega | (simp; done) | (simp; omega), by first | exact Nat.le_of_ble_eq_true rfl | omega | (simp; done) | (simp; omega)⟩ (fun Y6 hr => ?_)
  have hS7 : zLS w o iv (Fn F A 64) A Y6 := hr
  refine hv_aload_n C dL_settles_19 rfl 0 rfl ?_
  refine hv_iconst (v := nI 1) C dL_settles_20 (by decide) ?_
  refine hv_callVr (As := [.int (nI 1)]) (rest := []) (n := 1) C (k_settle l w o (lY w iv (Fn F A 64)) A Y6 hS7 hI 1 (by decide) (by decide)) gL_settles_X4_settle rfl (by decide +kernel) ⟨(Nat.le_of_ble_eq_true rfl), (Nat.le_of_ble_eq_true rfl)⟩ (zLS_rc hS7) rfl rfl (Nat.le_of_ble_eq_true rfl) dL_settles_21 ⟨by first | exact Nat.le_of_ble_eq_true rfl | omega | (simp; done), by first | exact Nat.le_of_ble_eq_true rfl | omega | (simp; done)⟩ (fun r8 Y9 hr => ?_)
  obtain ⟨rfl, hr⟩ := hr
  have hS10 : zLS w o iv (Fn F A 64) (f_tick A) Y9 := hr
  refine hv_top (y := nI (f_chg A 64)) rfl ?_
  refine hv_istore (lv1 := [(0, .ref (o)), (1, .ref (q 0)), (2, .ref (q 2)), (3, .ref (q 3)), (4, .ref (q 4)), (5, .int (nI (b2 (f_chg A 64 = 0)))), (6, .int (nI 0)), (7, .int (nI 1)), (8, .int (nI (f_chg A 64)))]) C dL_settles_24 (by decide) [1, 2, 3, 4, 5, 6, 7, 8, 0] rfl ?_
  refine hv_iconst (v := nI 0) C dL_settles_26 (by decide) ?_
  refine hv_istore (lv1 := [(0, .ref (o)), (1, .ref (q 0)), (2, .ref (q 2)), (3, .ref (q 3)), (4, .ref (q 4)), (5, .int (nI (b2 (f_chg A 64 = 0)))), (6, .int (nI 0)), (7, .int (nI 1)), (8, .int (nI (f_chg A 64))), (9, .int (nI 0))]) C dL_settles_27 (by decide) [1, 2, 3, 4, 5, 6, 7, 8, 9, 0] rfl ?_
  refine hv_loop 64 (fun _ => Y9) (fun i => [(0, .ref (o)), (1, .ref (q 0)), (2, .ref (q 2)), (3, .ref (q 3)), (4, .ref (q 4)), (5, .int (nI (b2 (f_chg A 64 = 0)))), (6, .int (nI (f_chg A i))), (7, .int (nI 1)), (8, .int (nI (f_chg A 64))), (9, .int (nI i))]) ?_ ?_
  · skip
    refine hv_iload C dL_settles_29 9 rfl ?_
    refine hv_bipush (v := nI 64) C dL_settles_31 (by decide) ?_
    refine hv_icmpN_ge (tgt := 306) C dL_settles_33 (by decide) (by omega) (by omega) (fun _ => ?_) (fun h => absurd h (by decide))
    refine hv_iload C dL_settles_306 7 rfl ?_
    refine hv_ifN_eq (tgt := 337) C dL_settles_308 (by decide) (by omega) (fun h => absurd h (by decide)) (fun _ => ?_)
    refine hv_iload C dL_settles_311 8 rfl ?_
    refine hv_iload C dL_settles_313 6 rfl ?_
    refine hv_icmpN_ne (tgt := 337) C dL_settles_315 (by decide) (by omega) (by omega) (fun h13 => ?_) (fun h13 => ?_)
    · skip
      exact absurd rfl h13
    · skip
      refine hv_iload C dL_settles_318 5 rfl ?_
      refine hv_join (α := Nat) (pcJ := 330) (fun _ => Y9) (fun _ => [(0, .ref (o)), (1, .ref (q 0)), (2, .ref (q 2)), (3, .ref (q 3)), (4, .ref (q 4)), (5, .int (nI (b2 (f_chg A 64 = 0)))), (6, .int (nI (f_chg A 64))), (7, .int (nI 1)), (8, .int (nI (f_chg A 64))), (9, .int (nI 64))]) (fun t9 => .int (nI t9) :: [.int (nI (b2 (f_chg A 64 = 0)))]) (fun t9 => t9 = b2 (f_chg A 64 = 0)) ?_ ?_
      · rintro _ rfl
        refine hv_icmp_ne (tgt := 337) C dL_settles_330 (by decide) (fun h15 => ?_) (fun h15 => ?_)
        · skip
          exact absurd rfl h15
        · skip
          refine hv_iconst (v := nI 1) C dL_settles_333 (by decide) ?_
          refine hv_goto (tgt := 338) C dL_settles_334 (by decide) ?_
          exact hv_zret C hret (by decide) dL_settles_338 (by first | exact Nat.le_refl _ | decide | omega | (simp; done) | (simp; omega)) (by first | exact Nat.le_refl _ | decide | omega | (simp; done) | (simp; omega)) ⟨rfl, hS10⟩
      · intro k14
        refine hv_iload C dL_settles_320 6 rfl ?_
        refine hv_ifN_ne (tgt := 329) C dL_settles_322 (by decide) (by omega) (fun h16 => ?_) (fun h16 => ?_)
        · skip
          refine hv_iconst (v := nI 0) C dL_settles_329 (by decide) ?_
          exact k14 _ (b2_f (by omega)).symm
        · skip
          refine hv_iconst (v := nI 1) C dL_settles_325 (by decide) ?_
          refine hv_goto (tgt := 330) C dL_settles_326 (by decide) ?_
          exact k14 _ (b2_t (by omega)).symm
  · intro i hi ih
    have hb8 : i / 8 < 8 := by omega
    have ho8 : i % 8 < 8 := by omega
    have hnf := f_nf_le A i
    have hnb := f_nb_le A i
    have hdo := s_due_ok hI hb8 ho8
    rw [show 8 * (i / 8) + i % 8 = i by omega] at hdo
    have hch := f_chg_le A i
    have h11 := hI.2.2.2.2.2.1 (i / 8) (i % 8) hb8 ho8
    rw [show 8 * (i / 8) + i % 8 = i by omega] at h11
    have h11a := h11.1
    have h11b := h11.2.1
    refine hv_iload C dL_settles_29 9 rfl ?_
    refine hv_bipush (v := nI 64) C dL_settles_31 (by decide) ?_
    refine hv_icmpN_ge (tgt := 306) C dL_settles_33 (by decide) (by omega) (by omega) (fun h17 => ?_) (fun h17 => ?_)
    · skip
      exact absurd h17 (by omega)
    · skip
      refine hv_iload C dL_settles_36 7 rfl ?_
      refine hv_ifN_eq (tgt := 306) C dL_settles_38 (by decide) (by omega) (fun h => absurd h (by decide)) (fun _ => ?_)
      refine hv_bipush (v := nI 99) C dL_settles_41 (by decide) ?_
      refine hv_istore (lv1 := [(0, .ref (o)), (1, .ref (q 0)), (2, .ref (q 2)), (3, .ref (q 3)), (4, .ref (q 4)), (5, .int (nI (b2 (f_chg A 64 = 0)))), (6, .int (nI (f_chg A i))), (7, .int (nI 1)), (8, .int (nI (f_chg A 64))), (9, .int (nI i)), (10, .int (nI 99))]) C dL_settles_43 (by decide) [1, 2, 3, 4, 5, 6, 7, 8, 9, 10, 0] rfl ?_
      refine hv_iconst (v := nI 0 + (-1)) C dL_settles_45 (by decide) ?_
      refine hv_istore (lv1 := [(0, .ref (o)), (1, .ref (q 0)), (2, .ref (q 2)), (3, .ref (q 3)), (4, .ref (q 4)), (5, .int (nI (b2 (f_chg A 64 = 0)))), (6, .int (nI (f_chg A i))), (7, .int (nI 1)), (8, .int (nI (f_chg A 64))), (9, .int (nI i)), (10, .int (nI 99)), (11, .int (nI (0) + (-1)))]) C dL_settles_46 (by decide) [1, 2, 3, 4, 5, 6, 7, 8, 9, 10, 11, 0] rfl ?_
      refine hv_iconst (v := nI 0) C dL_settles_48 (by decide) ?_
      refine hv_istore (lv1 := [(0, .ref (o)), (1, .ref (q 0)), (2, .ref (q 2)), (3, .ref (q 3)), (4, .ref (q 4)), (5, .int (nI (b2 (f_chg A 64 = 0)))), (6, .int (nI (f_chg A i))), (7, .int (nI 1)), (8, .int (nI (f_chg A 64))), (9, .int (nI i)), (10, .int (nI 99)), (11, .int (nI (0) + (-1))), (12, .int (nI 0))]) C dL_settles_49 (by decide) [1, 2, 3, 4, 5, 6, 7, 8, 9, 10, 11, 12, 0] rfl ?_
      refine hv_join (α := Nat × Nat) (pcJ := 196) (fun _ => Y9) (fun t => [(0, .ref (o)), (1, .ref (q 0)), (2, .ref (q 2)), (3, .ref (q 3)), (4, .ref (q 4)), (5, .int (nI (b2 (f_chg A 64 = 0)))), (6, .int (nI (f_chg A i))), (7, .int (nI 1)), (8, .int (nI (f_chg A 64))), (9, .int (nI i)), (10, .int (nI (t.1))), (11, .int (nI (t.2) + (-1)))]) (fun _ => []) (fun t => t.1 ≤ 99 ∧ t.2 ≤ 14 ∧ (if i / 8 = i % 8 then 1 else if t.2 = 0 then 0 else t.1 + 1) = f_nf A i ∧ t.2 = f_nb A i) ?_ ?_
      · rintro ⟨bs, by9⟩ ⟨hbs, hby, hdue, hby2⟩
        have hbs : bs ≤ 99 := hbs
        have hby : by9 ≤ 14 := hby
        have hdue : (if i / 8 = i % 8 then 1 else if by9 = 0 then 0 else bs + 1) = f_nf A i := hdue
        have hby2 : by9 = f_nb A i := hby2
        refine hv_join (α := Int32) (pcJ := 224) (fun _ => Y9) (fun _ => [(0, .ref (o)), (1, .ref (q 0)), (2, .ref (q 2)), (3, .ref (q 3)), (4, .ref (q 4)), (5, .int (nI (b2 (f_chg A 64 = 0)))), (6, .int (nI (f_chg A i))), (7, .int (nI 1)), (8, .int (nI (f_chg A 64))), (9, .int (nI i)), (10, .int (nI bs)), (11, .int (nI (by9) + (-1)))]) (fun t9 => .int t9 :: []) (fun t9 => t9 = nI (f_nf A i) + (-1)) ?_ ?_
        · rintro _ rfl
          refine hv_istore (lv1 := [(0, .ref (o)), (1, .ref (q 0)), (2, .ref (q 2)), (3, .ref (q 3)), (4, .ref (q 4)), (5, .int (nI (b2 (f_chg A 64 = 0)))), (6, .int (nI (f_chg A i))), (7, .int (nI 1)), (8, .int (nI (f_chg A 64))), (9, .int (nI i)), (10, .int (nI bs)), (11, .int (nI (by9) + (-1))), (12, .int (nI (f_nf A i) + (-1)))]) C dL_settles_224 (by decide) [1, 2, 3, 4, 5, 6, 7, 8, 9, 10, 11, 12, 0] rfl ?_
          refine hv_iload C dL_settles_226 6 rfl ?_
          refine hv_join (α := Nat) (pcJ := 252) (fun _ => Y9) (fun _ => [(0, .ref (o)), (1, .ref (q 0)), (2, .ref (q 2)), (3, .ref (q 3)), (4, .ref (q 4)), (5, .int (nI (b2 (f_chg A 64 = 0)))), (6, .int (nI (f_chg A i))), (7, .int (nI 1)), (8, .int (nI (f_chg A 64))), (9, .int (nI i)), (10, .int (nI bs)), (11, .int (nI (by9) + (-1))), (12, .int (nI (f_nf A i) + (-1)))]) (fun t9 => .int (nI t9) :: [.int (nI (f_chg A i))]) (fun t9 => t9 = b2 (f_nf A i ≠ A 11 i ∨ f_nb A i ≠ A 12 i)) ?_ ?_
          · rintro _ rfl
            refine hv_iaddN C dL_settles_252 ?_
            refine hv_istore (lv1 := [(0, .ref (o)), (1, .ref (q 0)), (2, .ref (q 2)), (3, .ref (q 3)), (4, .ref (q 4)), (5, .int (nI (b2 (f_chg A 64 = 0)))), (6, .int (nI ((f_chg A i) + (b2 (f_nf A i ≠ A 11 i ∨ f_nb A i ≠ A 12 i))))), (7, .int (nI 1)), (8, .int (nI (f_chg A 64))), (9, .int (nI i)), (10, .int (nI bs)), (11, .int (nI (by9) + (-1))), (12, .int (nI (f_nf A i) + (-1)))]) C dL_settles_253 (by decide) [1, 2, 3, 4, 5, 6, 0, 7, 8, 9, 10, 11, 12] rfl ?_
            refine hv_aload_n C dL_settles_255 rfl 0 rfl ?_
            refine hv_iload C dL_settles_256 9 rfl ?_
            refine hv_bipush (v := nI 8) C dL_settles_258 (by decide) ?_
            refine hv_idivN C dL_settles_260 (by omega) (by omega) (by omega) ?_
            refine hv_iload C dL_settles_261 9 rfl ?_
            refine hv_bipush (v := nI 8) C dL_settles_263 (by decide) ?_
            refine hv_iremN C dL_settles_265 (by omega) (by omega) (by omega) ?_
            refine hv_callVr (As := [.int (nI (i / 8)), .int (nI (i % 8))]) (rest := []) (n := 2) C (k_distT l w o (lY w iv (Fn F A 64)) A Y9 hS10 hI i hi) gL_settles_X4_distance rfl (by decide +kernel) ⟨(Nat.le_of_ble_eq_true rfl), (Nat.le_of_ble_eq_true rfl)⟩ (zLS_rc hS10) rfl rfl (Nat.le_of_ble_eq_true rfl) dL_settles_266 ⟨by first | exact Nat.le_of_ble_eq_true rfl | omega | (simp; done) | (simp; omega), by first | exact Nat.le_of_ble_eq_true rfl | omega | (simp; done) | (simp; omega)⟩ (fun r21 Y1 hr => ?_)
            obtain ⟨rfl, hy9⟩ := hr; obtain rfl := hy9.symm
            refine hv_iload C dL_settles_269 12 rfl ?_
            refine hv_icmpE_ne (tgt := 297) C dL_settles_271 (by decide) (by omega) (by omega) (fun h22 => ?_) (fun h22 => ?_)
            · skip
              exact absurd rfl h22
            · skip
              refine hv_aload_n C dL_settles_274 rfl 0 rfl ?_
              refine hv_iload C dL_settles_275 9 rfl ?_
              refine hv_bipush (v := nI 8) C dL_settles_277 (by decide) ?_
              refine hv_idivN C dL_settles_279 (by omega) (by omega) (by omega) ?_
              refine hv_iload C dL_settles_280 9 rfl ?_
              refine hv_bipush (v := nI 8) C dL_settles_282 (by decide) ?_
              refine hv_iremN C dL_settles_284 (by omega) (by omega) (by omega) ?_
              refine hv_callVr (As := [.int (nI (i / 8)), .int (nI (i % 8))]) (rest := []) (n := 2) C (k_canT l w o (lY w iv (Fn F A 64)) A Y9 hS10 hI i hi) gL_settles_X4_canalTo rfl (by decide +kernel) ⟨(Nat.le_of_ble_eq_true rfl), (Nat.le_of_ble_eq_true rfl)⟩ (zLS_rc hS10) rfl rfl (Nat.le_of_ble_eq_true rfl) dL_settles_285 ⟨by first | exact Nat.le_of_ble_eq_true rfl | omega | (simp; done) | (simp; omega), by first | exact Nat.le_of_ble_eq_true rfl | omega | (simp; done) | (simp; omega)⟩ (fun r23 Y1 hr => ?_)
              obtain ⟨rfl, hy9⟩ := hr; obtain rfl := hy9.symm
              refine hv_iload C dL_settles_288 11 rfl ?_
              refine hv_icmpE_ne (tgt := 297) C dL_settles_290 (by decide) (by omega) (by omega) (fun h24 => ?_) (fun h24 => ?_)
              · skip
                exact absurd hby2.symm h24
              · skip
                refine hv_iconst (v := nI 1) C dL_settles_293 (by decide) ?_
                refine hv_goto (tgt := 298) C dL_settles_294 (by decide) ?_
                refine hv_istore (lv1 := [(0, .ref (o)), (1, .ref (q 0)), (2, .ref (q 2)), (3, .ref (q 3)), (4, .ref (q 4)), (5, .int (nI (b2 (f_chg A 64 = 0)))), (6, .int (nI ((f_chg A i) + (b2 (f_nf A i ≠ A 11 i ∨ f_nb A i ≠ A 12 i))))), (7, .int (nI 1)), (8, .int (nI (f_chg A 64))), (9, .int (nI i)), (10, .int (nI bs)), (11, .int (nI (by9) + (-1))), (12, .int (nI (f_nf A i) + (-1)))]) C dL_settles_298 (by decide) [1, 2, 3, 4, 5, 6, 7, 0, 8, 9, 10, 11, 12] rfl ?_
                refine hv_iinc (v := nI (i + 1)) (lv1 := [(0, .ref (o)), (1, .ref (q 0)), (2, .ref (q 2)), (3, .ref (q 3)), (4, .ref (q 4)), (5, .int (nI (b2 (f_chg A 64 = 0)))), (6, .int (nI ((f_chg A i) + (b2 (f_nf A i ≠ A 11 i ∨ f_nb A i ≠ A 12 i))))), (7, .int (nI 1)), (8, .int (nI (f_chg A 64))), (9, .int (nI (i + 1))), (10, .int (nI bs)), (11, .int (nI (by9) + (-1))), (12, .int (nI (f_nf A i) + (-1)))]) C dL_settles_300 (k := 9) rfl (nI_1 _) (by decide) [1, 2, 3, 4, 5, 6, 7, 8, 9, 0, 10, 11, 12] rfl ?_
                refine hv_goto (tgt := 29) C dL_settles_303 (by decide) ?_
                exact hv_sub (lv1 := [(0, .ref (o)), (1, .ref (q 0)), (2, .ref (q 2)), (3, .ref (q 3)), (4, .ref (q 4)), (5, .int (nI (b2 (f_chg A 64 = 0)))), (6, .int (nI (f_chg A (i + 1)))), (7, .int (nI 1)), (8, .int (nI (f_chg A 64))), (9, .int (nI (i + 1)))]) [0, 1, 2, 3, 4, 5, 6, 7, 8, 9] rfl ih
          · intro k20
            refine hv_iload C dL_settles_228 12 rfl ?_
            refine hv_aload_n C dL_settles_230 rfl 3 rfl ?_
            refine hv_iload C dL_settles_231 9 rfl ?_
            refine hl_ald (k := 3) (i := i) (x := (nI (A 11 i) + (-1))) C hS10 hq (by decide) (show i < 64 by omega) (Fn_3 F A hi) dL_settles_233 ?_
            refine hv_icmpE_ne (tgt := 247) C dL_settles_234 (by decide) (by omega) (by omega) (fun h25 => ?_) (fun h25 => ?_)
            · skip
              refine hv_iconst (v := nI 1) C dL_settles_247 (by decide) ?_
              refine hv_goto (tgt := 252) C dL_settles_248 (by decide) ?_
              exact k20 _ (b2_t (by omega)).symm
            · skip
              refine hv_iload C dL_settles_237 11 rfl ?_
              refine hv_aload C dL_settles_239 4 rfl ?_
              refine hv_iload C dL_settles_241 9 rfl ?_
              refine hl_ald (k := 4) (i := i) (x := (nI (A 12 i) + (-1))) C hS10 hq (by decide) (show i < 64 by omega) (Fn_4 F A hi) dL_settles_243 ?_
              refine hv_icmpE_eq (tgt := 251) C dL_settles_244 (by decide) (by omega) (by omega) (fun h26 => ?_) (fun h26 => ?_)
              · skip
                refine hv_iconst (v := nI 0) C dL_settles_251 (by decide) ?_
                exact k20 _ (b2_f (by omega)).symm
              · skip
                refine hv_iconst (v := nI 1) C dL_settles_247 (by decide) ?_
                refine hv_goto (tgt := 252) C dL_settles_248 (by decide) ?_
                exact k20 _ (b2_t (by omega)).symm
        · intro k19
          refine hv_iload C dL_settles_196 9 rfl ?_
          refine hv_bipush (v := nI 8) C dL_settles_198 (by decide) ?_
          refine hv_idivN C dL_settles_200 (by omega) (by omega) (by omega) ?_
          refine hv_iload C dL_settles_201 9 rfl ?_
          refine hv_bipush (v := nI 8) C dL_settles_203 (by decide) ?_
          refine hv_iremN C dL_settles_205 (by omega) (by omega) (by omega) ?_
          refine hv_icmpN_ne (tgt := 213) C dL_settles_206 (by decide) (by omega) (by omega) (fun h27 => ?_) (fun h27 => ?_)
          · skip
            refine hv_iload C dL_settles_213 11 rfl ?_
            by_cases hy0 : by9 = 0
            · skip
              refine hv_top (y := -1) (show nI by9 + (-1) = -1 by rw [hy0]; decide) ?_
              refine hv_if_ge (tgt := 222) C dL_settles_215 (by decide) (fun h => absurd h (by decide)) (fun _ => ?_)
              refine hv_iconst (v := nI 0 + (-1)) C dL_settles_218 (by decide) ?_
              refine hv_goto (tgt := 224) C dL_settles_219 (by decide) ?_
              exact k19 _ (by rw [← hdue, if_neg h27, if_pos hy0])
            · skip
              refine hv_top (y := nI (by9 - 1)) (nI_em (by omega)) ?_
              refine hv_ifN_ge (tgt := 222) C dL_settles_215 (by decide) (by omega) (fun _ => ?_) (fun h => h.elim)
              refine hv_iload C dL_settles_222 10 rfl ?_
              exact k19 _ (by rw [← hdue, if_neg h27, if_neg hy0, nI_eS])
          · skip
            refine hv_iconst (v := nI 0) C dL_settles_209 (by decide) ?_
            refine hv_goto (tgt := 224) C dL_settles_210 (by decide) ?_
            exact k19 _ (by rw [← hdue, if_pos h27]; decide)
      · intro k9
        by_cases hbo : i / 8 = i % 8
        · skip
          refine hv_iload C dL_settles_51 12 rfl ?_
          refine hv_aload_n C dL_settles_53 rfl 2 rfl ?_
          refine hv_iconst (v := nI 0) C dL_settles_54 (by decide) ?_
          refine hl_ald (k := 2) (i := 0) (x := (nI (A 4 0))) C hS10 hq (by decide) (show 0 < 3 by omega) (by rw [Fn_k F A (by decide) (by decide)]; exact hc0) dL_settles_55 ?_
          refine hv_icmpN_ge (tgt := 196) C dL_settles_56 (by decide) (by omega) (by omega) (fun h28 => ?_) (fun h28 => ?_)
          · skip
            exact hv_sub (lv1 := [(0, .ref (o)), (1, .ref (q 0)), (2, .ref (q 2)), (3, .ref (q 3)), (4, .ref (q 4)), (5, .int (nI (b2 (f_chg A 64 = 0)))), (6, .int (nI (f_chg A i))), (7, .int (nI 1)), (8, .int (nI (f_chg A 64))), (9, .int (nI i)), (10, .int (nI 99)), (11, .int (nI (0) + (-1)))]) [0, 1, 2, 3, 4, 5, 6, 7, 8, 9, 10, 11] rfl (k9 (99, 0) ⟨by decide, by decide, by rw [← hdo.1]; unfold s_due; rw [if_pos hbo, if_pos hbo], by rw [← hdo.2]; unfold s_by; rw [if_pos hbo]⟩)
          · skip
            refine hv_iload C dL_settles_59 9 rfl ?_
            refine hv_bipush (v := nI 8) C dL_settles_61 (by decide) ?_
            refine hv_idivN C dL_settles_63 (by omega) (by omega) (by omega) ?_
            refine hv_iload C dL_settles_64 9 rfl ?_
            refine hv_bipush (v := nI 8) C dL_settles_66 (by decide) ?_
            refine hv_iremN C dL_settles_68 (by omega) (by omega) (by omega) ?_
            refine hv_icmpN_eq (tgt := 196) C dL_settles_69 (by decide) (by omega) (by omega) (fun h29 => ?_) (fun h29 => ?_)
            · skip
              exact hv_sub (lv1 := [(0, .ref (o)), (1, .ref (q 0)), (2, .ref (q 2)), (3, .ref (q 3)), (4, .ref (q 4)), (5, .int (nI (b2 (f_chg A 64 = 0)))), (6, .int (nI (f_chg A i))), (7, .int (nI 1)), (8, .int (nI (f_chg A 64))), (9, .int (nI i)), (10, .int (nI 99)), (11, .int (nI (0) + (-1)))]) [0, 1, 2, 3, 4, 5, 6, 7, 8, 9, 10, 11] rfl (k9 (99, 0) ⟨by decide, by decide, by rw [← hdo.1]; unfold s_due; rw [if_pos hbo, if_pos hbo], by rw [← hdo.2]; unfold s_by; rw [if_pos hbo]⟩)
            · skip
              exact absurd hbo h29
        · skip
          refine hv_loop (A 4 0) (fun _ => Y9) (fun j => [(0, .ref (o)), (1, .ref (q 0)), (2, .ref (q 2)), (3, .ref (q 3)), (4, .ref (q 4)), (5, .int (nI (b2 (f_chg A 64 = 0)))), (6, .int (nI (f_chg A i))), (7, .int (nI 1)), (8, .int (nI (f_chg A 64))), (9, .int (nI i)), (10, .int (nI ((s_ent A (i / 8) (i % 8) j).1))), (11, .int (nI ((s_ent A (i / 8) (i % 8) j).2) + (-1))), (12, .int (nI j))]) ?_ ?_
          · skip
            refine hv_iload C dL_settles_51 12 rfl ?_
            refine hv_aload_n C dL_settles_53 rfl 2 rfl ?_
            refine hv_iconst (v := nI 0) C dL_settles_54 (by decide) ?_
            refine hl_ald (k := 2) (i := 0) (x := (nI (A 4 0))) C hS10 hq (by decide) (show 0 < 3 by omega) (by rw [Fn_k F A (by decide) (by decide)]; exact hc0) dL_settles_55 ?_
            refine hv_icmpN_ge (tgt := 196) C dL_settles_56 (by decide) (by omega) (by omega) (fun h30 => ?_) (fun h30 => ?_)
            · skip
              obtain ⟨se1, se2, se3, -⟩ := s_ent_ok hI hb8 ho8 hbo (A 4 0) (Nat.le_refl _)
              exact hv_sub (lv1 := [(0, .ref (o)), (1, .ref (q 0)), (2, .ref (q 2)), (3, .ref (q 3)), (4, .ref (q 4)), (5, .int (nI (b2 (f_chg A 64 = 0)))), (6, .int (nI (f_chg A i))), (7, .int (nI 1)), (8, .int (nI (f_chg A 64))), (9, .int (nI i)), (10, .int (nI ((s_ent A (i / 8) (i % 8) (A 4 0)).1))), (11, .int (nI ((s_ent A (i / 8) (i % 8) (A 4 0)).2) + (-1)))]) [0, 1, 2, 3, 4, 5, 6, 7, 8, 9, 10, 11] rfl (k9 ((s_ent A (i / 8) (i % 8) (A 4 0)).1, (s_ent A (i / 8) (i % 8) (A 4 0)).2) ⟨se2, by show (s_ent A (i / 8) (i % 8) (A 4 0)).2 ≤ 14; omega, by rw [← hdo.1]; unfold s_due; first | rw [if_neg hbo, if_neg hbo] | rw [if_neg hbo], by rw [← hdo.2]; unfold s_by; rw [if_neg hbo]⟩)
            · skip
              exact absurd h30 (by omega)
          · intro j hj ih2
            obtain ⟨cd0, cd1, cd2, cd3, cd4, cd5⟩ := code_p hI hj
            obtain ⟨w5, w6, w56, w7, w7b, w8, w9⟩ := hI.2.2.2.2.1 j hj
            obtain ⟨al1, al2⟩ := s_all_le hI (b := i / 8) ho8 hj
            obtain ⟨se1, se2, se3, -⟩ := s_ent_ok hI hb8 ho8 hbo j (by omega)
            have hbl : f_bey A j (i / 8) < 8 := f_bey_lt w5 w6
            have hc29 := f_cost_le hI hj
            refine hv_iload C dL_settles_51 12 rfl ?_
            refine hv_aload_n C dL_settles_53 rfl 2 rfl ?_
            refine hv_iconst (v := nI 0) C dL_settles_54 (by decide) ?_
            refine hl_ald (k := 2) (i := 0) (x := (nI (A 4 0))) C hS10 hq (by decide) (show 0 < 3 by omega) (by rw [Fn_k F A (by decide) (by decide)]; exact hc0) dL_settles_55 ?_
            refine hv_icmpN_ge (tgt := 196) C dL_settles_56 (by decide) (by omega) (by omega) (fun h31 => ?_) (fun h31 => ?_)
            · skip
              exact absurd h31 (by omega)
            · skip
              refine hv_iload C dL_settles_59 9 rfl ?_
              refine hv_bipush (v := nI 8) C dL_settles_61 (by decide) ?_
              refine hv_idivN C dL_settles_63 (by omega) (by omega) (by omega) ?_
              refine hv_iload C dL_settles_64 9 rfl ?_
              refine hv_bipush (v := nI 8) C dL_settles_66 (by decide) ?_
              refine hv_iremN C dL_settles_68 (by omega) (by omega) (by omega) ?_
              refine hv_icmpN_eq (tgt := 196) C dL_settles_69 (by decide) (by omega) (by omega) (fun h32 => ?_) (fun h32 => ?_)
              · skip
                exact absurd h32 hbo
              · skip
                refine hv_join (α := Int32) (pcJ := 128) (fun _ => Y9) (fun _ => [(0, .ref (o)), (1, .ref (q 0)), (2, .ref (q 2)), (3, .ref (q 3)), (4, .ref (q 4)), (5, .int (nI (b2 (f_chg A 64 = 0)))), (6, .int (nI (f_chg A i))), (7, .int (nI 1)), (8, .int (nI (f_chg A 64))), (9, .int (nI i)), (10, .int (nI ((s_ent A (i / 8) (i % 8) j).1))), (11, .int (nI ((s_ent A (i / 8) (i % 8) j).2) + (-1))), (12, .int (nI j))]) (fun t9 => .int t9 :: []) (fun t9 => t9 = nI ((if A 9 j = 1 ∧ (A 5 j = i / 8 ∨ A 6 j = i / 8) then A 11 (8 * f_bey A j (i / 8) + i % 8) else 0)) + (-1)) ?_ ?_
                · rintro _ rfl
                  refine hv_istore (lv1 := [(0, .ref (o)), (1, .ref (q 0)), (2, .ref (q 2)), (3, .ref (q 3)), (4, .ref (q 4)), (5, .int (nI (b2 (f_chg A 64 = 0)))), (6, .int (nI (f_chg A i))), (7, .int (nI 1)), (8, .int (nI (f_chg A 64))), (9, .int (nI i)), (10, .int (nI ((s_ent A (i / 8) (i % 8) j).1))), (11, .int (nI ((s_ent A (i / 8) (i % 8) j).2) + (-1))), (12, .int (nI j)), (13, .int (nI ((if A 9 j = 1 ∧ (A 5 j = i / 8 ∨ A 6 j = i / 8) then A 11 (8 * f_bey A j (i / 8) + i % 8) else 0)) + (-1)))]) C dL_settles_128 (by decide) [1, 2, 3, 4, 5, 6, 7, 8, 9, 10, 11, 12, 13, 0] rfl ?_
                  refine hv_join (α := Nat) (pcJ := 149) (fun _ => Y9) (fun _ => [(0, .ref (o)), (1, .ref (q 0)), (2, .ref (q 2)), (3, .ref (q 3)), (4, .ref (q 4)), (5, .int (nI (b2 (f_chg A 64 = 0)))), (6, .int (nI (f_chg A i))), (7, .int (nI 1)), (8, .int (nI (f_chg A 64))), (9, .int (nI i)), (10, .int (nI ((s_ent A (i / 8) (i % 8) j).1))), (11, .int (nI ((s_ent A (i / 8) (i % 8) j).2) + (-1))), (12, .int (nI j)), (13, .int (nI ((if A 9 j = 1 ∧ (A 5 j = i / 8 ∨ A 6 j = i / 8) then A 11 (8 * f_bey A j (i / 8) + i % 8) else 0)) + (-1)))]) (fun t9 => .int (nI t9) :: []) (fun t9 => t9 = s_all A (i / 8) (i % 8) j) ?_ ?_
                  · rintro _ rfl
                    refine hv_istore (lv1 := [(0, .ref (o)), (1, .ref (q 0)), (2, .ref (q 2)), (3, .ref (q 3)), (4, .ref (q 4)), (5, .int (nI (b2 (f_chg A 64 = 0)))), (6, .int (nI (f_chg A i))), (7, .int (nI 1)), (8, .int (nI (f_chg A 64))), (9, .int (nI i)), (10, .int (nI ((s_ent A (i / 8) (i % 8) j).1))), (11, .int (nI ((s_ent A (i / 8) (i % 8) j).2) + (-1))), (12, .int (nI j)), (13, .int (nI ((if A 9 j = 1 ∧ (A 5 j = i / 8 ∨ A 6 j = i / 8) then A 11 (8 * f_bey A j (i / 8) + i % 8) else 0)) + (-1))), (14, .int (nI (s_all A (i / 8) (i % 8) j)))]) C dL_settles_149 (by decide) [1, 2, 3, 4, 5, 6, 7, 8, 9, 10, 11, 12, 13, 14, 0] rfl ?_
                    refine hv_join (α := Int32) (pcJ := 172) (fun _ => Y9) (fun _ => [(0, .ref (o)), (1, .ref (q 0)), (2, .ref (q 2)), (3, .ref (q 3)), (4, .ref (q 4)), (5, .int (nI (b2 (f_chg A 64 = 0)))), (6, .int (nI (f_chg A i))), (7, .int (nI 1)), (8, .int (nI (f_chg A 64))), (9, .int (nI i)), (10, .int (nI ((s_ent A (i / 8) (i % 8) j).1))), (11, .int (nI ((s_ent A (i / 8) (i % 8) j).2) + (-1))), (12, .int (nI j)), (13, .int (nI ((if A 9 j = 1 ∧ (A 5 j = i / 8 ∨ A 6 j = i / 8) then A 11 (8 * f_bey A j (i / 8) + i % 8) else 0)) + (-1))), (14, .int (nI (s_all A (i / 8) (i % 8) j)))]) (fun t9 => .int t9 :: []) (fun t9 => t9 = nI ((s_ent A (i / 8) (i % 8) (j + 1)).2) + (-1)) ?_ ?_
                    · rintro _ rfl
                      refine hv_istore (lv1 := [(0, .ref (o)), (1, .ref (q 0)), (2, .ref (q 2)), (3, .ref (q 3)), (4, .ref (q 4)), (5, .int (nI (b2 (f_chg A 64 = 0)))), (6, .int (nI (f_chg A i))), (7, .int (nI 1)), (8, .int (nI (f_chg A 64))), (9, .int (nI i)), (10, .int (nI ((s_ent A (i / 8) (i % 8) j).1))), (11, .int (nI ((s_ent A (i / 8) (i % 8) (j + 1)).2) + (-1))), (12, .int (nI j)), (13, .int (nI ((if A 9 j = 1 ∧ (A 5 j = i / 8 ∨ A 6 j = i / 8) then A 11 (8 * f_bey A j (i / 8) + i % 8) else 0)) + (-1))), (14, .int (nI (s_all A (i / 8) (i % 8) j)))]) C dL_settles_172 (by decide) [1, 2, 3, 4, 5, 6, 7, 8, 9, 10, 11, 0, 12, 13, 14] rfl ?_
                      refine hv_join (α := Nat) (pcJ := 188) (fun _ => Y9) (fun _ => [(0, .ref (o)), (1, .ref (q 0)), (2, .ref (q 2)), (3, .ref (q 3)), (4, .ref (q 4)), (5, .int (nI (b2 (f_chg A 64 = 0)))), (6, .int (nI (f_chg A i))), (7, .int (nI 1)), (8, .int (nI (f_chg A 64))), (9, .int (nI i)), (10, .int (nI ((s_ent A (i / 8) (i % 8) j).1))), (11, .int (nI ((s_ent A (i / 8) (i % 8) (j + 1)).2) + (-1))), (12, .int (nI j)), (13, .int (nI ((if A 9 j = 1 ∧ (A 5 j = i / 8 ∨ A 6 j = i / 8) then A 11 (8 * f_bey A j (i / 8) + i % 8) else 0)) + (-1))), (14, .int (nI (s_all A (i / 8) (i % 8) j)))]) (fun t9 => .int (nI t9) :: []) (fun t9 => t9 = (s_ent A (i / 8) (i % 8) (j + 1)).1) ?_ ?_
                      · rintro _ rfl
                        refine hv_istore (lv1 := [(0, .ref (o)), (1, .ref (q 0)), (2, .ref (q 2)), (3, .ref (q 3)), (4, .ref (q 4)), (5, .int (nI (b2 (f_chg A 64 = 0)))), (6, .int (nI (f_chg A i))), (7, .int (nI 1)), (8, .int (nI (f_chg A 64))), (9, .int (nI i)), (10, .int (nI ((s_ent A (i / 8) (i % 8) (j + 1)).1))), (11, .int (nI ((s_ent A (i / 8) (i % 8) (j + 1)).2) + (-1))), (12, .int (nI j)), (13, .int (nI ((if A 9 j = 1 ∧ (A 5 j = i / 8 ∨ A 6 j = i / 8) then A 11 (8 * f_bey A j (i / 8) + i % 8) else 0)) + (-1))), (14, .int (nI (s_all A (i / 8) (i % 8) j)))]) C dL_settles_188 (by decide) [1, 2, 3, 4, 5, 6, 7, 8, 9, 10, 0, 11, 12, 13, 14] rfl ?_
                        refine hv_iinc (v := nI (j + 1)) (lv1 := [(0, .ref (o)), (1, .ref (q 0)), (2, .ref (q 2)), (3, .ref (q 3)), (4, .ref (q 4)), (5, .int (nI (b2 (f_chg A 64 = 0)))), (6, .int (nI (f_chg A i))), (7, .int (nI 1)), (8, .int (nI (f_chg A 64))), (9, .int (nI i)), (10, .int (nI ((s_ent A (i / 8) (i % 8) (j + 1)).1))), (11, .int (nI ((s_ent A (i / 8) (i % 8) (j + 1)).2) + (-1))), (12, .int (nI (j + 1))), (13, .int (nI ((if A 9 j = 1 ∧ (A 5 j = i / 8 ∨ A 6 j = i / 8) then A 11 (8 * f_bey A j (i / 8) + i % 8) else 0)) + (-1))), (14, .int (nI (s_all A (i / 8) (i % 8) j)))]) C dL_settles_190 (k := 12) rfl (nI_1 _) (by decide) [1, 2, 3, 4, 5, 6, 7, 8, 9, 10, 11, 12, 0, 13, 14] rfl ?_
                        refine hv_goto (tgt := 51) C dL_settles_193 (by decide) ?_
                        exact hv_sub (lv1 := [(0, .ref (o)), (1, .ref (q 0)), (2, .ref (q 2)), (3, .ref (q 3)), (4, .ref (q 4)), (5, .int (nI (b2 (f_chg A 64 = 0)))), (6, .int (nI (f_chg A i))), (7, .int (nI 1)), (8, .int (nI (f_chg A 64))), (9, .int (nI i)), (10, .int (nI ((s_ent A (i / 8) (i % 8) (j + 1)).1))), (11, .int (nI ((s_ent A (i / 8) (i % 8) (j + 1)).2) + (-1))), (12, .int (nI (j + 1)))]) [0, 1, 2, 3, 4, 5, 6, 7, 8, 9, 10, 11, 12] rfl ih2
                      · intro k36
                        refine hv_iload C dL_settles_174 14 rfl ?_
                        refine hv_iload C dL_settles_176 10 rfl ?_
                        refine hv_icmpN_ge (tgt := 186) C dL_settles_178 (by decide) (by omega) (by omega) (fun h37 => ?_) (fun h37 => ?_)
                        · skip
                          refine hv_iload C dL_settles_186 10 rfl ?_
                          exact k36 _ (show (s_ent A (i / 8) (i % 8) (j + 1)).1 = (s_ent A (i / 8) (i % 8) j).1 from if_neg (by omega)).symm
                        · skip
                          refine hv_iload C dL_settles_181 14 rfl ?_
                          refine hv_goto (tgt := 188) C dL_settles_183 (by decide) ?_
                          exact k36 _ (show (s_ent A (i / 8) (i % 8) (j + 1)).1 = s_all A (i / 8) (i % 8) j from if_pos (by omega)).symm
                    · intro k35
                      refine hv_iload C dL_settles_151 14 rfl ?_
                      refine hv_iload C dL_settles_153 10 rfl ?_
                      refine hv_icmpN_ge (tgt := 170) C dL_settles_155 (by decide) (by omega) (by omega) (fun h38 => ?_) (fun h38 => ?_)
                      · skip
                        refine hv_iload C dL_settles_170 11 rfl ?_
                        exact k35 _ (by rw [show (s_ent A (i / 8) (i % 8) (j + 1)).2 = (s_ent A (i / 8) (i % 8) j).2 from if_neg (by omega)])
                      · skip
                        refine hv_iload C dL_settles_158 14 rfl ?_
                        refine hv_bipush (v := nI 40) C dL_settles_160 (by decide) ?_
                        refine hv_icmpN_gt (tgt := 170) C dL_settles_162 (by decide) (by omega) (by omega) (fun h39 => ?_) (fun h39 => ?_)
                        · skip
                          refine hv_iload C dL_settles_170 11 rfl ?_
                          exact k35 _ (by rw [show (s_ent A (i / 8) (i % 8) (j + 1)).2 = (s_ent A (i / 8) (i % 8) j).2 from if_neg (by omega)])
                        · skip
                          refine hv_iload C dL_settles_165 12 rfl ?_
                          refine hv_goto (tgt := 172) C dL_settles_167 (by decide) ?_
                          exact k35 _ (by rw [show (s_ent A (i / 8) (i % 8) (j + 1)).2 = j + 1 from if_pos ⟨by omega, by omega⟩, nI_eS])
                  · intro k34
                    refine hv_iload C dL_settles_130 13 rfl ?_
                    by_cases hx0 : (if A 9 j = 1 ∧ (A 5 j = i / 8 ∨ A 6 j = i / 8) then A 11 (8 * f_bey A j (i / 8) + i % 8) else 0) = 0
                    · skip
                      refine hv_top (y := -1) (by rw [hx0]; decide) ?_
                      refine hv_if_ge (tgt := 140) C dL_settles_132 (by decide) (fun h => absurd h (by decide)) (fun _ => ?_)
                      refine hv_bipush (v := nI 99) C dL_settles_135 (by decide) ?_
                      refine hv_goto (tgt := 149) C dL_settles_137 (by decide) ?_
                      exact k34 _ (s_all_1 hx0)
                    · skip
                      refine hv_top (y := nI ((if A 9 j = 1 ∧ (A 5 j = i / 8 ∨ A 6 j = i / 8) then A 11 (8 * f_bey A j (i / 8) + i % 8) else 0) - 1)) (nI_em (by omega)) ?_
                      refine hv_ifN_ge (tgt := 140) C dL_settles_132 (by decide) (by omega) (fun _ => ?_) (fun h => h.elim)
                      refine hv_iload C dL_settles_140 13 rfl ?_
                      refine hv_top (y := nI ((if A 9 j = 1 ∧ (A 5 j = i / 8 ∨ A 6 j = i / 8) then A 11 (8 * f_bey A j (i / 8) + i % 8) else 0) - 1)) (nI_em (by omega)) ?_
                      refine hv_aload_n C dL_settles_142 rfl 0 rfl ?_
                      refine hv_iload C dL_settles_143 12 rfl ?_
                      refine hv_callVr (As := [.int (nI j)]) (rest := [.int (nI ((if A 9 j = 1 ∧ (A 5 j = i / 8 ∨ A 6 j = i / 8) then A 11 (8 * f_bey A j (i / 8) + i % 8) else 0) - 1))]) (n := 1) C (k_costT l w o (lY w iv (Fn F A 64)) A Y9 hS10 hI j hj) gL_settles_X4_cost rfl (by decide +kernel) ⟨(Nat.le_of_ble_eq_true rfl), (Nat.le_of_ble_eq_true rfl)⟩ (zLS_rc hS10) rfl rfl (Nat.le_of_ble_eq_true rfl) dL_settles_145 ⟨by first | exact Nat.le_of_ble_eq_true rfl | omega | (simp; done) | (simp; omega), by first | exact Nat.le_of_ble_eq_true rfl | omega | (simp; done) | (simp; omega)⟩ (fun r40 Y1 hr => ?_)
                      obtain ⟨rfl, hy9⟩ := hr; obtain rfl := hy9.symm
                      refine hv_iaddN C dL_settles_148 ?_
                      exact k34 _ (s_all_2 hx0)
                · intro k33
                  refine hv_aload_n C dL_settles_72 rfl 1 rfl ?_
                  refine hv_iload C dL_settles_73 12 rfl ?_
                  refine hl_ald (k := 0) (i := j) (x := (nI (f_code A j))) C hS10 hq (by decide) (show j < 14 by omega) (by rw [Fn_k F A (by decide) (by decide)]; exact (hG j hj)) dL_settles_75 ?_
                  refine hv_bipush (v := nI 14) C dL_settles_76 (by decide) ?_
                  refine hv_iconst (v := nI 1) C dL_settles_78 (by decide) ?_
                  refine hv_callSr (As := [.int (nI (f_code A j)), .int (nI 14), .int (nI 1)]) (rest := []) (n := 3) C (c_L_part l w Y9 (f_code A j) 14 1 (A 9 j) (by omega) (by decide) (by decide) cd5) gL_settles_L_part rfl (by decide +kernel) ⟨(Nat.le_of_ble_eq_true rfl), (Nat.le_of_ble_eq_true rfl)⟩ rfl rfl (Nat.le_of_ble_eq_true rfl) dL_settles_79 ⟨by first | exact Nat.le_of_ble_eq_true rfl | omega | (simp; done) | (simp; omega), by first | exact Nat.le_of_ble_eq_true rfl | omega | (simp; done) | (simp; omega)⟩ (fun r41 Y1 hr => ?_)
                  obtain ⟨rfl, hy9⟩ := hr; obtain rfl := hy9.symm
                  refine hv_iconst (v := nI 1) C dL_settles_82 (by decide) ?_
                  refine hv_icmpN_ne (tgt := 127) C dL_settles_83 (by decide) (by omega) (by omega) (fun h42 => ?_) (fun h42 => ?_)
                  · skip
                    refine hv_iconst (v := nI 0 + (-1)) C dL_settles_127 (by decide) ?_
                    exact k33 _ (by rw [if_neg (by omega)])
                  · skip
                    refine hv_aload_n C dL_settles_86 rfl 1 rfl ?_
                    refine hv_iload C dL_settles_87 12 rfl ?_
                    refine hl_ald (k := 0) (i := j) (x := (nI (f_code A j))) C hS10 hq (by decide) (show j < 14 by omega) (by rw [Fn_k F A (by decide) (by decide)]; exact (hG j hj)) dL_settles_89 ?_
                    refine hv_iload C dL_settles_90 9 rfl ?_
                    refine hv_bipush (v := nI 8) C dL_settles_92 (by decide) ?_
                    refine hv_idivN C dL_settles_94 (by omega) (by omega) (by omega) ?_
                    refine hv_callSr (As := [.int (nI (f_code A j)), .int (nI (i / 8))]) (rest := []) (n := 2) C (c_L_isAt l w Y9 (f_code A j) (i / 8) (by omega) hb8) gL_settles_L_isAt rfl (by decide +kernel) ⟨(Nat.le_of_ble_eq_true rfl), (Nat.le_of_ble_eq_true rfl)⟩ rfl rfl (Nat.le_of_ble_eq_true rfl) dL_settles_95 ⟨by first | exact Nat.le_of_ble_eq_true rfl | omega | (simp; done) | (simp; omega), by first | exact Nat.le_of_ble_eq_true rfl | omega | (simp; done) | (simp; omega)⟩ (fun r43 Y1 hr => ?_)
                    obtain ⟨rfl, hy9⟩ := hr; obtain rfl := hy9.symm
                    refine hv_ifb_eq (tgt := 127) C dL_settles_98 (by decide) (fun h44 => ?_) (fun h44 => ?_)
                    · skip
                      refine hv_iconst (v := nI 0 + (-1)) C dL_settles_127 (by decide) ?_
                      exact k33 _ (by rw [if_neg (by omega)])
                    · skip
                      refine hv_aload_n C dL_settles_101 rfl 3 rfl ?_
                      refine hv_bipush (v := nI 8) C dL_settles_102 (by decide) ?_
                      refine hv_aload_n C dL_settles_104 rfl 1 rfl ?_
                      refine hv_iload C dL_settles_105 12 rfl ?_
                      refine hl_ald (k := 0) (i := j) (x := (nI (f_code A j))) C hS10 hq (by decide) (show j < 14 by omega) (by rw [Fn_k F A (by decide) (by decide)]; exact (hG j hj)) dL_settles_107 ?_
                      refine hv_iload C dL_settles_108 9 rfl ?_
                      refine hv_bipush (v := nI 8) C dL_settles_110 (by decide) ?_
                      refine hv_idivN C dL_settles_112 (by omega) (by omega) (by omega) ?_
                      refine hv_callSr (As := [.int (nI (f_code A j)), .int (nI (i / 8))]) (rest := [.int (nI 8), .ref (q 3)]) (n := 2) C (c_L_beyond l w Y9 (f_code A j) (i / 8) (by omega) hb8) gL_settles_L_beyond rfl (by decide +kernel) ⟨(Nat.le_of_ble_eq_true rfl), (Nat.le_of_ble_eq_true rfl)⟩ rfl rfl (Nat.le_of_ble_eq_true rfl) dL_settles_113 ⟨by first | exact Nat.le_of_ble_eq_true rfl | omega | (simp; done) | (simp; omega), by first | exact Nat.le_of_ble_eq_true rfl | omega | (simp; done) | (simp; omega)⟩ (fun r45 Y1 hr => ?_)
                      obtain ⟨rfl, hy9⟩ := hr; obtain rfl := hy9.symm
                      refine hv_top (y := nI (f_bey A j (i / 8))) (by rw [cd1, cd2]; rfl) ?_
                      refine hv_imulN C dL_settles_116 ?_
                      refine hv_iload C dL_settles_117 9 rfl ?_
                      refine hv_bipush (v := nI 8) C dL_settles_119 (by decide) ?_
                      refine hv_iremN C dL_settles_121 (by omega) (by omega) (by omega) ?_
                      refine hv_iaddN C dL_settles_122 ?_
                      refine hl_ald (k := 3) (i := (8 * (f_bey A j (i / 8))) + (i % 8)) (x := (nI (A 11 (8 * f_bey A j (i / 8) + i % 8)) + (-1))) C hS10 hq (by decide) (show (8 * (f_bey A j (i / 8))) + (i % 8) < 64 by omega) (Fn_3 F A (by omega)) dL_settles_123 ?_
                      refine hv_goto (tgt := 128) C dL_settles_124 (by decide) ?_
                      exact k33 _ (by rw [if_pos (by omega)])
