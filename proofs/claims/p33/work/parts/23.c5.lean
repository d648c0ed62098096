def f_dd (A : ab_A) (t n : Nat) : ab_A := fun k i => if k = 0 then (if i < 8 then (if i < n then f_left (A 0 i) (t + 1) else f_left (A 0 i) t) else A 0 i) else A k i
theorem dd_0 {A : ab_A} (h : ∀ b, b < 8 → 5 ≤ A 0 b) : A = f_dd A 0 0 := by
  funext k i
  unfold f_dd
  by_cases hk : k = 0
  · subst hk
    rw [if_pos rfl]
    by_cases hi : i < 8
    · rw [if_pos hi, if_neg (Nat.not_lt_zero i)]
      have := h i hi
      unfold f_left
      rw [if_neg (by omega)]
      omega
    · rw [if_neg hi]
  · rw [if_neg hk]
theorem dd_at (A : ab_A) (t : Nat) {n : Nat} (hn : n < 8) : f_dd A t n 0 n = f_left (A 0 n) t := by simp [f_dd, hn]
theorem dd_s {A : ab_A} {t n : Nat} (hn : n < 8) (h5 : 5 ≤ A 0 n) : au (f_dd A t n) 0 n (max 5 (f_dd A t n 0 n - 3)) = f_dd A t (n + 1) := by
  rw [dd_at A t hn]
  have e : max 5 (f_left (A 0 n) t - 3) = f_left (A 0 n) (t + 1) := by
    unfold f_left
    split <;> split <;> omega
  rw [e]
  funext k i
  by_cases hk : k = 0
  · subst hk
    show (if i = n then _ else if i < 8 then (if i < n then _ else _) else _) = (if i < 8 then (if i < n + 1 then _ else _) else _)
    by_cases hi : i = n
    · subst hi
      rw [if_pos rfl, if_pos hn, if_pos (by omega)]
    · rw [if_neg hi]
      by_cases h8 : i < 8
      · rw [if_pos h8, if_pos h8]
        by_cases h9 : i < n
        · rw [if_pos h9, if_pos (by omega)]
        · rw [if_neg h9, if_neg (by omega)]
      · rw [if_neg h8, if_neg h8]
  · simp only [au, f_dd, if_neg hk]
theorem dd_8 (A : ab_A) (t : Nat) : f_dd A t 8 = f_dd A (t + 1) 0 := by
  funext k i
  unfold f_dd
  by_cases hk : k = 0
  · rw [if_pos hk, if_pos hk]
    by_cases h8 : i < 8
    · rw [if_pos h8, if_pos h8, if_pos h8, if_neg (Nat.not_lt_zero i)]
    · rw [if_neg h8, if_neg h8]
  · rw [if_neg hk, if_neg hk]
theorem dd_dry (A : ab_A) (d : Nat) : f_dd A d 0 = f_dry A d 8 := by
  funext k i
  by_cases hk : k = 0
  · subst hk
    show (if i < 8 then (if i < 0 then _ else _) else _) = _
    by_cases h8 : i < 8
    · rw [if_pos h8, if_neg (Nat.not_lt_zero i), f_dry_at A d h8]
    · rw [if_neg h8, f_dry_ge A d (by omega)]
  · rw [f_dry_k A d 8 hk]
    simp only [f_dd, if_neg hk]
theorem dd_le {A : ab_A} (h : ∀ b, b < 8 → A 0 b ≤ 200) (t : Nat) {n b : Nat} (hb : b < 8) : f_dd A t n 0 b ≤ 200 := by
  show (if b < 8 then (if b < n then _ else _) else _) ≤ 200
  rw [if_pos hb]
  split
  · exact f_left_le _ _ (h b hb)
  · exact f_left_le _ _ (h b hb)
set_option maxRecDepth 100000 in
set_option maxHeartbeats 4000000 in
theorem c_X4_dry (l : Launch) (w : hv_W) (g : cl_g) (A Z : ab_A) (Y0 : hv_H) (hg : cl_ok g (A 4 0) (A 15 0)) (hlt : l.stackTraces = false) (hI : ab_I A) (hZ : cl_Z A Z) (hF : cl_F g Y0) (x : Int32)  : hv_Nr l yX4_dry wsX4_dry ({ frames := 7, cells := 6, slots := 40, locals := 152 }) w [.ref (g.1 0 0), .int (x)] (cl_Y w g A Z Y0) (fun r Y1 => (q_dry A x).1 = 0 ∧ r = .int (q_dry A x).2.1 ∧ cl_S w (g.1 0 0) Y0 (q_dry A x).2.2 Y1) (fun E Y1 => ec 3 E (q_dry A x).1 ∧ Y1 = cl_Y w g A Z Y0) := by
  refine hv_ofVx (cc := cX4_dry) (own := RX4) (by decide) rfl rfl (Nat.le_of_ble_eq_true rfl) rfl ?_
  intro p e s m below meth c C hret hex
  have hinX4 : ∀ x ∈ wsX40, x ∈ wsX4_dry := by decide +kernel
  refine hv_iload_n C dX4_dry_0 rfl 1 rfl ?_
  refine hv_iconst (v := nI 1) C dX4_dry_1 (by decide) ?_
  refine hv_bipush (v := nI 50) C dX4_dry_2 (by decide) ?_
  refine hv_callSvx (As := [.int (x), .int (nI 1), .int (nI 50)]) (rest := []) (n := 3) C (c_X4_requireRange l w hlt (cl_Y w g A Z Y0) x 1 50 (by decide) (by decide)) gX4_dry_X4_requireRange rfl (by decide +kernel) ⟨Nat.le_of_ble_eq_true rfl, Nat.le_of_ble_eq_true rfl⟩ rfl rfl (Nat.le_of_ble_eq_true rfl) dX4_dry_4 ⟨by first | exact Nat.le_of_ble_eq_true rfl | omega | (simp; done) | (simp; omega), by first | exact Nat.le_of_ble_eq_true rfl | omega | (simp; done) | (simp; omega)⟩ (fun E Y1 h => ⟨(⟨h.1, (by first | (simp [q_dry, h.2.1]; done) | (unfold q_dry; (repeat' split) <;> simp_all))⟩), h.2.2⟩) hex (by first | exact Nat.le_of_ble_eq_true rfl | omega) (by first | exact Nat.le_of_ble_eq_true rfl | omega) (fun Y1 hr => ?_)
  obtain ⟨⟨d, hx⟩, rfl⟩ := hr
  obtain ⟨hd, hd2, rfl⟩ := rg_s (by decide) (by decide) hx
  refine hv_iconst (v := nI 0) C dX4_dry_7 (by decide) ?_
  refine hv_istore_n (lv1 := [(0, .ref (g.1 0 0)), (1, .int (nI d)), (2, .int (nI 0))]) C dX4_dry_8 rfl (by decide) [1, 2, 0] rfl ?_
  refine hv_fin ?_ (cl_Aeq (dd_0 (fun b hb => (hI.1 b hb).1))) rfl
  refine hv_loop d (fun t => cl_Y w g (f_dd A t 0) Z Y0) (fun t => [(0, .ref (g.1 0 0)), (1, .int (nI d)), (2, .int (nI t))]) ?_ ?_
  · skip
    refine hv_iload_n C dX4_dry_9 rfl 2 rfl ?_
    refine hv_iload_n C dX4_dry_10 rfl 1 rfl ?_
    refine hv_icmpN_ge (tgt := 43) C dX4_dry_11 (by decide) (by omega) (by omega) (fun h2 => ?_) (fun h2 => ?_)
    · skip
      refine hv_aload_n C dX4_dry_43 rfl 0 rfl ?_
      refine hv_callVr (As := []) (rest := []) (n := 0) C (c_X4_countLowBasins l w g (f_dd A d 0) Z Y0 hg (fun b hb => dd_le (fun b hb => (hI.1 b hb).2.1) d hb)) gX4_dry_X4_countLowBasins rfl (by decide +kernel) ⟨Nat.le_of_ble_eq_true rfl, Nat.le_of_ble_eq_true rfl⟩ (cl_rc hg (Or.inl ⟨by decide, rfl⟩) rfl rfl) rfl rfl (Nat.le_of_ble_eq_true rfl) dX4_dry_44 ⟨by first | exact Nat.le_of_ble_eq_true rfl | omega | (simp; done) | (simp; omega), by first | exact Nat.le_of_ble_eq_true rfl | omega | (simp; done) | (simp; omega)⟩ (fun r3 Y1 hr => ?_)
      obtain ⟨rfl, rfl⟩ := hr
      exact hv_iretx C hret dX4_dry_47 (by first | exact Nat.le_refl _ | decide | omega | (simp; done) | (simp; omega)) (by first | exact Nat.le_refl _ | decide | omega | (simp; done) | (simp; omega)) (by rw [show q_dry A (nI d) = (0, nI (f_low (f_dry A d 8) 8), f_dry A d 8) from by simp only [q_dry, hx], ← dd_dry]; exact ⟨rfl, rfl, ⟨g, Z, hg, hZ, hF, rfl, rfl⟩⟩)
    · skip
      exact absurd h2 (by omega)
  · intro t ht ih
    refine hv_iload_n C dX4_dry_9 rfl 2 rfl ?_
    refine hv_iload_n C dX4_dry_10 rfl 1 rfl ?_
    refine hv_icmpN_ge (tgt := 43) C dX4_dry_11 (by decide) (by omega) (by omega) (fun h4 => ?_) (fun h4 => ?_)
    · skip
      exact absurd h4 (by omega)
    · skip
      refine hv_iconst (v := nI 0) C dX4_dry_14 (by decide) ?_
      refine hv_istore_n (lv1 := [(0, .ref (g.1 0 0)), (1, .int (nI d)), (2, .int (nI t)), (3, .int (nI 0))]) C dX4_dry_15 rfl (by decide) [1, 2, 3, 0] rfl ?_
      refine hv_loop 8 (fun k => cl_Y w g (f_dd A t k) Z Y0) (fun k => [(0, .ref (g.1 0 0)), (1, .int (nI d)), (2, .int (nI t)), (3, .int (nI k))]) ?_ ?_
      · skip
        refine hv_iload_n C dX4_dry_16 rfl 3 rfl ?_
        refine hv_bipush (v := nI 8) C dX4_dry_17 (by decide) ?_
        refine hv_icmpN_ge (tgt := 37) C dX4_dry_19 (by decide) (by omega) (by omega) (fun _ => ?_) (fun h => absurd h (by decide))
        refine hv_iinc (v := nI (t + 1)) (lv1 := [(0, .ref (g.1 0 0)), (1, .int (nI d)), (2, .int (nI (t + 1))), (3, .int (nI 8))]) C dX4_dry_37 (k := 2) rfl (nI_1 _) (by decide) [1, 2, 0, 3] rfl ?_
        refine hv_goto (tgt := 9) C dX4_dry_40 (by decide) ?_
        exact hv_sub (lv1 := [(0, .ref (g.1 0 0)), (1, .int (nI d)), (2, .int (nI (t + 1)))]) [0, 1, 2] rfl (hv_fin ih (cl_Aeq (dd_8 A t)) rfl)
      · intro k hk ihk
        have h5k := (hI.1 k hk).1
        refine hv_iload_n C dX4_dry_16 rfl 3 rfl ?_
        refine hv_bipush (v := nI 8) C dX4_dry_17 (by decide) ?_
        refine hv_icmpN_ge (tgt := 37) C dX4_dry_19 (by decide) (by omega) (by omega) (fun h6 => ?_) (fun h6 => ?_)
        · skip
          exact absurd h6 (by omega)
        · skip
          refine hv_aload_n C dX4_dry_22 rfl 0 rfl ?_
          refine hc_get (kd := 0) (i := 0) (f := 0) (v := .ref (g.1 1 0)) C hg (Or.inl ⟨by decide, rfl⟩) rfl rfl hinX4 (by decide) (by decide +kernel) rfl rfl dX4_dry_23 ?_
          refine hv_iload_n C dX4_dry_26 rfl 3 rfl ?_
          refine hc_bas (j := k) C hg (by omega) dX4_dry_27 ?_
          refine hv_callVv (As := []) (rest := []) (n := 0) C (c_X1_loseDryDayWater l w g (f_dd A t k) Z Y0 hg k hk (by rw [dd_at A t hk]; exact f_left_ge _ _) (dd_le (fun b hb => (hI.1 b hb).2.1) t hk)) gX4_dry_X1_loseDryDayWater rfl (by decide +kernel) ⟨Nat.le_of_ble_eq_true rfl, Nat.le_of_ble_eq_true rfl⟩ (cl_rc hg (Or.inr (Or.inl ⟨by decide, by decide, by omega⟩)) rfl rfl) rfl rfl (Nat.le_of_ble_eq_true rfl) dX4_dry_28 ⟨by first | exact Nat.le_of_ble_eq_true rfl | omega | (simp; done) | (simp; omega), by first | exact Nat.le_of_ble_eq_true rfl | omega | (simp; done) | (simp; omega)⟩ (fun Y1 hr => ?_)
          subst hr
          refine hv_fin ?_ (cl_Aeq (dd_s hk h5k)) rfl
          refine hv_iinc (v := nI (k + 1)) (lv1 := [(0, .ref (g.1 0 0)), (1, .int (nI d)), (2, .int (nI t)), (3, .int (nI (k + 1)))]) C dX4_dry_31 (k := 3) rfl (nI_1 _) (by decide) [1, 2, 3, 0] rfl ?_
          refine hv_goto (tgt := 16) C dX4_dry_34 (by decide) ?_
          exact ihk
theorem zn_le (A Z : ab_A) (n : Nat) : (∀ k, k < 64 → f_zn A Z n 1 k ≤ 41) ∧ ∀ k, k < 64 → f_zn A Z n 2 k ≤ n := by
  constructor
  · intro k hk
    rw [zn_1, if_pos (by omega)]
    exact (f_ent_le A _ _ n).1
  · intro k hk
    rw [zn_2, if_pos (by omega)]
    exact (f_ent_le A _ _ n).2.1
theorem dfs_64 (A Z : ab_A) : f_dfs A (f_zn A Z (A 4 0)) 8 = f_chg A 64 := f_dfs_chg A Z 8 (Nat.le_refl 8)
set_option maxRecDepth 100000 in
set_option maxHeartbeats 4000000 in
theorem c_X4_areStill (l : Launch) (w : hv_W) (g : cl_g) (A Z : ab_A) (Y0 : hv_H) (hg : cl_ok g (A 4 0) (A 15 0)) (hI : ab_I A) (hZ : cl_Z A Z) (hF : cl_F g Y0)  : hv_Mr l yX4_areStill wsX4_areStill ({ frames := 5, cells := 0, slots := 0, locals := 126 }) w [.ref (g.1 0 0)] (cl_Y w g A Z Y0) (fun r Y1 => r = .int (nI (b2 (f_chg A 64 = 0))) ∧ cl_S w (g.1 0 0) Y0 A Y1) := by
  refine hv_ofV (cc := cX4_areStill) (own := RX4) (by decide) rfl rfl (Nat.le_of_ble_eq_true rfl) rfl ?_
  intro p e s m below meth c C hret hnm
  refine hv_aload_n C dX4_areStill_0 rfl 0 rfl ?_
  refine hv_callVv (As := []) (rest := []) (n := 0) C (c_X4_prepareNextTables l w g A Z Y0 hg hI hZ.1) gX4_areStill_X4_prepareNextTables rfl (by decide +kernel) ⟨Nat.le_of_ble_eq_true rfl, Nat.le_of_ble_eq_true rfl⟩ (cl_rc hg (Or.inl ⟨by decide, rfl⟩) rfl rfl) rfl rfl (Nat.le_of_ble_eq_true rfl) dX4_areStill_1 ⟨by first | exact Nat.le_of_ble_eq_true rfl | omega | (simp; done) | (simp; omega), by first | exact Nat.le_of_ble_eq_true rfl | omega | (simp; done) | (simp; omega)⟩ (fun Y1 hr => ?_)
  subst hr
  refine hv_aload_n C dX4_areStill_4 rfl 0 rfl ?_
  refine hv_callVr (As := []) (rest := []) (n := 0) C (c_X4_countNextChanges l w g A (f_zn A Z (A 4 0)) Y0 hg hI (fun i hi => hZ.1 i hi) (zn_le _ _ _).1 (zn_le _ _ _).2) gX4_areStill_X4_countNextChanges rfl (by decide +kernel) ⟨Nat.le_of_ble_eq_true rfl, Nat.le_of_ble_eq_true rfl⟩ (cl_rc hg (Or.inl ⟨by decide, rfl⟩) rfl rfl) rfl rfl (Nat.le_of_ble_eq_true rfl) dX4_areStill_5 ⟨by first | exact Nat.le_of_ble_eq_true rfl | omega | (simp; done) | (simp; omega), by first | exact Nat.le_of_ble_eq_true rfl | omega | (simp; done) | (simp; omega)⟩ (fun r2 Y1 hr => ?_)
  obtain ⟨rfl, rfl⟩ := hr
  refine hv_top (y := nI (f_chg A 64)) (by rw [dfs_64]) ?_
  have hcl := f_chg_le A 64
  refine hv_ifN_ne (tgt := 15) C dX4_areStill_8 (by decide) (by omega) (fun h3 => ?_) (fun h3 => ?_)
  · skip
    refine hv_iconst (v := nI 0) C dX4_areStill_15 (by decide) ?_
    exact hv_zret C hret (by decide) dX4_areStill_16 (by first | exact Nat.le_refl _ | decide | omega | (simp; done) | (simp; omega)) (by first | exact Nat.le_refl _ | decide | omega | (simp; done) | (simp; omega)) ⟨by first | (rw [b2_t (by omega)]) | (rw [b2_f (by omega)]), ⟨g, f_zn A Z (A 4 0), hg, ⟨fun i hi => hZ.1 i hi, (zn_le _ _ _).2⟩, hF, rfl, rfl⟩⟩
  · skip
    refine hv_iconst (v := nI 1) C dX4_areStill_11 (by decide) ?_
    refine hv_goto (tgt := 16) C dX4_areStill_12 (by decide) ?_
    exact hv_zret C hret (by decide) dX4_areStill_16 (by first | exact Nat.le_refl _ | decide | omega | (simp; done) | (simp; omega)) (by first | exact Nat.le_refl _ | decide | omega | (simp; done) | (simp; omega)) ⟨by first | (rw [b2_t (by omega)]) | (rw [b2_f (by omega)]), ⟨g, f_zn A Z (A 4 0), hg, ⟨fun i hi => hZ.1 i hi, (zn_le _ _ _).2⟩, hF, rfl, rfl⟩⟩
def f_tA (A Z : ab_A) (n : Nat) : ab_A := fun k i => if k = 11 then (if i / 8 < n then Z 1 i else A 11 i) else if k = 12 then (if i / 8 < n then Z 2 i else A 12 i) else A k i
def f_tZ (A Z : ab_A) (n : Nat) : ab_A := fun s i => if s = 0 then (if i < n then 1 - Z 0 i else Z 0 i) else if s = 1 then (if i / 8 < n then A 11 i else Z 1 i) else if s = 2 then (if i / 8 < n then A 12 i else Z 2 i) else Z s i
theorem tA_0 (A Z : ab_A) : A = f_tA A Z 0 := by
  funext k i
  unfold f_tA
  by_cases h : k = 11
  · rw [if_pos h, if_neg (by omega), h]
  · by_cases h2 : k = 12
    · rw [if_neg h, if_pos h2, if_neg (by omega), h2]
    · rw [if_neg h, if_neg h2]
theorem tZ_0 (A Z : ab_A) : Z = f_tZ A Z 0 := by
  funext k i
  unfold f_tZ
  by_cases h : k = 0
  · rw [if_pos h, if_neg (by omega), h]
  · by_cases h1 : k = 1
    · rw [if_neg h, if_pos h1, if_neg (by omega), h1]
    · by_cases h2 : k = 2
      · rw [if_neg h, if_neg h1, if_pos h2, if_neg (by omega), h2]
      · rw [if_neg h, if_neg h1, if_neg h2]
theorem nlt_s {x n : Nat} (h : x ≠ n) : x < n + 1 ↔ x < n := by omega
theorem tA_s (A Z : ab_A) (n : Nat) : f_tuA (f_tA A Z n) (f_tZ A Z n) n = f_tA A Z (n + 1) := by
  funext k i
  by_cases h : k = 11
  · subst h
    show (if i / 8 = n then (if i / 8 < n then A 11 i else Z 1 i) else (if i / 8 < n then Z 1 i else A 11 i)) = (if i / 8 < n + 1 then Z 1 i else A 11 i)
    by_cases q : i / 8 = n
    · rw [if_pos q, if_neg (by omega), if_pos (by omega)]
    · simp only [if_neg q, nlt_s q]
  · by_cases h2 : k = 12
    · subst h2
      show (if i / 8 = n then (if i / 8 < n then A 12 i else Z 2 i) else (if i / 8 < n then Z 2 i else A 12 i)) = (if i / 8 < n + 1 then Z 2 i else A 12 i)
      by_cases q : i / 8 = n
      · rw [if_pos q, if_neg (by omega), if_pos (by omega)]
      · simp only [if_neg q, nlt_s q]
    · simp only [f_tuA, f_tA, if_neg h, if_neg h2]
theorem tZ_s (A Z : ab_A) (n : Nat) : f_tuZ (f_tA A Z n) (f_tZ A Z n) n = f_tZ A Z (n + 1) := by
  funext k i
  by_cases h : k = 0
  · subst h
    show (if i = n then 1 - (if n < n then 1 - Z 0 n else Z 0 n) else (if i < n then 1 - Z 0 i else Z 0 i)) = (if i < n + 1 then 1 - Z 0 i else Z 0 i)
    by_cases q : i = n
    · rw [if_pos q, if_neg (Nat.lt_irrefl n), if_pos (by omega), q]
    · simp only [if_neg q, nlt_s q]
  · by_cases h1 : k = 1
    · subst h1
      show (if i / 8 = n then (if i / 8 < n then Z 1 i else A 11 i) else (if i / 8 < n then A 11 i else Z 1 i)) = (if i / 8 < n + 1 then A 11 i else Z 1 i)
      by_cases q : i / 8 = n
      · rw [if_pos q, if_neg (by omega), if_pos (by omega)]
      · simp only [if_neg q, nlt_s q]
    · by_cases h2 : k = 2
      · subst h2
        show (if i / 8 = n then (if i / 8 < n then Z 2 i else A 12 i) else (if i / 8 < n then A 12 i else Z 2 i)) = (if i / 8 < n + 1 then A 12 i else Z 2 i)
        by_cases q : i / 8 = n
        · rw [if_pos q, if_neg (by omega), if_pos (by omega)]
        · simp only [if_neg q, nlt_s q]
      · simp only [f_tuZ, f_tZ, if_neg h, if_neg h1, if_neg h2]
theorem tA_8 (A Z : ab_A) : ∀ s, s ≠ 13 → s ≠ 14 → f_tick A s = f_tA A (f_zn A Z (A 4 0)) 8 s := by
  intro s h3 h4
  funext i
  by_cases h : s = 11
  · subst h
    show _ = (if i / 8 < 8 then (if i / 8 < 8 then (f_ent A (i / 8) (i % 8) (A 4 0)).1 else Z 1 i) else A 11 i)
    by_cases q : i / 8 < 8
    · rw [if_pos q, if_pos q]
      simp [f_tick, f_nf, show i < 64 by omega]
    · rw [if_neg q]
      simp [f_tick, show ¬ i < 64 by omega]
  · by_cases h2 : s = 12
    · subst h2
      show _ = (if i / 8 < 8 then (if i / 8 < 8 then (f_ent A (i / 8) (i % 8) (A 4 0)).2 else Z 2 i) else A 12 i)
      by_cases q : i / 8 < 8
      · rw [if_pos q, if_pos q]
        simp [f_tick, f_nb, show i < 64 by omega]
      · rw [if_neg q]
        simp [f_tick, show ¬ i < 64 by omega]
    · simp [f_tick, f_tA, h, h2, h3, h4]
theorem tZ_ok {A Z : ab_A} (hI : ab_I A) (hz : ∀ i, i < 8 → Z 0 i ≤ 1) : cl_Z (f_tick A) (f_tZ A Z 8) := by
  constructor
  · intro i hi
    have := hz i hi
    show (if i < 8 then 1 - Z 0 i else Z 0 i) ≤ 1
    split <;> omega
  · intro k hk
    have h := (hI.2.2.2.2.2.1 (k / 8) (k % 8) (by omega) (by omega)).2.1
    rw [show 8 * (k / 8) + k % 8 = k by omega] at h
    show (if k / 8 < 8 then A 12 k else Z 2 k) ≤ f_tick A 4 0
    rw [if_pos (by omega)]
    exact h
set_option maxRecDepth 100000 in
set_option maxHeartbeats 4000000 in
theorem c_X4_settle (l : Launch) (w : hv_W) (g : cl_g) (A Z : ab_A) (Y0 : hv_H) (hg : cl_ok g (A 4 0) (A 15 0)) (hlt : l.stackTraces = false) (hI : ab_I A) (hZ : cl_Z A Z) (hF : cl_F g Y0) (x : Int32)  : hv_Nr l yX4_settle wsX4_settle ({ frames := 7, cells := 6, slots := 40, locals := 152 }) w [.ref (g.1 0 0), .int (x)] (cl_Y w g A Z Y0) (fun r Y1 => (q_settle A x).1 = 0 ∧ r = .int (q_settle A x).2.1 ∧ cl_S w (g.1 0 0) Y0 (q_settle A x).2.2 Y1) (fun E Y1 => ec 3 E (q_settle A x).1 ∧ Y1 = cl_Y w g A Z Y0) := by
  refine hv_ofVx (cc := cX4_settle) (own := RX4) (by decide) rfl rfl (Nat.le_of_ble_eq_true rfl) rfl ?_
  intro p e s m below meth c C hret hex
  have hinX4 : ∀ x ∈ wsX40, x ∈ wsX4_settle := by decide +kernel
  refine hv_iload_n C dX4_settle_0 rfl 1 rfl ?_
  refine hv_iconst (v := nI 1) C dX4_settle_1 (by decide) ?_
  refine hv_bipush (v := nI 50) C dX4_settle_2 (by decide) ?_
  refine hv_callSvx (As := [.int (x), .int (nI 1), .int (nI 50)]) (rest := []) (n := 3) C (c_X4_requireRange l w hlt (cl_Y w g A Z Y0) x 1 50 (by decide) (by decide)) gX4_settle_X4_requireRange rfl (by decide +kernel) ⟨Nat.le_of_ble_eq_true rfl, Nat.le_of_ble_eq_true rfl⟩ rfl rfl (Nat.le_of_ble_eq_true rfl) dX4_settle_4 ⟨by first | exact Nat.le_of_ble_eq_true rfl | omega | (simp; done) | (simp; omega), by first | exact Nat.le_of_ble_eq_true rfl | omega | (simp; done) | (simp; omega)⟩ (fun E Y1 h => ⟨(⟨h.1, (by first | (simp [q_settle, h.2.1]; done) | (unfold q_settle; (repeat' split) <;> simp_all))⟩), h.2.2⟩) hex (by first | exact Nat.le_of_ble_eq_true rfl | omega) (by first | exact Nat.le_of_ble_eq_true rfl | omega) (fun Y1 hr => ?_)
  obtain ⟨⟨t, hx⟩, rfl⟩ := hr
  obtain ⟨ht, ht2, rfl⟩ := rg_s (by decide) (by decide) hx
  refine hv_iconst (v := nI 0) C dX4_settle_7 (by decide) ?_
  refine hv_istore_n (lv1 := [(0, .ref (g.1 0 0)), (1, .int (nI t)), (2, .int (nI 0))]) C dX4_settle_8 rfl (by decide) [1, 2, 0] rfl ?_
  refine hv_iconst (v := nI 0) C dX4_settle_9 (by decide) ?_
  refine hv_istore_n (lv1 := [(0, .ref (g.1 0 0)), (1, .int (nI t)), (2, .int (nI 0)), (3, .int (nI 0))]) C dX4_settle_10 rfl (by decide) [1, 2, 3, 0] rfl ?_
  refine hv_loopP (σ := ab_A) t (fun i z => cl_Y w g (f_ticks A i) z Y0) (fun i z => [(0, .ref (g.1 0 0)), (1, .int (nI t)), (2, .int (nI (f_chd A i))), (3, .int (nI i))]) (fun i z => cl_Z (f_ticks A i) z) ?_ ?_ Z hZ
  · intro z hz
    have hgt : cl_ok g (f_ticks A t 4 0) (f_ticks A t 15 0) := by rw [f_ticks_k A t (k := 4) (by decide), f_ticks_k A t (k := 15) (by decide)]; exact hg
    refine hv_iload_n C dX4_settle_11 rfl 3 rfl ?_
    refine hv_iload_n C dX4_settle_12 rfl 1 rfl ?_
    refine hv_icmpN_ge (tgt := 57) C dX4_settle_13 (by decide) (by omega) (by omega) (fun h2 => ?_) (fun h2 => ?_)
    · skip
      refine hv_iload_n C dX4_settle_57 rfl 2 rfl ?_
      exact hv_iretx C hret dX4_settle_58 (by first | exact Nat.le_refl _ | decide | omega | (simp; done) | (simp; omega)) (by first | exact Nat.le_refl _ | decide | omega | (simp; done) | (simp; omega)) (by rw [show q_settle A (nI t) = (0, nI (f_chg (f_ticks A (t - 1)) 64), f_ticks A t) from by simp only [q_settle, hx]]; exact ⟨rfl, by obtain ⟨t9, rfl⟩ : ∃ z, t = z + 1 := ⟨t - 1, by omega⟩; rfl, ⟨g, z, hgt, hz, hF, rfl, rfl⟩⟩)
    · skip
      exact absurd h2 (by omega)
  · intro i z hi hz ih
    have hgi : cl_ok g ((f_ticks A i) 4 0) ((f_ticks A i) 15 0) := by rw [f_ticks_k A i (k := 4) (by decide), f_ticks_k A i (k := 15) (by decide)]; exact hg
    have hIi := I_ticks hI i
    refine hv_iload_n C dX4_settle_11 rfl 3 rfl ?_
    refine hv_iload_n C dX4_settle_12 rfl 1 rfl ?_
    refine hv_icmpN_ge (tgt := 57) C dX4_settle_13 (by decide) (by omega) (by omega) (fun h3 => ?_) (fun h3 => ?_)
    · skip
      exact absurd h3 (by omega)
    · skip
      refine hv_aload_n C dX4_settle_16 rfl 0 rfl ?_
      refine hv_callVv (As := []) (rest := []) (n := 0) C (c_X4_prepareNextTables l w g (f_ticks A i) z Y0 hgi hIi hz.1) gX4_settle_X4_prepareNextTables rfl (by decide +kernel) ⟨Nat.le_of_ble_eq_true rfl, Nat.le_of_ble_eq_true rfl⟩ (cl_rc hgi (Or.inl ⟨by decide, rfl⟩) rfl rfl) rfl rfl (Nat.le_of_ble_eq_true rfl) dX4_settle_17 ⟨by first | exact Nat.le_of_ble_eq_true rfl | omega | (simp; done) | (simp; omega), by first | exact Nat.le_of_ble_eq_true rfl | omega | (simp; done) | (simp; omega)⟩ (fun Y1 hr => ?_)
      subst hr
      refine hv_aload_n C dX4_settle_20 rfl 0 rfl ?_
      refine hv_callVr (As := []) (rest := []) (n := 0) C (c_X4_countNextChanges l w g (f_ticks A i) (f_zn (f_ticks A i) z ((f_ticks A i) 4 0)) Y0 hgi hIi (fun i hi => hz.1 i hi) (zn_le _ _ _).1 (zn_le _ _ _).2) gX4_settle_X4_countNextChanges rfl (by decide +kernel) ⟨Nat.le_of_ble_eq_true rfl, Nat.le_of_ble_eq_true rfl⟩ (cl_rc hgi (Or.inl ⟨by decide, rfl⟩) rfl rfl) rfl rfl (Nat.le_of_ble_eq_true rfl) dX4_settle_21 ⟨by first | exact Nat.le_of_ble_eq_true rfl | omega | (simp; done) | (simp; omega), by first | exact Nat.le_of_ble_eq_true rfl | omega | (simp; done) | (simp; omega)⟩ (fun r5 Y1 hr => ?_)
      obtain ⟨rfl, rfl⟩ := hr
      refine hv_top (y := nI (f_chg (f_ticks A i) 64)) (by rw [dfs_64]) ?_
      have hcl := f_chg_le (f_ticks A i) 64
      refine hv_istore_n (lv1 := [(0, .ref (g.1 0 0)), (1, .int (nI t)), (2, .int (nI (f_chg (f_ticks A i) 64))), (3, .int (nI i))]) C dX4_settle_24 rfl (by decide) [1, 2, 0, 3] rfl ?_
      refine hv_iconst (v := nI 0) C dX4_settle_25 (by decide) ?_
      refine hv_istore (lv1 := [(0, .ref (g.1 0 0)), (1, .int (nI t)), (2, .int (nI (f_chg (f_ticks A i) 64))), (3, .int (nI i)), (4, .int (nI 0))]) C dX4_settle_26 (by decide) [1, 2, 3, 4, 0] rfl ?_
      refine hv_fin ?_ (show _ = cl_Y w g (f_tA (f_ticks A i) (f_zn (f_ticks A i) z ((f_ticks A i) 4 0)) 0) (f_tZ (f_ticks A i) (f_zn (f_ticks A i) z ((f_ticks A i) 4 0)) 0) Y0 from by rw [← tA_0, ← tZ_0]) rfl
      refine hv_loop 8 (fun k => cl_Y w g (f_tA (f_ticks A i) (f_zn (f_ticks A i) z ((f_ticks A i) 4 0)) k) (f_tZ (f_ticks A i) (f_zn (f_ticks A i) z ((f_ticks A i) 4 0)) k) Y0) (fun k => [(0, .ref (g.1 0 0)), (1, .int (nI t)), (2, .int (nI (f_chg (f_ticks A i) 64))), (3, .int (nI i)), (4, .int (nI k))]) ?_ ?_
      · skip
        refine hv_iload C dX4_settle_28 4 rfl ?_
        refine hv_bipush (v := nI 8) C dX4_settle_30 (by decide) ?_
        refine hv_icmpN_ge (tgt := 51) C dX4_settle_32 (by decide) (by omega) (by omega) (fun _ => ?_) (fun h => absurd h (by decide))
        refine hv_iinc (v := nI (i + 1)) (lv1 := [(0, .ref (g.1 0 0)), (1, .int (nI t)), (2, .int (nI (f_chg (f_ticks A i) 64))), (3, .int (nI (i + 1))), (4, .int (nI 8))]) C dX4_settle_51 (k := 3) rfl (nI_1 _) (by decide) [1, 2, 3, 0, 4] rfl ?_
        refine hv_goto (tgt := 11) C dX4_settle_54 (by decide) ?_
        refine hv_fin (Y1 := cl_Y w g (f_tick (f_ticks A i)) (f_tZ (f_ticks A i) (f_zn (f_ticks A i) z ((f_ticks A i) 4 0)) 8) Y0) ?_ (cl_13 hgi (tA_8 (f_ticks A i) z)).symm rfl
        exact hv_sub (lv1 := [(0, .ref (g.1 0 0)), (1, .int (nI t)), (2, .int (nI (f_chg (f_ticks A i) 64))), (3, .int (nI (i + 1)))]) [0, 1, 2, 3] rfl (ih _ (tZ_ok hIi (fun i hi => hz.1 i hi)))
      · intro k hk ihk
        refine hv_iload C dX4_settle_28 4 rfl ?_
        refine hv_bipush (v := nI 8) C dX4_settle_30 (by decide) ?_
        refine hv_icmpN_ge (tgt := 51) C dX4_settle_32 (by decide) (by omega) (by omega) (fun h7 => ?_) (fun h7 => ?_)
        · skip
          exact absurd h7 (by omega)
        · skip
          refine hv_aload_n C dX4_settle_35 rfl 0 rfl ?_
          refine hc_get (kd := 0) (i := 0) (f := 0) (v := .ref (g.1 1 0)) C hgi (Or.inl ⟨by decide, rfl⟩) rfl rfl hinX4 (by decide) (by decide +kernel) rfl rfl dX4_settle_36 ?_
          refine hv_iload C dX4_settle_39 4 rfl ?_
          refine hc_bas (j := k) C hgi (by omega) dX4_settle_41 ?_
          refine hv_callVv (As := []) (rest := []) (n := 0) C (c_X1_turnTable l w g (f_tA (f_ticks A i) (f_zn (f_ticks A i) z ((f_ticks A i) 4 0)) k) (f_tZ (f_ticks A i) (f_zn (f_ticks A i) z ((f_ticks A i) 4 0)) k) Y0 hgi k hk (by show (if k < k then 1 - z 0 k else z 0 k) ≤ 1; rw [if_neg (Nat.lt_irrefl k)]; exact hz.1 k hk)) gX4_settle_X1_turnTable rfl (by decide +kernel) ⟨Nat.le_of_ble_eq_true rfl, Nat.le_of_ble_eq_true rfl⟩ (cl_rc hgi (Or.inr (Or.inl ⟨by decide, by decide, by omega⟩)) rfl rfl) rfl rfl (Nat.le_of_ble_eq_true rfl) dX4_settle_42 ⟨by first | exact Nat.le_of_ble_eq_true rfl | omega | (simp; done) | (simp; omega), by first | exact Nat.le_of_ble_eq_true rfl | omega | (simp; done) | (simp; omega)⟩ (fun Y1 hr => ?_)
          subst hr
          refine hv_fin ?_ (show _ = cl_Y w g (f_tA (f_ticks A i) (f_zn (f_ticks A i) z ((f_ticks A i) 4 0)) (k + 1)) (f_tZ (f_ticks A i) (f_zn (f_ticks A i) z ((f_ticks A i) 4 0)) (k + 1)) Y0 from by rw [← tA_s, ← tZ_s]) rfl
          refine hv_iinc (v := nI (k + 1)) (lv1 := [(0, .ref (g.1 0 0)), (1, .int (nI t)), (2, .int (nI (f_chg (f_ticks A i) 64))), (3, .int (nI i)), (4, .int (nI (k + 1)))]) C dX4_settle_45 (k := 4) rfl (nI_1 _) (by decide) [1, 2, 3, 4, 0] rfl ?_
          refine hv_goto (tgt := 28) C dX4_settle_48 (by decide) ?_
          exact ihk
def f_w3 (Z : ab_A) (T : Nat → Nat) : ab_A := fun s k => if s = 3 then (if k < 8 then T k else Z 3 k) else Z s k
theorem w3_3 {Z : ab_A} {T : Nat → Nat} {k : Nat} (h : k < 8) : f_w3 Z T 3 k = T k := if_pos h
theorem w3_x {Z : ab_A} {T : Nat → Nat} {a b c : Nat} (hb : b < 8) (h : T a ≠ 0 ∧ (T b = 0 ∨ T a - 1 + c < T b - 1)) : au (f_w3 Z T) 3 b (T a - 1 + c + 1) = f_w3 Z (f_xw T a b c) := by
  funext s k
  by_cases hs : s = 3
  · subst hs
    show (if k = b then T a - 1 + c + 1 else if k < 8 then T k else Z 3 k) = (if k < 8 then f_xw T a b c k else Z 3 k)
    unfold f_xw
    rw [if_pos h]
    by_cases hk : k = b
    · rw [if_pos hk, if_pos (by omega), if_pos hk]
    · rw [if_neg hk, if_neg hk]
  · simp only [au, f_w3, if_neg hs]
theorem w3_n {Z : ab_A} {T : Nat → Nat} {a b c : Nat} (h : ¬ (T a ≠ 0 ∧ (T b = 0 ∨ T a - 1 + c < T b - 1))) : f_w3 Z T = f_w3 Z (f_xw T a b c) := by
  have : f_xw T a b c = T := by
    funext k
    unfold f_xw
    rw [if_neg h]
  rw [this]
def f_w0 (Z : ab_A) (n : Nat) : ab_A := fun s k => if s = 3 then (if k < n then 0 else Z 3 k) else Z s k
theorem w0_0 (Z : ab_A) : Z = f_w0 Z 0 := by
  funext s k
  unfold f_w0
  by_cases hs : s = 3
  · rw [if_pos hs, if_neg (Nat.not_lt_zero k), hs]
  · rw [if_neg hs]
theorem w0_s (Z : ab_A) (n : Nat) : au (f_w0 Z n) 3 n 0 = f_w0 Z (n + 1) := by
  funext s k
  by_cases hs : s = 3
  · subst hs
    show (if k = n then 0 else if k < n then 0 else Z 3 k) = (if k < n + 1 then 0 else Z 3 k)
    by_cases q : k = n
    · rw [if_pos q, if_pos (by omega)]
    · simp only [if_neg q, nlt_s q]
  · simp only [au, f_w0, if_neg hs]
theorem w0_8 (Z : ab_A) (A : ab_A) {b : Nat} (hb : b < 8) : au (f_w0 Z 8) 3 b (0 + 1) = f_w3 Z (f_cr A b 0) := by
  funext s k
  by_cases hs : s = 3
  · subst hs
    show (if k = b then 0 + 1 else if k < 8 then 0 else Z 3 k) = (if k < 8 then (if k = b then 1 else 0) else Z 3 k)
    by_cases q : k = b
    · rw [if_pos q, if_pos (by omega), if_pos q]
    · rw [if_neg q, if_neg q]
  · simp only [au, f_w0, f_w3, if_neg hs]
theorem cr_o {A : ab_A} {b j r : Nat} (hj : r % A 4 0 = j) (h : A 9 j ≠ 0) : f_xw (f_xw (f_cr A b r) (A 5 j) (A 6 j) (f_cost A j)) (A 6 j) (A 5 j) (f_cost A j) = f_cr A b (r + 1) := by
  subst hj
  exact (if_pos h).symm
theorem cr_c {A : ab_A} {b j r : Nat} (hj : r % A 4 0 = j) (h : A 9 j = 0) : f_cr A b r = f_cr A b (r + 1) := by
  subst hj
  exact (if_neg (fun q => q h)).symm
set_option maxRecDepth 100000 in
set_option maxHeartbeats 4000000 in
theorem c_X4_extendWay (l : Launch) (w : hv_W) (g : cl_g) (A Z : ab_A) (Y0 : hv_H) (hg : cl_ok g (A 4 0) (A 15 0)) (T : Nat → Nat) (a b c9 : Nat) (ha : a < 8) (hb : b < 8) (hTa : T a < 2 ^ 20) (hTb : T b < 2 ^ 20) (hc9 : c9 ≤ 29) : hv_Mv l yX4_extendWay wsX4_extendWay ({ frames := 0, cells := 0, slots := 0, locals := 0 }) w [.ref (g.1 0 0), .ref (g.1 5 a), .ref (g.1 5 b), .int (nI c9)] (cl_Y w g A (f_w3 Z T) Y0) (fun Y1 => Y1 = cl_Y w g A (f_w3 Z (f_xw T a b c9)) Y0) := by
  refine hv_ofV (cc := cX4_extendWay) (own := RX4) (by decide) rfl rfl (Nat.le_of_ble_eq_true rfl) rfl ?_
  intro p e s m below meth c C hret hnm
  have hinX1 : ∀ x ∈ wsX10, x ∈ wsX4_extendWay := by decide +kernel
  have hinX4 : ∀ x ∈ wsX40, x ∈ wsX4_extendWay := by decide +kernel
  refine hv_aload_n C dX4_extendWay_0 rfl 0 rfl ?_
  refine hc_get (kd := 0) (i := 0) (f := 3) (v := .ref (g.1 4 0)) C hg (Or.inl ⟨by decide, rfl⟩) rfl rfl hinX4 (by decide) (by decide +kernel) rfl rfl dX4_extendWay_1 ?_
  refine hv_aload_n C dX4_extendWay_4 rfl 1 rfl ?_
  refine hc_get (kd := 5) (i := a) (f := 0) (v := .int (nI a)) C hg (Or.inr (Or.inl ⟨by decide, by decide, by omega⟩)) rfl rfl hinX1 (by decide) (by decide +kernel) rfl rfl dX4_extendWay_5 ?_
  refine hc_iald (kd := 4) (i := 0) (j := a) (x := (nI (T a) + (-1))) C hg (Or.inl ⟨by decide, rfl⟩) rfl (by decide) (by omega) (congrArg (fun q : Nat => (nI q + (-1) : Int32)) (w3_3 (by omega))) dX4_extendWay_8 ?_
  refine hv_istore (lv1 := [(0, .ref (g.1 0 0)), (1, .ref (g.1 5 a)), (2, .ref (g.1 5 b)), (3, .int (nI c9)), (4, .int (nI (T a) + (-1)))]) C dX4_extendWay_9 (by decide) [1, 2, 3, 4, 0] rfl ?_
  refine hv_iload C dX4_extendWay_11 4 rfl ?_
  refine hv_iconst (v := nI 0 + (-1)) C dX4_extendWay_13 (by decide) ?_
  refine hv_icmpE_ne (tgt := 18) C dX4_extendWay_14 (by decide) (by omega) (by omega) (fun h1 => ?_) (fun h1 => ?_)
  · skip
    refine hv_aload_n C dX4_extendWay_18 rfl 0 rfl ?_
    refine hc_get (kd := 0) (i := 0) (f := 3) (v := .ref (g.1 4 0)) C hg (Or.inl ⟨by decide, rfl⟩) rfl rfl hinX4 (by decide) (by decide +kernel) rfl rfl dX4_extendWay_19 ?_
    refine hv_aload_n C dX4_extendWay_22 rfl 2 rfl ?_
    refine hc_get (kd := 5) (i := b) (f := 0) (v := .int (nI b)) C hg (Or.inr (Or.inl ⟨by decide, by decide, by omega⟩)) rfl rfl hinX1 (by decide) (by decide +kernel) rfl rfl dX4_extendWay_23 ?_
    refine hc_iald (kd := 4) (i := 0) (j := b) (x := (nI (T b) + (-1))) C hg (Or.inl ⟨by decide, rfl⟩) rfl (by decide) (by omega) (congrArg (fun q : Nat => (nI q + (-1) : Int32)) (w3_3 (by omega))) dX4_extendWay_26 ?_
    refine hv_istore (lv1 := [(0, .ref (g.1 0 0)), (1, .ref (g.1 5 a)), (2, .ref (g.1 5 b)), (3, .int (nI c9)), (4, .int (nI (T a) + (-1))), (5, .int (nI (T b) + (-1)))]) C dX4_extendWay_27 (by decide) [1, 2, 3, 4, 5, 0] rfl ?_
    refine hv_iload C dX4_extendWay_29 5 rfl ?_
    refine hv_iconst (v := nI 0 + (-1)) C dX4_extendWay_31 (by decide) ?_
    refine hv_icmpE_eq (tgt := 44) C dX4_extendWay_32 (by decide) (by omega) (by omega) (fun h2 => ?_) (fun h2 => ?_)
    · skip
      refine hv_aload_n C dX4_extendWay_44 rfl 0 rfl ?_
      refine hc_get (kd := 0) (i := 0) (f := 3) (v := .ref (g.1 4 0)) C hg (Or.inl ⟨by decide, rfl⟩) rfl rfl hinX4 (by decide) (by decide +kernel) rfl rfl dX4_extendWay_45 ?_
      refine hv_aload_n C dX4_extendWay_48 rfl 2 rfl ?_
      refine hc_get (kd := 5) (i := b) (f := 0) (v := .int (nI b)) C hg (Or.inr (Or.inl ⟨by decide, by decide, by omega⟩)) rfl rfl hinX1 (by decide) (by decide +kernel) rfl rfl dX4_extendWay_49 ?_
      refine hv_iload C dX4_extendWay_52 4 rfl ?_
      refine hv_top (nI_em (by omega)) ?_
      refine hv_iload_n C dX4_extendWay_54 rfl 3 rfl ?_
      refine hv_iaddN C dX4_extendWay_55 ?_
      refine hc_iast3 (j := b) (v := (((T a) - 1) + c9) + 1) C hg (by omega) (nI_eS _) dX4_extendWay_56 ?_
      exact hv_vret C hret dX4_extendWay_57 (by first | exact Nat.le_refl _ | decide | omega | (simp; done) | (simp; omega)) (by first | exact Nat.le_refl _ | decide | omega | (simp; done) | (simp; omega)) (cl_Zeq (w3_x hb (by omega)))
    · skip
      refine hv_iload C dX4_extendWay_35 4 rfl ?_
      refine hv_top (nI_em (by omega)) ?_
      refine hv_iload_n C dX4_extendWay_37 rfl 3 rfl ?_
      refine hv_iaddN C dX4_extendWay_38 ?_
      refine hv_iload C dX4_extendWay_39 5 rfl ?_
      refine hv_top (nI_em (by omega)) ?_
      refine hv_icmpN_ge (tgt := 57) C dX4_extendWay_41 (by decide) (by omega) (by omega) (fun h3 => ?_) (fun h3 => ?_)
      · skip
        exact hv_vret C hret dX4_extendWay_57 (by first | exact Nat.le_refl _ | decide | omega | (simp; done) | (simp; omega)) (by first | exact Nat.le_refl _ | decide | omega | (simp; done) | (simp; omega)) (cl_Zeq (w3_n (by omega)))
      · skip
        refine hv_aload_n C dX4_extendWay_44 rfl 0 rfl ?_
        refine hc_get (kd := 0) (i := 0) (f := 3) (v := .ref (g.1 4 0)) C hg (Or.inl ⟨by decide, rfl⟩) rfl rfl hinX4 (by decide) (by decide +kernel) rfl rfl dX4_extendWay_45 ?_
        refine hv_aload_n C dX4_extendWay_48 rfl 2 rfl ?_
        refine hc_get (kd := 5) (i := b) (f := 0) (v := .int (nI b)) C hg (Or.inr (Or.inl ⟨by decide, by decide, by omega⟩)) rfl rfl hinX1 (by decide) (by decide +kernel) rfl rfl dX4_extendWay_49 ?_
        refine hv_iload C dX4_extendWay_52 4 rfl ?_
        refine hv_top (nI_em (by omega)) ?_
        refine hv_iload_n C dX4_extendWay_54 rfl 3 rfl ?_
        refine hv_iaddN C dX4_extendWay_55 ?_
        refine hc_iast3 (j := b) (v := (((T a) - 1) + c9) + 1) C hg (by omega) (nI_eS _) dX4_extendWay_56 ?_
        exact hv_vret C hret dX4_extendWay_57 (by first | exact Nat.le_refl _ | decide | omega | (simp; done) | (simp; omega)) (by first | exact Nat.le_refl _ | decide | omega | (simp; done) | (simp; omega)) (cl_Zeq (w3_x hb (by omega)))
  · skip
    exact hv_vret C hret dX4_extendWay_17 (by first | exact Nat.le_refl _ | decide | omega | (simp; done) | (simp; omega)) (by first | exact Nat.le_refl _ | decide | omega | (simp; done) | (simp; omega)) (cl_Zeq (w3_n (by omega)))
set_option maxRecDepth 100000 in
set_option maxHeartbeats 4000000 in
theorem c_X4_findCheapestWays (l : Launch) (w : hv_W) (g : cl_g) (A Z : ab_A) (Y0 : hv_H) (hg : cl_ok g (A 4 0) (A 15 0)) (hI : ab_I A) (b : Nat) (hb : b < 8) : hv_Mv l yX4_findCheapestWays wsX4_findCheapestWays ({ frames := 4, cells := 0, slots := 0, locals := 104 }) w [.ref (g.1 0 0), .ref (g.1 5 b)] (cl_Y w g A Z Y0) (fun Y1 => Y1 = cl_Y w g A (f_w3 Z (f_cr A b (7 * A 4 0))) Y0) := by
  refine hv_ofV (cc := cX4_findCheapestWays) (own := RX4) (by decide) rfl rfl (Nat.le_of_ble_eq_true rfl) rfl ?_
  intro p e s m below meth c C hret hnm
  have hinX1 : ∀ x ∈ wsX10, x ∈ wsX4_findCheapestWays := by decide +kernel
  have hinX2 : ∀ x ∈ wsX20, x ∈ wsX4_findCheapestWays := by decide +kernel
  have hinX4 : ∀ x ∈ wsX40, x ∈ wsX4_findCheapestWays := by decide +kernel
  have h14 := hI.2.2.2.1
  refine hv_iconst (v := nI 0) C dX4_findCheapestWays_0 (by decide) ?_
  refine hv_istore_n (lv1 := [(0, .ref (g.1 0 0)), (1, .ref (g.1 5 b)), (2, .int (nI 0))]) C dX4_findCheapestWays_1 rfl (by decide) [1, 2, 0] rfl ?_
  refine hv_fin ?_ (cl_Zeq (w0_0 Z)) rfl
  refine hv_loop 8 (fun q => cl_Y w g A (f_w0 Z q) Y0) (fun q => [(0, .ref (g.1 0 0)), (1, .ref (g.1 5 b)), (2, .int (nI q))]) ?_ ?_
  · skip
    refine hv_iload_n C dX4_findCheapestWays_2 rfl 2 rfl ?_
    refine hv_bipush (v := nI 8) C dX4_findCheapestWays_3 (by decide) ?_
    refine hv_icmpN_ge (tgt := 21) C dX4_findCheapestWays_5 (by decide) (by omega) (by omega) (fun _ => ?_) (fun h => absurd h (by decide))
    refine hv_aload_n C dX4_findCheapestWays_21 rfl 0 rfl ?_
    refine hc_get (kd := 0) (i := 0) (f := 3) (v := .ref (g.1 4 0)) C hg (Or.inl ⟨by decide, rfl⟩) rfl rfl hinX4 (by decide) (by decide +kernel) rfl rfl dX4_findCheapestWays_22 ?_
    refine hv_aload_n C dX4_findCheapestWays_25 rfl 1 rfl ?_
    refine hc_get (kd := 5) (i := b) (f := 0) (v := .int (nI b)) C hg (Or.inr (Or.inl ⟨by decide, by decide, by omega⟩)) rfl rfl hinX1 (by decide) (by decide +kernel) rfl rfl dX4_findCheapestWays_26 ?_
    refine hv_iconst (v := nI 0) C dX4_findCheapestWays_29 (by decide) ?_
    refine hc_iast3 (j := b) (v := 0 + 1) C hg (by omega) (nI_eS _) dX4_findCheapestWays_30 ?_
    refine hv_iconst (v := nI 1) C dX4_findCheapestWays_31 (by decide) ?_
    refine hv_istore_n (lv1 := [(0, .ref (g.1 0 0)), (1, .ref (g.1 5 b)), (2, .int (nI 1))]) C dX4_findCheapestWays_32 rfl (by decide) [1, 2, 0] rfl ?_
    refine hv_fin ?_ (cl_Zeq ((w0_8 Z A hb).trans (show f_w3 Z (f_cr A b 0) = f_w3 Z (f_cr A b (0 * A 4 0)) from by rw [Nat.zero_mul]))) rfl
    refine hv_loop 7 (fun t => cl_Y w g A (f_w3 Z (f_cr A b (t * A 4 0))) Y0) (fun t => [(0, .ref (g.1 0 0)), (1, .ref (g.1 5 b)), (2, .int (nI (t + 1)))]) ?_ ?_
    · skip
      refine hv_iload_n C dX4_findCheapestWays_33 rfl 2 rfl ?_
      refine hv_bipush (v := nI 8) C dX4_findCheapestWays_34 (by decide) ?_
      refine hv_icmpN_ge (tgt := 123) C dX4_findCheapestWays_36 (by decide) (by omega) (by omega) (fun h2 => ?_) (fun h2 => ?_)
      · skip
        exact hv_vret C hret dX4_findCheapestWays_123 (by first | exact Nat.le_refl _ | decide | omega | (simp; done) | (simp; omega)) (by first | exact Nat.le_refl _ | decide | omega | (simp; done) | (simp; omega)) rfl
      · skip
        exact absurd h2 (by omega)
    · intro t ht ih
      refine hv_iload_n C dX4_findCheapestWays_33 rfl 2 rfl ?_
      refine hv_bipush (v := nI 8) C dX4_findCheapestWays_34 (by decide) ?_
      refine hv_icmpN_ge (tgt := 123) C dX4_findCheapestWays_36 (by decide) (by omega) (by omega) (fun h3 => ?_) (fun h3 => ?_)
      · skip
        exact absurd h3 (by omega)
      · skip
        refine hv_iconst (v := nI 0) C dX4_findCheapestWays_39 (by decide) ?_
        refine hv_istore_n (lv1 := [(0, .ref (g.1 0 0)), (1, .ref (g.1 5 b)), (2, .int (nI (t + 1))), (3, .int (nI 0))]) C dX4_findCheapestWays_40 rfl (by decide) [1, 2, 3, 0] rfl ?_
        refine hv_loop (A 4 0) (fun i => cl_Y w g A (f_w3 Z (f_cr A b (t * A 4 0 + i))) Y0) (fun i => [(0, .ref (g.1 0 0)), (1, .ref (g.1 5 b)), (2, .int (nI (t + 1))), (3, .int (nI i))]) ?_ ?_
        · skip
          refine hv_iload_n C dX4_findCheapestWays_41 rfl 3 rfl ?_
          refine hv_aload_n C dX4_findCheapestWays_42 rfl 0 rfl ?_
          refine hc_get (kd := 0) (i := 0) (f := 1) (v := .ref (g.1 2 0)) C hg (Or.inl ⟨by decide, rfl⟩) rfl rfl hinX4 (by decide) (by decide +kernel) rfl rfl dX4_findCheapestWays_43 ?_
          refine hv_callVr (As := []) (rest := [.int (nI (A 4 0))]) (n := 0) C (c_Jx4a65c_size_8abf5 l w (cl_Y w g A (f_w3 Z (f_cr A b (t * A 4 0 + (A 4 0)))) Y0) (g.1 2 0) ((List.range (A 4 0)).map (g.1 13)) (show cl_Y w g A (f_w3 Z (f_cr A b (t * A 4 0 + (A 4 0)))) Y0 (g.1 2 0) = some (.inr ((List.range (A 4 0)).map (g.1 13))) from cl_at hg (Or.inl ⟨by decide, rfl⟩))) gX4_findCheapestWays_Jx4a65c_size_8abf5 rfl (by decide +kernel) ⟨Nat.le_of_ble_eq_true rfl, Nat.le_of_ble_eq_true rfl⟩ (cl_rcL hg (Or.inl ⟨by decide, rfl⟩) rfl) rfl rfl (Nat.le_of_ble_eq_true rfl) dX4_findCheapestWays_46 ⟨by first | exact Nat.le_of_ble_eq_true rfl | omega | (simp; done) | (simp; omega), by first | exact Nat.le_of_ble_eq_true rfl | omega | (simp; done) | (simp; omega)⟩ (fun r4 Y1 hr => ?_)
          obtain ⟨rfl, rfl⟩ := hr
          refine hv_top (y := nI (A 4 0)) (by rw [cl_lenM]) ?_
          refine hv_icmpN_ge (tgt := 117) C dX4_findCheapestWays_49 (by decide) (by omega) (by omega) (fun h5 => ?_) (fun h5 => ?_)
          · skip
            refine hv_iinc (v := nI (t + 1 + 1)) (lv1 := [(0, .ref (g.1 0 0)), (1, .ref (g.1 5 b)), (2, .int (nI (t + 1 + 1))), (3, .int (nI (A 4 0)))]) C dX4_findCheapestWays_117 (k := 2) rfl (nI_1 _) (by decide) [1, 2, 0, 3] rfl ?_
            refine hv_goto (tgt := 33) C dX4_findCheapestWays_120 (by decide) ?_
            exact hv_sub (lv1 := [(0, .ref (g.1 0 0)), (1, .ref (g.1 5 b)), (2, .int (nI (t + 1 + 1)))]) [0, 1, 2] rfl (hv_fin ih (cl_Zeq (by rw [Nat.succ_mul])) rfl)
          · skip
            exact absurd h5 (by omega)
        · intro i hi ih2
          obtain ⟨g1, g2, g3, g4, g5, g6, g7⟩ := hI.2.2.2.2.1 i hi
          have hco := f_cost_le hI hi
          have him : (t * A 4 0 + i) % A 4 0 = i := by rw [Nat.add_comm, Nat.add_mul_mod_self_right, Nat.mod_eq_of_lt hi]
          have h13 : t * A 4 0 ≤ 6 * 14 := Nat.mul_le_mul (by omega) h14
          have hcr := f_cr_le hI (by omega) b (t * A 4 0 + i)
          have hc5 := hcr (A 5 i)
          have hc6 := hcr (A 6 i)
          have hx5 := f_xw_le (a := A 5 i) (b := A 6 i) hco hcr (A 5 i)
          have hx6 := f_xw_le (a := A 5 i) (b := A 6 i) hco hcr (A 6 i)
          refine hv_iload_n C dX4_findCheapestWays_41 rfl 3 rfl ?_
          refine hv_aload_n C dX4_findCheapestWays_42 rfl 0 rfl ?_
          refine hc_get (kd := 0) (i := 0) (f := 1) (v := .ref (g.1 2 0)) C hg (Or.inl ⟨by decide, rfl⟩) rfl rfl hinX4 (by decide) (by decide +kernel) rfl rfl dX4_findCheapestWays_43 ?_
          refine hv_callVr (As := []) (rest := [.int (nI i)]) (n := 0) C (c_Jx4a65c_size_8abf5 l w (cl_Y w g A (f_w3 Z (f_cr A b (t * A 4 0 + i))) Y0) (g.1 2 0) ((List.range (A 4 0)).map (g.1 13)) (show cl_Y w g A (f_w3 Z (f_cr A b (t * A 4 0 + i))) Y0 (g.1 2 0) = some (.inr ((List.range (A 4 0)).map (g.1 13))) from cl_at hg (Or.inl ⟨by decide, rfl⟩))) gX4_findCheapestWays_Jx4a65c_size_8abf5 rfl (by decide +kernel) ⟨Nat.le_of_ble_eq_true rfl, Nat.le_of_ble_eq_true rfl⟩ (cl_rcL hg (Or.inl ⟨by decide, rfl⟩) rfl) rfl rfl (Nat.le_of_ble_eq_true rfl) dX4_findCheapestWays_46 ⟨by first | exact Nat.le_of_ble_eq_true rfl | omega | (simp; done) | (simp; omega), by first | exact Nat.le_of_ble_eq_true rfl | omega | (simp; done) | (simp; omega)⟩ (fun r6 Y1 hr => ?_)
          obtain ⟨rfl, rfl⟩ := hr
          refine hv_top (y := nI (A 4 0)) (by rw [cl_lenM]) ?_
          refine hv_icmpN_ge (tgt := 117) C dX4_findCheapestWays_49 (by decide) (by omega) (by omega) (fun h7 => ?_) (fun h7 => ?_)
          · skip
            exact absurd h7 (by omega)
          · skip
            refine hv_aload_n C dX4_findCheapestWays_52 rfl 0 rfl ?_
            refine hc_get (kd := 0) (i := 0) (f := 1) (v := .ref (g.1 2 0)) C hg (Or.inl ⟨by decide, rfl⟩) rfl rfl hinX4 (by decide) (by decide +kernel) rfl rfl dX4_findCheapestWays_53 ?_
            refine hv_iload_n C dX4_findCheapestWays_56 rfl 3 rfl ?_
            refine hv_callVr (As := [.int (nI i)]) (rest := []) (n := 1) C (c_Jx4a65c_get_915e3 l w (cl_Y w g A (f_w3 Z (f_cr A b (t * A 4 0 + i))) Y0) (g.1 2 0) ((List.range (A 4 0)).map (g.1 13)) (show cl_Y w g A (f_w3 Z (f_cr A b (t * A 4 0 + i))) Y0 (g.1 2 0) = some (.inr ((List.range (A 4 0)).map (g.1 13))) from cl_at hg (Or.inl ⟨by decide, rfl⟩)) (by rw [cl_lenM]; omega) i (g.1 13 i) (cl_getM (by omega))) gX4_findCheapestWays_Jx4a65c_get_915e3 rfl (by decide +kernel) ⟨Nat.le_of_ble_eq_true rfl, Nat.le_of_ble_eq_true rfl⟩ (cl_rcL hg (Or.inl ⟨by decide, rfl⟩) rfl) rfl rfl (Nat.le_of_ble_eq_true rfl) dX4_findCheapestWays_57 ⟨by first | exact Nat.le_of_ble_eq_true rfl | omega | (simp; done) | (simp; omega), by first | exact Nat.le_of_ble_eq_true rfl | omega | (simp; done) | (simp; omega)⟩ (fun r8 Y1 hr => ?_)
            obtain ⟨rfl, rfl⟩ := hr
            refine hv_cast (ci := 3) C rfl ((cl_at hg (Or.inr (Or.inr (Or.inl ⟨rfl, by omega⟩)))).trans rfl) (by decide +kernel) dX4_findCheapestWays_60 ?_
            refine hv_astore (lv1 := [(0, .ref (g.1 0 0)), (1, .ref (g.1 5 b)), (2, .int (nI (t + 1))), (3, .int (nI i)), (4, .ref (g.1 13 i))]) C dX4_findCheapestWays_63 (by decide) [1, 2, 3, 4, 0] rfl ?_
            refine hv_aload C dX4_findCheapestWays_65 4 rfl ?_
            refine hc_get (kd := 13) (i := i) (f := 5) (v := .int (nI (A 9 i))) C hg (Or.inr (Or.inr (Or.inl ⟨rfl, by omega⟩))) rfl rfl hinX2 (by decide) (by decide +kernel) rfl rfl dX4_findCheapestWays_67 ?_
            refine hv_ifN_eq (tgt := 111) C dX4_findCheapestWays_70 (by decide) (by omega) (fun h9 => ?_) (fun h9 => ?_)
            · skip
              refine hv_iinc (v := nI (i + 1)) (lv1 := [(0, .ref (g.1 0 0)), (1, .ref (g.1 5 b)), (2, .int (nI (t + 1))), (3, .int (nI (i + 1))), (4, .ref (g.1 13 i))]) C dX4_findCheapestWays_111 (k := 3) rfl (nI_1 _) (by decide) [1, 2, 3, 0, 4] rfl ?_
              refine hv_goto (tgt := 41) C dX4_findCheapestWays_114 (by decide) ?_
              exact hv_sub (lv1 := [(0, .ref (g.1 0 0)), (1, .ref (g.1 5 b)), (2, .int (nI (t + 1))), (3, .int (nI (i + 1)))]) [0, 1, 2, 3] rfl (hv_fin ih2 (cl_Zeq (congrArg (f_w3 Z) (cr_c him h9))) rfl)
            · skip
              refine hv_aload_n C dX4_findCheapestWays_73 rfl 0 rfl ?_
              refine hv_aload C dX4_findCheapestWays_74 4 rfl ?_
              refine hc_get (kd := 13) (i := i) (f := 1) (v := .ref (g.1 5 (A 5 i))) C hg (Or.inr (Or.inr (Or.inl ⟨rfl, by omega⟩))) rfl rfl hinX2 (by decide) (by decide +kernel) rfl rfl dX4_findCheapestWays_76 ?_
              refine hv_aload C dX4_findCheapestWays_79 4 rfl ?_
              refine hc_get (kd := 13) (i := i) (f := 2) (v := .ref (g.1 5 (A 6 i))) C hg (Or.inr (Or.inr (Or.inl ⟨rfl, by omega⟩))) rfl rfl hinX2 (by decide) (by decide +kernel) rfl rfl dX4_findCheapestWays_81 ?_
              refine hv_aload C dX4_findCheapestWays_84 4 rfl ?_
              refine hv_callVr (As := []) (rest := [.ref (g.1 5 (A 6 i)), .ref (g.1 5 (A 5 i)), .ref (g.1 0 0)]) (n := 0) C (c_X2_costNow l w g A (f_w3 Z (f_cr A b (t * A 4 0 + i))) Y0 hg i hi g1 g2 (fun b hb => (hI.1 b hb).2.1)) gX4_findCheapestWays_X2_costNow rfl (by decide +kernel) ⟨Nat.le_of_ble_eq_true rfl, Nat.le_of_ble_eq_true rfl⟩ (cl_rc hg (Or.inr (Or.inr (Or.inl ⟨rfl, by omega⟩))) rfl rfl) rfl rfl (Nat.le_of_ble_eq_true rfl) dX4_findCheapestWays_86 ⟨by first | exact Nat.le_of_ble_eq_true rfl | omega | (simp; done) | (simp; omega), by first | exact Nat.le_of_ble_eq_true rfl | omega | (simp; done) | (simp; omega)⟩ (fun r10 Y1 hr => ?_)
              obtain ⟨rfl, rfl⟩ := hr
              refine hv_callVv (As := [.ref (g.1 5 (A 5 i)), .ref (g.1 5 (A 6 i)), .int (nI (f_cost A i))]) (rest := []) (n := 3) C (c_X4_extendWay l w g A Z Y0 hg (f_cr A b (t * A 4 0 + i)) (A 5 i) (A 6 i) (f_cost A i) g1 g2 (by omega) (by omega) hco) gX4_findCheapestWays_X4_extendWay rfl (by decide +kernel) ⟨Nat.le_of_ble_eq_true rfl, Nat.le_of_ble_eq_true rfl⟩ (cl_rc hg (Or.inl ⟨by decide, rfl⟩) rfl rfl) rfl rfl (Nat.le_of_ble_eq_true rfl) dX4_findCheapestWays_89 ⟨by first | exact Nat.le_of_ble_eq_true rfl | omega | (simp; done) | (simp; omega), by first | exact Nat.le_of_ble_eq_true rfl | omega | (simp; done) | (simp; omega)⟩ (fun Y1 hr => ?_)
              subst hr
              refine hv_aload_n C dX4_findCheapestWays_92 rfl 0 rfl ?_
              refine hv_aload C dX4_findCheapestWays_93 4 rfl ?_
              refine hc_get (kd := 13) (i := i) (f := 2) (v := .ref (g.1 5 (A 6 i))) C hg (Or.inr (Or.inr (Or.inl ⟨rfl, by omega⟩))) rfl rfl hinX2 (by decide) (by decide +kernel) rfl rfl dX4_findCheapestWays_95 ?_
              refine hv_aload C dX4_findCheapestWays_98 4 rfl ?_
              refine hc_get (kd := 13) (i := i) (f := 1) (v := .ref (g.1 5 (A 5 i))) C hg (Or.inr (Or.inr (Or.inl ⟨rfl, by omega⟩))) rfl rfl hinX2 (by decide) (by decide +kernel) rfl rfl dX4_findCheapestWays_100 ?_
              refine hv_aload C dX4_findCheapestWays_103 4 rfl ?_
              refine hv_callVr (As := []) (rest := [.ref (g.1 5 (A 5 i)), .ref (g.1 5 (A 6 i)), .ref (g.1 0 0)]) (n := 0) C (c_X2_costNow l w g A (f_w3 Z (f_xw (f_cr A b (t * A 4 0 + i)) (A 5 i) (A 6 i) (f_cost A i))) Y0 hg i hi g1 g2 (fun b hb => (hI.1 b hb).2.1)) gX4_findCheapestWays_X2_costNow rfl (by decide +kernel) ⟨Nat.le_of_ble_eq_true rfl, Nat.le_of_ble_eq_true rfl⟩ (cl_rc hg (Or.inr (Or.inr (Or.inl ⟨rfl, by omega⟩))) rfl rfl) rfl rfl (Nat.le_of_ble_eq_true rfl) dX4_findCheapestWays_105 ⟨by first | exact Nat.le_of_ble_eq_true rfl | omega | (simp; done) | (simp; omega), by first | exact Nat.le_of_ble_eq_true rfl | omega | (simp; done) | (simp; omega)⟩ (fun r12 Y1 hr => ?_)
              obtain ⟨rfl, rfl⟩ := hr
              refine hv_callVv (As := [.ref (g.1 5 (A 6 i)), .ref (g.1 5 (A 5 i)), .int (nI (f_cost A i))]) (rest := []) (n := 3) C (c_X4_extendWay l w g A Z Y0 hg (f_xw (f_cr A b (t * A 4 0 + i)) (A 5 i) (A 6 i) (f_cost A i)) (A 6 i) (A 5 i) (f_cost A i) g2 g1 (by omega) (by omega) hco) gX4_findCheapestWays_X4_extendWay rfl (by decide +kernel) ⟨Nat.le_of_ble_eq_true rfl, Nat.le_of_ble_eq_true rfl⟩ (cl_rc hg (Or.inl ⟨by decide, rfl⟩) rfl rfl) rfl rfl (Nat.le_of_ble_eq_true rfl) dX4_findCheapestWays_108 ⟨by first | exact Nat.le_of_ble_eq_true rfl | omega | (simp; done) | (simp; omega), by first | exact Nat.le_of_ble_eq_true rfl | omega | (simp; done) | (simp; omega)⟩ (fun Y1 hr => ?_)
              subst hr
              refine hv_iinc (v := nI (i + 1)) (lv1 := [(0, .ref (g.1 0 0)), (1, .ref (g.1 5 b)), (2, .int (nI (t + 1))), (3, .int (nI (i + 1))), (4, .ref (g.1 13 i))]) C dX4_findCheapestWays_111 (k := 3) rfl (nI_1 _) (by decide) [1, 2, 3, 0, 4] rfl ?_
              refine hv_goto (tgt := 41) C dX4_findCheapestWays_114 (by decide) ?_
              exact hv_sub (lv1 := [(0, .ref (g.1 0 0)), (1, .ref (g.1 5 b)), (2, .int (nI (t + 1))), (3, .int (nI (i + 1)))]) [0, 1, 2, 3] rfl (hv_fin ih2 (cl_Zeq (congrArg (f_w3 Z) (cr_o him h9))) rfl)
  · intro q hq ihq
    refine hv_iload_n C dX4_findCheapestWays_2 rfl 2 rfl ?_
    refine hv_bipush (v := nI 8) C dX4_findCheapestWays_3 (by decide) ?_
    refine hv_icmpN_ge (tgt := 21) C dX4_findCheapestWays_5 (by decide) (by omega) (by omega) (fun h14 => ?_) (fun h14 => ?_)
    · skip
      exact absurd h14 (by omega)
    · skip
      refine hv_aload_n C dX4_findCheapestWays_8 rfl 0 rfl ?_
      refine hc_get (kd := 0) (i := 0) (f := 3) (v := .ref (g.1 4 0)) C hg (Or.inl ⟨by decide, rfl⟩) rfl rfl hinX4 (by decide) (by decide +kernel) rfl rfl dX4_findCheapestWays_9 ?_
      refine hv_iload_n C dX4_findCheapestWays_12 rfl 2 rfl ?_
      refine hv_iconst (v := nI 0 + (-1)) C dX4_findCheapestWays_13 (by decide) ?_
      refine hc_iast3 (j := q) (v := 0) C hg (by omega) rfl dX4_findCheapestWays_14 ?_
      refine hv_iinc (v := nI (q + 1)) (lv1 := [(0, .ref (g.1 0 0)), (1, .ref (g.1 5 b)), (2, .int (nI (q + 1)))]) C dX4_findCheapestWays_15 (k := 2) rfl (nI_1 _) (by decide) [1, 2, 0] rfl ?_
      refine hv_goto (tgt := 2) C dX4_findCheapestWays_18 (by decide) ?_
      exact hv_fin ihq (cl_Zeq (w0_s Z q)) rfl
set_option maxRecDepth 100000 in
set_option maxHeartbeats 4000000 in
theorem c_X4_cheapest (l : Launch) (w : hv_W) (g : cl_g) (A Z : ab_A) (Y0 : hv_H) (hg : cl_ok g (A 4 0) (A 15 0)) (hlt : l.stackTraces = false) (hI : ab_I A) (hZ : cl_Z A Z) (hF : cl_F g Y0) (x y : Int32)  : hv_Nr l yX4_cheapest wsX4_cheapest ({ frames := 7, cells := 6, slots := 40, locals := 151 }) w [.ref (g.1 0 0), .int (x), .int (y)] (cl_Y w g A Z Y0) (fun r Y1 => (q_cheapest A x y).1 = 0 ∧ r = .int (q_cheapest A x y).2.1 ∧ cl_S w (g.1 0 0) Y0 (q_cheapest A x y).2.2 Y1) (fun E Y1 => ec 0 E (q_cheapest A x y).1 ∧ Y1 = cl_Y w g A Z Y0) := by
  refine hv_ofVx (cc := cX4_cheapest) (own := RX4) (by decide) rfl rfl (Nat.le_of_ble_eq_true rfl) rfl ?_
  intro p e s m below meth c C hret hex
  have hinX1 : ∀ x ∈ wsX10, x ∈ wsX4_cheapest := by decide +kernel
  have hinX4 : ∀ x ∈ wsX40, x ∈ wsX4_cheapest := by decide +kernel
  refine hv_aload_n C dX4_cheapest_0 rfl 0 rfl ?_
  refine hv_iload_n C dX4_cheapest_1 rfl 1 rfl ?_
  refine hv_callVrx (As := [.int (x)]) (rest := []) (n := 1) C (c_X4_basinNumbered l w g A Z Y0 hg hlt x) gX4_cheapest_X4_basinNumbered rfl (by decide +kernel) ⟨Nat.le_of_ble_eq_true rfl, Nat.le_of_ble_eq_true rfl⟩ (cl_rc hg (Or.inl ⟨by decide, rfl⟩) rfl rfl) rfl rfl (Nat.le_of_ble_eq_true rfl) dX4_cheapest_2 ⟨by first | exact Nat.le_of_ble_eq_true rfl | omega | (simp; done) | (simp; omega), by first | exact Nat.le_of_ble_eq_true rfl | omega | (simp; done) | (simp; omega)⟩ (fun E Y1 h => ⟨(⟨h.1, (by first | (simp [q_cheapest, h.2.1]; done) | (unfold q_cheapest; (repeat' split) <;> simp_all))⟩), h.2.2⟩) hex (by first | exact Nat.le_of_ble_eq_true rfl | omega) (by first | exact Nat.le_of_ble_eq_true rfl | omega) (fun r1 Y1 hr => ?_)
  obtain ⟨⟨b, hx, rfl⟩, rfl⟩ := hr
  obtain ⟨hb, rfl⟩ := ix_y hx
  refine hv_astore_n (lv1 := [(0, .ref (g.1 0 0)), (1, .int (nI b)), (2, .int (y)), (3, .ref (g.1 5 b))]) C dX4_cheapest_5 rfl (by decide) [1, 2, 3, 0] rfl ?_
  refine hv_aload_n C dX4_cheapest_6 rfl 0 rfl ?_
  refine hv_iload_n C dX4_cheapest_7 rfl 2 rfl ?_
  refine hv_callVrx (As := [.int (y)]) (rest := []) (n := 1) C (c_X4_basinNumbered l w g A Z Y0 hg hlt y) gX4_cheapest_X4_basinNumbered rfl (by decide +kernel) ⟨Nat.le_of_ble_eq_true rfl, Nat.le_of_ble_eq_true rfl⟩ (cl_rc hg (Or.inl ⟨by decide, rfl⟩) rfl rfl) rfl rfl (Nat.le_of_ble_eq_true rfl) dX4_cheapest_8 ⟨by first | exact Nat.le_of_ble_eq_true rfl | omega | (simp; done) | (simp; omega), by first | exact Nat.le_of_ble_eq_true rfl | omega | (simp; done) | (simp; omega)⟩ (fun E Y1 h => ⟨(⟨h.1, (by first | (simp [q_cheapest, hx, h.2.1]; done) | (unfold q_cheapest; (repeat' split) <;> simp_all))⟩), h.2.2⟩) hex (by first | exact Nat.le_of_ble_eq_true rfl | omega) (by first | exact Nat.le_of_ble_eq_true rfl | omega) (fun r2 Y1 hr => ?_)
  obtain ⟨⟨o, hy, rfl⟩, rfl⟩ := hr
  obtain ⟨ho, rfl⟩ := ix_y hy
  refine hv_astore (lv1 := [(0, .ref (g.1 0 0)), (1, .int (nI b)), (2, .int (nI o)), (3, .ref (g.1 5 b)), (4, .ref (g.1 5 o))]) C dX4_cheapest_11 (by decide) [1, 2, 3, 4, 0] rfl ?_
  refine hv_aload_n C dX4_cheapest_13 rfl 0 rfl ?_
  refine hv_aload_n C dX4_cheapest_14 rfl 3 rfl ?_
  refine hv_callVv (As := [.ref (g.1 5 b)]) (rest := []) (n := 1) C (c_X4_findCheapestWays l w g A Z Y0 hg hI b hb) gX4_cheapest_X4_findCheapestWays rfl (by decide +kernel) ⟨Nat.le_of_ble_eq_true rfl, Nat.le_of_ble_eq_true rfl⟩ (cl_rc hg (Or.inl ⟨by decide, rfl⟩) rfl rfl) rfl rfl (Nat.le_of_ble_eq_true rfl) dX4_cheapest_15 ⟨by first | exact Nat.le_of_ble_eq_true rfl | omega | (simp; done) | (simp; omega), by first | exact Nat.le_of_ble_eq_true rfl | omega | (simp; done) | (simp; omega)⟩ (fun Y1 hr => ?_)
  subst hr
  refine hv_aload_n C dX4_cheapest_18 rfl 0 rfl ?_
  refine hc_get (kd := 0) (i := 0) (f := 3) (v := .ref (g.1 4 0)) C hg (Or.inl ⟨by decide, rfl⟩) rfl rfl hinX4 (by decide) (by decide +kernel) rfl rfl dX4_cheapest_19 ?_
  refine hv_aload C dX4_cheapest_22 4 rfl ?_
  refine hc_get (kd := 5) (i := o) (f := 0) (v := .int (nI o)) C hg (Or.inr (Or.inl ⟨by decide, by decide, by omega⟩)) rfl rfl hinX1 (by decide) (by decide +kernel) rfl rfl dX4_cheapest_24 ?_
  refine hc_iald (kd := 4) (i := 0) (j := o) (x := (nI (f_cr A b (7 * A 4 0) o) + (-1))) C hg (Or.inl ⟨by decide, rfl⟩) rfl (by decide) (by omega) (congrArg (fun q : Nat => (nI q + (-1) : Int32)) (w3_3 (by omega))) dX4_cheapest_27 ?_
  refine hv_istore (lv1 := [(0, .ref (g.1 0 0)), (1, .int (nI b)), (2, .int (nI o)), (3, .ref (g.1 5 b)), (4, .ref (g.1 5 o)), (5, .int (nI (f_cr A b (7 * A 4 0) o) + (-1)))]) C dX4_cheapest_28 (by decide) [1, 2, 3, 4, 5, 0] rfl ?_
  have hTle : f_cr A b (7 * A 4 0) o ≤ 5685 := by
    by_cases hn0 : A 4 0 = 0
    · rw [hn0]; show (if o = b then 1 else 0) ≤ 5685; split <;> omega
    · have h3 := f_cr_le hI hn0 b (7 * A 4 0) o; have h14 := hI.2.2.2.1; omega
  have hsame := f_cheap_same hI hb ho
  by_cases hz0 : f_cr A b (7 * A 4 0) o = 0
  · skip
    refine hv_iload C dX4_cheapest_30 5 rfl ?_
    refine hv_top (y := nI 0 + (-1)) (by rw [hz0]) ?_
    refine hv_bipush (v := nI 40) C dX4_cheapest_32 (by decide) ?_
    refine hv_icmp_le (tgt := 41) C dX4_cheapest_34 (by decide) (fun h4 => ?_) (fun h4 => ?_)
    · skip
      refine hv_iload C dX4_cheapest_41 5 rfl ?_
      refine hv_top (y := nI 0 + (-1)) (by rw [hz0]) ?_
      exact hv_iretx C hret dX4_cheapest_43 (by first | exact Nat.le_refl _ | decide | omega | (simp; done) | (simp; omega)) (by first | exact Nat.le_refl _ | decide | omega | (simp; done) | (simp; omega)) (by rw [show q_cheapest A (nI b) (nI o) = (0, nI (if f_mr A o (8 * A 4 0) b ≤ 41 then f_mr A o (8 * A 4 0) b else 0) + (-1), f_cm A o (8 * A 4 0)) from by simp only [q_cheapest, hx, hy]]; exact ⟨rfl, congrArg Value.int (show (nI (0) + (-1)) = nI (if f_mr A o (8 * A 4 0) b ≤ 41 then f_mr A o (8 * A 4 0) b else 0) + (-1) from by rw [← hsame, hz0]; rfl), ⟨g, f_w3 Z (f_cr A b (7 * A 4 0)), hg, ⟨fun i hi => hZ.1 i hi, fun k hk => hZ.2 k hk⟩, hF, rfl, (cl_13 hg (fun s h3 _ => by funext i; simp [f_cm, h3])).symm⟩⟩)
    · skip
      exact absurd (by decide) h4
  · skip
    refine hv_iload C dX4_cheapest_30 5 rfl ?_
    refine hv_top (nI_em (by omega)) ?_
    refine hv_bipush (v := nI 40) C dX4_cheapest_32 (by decide) ?_
    refine hv_icmpN_le (tgt := 41) C dX4_cheapest_34 (by decide) (by omega) (by omega) (fun h5 => ?_) (fun h5 => ?_)
    · skip
      refine hv_iload C dX4_cheapest_41 5 rfl ?_
      exact hv_iretx C hret dX4_cheapest_43 (by first | exact Nat.le_refl _ | decide | omega | (simp; done) | (simp; omega)) (by first | exact Nat.le_refl _ | decide | omega | (simp; done) | (simp; omega)) (by rw [show q_cheapest A (nI b) (nI o) = (0, nI (if f_mr A o (8 * A 4 0) b ≤ 41 then f_mr A o (8 * A 4 0) b else 0) + (-1), f_cm A o (8 * A 4 0)) from by simp only [q_cheapest, hx, hy]]; exact ⟨rfl, congrArg Value.int (show (nI (f_cr A b (7 * A 4 0) o) + (-1)) = nI (if f_mr A o (8 * A 4 0) b ≤ 41 then f_mr A o (8 * A 4 0) b else 0) + (-1) from by rw [← hsame, if_pos (by omega)]), ⟨g, f_w3 Z (f_cr A b (7 * A 4 0)), hg, ⟨fun i hi => hZ.1 i hi, fun k hk => hZ.2 k hk⟩, hF, rfl, (cl_13 hg (fun s h3 _ => by funext i; simp [f_cm, h3])).symm⟩⟩)
    · skip
      refine hv_iconst (v := nI 0 + (-1)) C dX4_cheapest_37 (by decide) ?_
      refine hv_goto (tgt := 43) C dX4_cheapest_38 (by decide) ?_
      exact hv_iretx C hret dX4_cheapest_43 (by first | exact Nat.le_refl _ | decide | omega | (simp; done) | (simp; omega)) (by first | exact Nat.le_refl _ | decide | omega | (simp; done) | (simp; omega)) (by rw [show q_cheapest A (nI b) (nI o) = (0, nI (if f_mr A o (8 * A 4 0) b ≤ 41 then f_mr A o (8 * A 4 0) b else 0) + (-1), f_cm A o (8 * A 4 0)) from by simp only [q_cheapest, hx, hy]]; exact ⟨rfl, congrArg Value.int (show (nI (0) + (-1)) = nI (if f_mr A o (8 * A 4 0) b ≤ 41 then f_mr A o (8 * A 4 0) b else 0) + (-1) from by rw [← hsame, if_neg (by omega)]), ⟨g, f_w3 Z (f_cr A b (7 * A 4 0)), hg, ⟨fun i hi => hZ.1 i hi, fun k hk => hZ.2 k hk⟩, hF, rfl, (cl_13 hg (fun s h3 _ => by funext i; simp [f_cm, h3])).symm⟩⟩)
