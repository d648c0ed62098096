theorem hv_up_mid {Y : hv_H} {q q2 : Nat} {o o' a : hv_E} (h : q ≠ q2) : hv_up (hv_up (hv_up Y q o) q2 a) q o' = hv_up (hv_up Y q o') q2 a := by
  funext b
  unfold hv_up
  by_cases h1 : b = q
  · subst h1
    rw [if_pos rfl, if_neg h, if_pos rfl]
  · rw [if_neg h1, if_neg h1, if_neg h1]
set_option maxRecDepth 100000 in
set_option maxHeartbeats 400000 in
theorem c_X2_init (l : Launch) (w : hv_W) (Y : hv_H) (q n u v c9 d9 : Nat) (hY : Y q = some (.inl (.inr (3, [.int (nI 0), .null, .null, .int (nI 0), .int (nI 0), .int (nI 0)])))) : hv_Mv l yX2_init wsX2_init ({ frames := 1, cells := 0, slots := 0, locals := 40 }) w [.ref (q), .int (nI n), .ref (u), .ref (v), .int (nI c9), .int (nI d9)] (Y) (fun Y1 => Y1 = hv_up Y q (.inl (.inr (3, [.int (nI n), .ref u, .ref v, .int (nI c9), .int (nI d9), .int (nI 1)])))) := by
  refine hv_ofV (cc := cX2_init) (own := RX2) (by decide) rfl rfl (Nat.le_of_ble_eq_true rfl) rfl ?_
  intro p e s m below meth c C hret hnm
  have hinX2 : ∀ x ∈ wsX20, x ∈ wsX2_init := by decide +kernel
  refine hv_aload_n C dX2_init_0 rfl 0 rfl ?_
  refine hv_objInit C (by decide +kernel) (by decide +kernel) (by decide +kernel) (Nat.le_of_ble_eq_true rfl) (Nat.le_of_ble_eq_true rfl) dX2_init_1 ?_
  refine hv_aload_n C dX2_init_4 rfl 0 rfl ?_
  refine hv_iconst (v := nI 1) C dX2_init_5 (by decide) ?_
  refine hv_putf (k := 5) C hinX2 tyX2 tyX2_ok nmX2 (show vwCl[3]? = some (RX2, TX2, 6) from rfl) hY (by decide) (by decide +kernel) (fun _ h => h) rfl (ty := .boolean) (by decide +kernel) (by rfl) (by rfl) (by show 5 < 6; decide) dX2_init_6 ?_
  refine hv_fin (Y1 := hv_up Y q (.inl (.inr (3, [.int (nI 0), .null, .null, .int (nI 0), .int (nI 0), .int (nI 1)])))) ?_ rfl rfl
  refine hv_aload_n C dX2_init_9 rfl 0 rfl ?_
  refine hv_iload_n C dX2_init_10 rfl 1 rfl ?_
  refine hv_putfF (k := 0) C hinX2 tyX2 tyX2_ok nmX2 (show vwCl[3]? = some (RX2, TX2, 6) from rfl) hv_up_s (by decide) (by decide +kernel) (fun _ h => h) rfl hnm rfl (ty := .int) (by decide +kernel) (by rfl) (by rfl) (by show 0 < 6; decide) dX2_init_11 ?_
  refine hv_fin (Y1 := hv_up Y q (.inl (.inr (3, [.int (nI n), .null, .null, .int (nI 0), .int (nI 0), .int (nI 1)])))) ?_ hv_upup rfl
  refine hv_aload_n C dX2_init_14 rfl 0 rfl ?_
  refine hv_aload_n C dX2_init_15 rfl 2 rfl ?_
  refine hv_putfF (k := 1) C hinX2 tyX2 tyX2_ok nmX2 (show vwCl[3]? = some (RX2, TX2, 6) from rfl) hv_up_s (by decide) (by decide +kernel) (fun _ h => h) rfl hnm rfl (ty := .object "LockgateRouter$Basin") (by decide +kernel) (by rfl) (by rfl) (by show 1 < 6; decide) dX2_init_16 ?_
  refine hv_fin (Y1 := hv_up Y q (.inl (.inr (3, [.int (nI n), .ref (u), .null, .int (nI 0), .int (nI 0), .int (nI 1)])))) ?_ hv_upup rfl
  refine hv_aload_n C dX2_init_19 rfl 0 rfl ?_
  refine hv_aload_n C dX2_init_20 rfl 3 rfl ?_
  refine hv_putfF (k := 2) C hinX2 tyX2 tyX2_ok nmX2 (show vwCl[3]? = some (RX2, TX2, 6) from rfl) hv_up_s (by decide) (by decide +kernel) (fun _ h => h) rfl hnm rfl (ty := .object "LockgateRouter$Basin") (by decide +kernel) (by rfl) (by rfl) (by show 2 < 6; decide) dX2_init_21 ?_
  refine hv_fin (Y1 := hv_up Y q (.inl (.inr (3, [.int (nI n), .ref (u), .ref (v), .int (nI 0), .int (nI 0), .int (nI 1)])))) ?_ hv_upup rfl
  refine hv_aload_n C dX2_init_24 rfl 0 rfl ?_
  refine hv_iload C dX2_init_25 4 rfl ?_
  refine hv_putfF (k := 3) C hinX2 tyX2 tyX2_ok nmX2 (show vwCl[3]? = some (RX2, TX2, 6) from rfl) hv_up_s (by decide) (by decide +kernel) (fun _ h => h) rfl hnm rfl (ty := .int) (by decide +kernel) (by rfl) (by rfl) (by show 3 < 6; decide) dX2_init_27 ?_
  refine hv_fin (Y1 := hv_up Y q (.inl (.inr (3, [.int (nI n), .ref (u), .ref (v), .int (nI c9), .int (nI 0), .int (nI 1)])))) ?_ hv_upup rfl
  refine hv_aload_n C dX2_init_30 rfl 0 rfl ?_
  refine hv_iload C dX2_init_31 5 rfl ?_
  refine hv_putfF (k := 4) C hinX2 tyX2 tyX2_ok nmX2 (show vwCl[3]? = some (RX2, TX2, 6) from rfl) hv_up_s (by decide) (by decide +kernel) (fun _ h => h) rfl hnm rfl (ty := .int) (by decide +kernel) (by rfl) (by rfl) (by show 4 < 6; decide) dX2_init_33 ?_
  refine hv_fin (Y1 := hv_up Y q (.inl (.inr (3, [.int (nI n), .ref (u), .ref (v), .int (nI c9), .int (nI d9), .int (nI 1)])))) ?_ hv_upup rfl
  exact hv_vret C hret dX2_init_36 (by first | exact Nat.le_refl _ | decide | omega | (simp; done) | (simp; omega)) (by first | exact Nat.le_refl _ | decide | omega | (simp; done) | (simp; omega)) rfl
set_option maxRecDepth 100000 in
set_option maxHeartbeats 400000 in
theorem c_X0_init (l : Launch) (w : hv_W) (Y : hv_H) (q n sb gb lf b : Nat) (fsb : List Value) (hY : Y q = some (.inl (.inr (1, [.int (nI 0), .null, .null, .null, .int (nI 0), .int (nI 0), .int (nI 0), .int (nI 0), .int (nI 0)])))) (hs : Y sb = some (.inl (.inr (2, fsb)))) (hs0 : fsb[0]? = some (.int (nI b))) (hb : b < 8) : hv_Mv l yX0_init wsX0_init ({ frames := 1, cells := 1, slots := 8, locals := 40 }) w [.ref (q), .int (nI n), .ref (sb), .ref (gb), .int (nI lf)] (Y) (fun Y1 => ∃ q2, Y q2 = none ∧ q ≠ q2 ∧ Y1 = hv_up (hv_up Y q (.inl (.inr (1, [.int (nI n), .ref gb, .ref q2, .ref sb, .int (nI lf), .int (nI 0), .int (nI 0), .int (nI 0), .int (nI 0)])))) q2 (.inl (.inl (hv_c w 1, 8, .inl (upd (fun _ => 0) b (nI 1)))))) := by
  refine hv_ofV (cc := cX0_init) (own := RX0) (by decide) rfl rfl (Nat.le_of_ble_eq_true rfl) rfl ?_
  intro p e s m below meth c C hret hnm
  have hinX0 : ∀ x ∈ wsX00, x ∈ wsX0_init := by decide +kernel
  have hinX1 : ∀ x ∈ wsX10, x ∈ wsX0_init := by decide +kernel
  refine hv_aload_n C dX0_init_0 rfl 0 rfl ?_
  refine hv_objInit C (by decide +kernel) (by decide +kernel) (by decide +kernel) (Nat.le_of_ble_eq_true rfl) (Nat.le_of_ble_eq_true rfl) dX0_init_1 ?_
  refine hv_aload_n C dX0_init_4 rfl 0 rfl ?_
  refine hv_bipush (v := nI 8) C dX0_init_5 (by decide) ?_
  refine hv_newz (N := 8) C (by decide +kernel) (by decide) (by decide) (by decide) (Nat.le_of_ble_eq_true rfl) (Nat.le_of_ble_eq_true rfl) dX0_init_7 (fun q2 hq2 => ?_)
  have hqq : q ≠ q2 := by intro z; rw [← z, hY] at hq2; cases hq2
  refine hv_fin (Y1 := hv_up (hv_up Y q (.inl (.inr (1, [.int (nI 0), .null, .null, .null, .int (nI 0), .int (nI 0), .int (nI 0), .int (nI 0), .int (nI 0)])))) q2 (.inl (.inl (hv_c w 1, 8, .inl (fun _ => 0))))) ?_ (by rw [hv_upL hY]) rfl
  refine hv_putfF (k := 2) C hinX0 tyX0 tyX0_ok nmX0 (show vwCl[1]? = some (RX0, TX0, 9) from rfl) ((hv_up_n hqq).trans hv_up_s) (by decide) (by decide +kernel) (fun _ h => h) rfl hnm rfl (ty := .array .boolean) (by decide +kernel) (by rfl) (by rfl) (by show 2 < 9; decide) dX0_init_9 ?_
  refine hv_fin (Y1 := hv_up (hv_up Y q (.inl (.inr (1, [.int (nI 0), .null, .ref (q2), .null, .int (nI 0), .int (nI 0), .int (nI 0), .int (nI 0), .int (nI 0)])))) q2 (.inl (.inl (hv_c w 1, 8, .inl (fun _ => 0))))) ?_ (hv_up_mid hqq) rfl
  refine hv_aload_n C dX0_init_12 rfl 0 rfl ?_
  refine hv_iconst (v := nI 0) C dX0_init_13 (by decide) ?_
  refine hv_putf (k := 7) C hinX0 tyX0 tyX0_ok nmX0 (show vwCl[1]? = some (RX0, TX0, 9) from rfl) ((hv_up_n hqq).trans hv_up_s) (by decide) (by decide +kernel) (fun _ h => h) rfl (ty := .int) (by decide +kernel) (by rfl) (by rfl) (by show 7 < 9; decide) dX0_init_14 ?_
  refine hv_fin (Y1 := hv_up (hv_up Y q (.inl (.inr (1, [.int (nI 0), .null, .ref (q2), .null, .int (nI 0), .int (nI 0), .int (nI 0), .int (nI 0), .int (nI 0)])))) q2 (.inl (.inl (hv_c w 1, 8, .inl (fun _ => 0))))) ?_ (hv_up_mid hqq) rfl
  refine hv_aload_n C dX0_init_17 rfl 0 rfl ?_
  refine hv_iload_n C dX0_init_18 rfl 1 rfl ?_
  refine hv_putfF (k := 0) C hinX0 tyX0 tyX0_ok nmX0 (show vwCl[1]? = some (RX0, TX0, 9) from rfl) ((hv_up_n hqq).trans hv_up_s) (by decide) (by decide +kernel) (fun _ h => h) rfl hnm rfl (ty := .int) (by decide +kernel) (by rfl) (by rfl) (by show 0 < 9; decide) dX0_init_19 ?_
  refine hv_fin (Y1 := hv_up (hv_up Y q (.inl (.inr (1, [.int (nI n), .null, .ref (q2), .null, .int (nI 0), .int (nI 0), .int (nI 0), .int (nI 0), .int (nI 0)])))) q2 (.inl (.inl (hv_c w 1, 8, .inl (fun _ => 0))))) ?_ (hv_up_mid hqq) rfl
  refine hv_aload_n C dX0_init_22 rfl 0 rfl ?_
  refine hv_aload_n C dX0_init_23 rfl 3 rfl ?_
  refine hv_putfF (k := 1) C hinX0 tyX0 tyX0_ok nmX0 (show vwCl[1]? = some (RX0, TX0, 9) from rfl) ((hv_up_n hqq).trans hv_up_s) (by decide) (by decide +kernel) (fun _ h => h) rfl hnm rfl (ty := .object "LockgateRouter$Basin") (by decide +kernel) (by rfl) (by rfl) (by show 1 < 9; decide) dX0_init_24 ?_
  refine hv_fin (Y1 := hv_up (hv_up Y q (.inl (.inr (1, [.int (nI n), .ref (gb), .ref (q2), .null, .int (nI 0), .int (nI 0), .int (nI 0), .int (nI 0), .int (nI 0)])))) q2 (.inl (.inl (hv_c w 1, 8, .inl (fun _ => 0))))) ?_ (hv_up_mid hqq) rfl
  refine hv_aload_n C dX0_init_27 rfl 0 rfl ?_
  refine hv_aload_n C dX0_init_28 rfl 2 rfl ?_
  refine hv_putf (k := 3) C hinX0 tyX0 tyX0_ok nmX0 (show vwCl[1]? = some (RX0, TX0, 9) from rfl) ((hv_up_n hqq).trans hv_up_s) (by decide) (by decide +kernel) (fun _ h => h) rfl (ty := .object "LockgateRouter$Basin") (by decide +kernel) (by rfl) (by rfl) (by show 3 < 9; decide) dX0_init_29 ?_
  refine hv_fin (Y1 := hv_up (hv_up Y q (.inl (.inr (1, [.int (nI n), .ref (gb), .ref (q2), .ref (sb), .int (nI 0), .int (nI 0), .int (nI 0), .int (nI 0), .int (nI 0)])))) q2 (.inl (.inl (hv_c w 1, 8, .inl (fun _ => 0))))) ?_ (hv_up_mid hqq) rfl
  refine hv_aload_n C dX0_init_32 rfl 0 rfl ?_
  refine hv_getf (k := 2) C hinX0 (show vwCl[1]? = some (RX0, TX0, 9) from rfl) ((hv_up_n hqq).trans hv_up_s) (by decide) (by decide +kernel) (fun _ h => h) rfl dX0_init_33 ?_
  refine hv_aload_n C dX0_init_36 rfl 2 rfl ?_
  refine hv_getf (k := 0) C hinX1 (show vwCl[2]? = some (RX1, TX1, 6) from rfl) ((hv_up_n (fun z => by rw [z, hq2] at hs; cases hs)).trans ((hv_up_n (fun z => by rw [z, hY] at hs; simp at hs)).trans hs)) (by decide) (by decide +kernel) (fun _ h => h) hs0 dX0_init_37 ?_
  refine hv_iconst (v := nI 1) C dX0_init_40 (by decide) ?_
  refine hv_zast C hv_up_s (by decide) (vp_in_nI hb (by decide)) dX0_init_41 ?_
  rw [nI_clamp (by omega)]
  refine hv_fin (Y1 := hv_up (hv_up Y q (.inl (.inr (1, [.int (nI n), .ref (gb), .ref (q2), .ref (sb), .int (nI 0), .int (nI 0), .int (nI 0), .int (nI 0), .int (nI 0)])))) q2 (.inl (.inl (hv_c w 1, 8, .inl (upd (fun _ => 0) b (nI 1)))))) ?_ hv_upup rfl
  refine hv_aload_n C dX0_init_42 rfl 0 rfl ?_
  refine hv_iload C dX0_init_43 4 rfl ?_
  refine hv_putf (k := 4) C hinX0 tyX0 tyX0_ok nmX0 (show vwCl[1]? = some (RX0, TX0, 9) from rfl) ((hv_up_n hqq).trans hv_up_s) (by decide) (by decide +kernel) (fun _ h => h) rfl (ty := .int) (by decide +kernel) (by rfl) (by rfl) (by show 4 < 9; decide) dX0_init_45 ?_
  refine hv_fin (Y1 := hv_up (hv_up Y q (.inl (.inr (1, [.int (nI n), .ref (gb), .ref (q2), .ref (sb), .int (nI lf), .int (nI 0), .int (nI 0), .int (nI 0), .int (nI 0)])))) q2 (.inl (.inl (hv_c w 1, 8, .inl (upd (fun _ => 0) b (nI 1)))))) ?_ (hv_up_mid hqq) rfl
  exact hv_vret C hret dX0_init_48 (by first | exact Nat.le_refl _ | decide | omega | (simp; done) | (simp; omega)) (by first | exact Nat.le_refl _ | decide | omega | (simp; done) | (simp; omega)) ⟨q2, hq2, hqq, rfl⟩
/-- the places change, but not those that are -/
theorem cl_ad {w : hv_W} {A Z : ab_A} {ad ad' : Nat → Nat → Nat} (hI : ab_I A) (hZ : cl_Z A Z) (had : ∀ kd i, cl_in (A 4 0) (A 15 0) kd i → ad' kd i = ad kd i) : ∀ kd i, cl_in (A 4 0) (A 15 0) kd i → cl_cell w ad' A Z kd i = cl_cell w ad A Z kd i := by
  intro kd i hin
  have a0 : ∀ k, k ≤ 4 → ad' k 0 = ad k 0 := fun k hk => had k 0 (Or.inl ⟨hk, rfl⟩)
  have a5 : ∀ k j, 5 ≤ k → k ≤ 12 → j < 8 → ad' k j = ad k j := fun k j h1 h2 h3 => had k j (Or.inr (Or.inl ⟨h1, h2, h3⟩))
  have a13 : ∀ j, j < A 4 0 → ad' 13 j = ad 13 j := fun j h => had 13 j (Or.inr (Or.inr (Or.inl ⟨rfl, h⟩)))
  have a14 : ∀ j, j < A 15 0 → ad' 14 j = ad 14 j := fun j h => had 14 j (Or.inr (Or.inr (Or.inr ⟨Or.inl rfl, h⟩)))
  have a15 : ∀ j, j < A 15 0 → ad' 15 j = ad 15 j := fun j h => had 15 j (Or.inr (Or.inr (Or.inr ⟨Or.inr rfl, h⟩)))
  have ar : ∀ x, x ≤ A 4 0 → cl_r ad' x = cl_r ad x := by
    intro x hx
    unfold cl_r
    by_cases h : x = 0
    · rw [if_pos h, if_pos h]
    · rw [if_neg h, if_neg h, a13 _ (by omega)]
  have t12 : ∀ i j, i < 8 → j < 8 → A 12 (8 * i + j) ≤ A 4 0 := fun i j hi hj => (hI.2.2.2.2.2.1 i j hi hj).2.1
  have t2 : ∀ i j, i < 8 → j < 8 → Z 2 (8 * i + j) ≤ A 4 0 := fun i j hi hj => hZ.2 _ (by omega)
  unfold cl_cell
  split <;> first | with_reducible rfl | skip
  · rw [a0 1 (by decide), a0 2 (by decide), a0 3 (by decide), a0 4 (by decide)]
  · refine cR_ext (fun j => ?_)
    by_cases hj : j < 8
    · rw [if_pos hj, if_pos hj, a5 5 j (by decide) (by decide) hj]
    · rw [if_neg hj, if_neg hj]
  · rw [cl_map a13]
  · rw [cl_map a14]
  · have hi : i < 8 := by unfold cl_in at hin; omega
    have hz := hZ.1 i hi
    rw [a5 6 i (by decide) (by decide) hi, a5 (7 + Z 0 i) i (by omega) (by omega) hi, a5 (8 - Z 0 i) i (by omega) (by omega) hi]
  · have hi : i < 8 := by unfold cl_in at hin; omega
    congr 1
    exact cl_map (fun k hk => a14 _ (hI.2.1 i k hi hk).1)
  · have hi : i < 8 := by unfold cl_in at hin; omega
    rw [a5 9 i (by decide) (by decide) hi, a5 11 i (by decide) (by decide) hi]
  · have hi : i < 8 := by unfold cl_in at hin; omega
    rw [a5 10 i (by decide) (by decide) hi, a5 12 i (by decide) (by decide) hi]
  · have hi : i < 8 := by unfold cl_in at hin; omega
    refine cR_ext (fun j => ?_)
    by_cases hj : j < 8
    · rw [if_pos hj, if_pos hj]
      split
      · rw [ar _ (t12 i j hi hj)]
      · rw [ar _ (t2 i j hi hj)]
    · rw [if_neg hj, if_neg hj]
  · have hi : i < 8 := by unfold cl_in at hin; omega
    refine cR_ext (fun j => ?_)
    by_cases hj : j < 8
    · rw [if_pos hj, if_pos hj]
      split
      · rw [ar _ (t2 i j hi hj)]
      · rw [ar _ (t12 i j hi hj)]
    · rw [if_neg hj, if_neg hj]
  · have hi : i < A 4 0 := by unfold cl_in at hin; omega
    obtain ⟨g1, g2, -⟩ := hI.2.2.2.2.1 i hi
    rw [a5 5 (A 5 i) (by decide) (by decide) g1, a5 5 (A 6 i) (by decide) (by decide) g2]
  · have hi : i < A 15 0 := by unfold cl_in at hin; omega
    obtain ⟨g1, -, -, g2, -⟩ := hI.2.2.2.2.2.2.2.2.1 i hi
    rw [a5 5 (A 17 i) (by decide) (by decide) g1, a5 5 (A 22 i) (by decide) (by decide) g2, a15 i hi]
def cl_gc (g : cl_g) (n q : Nat) : cl_g := (fun k i => if k = 13 ∧ i = n then q else g.1 k i, fun x => if x = q then some (13, n) else g.2 x)
def f_dg (A : ab_A) (a b c d : Nat) : ab_A := au (au (au (au (au A 5 (A 4 0) a) 6 (A 4 0) b) 7 (A 4 0) c) 8 (A 4 0) d) 9 (A 4 0) 1
theorem cl_none {w : hv_W} {g : cl_g} {A Z : ab_A} {Y0 : hv_H} {q : Nat} (h : cl_Y w g A Z Y0 q = none) : g.2 q = none ∧ Y0 q = none := by
  unfold cl_Y at h
  cases hq : g.2 q with
  | none => rw [hq] at h; exact ⟨rfl, h⟩
  | some z => rw [hq] at h; cases h
theorem cl_in_s {n k kd i : Nat} (h : cl_in (n + 1) k kd i) : cl_in n k kd i ∨ (kd = 13 ∧ i = n) := by unfold cl_in at h ⊢; omega
theorem cl_in_k {n k kd i : Nat} (h : cl_in n (k + 1) kd i) : cl_in n k kd i ∨ (kd = 14 ∧ i = k) ∨ (kd = 15 ∧ i = k) := by unfold cl_in at h ⊢; omega
theorem dg_old {w : hv_W} {ad : Nat → Nat → Nat} {A Z : ab_A} {a b c d : Nat} : ∀ kd i, cl_in (A 4 0) (A 15 0) kd i → cl_cell w ad (f_dg A a b c d) Z kd i = cl_cell w ad A Z kd i := by
  intro kd i hin
  unfold cl_cell
  split <;> first | with_reducible rfl | rfl | skip
  have hi : i ≠ A 4 0 := by unfold cl_in at hin; omega
  have e : ∀ s, (s = 5 ∨ s = 6 ∨ s = 7 ∨ s = 8 ∨ s = 9) → f_dg A a b c d s i = A s i := by
    rintro s (rfl | rfl | rfl | rfl | rfl) <;> simp [f_dg, au, hi]
  rw [e 5 (by decide), e 6 (by decide), e 7 (by decide), e 8 (by decide), e 9 (by decide)]
theorem cl_newC {w : hv_W} {g : cl_g} {A Z : ab_A} {Y0 : hv_H} {q : Nat} (hg : cl_ok g (A 4 0) (A 15 0)) (hI : ab_I A) (hZ : cl_Z A Z) (hF : cl_F g Y0) (hq : cl_Y w g A Z Y0 q = none) {a b c d : Nat} (ha : a < 8) (hb : b < 8) : cl_ok (cl_gc g (A 4 0) q) (A 4 0 + 1) (A 15 0) ∧ cl_F (cl_gc g (A 4 0) q) Y0 ∧ hv_up (cl_Y w g A Z Y0) q (.inl (.inr (3, [.int (nI (A 4 0)), .ref (g.1 5 a), .ref (g.1 5 b), .int (nI c), .int (nI d), .int (nI 1)]))) = cl_Y w (cl_gc g (A 4 0) q) (f_dg A a b c d) Z Y0 := by
  obtain ⟨hq1, hq2⟩ := cl_none hq
  have hne : ∀ kd i, cl_in (A 4 0) (A 15 0) kd i → g.1 kd i ≠ q := by
    intro kd i hin z
    have := hg.1 kd i hin
    rw [z, hq1] at this
    cases this
  have hold : ∀ kd i, cl_in (A 4 0) (A 15 0) kd i → (cl_gc g (A 4 0) q).1 kd i = g.1 kd i := by
    intro kd i hin
    refine if_neg (fun z => ?_)
    unfold cl_in at hin
    omega
  refine ⟨⟨?_, ?_⟩, ?_, ?_⟩
  · intro kd i hin
    rcases cl_in_s hin with h | ⟨rfl, rfl⟩
    · rw [hold kd i h]
      show (if g.1 kd i = q then _ else g.2 (g.1 kd i)) = _
      rw [if_neg (hne kd i h), hg.1 kd i h]
    · simp [cl_gc]
  · intro x kd i hx
    have hx' : (if x = q then some (13, A 4 0) else g.2 x) = some (kd, i) := hx
    by_cases h : x = q
    · rw [if_pos h] at hx'
      cases hx'
      exact ⟨Or.inr (Or.inr (Or.inl ⟨rfl, Nat.lt_succ_self _⟩)), h.trans (if_pos ⟨rfl, rfl⟩).symm⟩
    · rw [if_neg h] at hx'
      obtain ⟨h1, h2⟩ := hg.2 x kd i hx'
      refine ⟨?_, h2.trans (hold kd i h1).symm⟩
      unfold cl_in at h1 ⊢
      omega
  · intro x z hx
    have hx' : (if x = q then some (13, A 4 0) else g.2 x) = some z := hx
    by_cases h : x = q
    · rw [h]; exact hq2
    · rw [if_neg h] at hx'
      exact hF x z hx'
  · funext x
    show (if x = q then _ else cl_Y w g A Z Y0 x) = (match (if x = q then some (13, A 4 0) else g.2 x) with | some z => some (cl_cell w (cl_gc g (A 4 0) q).1 (f_dg A a b c d) Z z.1 z.2) | none => Y0 x)
    by_cases h : x = q
    · rw [if_pos h, if_pos h]
      have e5 : ∀ j, j < 8 → (cl_gc g (A 4 0) q).1 5 j = g.1 5 j := fun j _ => rfl
      show some _ = some (Sum.inl (Sum.inr (3, [Value.int (nI (A 4 0)), Value.ref (g.1 5 (f_dg A a b c d 5 (A 4 0))), Value.ref (g.1 5 (f_dg A a b c d 6 (A 4 0))), Value.int (nI (f_dg A a b c d 7 (A 4 0))), Value.int (nI (f_dg A a b c d 8 (A 4 0))), Value.int (nI (f_dg A a b c d 9 (A 4 0)))])))
      simp [f_dg, au]
    · rw [if_neg h, if_neg h]
      unfold cl_Y
      cases hz : g.2 x with
      | none => rfl
      | some z =>
        have h1 := (hg.2 x z.1 z.2 hz).1
        show some _ = some _
        rw [dg_old _ _ h1, cl_ad hI hZ hold _ _ h1]
theorem cu_4 {w : hv_W} {ad : Nat → Nat → Nat} {A Z : ab_A} {n k v : Nat} : ∀ kd' i', cl_in n k kd' i' → ¬ (kd' = 2 ∧ i' = 0) → cl_cell w ad (au A 4 0 v) Z kd' i' = cl_cell w ad A Z kd' i' := by
  intro kd' i' hin hne
  unfold cl_cell
  split <;> first | with_reducible rfl | rfl | (exfalso; unfold cl_in at hin; omega)
theorem cu_15 {w : hv_W} {ad : Nat → Nat → Nat} {A Z : ab_A} {n k v : Nat} : ∀ kd' i', cl_in n k kd' i' → ¬ (kd' = 3 ∧ i' = 0) → cl_cell w ad (au A 15 0 v) Z kd' i' = cl_cell w ad A Z kd' i' := by
  intro kd' i' hin hne
  unfold cl_cell
  split <;> first | with_reducible rfl | rfl | (exfalso; unfold cl_in at hin; omega)
theorem cl_addC {w : hv_W} {g : cl_g} {A Z : ab_A} {Y0 : hv_H} {n k q : Nat} (hg : cl_ok g n k) (hq : g.1 13 (A 4 0) = q) : hv_up (cl_Y w g A Z Y0) (g.1 2 0) (.inr ((List.range (A 4 0)).map (g.1 13) ++ [q])) = cl_Y w g (au A 4 0 (A 4 0 + 1)) Z Y0 := by
  refine cl_up hg (Or.inl ⟨by decide, rfl⟩) ?_ cu_4
  show Sum.inr ((List.range (A 4 0 + 1)).map (g.1 13)) = _
  rw [List.range_succ, List.map_append, ← hq]
  rfl
theorem cl_addB {w : hv_W} {g : cl_g} {A Z : ab_A} {Y0 : hv_H} {n k q : Nat} (hg : cl_ok g n k) (hq : g.1 14 (A 15 0) = q) : hv_up (cl_Y w g A Z Y0) (g.1 3 0) (.inr ((List.range (A 15 0)).map (g.1 14) ++ [q])) = cl_Y w g (au A 15 0 (A 15 0 + 1)) Z Y0 := by
  refine cl_up hg (Or.inl ⟨by decide, rfl⟩) ?_ cu_15
  show Sum.inr ((List.range (A 15 0 + 1)).map (g.1 14)) = _
  rw [List.range_succ, List.map_append, ← hq]
  rfl
set_option maxRecDepth 100000 in
set_option maxHeartbeats 400000 in
theorem c_X4_dig (l : Launch) (w : hv_W) (g : cl_g) (A Z : ab_A) (Y0 : hv_H) (hg : cl_ok g (A 4 0) (A 15 0)) (hlt : l.stackTraces = false) (hI : ab_I A) (hZ : cl_Z A Z) (hF : cl_F g Y0) (u v x y : Int32)  : hv_Nr l yX4_dig wsX4_dig ({ frames := 7, cells := 8, slots := 100, locals := 171 }) w [.ref (g.1 0 0), .int (u), .int (v), .int (x), .int (y)] (cl_Y w g A Z Y0) (fun r Y1 => (q_dig A u v x y).1 = 0 ∧ r = .int (q_dig A u v x y).2.1 ∧ cl_S w (g.1 0 0) Y0 (q_dig A u v x y).2.2 Y1) (fun E Y1 => ec 2 E (q_dig A u v x y).1 ∧ Y1 = cl_Y w g A Z Y0) := by
  refine hv_ofVx (cc := cX4_dig) (own := RX4) (by decide) rfl rfl (Nat.le_of_ble_eq_true rfl) rfl ?_
  intro p e s m below meth c C hret hex
  have hinX2 : ∀ x ∈ wsX20, x ∈ wsX4_dig := by decide +kernel
  have hinX4 : ∀ x ∈ wsX40, x ∈ wsX4_dig := by decide +kernel
  refine hv_aload_n C dX4_dig_0 rfl 0 rfl ?_
  refine hv_iload_n C dX4_dig_1 rfl 1 rfl ?_
  refine hv_callVrx (As := [.int (u)]) (rest := []) (n := 1) C (c_X4_basinNumbered l w g A Z Y0 hg hlt u) gX4_dig_X4_basinNumbered rfl (by decide +kernel) ⟨Nat.le_of_ble_eq_true rfl, Nat.le_of_ble_eq_true rfl⟩ (cl_rc hg (Or.inl ⟨by decide, rfl⟩) rfl rfl) rfl rfl (Nat.le_of_ble_eq_true rfl) dX4_dig_2 ⟨by first | exact Nat.le_of_ble_eq_true rfl | omega | (simp; done) | (simp; omega), by first | exact Nat.le_of_ble_eq_true rfl | omega | (simp; done) | (simp; omega)⟩ (fun E Y1 h => ⟨(Or.inl ⟨h.1, (by first | (simp [q_dig, h.2.1]; done) | (unfold q_dig; (repeat' split) <;> simp_all))⟩), h.2.2⟩) hex (by first | exact Nat.le_of_ble_eq_true rfl | omega) (by first | exact Nat.le_of_ble_eq_true rfl | omega) (fun r1 Y1 hr => ?_)
  obtain ⟨⟨a, hx, rfl⟩, rfl⟩ := hr
  obtain ⟨ha, rfl⟩ := ix_y hx
  refine hv_astore (lv1 := [(0, .ref (g.1 0 0)), (1, .int (nI a)), (2, .int (v)), (3, .int (x)), (4, .int (y)), (5, .ref (g.1 5 a))]) C dX4_dig_5 (by decide) [1, 2, 3, 4, 5, 0] rfl ?_
  refine hv_aload_n C dX4_dig_7 rfl 0 rfl ?_
  refine hv_iload_n C dX4_dig_8 rfl 2 rfl ?_
  refine hv_callVrx (As := [.int (v)]) (rest := []) (n := 1) C (c_X4_basinNumbered l w g A Z Y0 hg hlt v) gX4_dig_X4_basinNumbered rfl (by decide +kernel) ⟨Nat.le_of_ble_eq_true rfl, Nat.le_of_ble_eq_true rfl⟩ (cl_rc hg (Or.inl ⟨by decide, rfl⟩) rfl rfl) rfl rfl (Nat.le_of_ble_eq_true rfl) dX4_dig_9 ⟨by first | exact Nat.le_of_ble_eq_true rfl | omega | (simp; done) | (simp; omega), by first | exact Nat.le_of_ble_eq_true rfl | omega | (simp; done) | (simp; omega)⟩ (fun E Y1 h => ⟨(Or.inl ⟨h.1, (by first | (simp [q_dig, hx, h.2.1]; done) | (unfold q_dig; (repeat' split) <;> simp_all))⟩), h.2.2⟩) hex (by first | exact Nat.le_of_ble_eq_true rfl | omega) (by first | exact Nat.le_of_ble_eq_true rfl | omega) (fun r2 Y1 hr => ?_)
  obtain ⟨⟨b, hy, rfl⟩, rfl⟩ := hr
  obtain ⟨hb, rfl⟩ := ix_y hy
  refine hv_astore (lv1 := [(0, .ref (g.1 0 0)), (1, .int (nI a)), (2, .int (nI b)), (3, .int (x)), (4, .int (y)), (5, .ref (g.1 5 a)), (6, .ref (g.1 5 b))]) C dX4_dig_12 (by decide) [1, 2, 3, 4, 5, 6, 0] rfl ?_
  refine hv_aload C dX4_dig_14 5 rfl ?_
  refine hv_aload C dX4_dig_16 6 rfl ?_
  refine hv_acmpR_ne (tgt := 31) C dX4_dig_18 (by decide) (fun h3 => ?_) (fun h3 => ?_)
  · skip
    have hab : a ≠ b := fun q => h3 ((cl_b hg ha hb).mpr q)
    refine hv_iload_n C dX4_dig_31 rfl 3 rfl ?_
    refine hv_iconst (v := nI 1) C dX4_dig_32 (by decide) ?_
    refine hv_bipush (v := nI 9) C dX4_dig_33 (by decide) ?_
    refine hv_callSvx (As := [.int (x), .int (nI 1), .int (nI 9)]) (rest := []) (n := 3) C (c_X4_requireRange l w hlt (cl_Y w g A Z Y0) x 1 9 (by decide) (by decide)) gX4_dig_X4_requireRange rfl (by decide +kernel) ⟨Nat.le_of_ble_eq_true rfl, Nat.le_of_ble_eq_true rfl⟩ rfl rfl (Nat.le_of_ble_eq_true rfl) dX4_dig_35 ⟨by first | exact Nat.le_of_ble_eq_true rfl | omega | (simp; done) | (simp; omega), by first | exact Nat.le_of_ble_eq_true rfl | omega | (simp; done) | (simp; omega)⟩ (fun E Y1 h => ⟨(Or.inr (Or.inl ⟨h.1, (by unfold q_dig; simp only [hx, hy, h.2.1] <;> ((repeat' split) <;> first | rfl | simp_all))⟩)), h.2.2⟩) hex (by first | exact Nat.le_of_ble_eq_true rfl | omega) (by first | exact Nat.le_of_ble_eq_true rfl | omega) (fun Y1 hr => ?_)
    obtain ⟨⟨c9, hz⟩, rfl⟩ := hr
    obtain ⟨hc9, hc92, rfl⟩ := rg_s (by decide) (by decide) hz
    refine hv_iload C dX4_dig_38 4 rfl ?_
    refine hv_iconst (v := nI 0) C dX4_dig_40 (by decide) ?_
    refine hv_bipush (v := nI 9) C dX4_dig_41 (by decide) ?_
    refine hv_callSvx (As := [.int (y), .int (nI 0), .int (nI 9)]) (rest := []) (n := 3) C (c_X4_requireRange l w hlt (cl_Y w g A Z Y0) y 0 9 (by decide) (by decide)) gX4_dig_X4_requireRange rfl (by decide +kernel) ⟨Nat.le_of_ble_eq_true rfl, Nat.le_of_ble_eq_true rfl⟩ rfl rfl (Nat.le_of_ble_eq_true rfl) dX4_dig_43 ⟨by first | exact Nat.le_of_ble_eq_true rfl | omega | (simp; done) | (simp; omega), by first | exact Nat.le_of_ble_eq_true rfl | omega | (simp; done) | (simp; omega)⟩ (fun E Y1 h => ⟨(Or.inr (Or.inl ⟨h.1, (by unfold q_dig; simp only [hx, hy, hz, h.2.1] <;> ((repeat' split) <;> first | rfl | simp_all))⟩)), h.2.2⟩) hex (by first | exact Nat.le_of_ble_eq_true rfl | omega) (by first | exact Nat.le_of_ble_eq_true rfl | omega) (fun Y1 hr => ?_)
    obtain ⟨⟨d9, hv⟩, rfl⟩ := hr
    obtain ⟨hd9, hd92, rfl⟩ := rg_s (by decide) (by decide) hv
    refine hv_aload_n C dX4_dig_46 rfl 0 rfl ?_
    refine hc_get (kd := 0) (i := 0) (f := 1) (v := .ref (g.1 2 0)) C hg (Or.inl ⟨by decide, rfl⟩) rfl rfl hinX4 (by decide) (by decide +kernel) rfl rfl dX4_dig_47 ?_
    refine hv_callVr (As := []) (rest := []) (n := 0) C (c_Jx4a65c_size_8abf5 l w (cl_Y w g A Z Y0) (g.1 2 0) ((List.range (A 4 0)).map (g.1 13)) (show cl_Y w g A Z Y0 (g.1 2 0) = some (.inr ((List.range (A 4 0)).map (g.1 13))) from cl_at hg (Or.inl ⟨by decide, rfl⟩))) gX4_dig_Jx4a65c_size_8abf5 rfl (by decide +kernel) ⟨Nat.le_of_ble_eq_true rfl, Nat.le_of_ble_eq_true rfl⟩ (cl_rcL hg (Or.inl ⟨by decide, rfl⟩) rfl) rfl rfl (Nat.le_of_ble_eq_true rfl) dX4_dig_50 ⟨by first | exact Nat.le_of_ble_eq_true rfl | omega | (simp; done) | (simp; omega), by first | exact Nat.le_of_ble_eq_true rfl | omega | (simp; done) | (simp; omega)⟩ (fun r6 Y1 hr => ?_)
    obtain ⟨rfl, rfl⟩ := hr
    refine hv_top (y := nI (A 4 0)) (by rw [cl_lenM]) ?_
    refine hv_istore (lv1 := [(0, .ref (g.1 0 0)), (1, .int (nI a)), (2, .int (nI b)), (3, .int (nI c9)), (4, .int (nI d9)), (5, .ref (g.1 5 a)), (6, .ref (g.1 5 b)), (7, .int (nI (A 4 0)))]) C dX4_dig_53 (by decide) [1, 2, 3, 4, 5, 6, 7, 0] rfl ?_
    have h14 := hI.2.2.2.1
    refine hv_iload C dX4_dig_55 7 rfl ?_
    refine hv_bipush (v := nI 14) C dX4_dig_57 (by decide) ?_
    refine hv_icmpN_lt (tgt := 72) C dX4_dig_59 (by decide) (by omega) (by omega) (fun h7 => ?_) (fun h7 => ?_)
    · skip
      refine hv_aload_n C dX4_dig_72 rfl 0 rfl ?_
      refine hc_get (kd := 0) (i := 0) (f := 1) (v := .ref (g.1 2 0)) C hg (Or.inl ⟨by decide, rfl⟩) rfl rfl hinX4 (by decide) (by decide +kernel) rfl rfl dX4_dig_73 ?_
      refine hv_new (fs := [.int (nI 0), .null, .null, .int (nI 0), .int (nI 0), .int (nI 0)]) C hinX2 tyX2 tyX2_ok (by decide +kernel) (by decide +kernel) (by decide +kernel) (show vwCl[3]? = some (RX2, TX2, 6) from rfl) (fun j hj => by rcases (show j = 0 ∨ j = 1 ∨ j = 2 ∨ j = 3 ∨ j = 4 ∨ j = 5 from by omega) with rfl | rfl | rfl | rfl | rfl | rfl <;> rfl) (Nat.le_of_ble_eq_true rfl) (Nat.le_of_ble_eq_true rfl) dX4_dig_76 (fun q hq => ?_)
      refine hv_dup C dX4_dig_79 rfl ?_
      refine hv_iload C dX4_dig_80 7 rfl ?_
      refine hv_aload C dX4_dig_82 5 rfl ?_
      refine hv_aload C dX4_dig_84 6 rfl ?_
      refine hv_iload_n C dX4_dig_86 rfl 3 rfl ?_
      refine hv_iload C dX4_dig_87 4 rfl ?_
      refine hv_callIv (As := [.int (nI (A 4 0)), .ref (g.1 5 a), .ref (g.1 5 b), .int (nI c9), .int (nI d9)]) (rest := [.ref (q), .ref (g.1 2 0)]) (n := 5) C (c_X2_init l w (hv_up (cl_Y w g A Z Y0) q (.inl (.inr (3, [.int (nI 0), .null, .null, .int (nI 0), .int (nI 0), .int (nI 0)])))) q (A 4 0) (g.1 5 a) (g.1 5 b) c9 d9 hv_up_s) gX4_dig_X2_init rfl (by decide +kernel) (by decide +kernel) (by decide +kernel) rfl (by decide +kernel) ⟨Nat.le_of_ble_eq_true rfl, Nat.le_of_ble_eq_true rfl⟩ rfl rfl (Nat.le_of_ble_eq_true rfl) dX4_dig_89 ⟨by first | exact Nat.le_of_ble_eq_true rfl | omega | (simp; done) | (simp; omega), by first | exact Nat.le_of_ble_eq_true rfl | omega | (simp; done) | (simp; omega)⟩ (fun Y1 hr => ?_)
      subst hr
      rw [hv_upup]
      obtain ⟨hg1, hF1, hYq⟩ := cl_newC (c := c9) (d := d9) hg hI hZ hF hq ha hb
      refine hv_fin ?_ hYq rfl
      have hq13 : (cl_gc g (A 4 0) q).1 13 (A 4 0) = q := if_pos ⟨rfl, rfl⟩
      refine hv_callVr (As := [.ref (q)]) (rest := []) (n := 1) C (c_Jx4a65c_add_9ea2d l w (cl_Y w (cl_gc g (A 4 0) q) (f_dg A a b c9 d9) Z Y0) ((cl_gc g (A 4 0) q).1 2 0) q 3 60 _ ((List.range (A 4 0)).map ((cl_gc g (A 4 0) q).1 13)) (show cl_Y w (cl_gc g (A 4 0) q) (f_dg A a b c9 d9) Z Y0 ((cl_gc g (A 4 0) q).1 2 0) = some (.inr ((List.range (A 4 0)).map ((cl_gc g (A 4 0) q).1 13))) from cl_at hg1 (Or.inl ⟨by decide, rfl⟩)) (by have h9 := cl_at (w := w) (A := (f_dg A a b c9 d9)) (Z := Z) (Y0 := Y0) hg1 (kd := 13) (i := A 4 0) (Or.inr (Or.inr (Or.inl ⟨rfl, Nat.lt_succ_self _⟩))); rw [hq13] at h9; exact h9) (by rw [cl_lenM]; omega) (Or.inr (Nat.le_refl 60)) (Or.inr rfl) (fun y hy => by obtain ⟨k, hk, rfl⟩ := List.mem_map.mp hy; have hk2 := List.mem_range.mp hk; exact ⟨_, cl_at hg1 (Or.inr (Or.inr (Or.inl ⟨rfl, by omega⟩)))⟩)) gX4_dig_Jx4a65c_add_9ea2d rfl (by decide +kernel) ⟨Nat.le_of_ble_eq_true rfl, Nat.le_of_ble_eq_true rfl⟩ (cl_rcL (g := (cl_gc g (A 4 0) q)) hg1 (Or.inl ⟨by decide, rfl⟩) rfl) rfl rfl (Nat.le_of_ble_eq_true rfl) dX4_dig_92 ⟨by first | exact Nat.le_of_ble_eq_true rfl | omega | (simp; done) | (simp; omega), by first | exact Nat.le_of_ble_eq_true rfl | omega | (simp; done) | (simp; omega)⟩ (fun r9 Y1 hr => ?_)
      obtain ⟨rfl, rfl⟩ := hr
      refine hv_fin (Y1 := cl_Y w (cl_gc g (A 4 0) q) (f_dig A a b c9 d9) Z Y0) ?_ (cl_addC (A := (f_dg A a b c9 d9)) hg1 hq13) rfl
      refine hv_pop C dX4_dig_95 rfl ?_
      refine hv_iload C dX4_dig_96 7 rfl ?_
      exact hv_iretx C hret dX4_dig_98 (by first | exact Nat.le_refl _ | decide | omega | (simp; done) | (simp; omega)) (by first | exact Nat.le_refl _ | decide | omega | (simp; done) | (simp; omega)) (by rw [show q_dig A (nI a) (nI b) (nI c9) (nI d9) = (0, nI (A 4 0), f_dig A a b c9 d9) from by simp only [q_dig, hx, hy, hz, hv]; rw [if_neg hab, if_neg (by omega)]]; exact ⟨rfl, rfl, ⟨(cl_gc g (A 4 0) q), Z, hg1, ⟨hZ.1, fun k hk => Nat.le_succ_of_le (hZ.2 k hk)⟩, hF1, rfl, rfl⟩⟩)
    · skip
      exact hv_throw (ik := 51) (is := 53) (ic := 55) (cls := hv_IS) (text := "no more canals can be dug") (names := hv_RE) C hlt (by decide) (by decide) (by decide +kernel) (by decide +kernel) rfl (by decide) (by decide +kernel) (by decide +kernel) (by decide +kernel) dX4_dig_62 dX4_dig_65 dX4_dig_66 dX4_dig_68 dX4_dig_71 hex (by decide) (Nat.le_of_ble_eq_true rfl) (Nat.le_of_ble_eq_true rfl) (Nat.le_of_ble_eq_true rfl) (Nat.le_of_ble_eq_true rfl) (Nat.le_of_ble_eq_true rfl) ⟨(Or.inr (Or.inr ⟨rfl, (by simp only [q_dig, hx, hy, hz, hv]; rw [if_neg hab, if_pos (by omega)])⟩)), rfl⟩
  · skip
    exact hv_throw (ik := 36) (is := 38) (ic := 40) (cls := hv_IA) (text := "a canal goes between two basins") (names := hv_RE) C hlt (by decide) (by decide) (by decide +kernel) (by decide +kernel) rfl (by decide) (by decide +kernel) (by decide +kernel) (by decide +kernel) dX4_dig_21 dX4_dig_24 dX4_dig_25 dX4_dig_27 dX4_dig_30 hex (by decide) (Nat.le_of_ble_eq_true rfl) (Nat.le_of_ble_eq_true rfl) (Nat.le_of_ble_eq_true rfl) (Nat.le_of_ble_eq_true rfl) (Nat.le_of_ble_eq_true rfl) ⟨(Or.inr (Or.inl ⟨rfl, (by have hab : a = b := (cl_b hg ha hb).mp h3; unfold q_dig; simp only [hx, hy]; (repeat' split) <;> first | rfl | (exfalso; omega))⟩)), rfl⟩
def cl_gb (g : cl_g) (k q q2 : Nat) : cl_g := (fun kd i => if kd = 14 ∧ i = k then q else if kd = 15 ∧ i = k then q2 else g.1 kd i, fun x => if x = q then some (14, k) else if x = q2 then some (15, k) else g.2 x)
def f_bg (A : ab_A) (b d n : Nat) : ab_A := au (au (au (au (au (au A 17 (A 15 0) d) 18 (A 15 0) n) 22 (A 15 0) b) 23 (A 15 0) (2 ^ b)) 24 (A 15 0) 0) 21 (A 15 0) 0
theorem bg_s {A : ab_A} {b d n s i : Nat} (h : i ≠ A 15 0) : f_bg A b d n s i = A s i := by
  simp only [f_bg, au, if_neg h, ite_self]
theorem bg_old {w : hv_W} {ad : Nat → Nat → Nat} {A Z : ab_A} {b d n : Nat} : ∀ kd i, cl_in (A 4 0) (A 15 0) kd i → cl_cell w ad (f_bg A b d n) Z kd i = cl_cell w ad A Z kd i := by
  intro kd i hin
  unfold cl_cell
  split <;> first | with_reducible rfl | rfl | skip
  · have hi : i ≠ A 15 0 := by unfold cl_in at hin; omega
    simp only [bg_s hi]
  · have hi : i ≠ A 15 0 := by unfold cl_in at hin; omega
    simp only [bg_s hi]
theorem nb_p2 : ∀ b, b < 8 → ∀ j, j < 8 → 2 ^ b / 2 ^ j % 2 = if j = b then 1 else 0 := by decide +kernel
theorem cl_newB {w : hv_W} {g : cl_g} {A Z : ab_A} {Y0 : hv_H} {q q2 : Nat} (hg : cl_ok g (A 4 0) (A 15 0)) (hI : ab_I A) (hZ : cl_Z A Z) (hF : cl_F g Y0) (hq : cl_Y w g A Z Y0 q = none) (hqq : q ≠ q2) (hq2 : cl_Y w g A Z Y0 q2 = none) {b d n : Nat} (hb : b < 8) (hd : d < 8) : cl_ok (cl_gb g (A 15 0) q q2) (A 4 0) (A 15 0 + 1) ∧ cl_F (cl_gb g (A 15 0) q q2) Y0 ∧ hv_up (hv_up (cl_Y w g A Z Y0) q (.inl (.inr (1, [.int (nI (A 15 0)), .ref (g.1 5 d), .ref q2, .ref (g.1 5 b), .int (nI n), .int (nI 0), .int (nI 0), .int (nI 0), .int (nI 0)])))) q2 (.inl (.inl (hv_c w 1, 8, .inl (upd (fun _ => 0) b (nI 1))))) = cl_Y w (cl_gb g (A 15 0) q q2) (f_bg A b d n) Z Y0 := by
  obtain ⟨hq1, hq1'⟩ := cl_none hq
  obtain ⟨hq3, hq3'⟩ := cl_none hq2
  have hne : ∀ kd i, cl_in (A 4 0) (A 15 0) kd i → g.1 kd i ≠ q ∧ g.1 kd i ≠ q2 := by
    intro kd i hin
    have h := hg.1 kd i hin
    refine ⟨fun z => ?_, fun z => ?_⟩
    · rw [z, hq1] at h; cases h
    · rw [z, hq3] at h; cases h
  have hold : ∀ kd i, cl_in (A 4 0) (A 15 0) kd i → (cl_gb g (A 15 0) q q2).1 kd i = g.1 kd i := by
    intro kd i hin
    refine (if_neg (fun z => ?_)).trans (if_neg (fun z => ?_)) <;> (unfold cl_in at hin; omega)
  refine ⟨⟨?_, ?_⟩, ?_, ?_⟩
  · intro kd i hin
    rcases cl_in_k hin with h | ⟨rfl, rfl⟩ | ⟨rfl, rfl⟩
    · rw [hold kd i h]
      show (if g.1 kd i = q then _ else if g.1 kd i = q2 then _ else g.2 (g.1 kd i)) = _
      rw [if_neg (hne kd i h).1, if_neg (hne kd i h).2, hg.1 kd i h]
    · simp [cl_gb]
    · simp [cl_gb, Ne.symm hqq]
  · intro x kd i hx
    have hx' : (if x = q then some (14, A 15 0) else if x = q2 then some (15, A 15 0) else g.2 x) = some (kd, i) := hx
    by_cases h : x = q
    · rw [if_pos h] at hx'
      cases hx'
      exact ⟨Or.inr (Or.inr (Or.inr ⟨Or.inl rfl, Nat.lt_succ_self _⟩)), h.trans (if_pos ⟨rfl, rfl⟩).symm⟩
    · rw [if_neg h] at hx'
      by_cases h2 : x = q2
      · rw [if_pos h2] at hx'
        cases hx'
        exact ⟨Or.inr (Or.inr (Or.inr ⟨Or.inr rfl, Nat.lt_succ_self _⟩)), h2.trans (by simp [cl_gb])⟩
      · rw [if_neg h2] at hx'
        obtain ⟨h1, h3⟩ := hg.2 x kd i hx'
        refine ⟨?_, h3.trans (hold kd i h1).symm⟩
        unfold cl_in at h1 ⊢
        omega
  · intro x z hx
    have hx' : (if x = q then some (14, A 15 0) else if x = q2 then some (15, A 15 0) else g.2 x) = some z := hx
    by_cases h : x = q
    · rw [h]; exact hq1'
    · rw [if_neg h] at hx'
      by_cases h2 : x = q2
      · rw [h2]; exact hq3'
      · rw [if_neg h2] at hx'
        exact hF x z hx'
  · obtain ⟨z19, z20⟩ := hI.2.2.2.2.2.2.2.2.2 (A 15 0) (Nat.le_refl _)
    funext x
    show (if x = q2 then _ else if x = q then _ else cl_Y w g A Z Y0 x) = (match (if x = q then some (14, A 15 0) else if x = q2 then some (15, A 15 0) else g.2 x) with | some z => some (cl_cell w (cl_gb g (A 15 0) q q2).1 (f_bg A b d n) Z z.1 z.2) | none => Y0 x)
    by_cases h : x = q
    · rw [if_neg (fun z => hqq (h.symm.trans z)), if_pos h, if_pos h]
      have e15 : (cl_gb g (A 15 0) q q2).1 15 (A 15 0) = q2 := by simp [cl_gb]
      have e19 : f_bg A b d n 19 (A 15 0) = 0 := z19
      have e20 : f_bg A b d n 20 (A 15 0) = 0 := z20
      show some _ = some (Sum.inl (Sum.inr (1, [Value.int (nI (A 15 0)), Value.ref (g.1 5 (f_bg A b d n 17 (A 15 0))), Value.ref ((cl_gb g (A 15 0) q q2).1 15 (A 15 0)), Value.ref (g.1 5 (f_bg A b d n 22 (A 15 0))), Value.int (nI (f_bg A b d n 18 (A 15 0))), Value.int (nI (f_bg A b d n 19 (A 15 0))), Value.int (nI (f_bg A b d n 20 (A 15 0))), Value.int (nI (f_bg A b d n 21 (A 15 0))), Value.int (nI (f_bg A b d n 24 (A 15 0) - 1))])))
      rw [e15, e19, e20]
      simp [f_bg, au]
    · by_cases h2 : x = q2
      · rw [if_pos h2, if_neg h, if_pos h2]
        show some (Sum.inl (Sum.inl (hv_c w 1, 8, Sum.inl (upd (fun _ => 0) b (nI 1))))) = some (Sum.inl (Sum.inl (hv_c w 1, 8, Sum.inl (fun j => if j < 8 then nI (f_bg A b d n 23 (A 15 0) / 2 ^ j % 2) else 0))))
        congr 1
        refine cI_ext (fun j => ?_)
        have e23 : f_bg A b d n 23 (A 15 0) = 2 ^ b := by simp [f_bg, au]
        rw [e23]
        simp only [upd]
        by_cases hj : j < 8
        · rw [if_pos hj, nb_p2 b hb j hj]
          by_cases hjb : j = b
          · rw [if_pos hjb, if_pos hjb]
          · rw [if_neg hjb, if_neg hjb]
            rfl
        · rw [if_neg hj, if_neg (by omega)]
      · rw [if_neg h2, if_neg h, if_neg h, if_neg h2]
        unfold cl_Y
        cases hz : g.2 x with
        | none => rfl
        | some z =>
          have h1 := (hg.2 x z.1 z.2 hz).1
          show some _ = some _
          rw [bg_old _ _ h1, cl_ad hI hZ hold _ _ h1]
theorem out_a {A : ab_A} {b d n : Nat} (h : b = d) : au (au (f_bg A b d n) 15 0 (A 15 0 + 1)) 21 (A 15 0) 1 = f_out A b d n := by
  subst h
  unfold f_out f_out0
  rw [if_pos rfl, if_pos rfl]
  funext k i
  by_cases h15 : k = 15
  · subst h15; rfl
  by_cases h21 : k = 21
  · subst h21
    show (if i = A 15 0 then 1 else if i = A 15 0 then 0 else A 21 i) = (if i = A 15 0 then 1 else A 21 i)
    by_cases q : i = A 15 0
    · rw [if_pos q, if_pos q]
    · rw [if_neg q, if_neg q, if_neg q]
  simp only [au, f_bg, if_neg h15, if_neg h21]
theorem cl_c1 {w : hv_W} {g : cl_g} {A Z : ab_A} {Y0 : hv_H} {n k i q : Nat} (hg : cl_ok g n k) (hi : i < k) (hq : g.1 14 i = q) : hv_up (cl_Y w g A Z Y0) q (.inl (.inr (1, ([.int (nI i), .ref (g.1 5 (A 17 i)), .ref (g.1 15 i), .ref (g.1 5 (A 22 i)), .int (nI (A 18 i)), .int (nI (A 19 i)), .int (nI (A 20 i)), .int (nI (A 21 i)), .int (nI (A 24 i - 1))] : List Value).set 7 (.int (nI 1))))) = cl_Y w g (au A 21 i 1) Z Y0 := by
  subst hq
  exact cl_up hg (Or.inr (Or.inr (Or.inr ⟨Or.inl rfl, hi⟩))) (by simp [cl_cell, au]) cu_21
theorem out_b {A : ab_A} {b d n : Nat} (h : b ≠ d) : f_join (au (f_bg A b d n) 15 0 (A 15 0 + 1)) (A 15 0) b = f_out A b d n := by
  unfold f_out f_out0
  rw [if_neg h, if_neg h]
  congr 1
  funext k i
  by_cases h15 : k = 15
  · subst h15; rfl
  simp only [au, f_bg, if_neg h15]
set_option maxRecDepth 100000 in
set_option maxHeartbeats 400000 in
theorem c_X4_setOut (l : Launch) (w : hv_W) (g : cl_g) (A Z : ab_A) (Y0 : hv_H) (hg : cl_ok g (A 4 0) (A 15 0)) (hlt : l.stackTraces = false) (hI : ab_I A) (hZ : cl_Z A Z) (hF : cl_F g Y0) (x y z : Int32)  : hv_Nr l yX4_setOut wsX4_setOut ({ frames := 7, cells := 16, slots := 220, locals := 171 }) w [.ref (g.1 0 0), .int (x), .int (y), .int (z)] (cl_Y w g A Z Y0) (fun r Y1 => (q_setOut A x y z).1 = 0 ∧ r = .int (q_setOut A x y z).2.1 ∧ cl_S w (g.1 0 0) Y0 (q_setOut A x y z).2.2 Y1) (fun E Y1 => ec 2 E (q_setOut A x y z).1 ∧ Y1 = cl_Y w g A Z Y0) := by
  refine hv_ofVx (cc := cX4_setOut) (own := RX4) (by decide) rfl rfl (Nat.le_of_ble_eq_true rfl) rfl ?_
  intro p e s m below meth c C hret hex
  have hinX0 : ∀ x ∈ wsX00, x ∈ wsX4_setOut := by decide +kernel
  have hinX1 : ∀ x ∈ wsX10, x ∈ wsX4_setOut := by decide +kernel
  have hinX4 : ∀ x ∈ wsX40, x ∈ wsX4_setOut := by decide +kernel
  refine hv_aload_n C dX4_setOut_0 rfl 0 rfl ?_
  refine hv_iload_n C dX4_setOut_1 rfl 1 rfl ?_
  refine hv_callVrx (As := [.int (x)]) (rest := []) (n := 1) C (c_X4_basinNumbered l w g A Z Y0 hg hlt x) gX4_setOut_X4_basinNumbered rfl (by decide +kernel) ⟨Nat.le_of_ble_eq_true rfl, Nat.le_of_ble_eq_true rfl⟩ (cl_rc hg (Or.inl ⟨by decide, rfl⟩) rfl rfl) rfl rfl (Nat.le_of_ble_eq_true rfl) dX4_setOut_2 ⟨by first | exact Nat.le_of_ble_eq_true rfl | omega | (simp; done) | (simp; omega), by first | exact Nat.le_of_ble_eq_true rfl | omega | (simp; done) | (simp; omega)⟩ (fun E Y1 h => ⟨(Or.inl ⟨h.1, (by first | (simp [q_setOut, h.2.1]; done) | (unfold q_setOut; (repeat' split) <;> simp_all))⟩), h.2.2⟩) hex (by first | exact Nat.le_of_ble_eq_true rfl | omega) (by first | exact Nat.le_of_ble_eq_true rfl | omega) (fun r1 Y1 hr => ?_)
  obtain ⟨⟨b, hx, rfl⟩, rfl⟩ := hr
  obtain ⟨hb, rfl⟩ := ix_y hx
  refine hv_astore (lv1 := [(0, .ref (g.1 0 0)), (1, .int (nI b)), (2, .int (y)), (3, .int (z)), (4, .ref (g.1 5 b))]) C dX4_setOut_5 (by decide) [1, 2, 3, 4, 0] rfl ?_
  refine hv_aload_n C dX4_setOut_7 rfl 0 rfl ?_
  refine hv_iload_n C dX4_setOut_8 rfl 2 rfl ?_
  refine hv_callVrx (As := [.int (y)]) (rest := []) (n := 1) C (c_X4_basinNumbered l w g A Z Y0 hg hlt y) gX4_setOut_X4_basinNumbered rfl (by decide +kernel) ⟨Nat.le_of_ble_eq_true rfl, Nat.le_of_ble_eq_true rfl⟩ (cl_rc hg (Or.inl ⟨by decide, rfl⟩) rfl rfl) rfl rfl (Nat.le_of_ble_eq_true rfl) dX4_setOut_9 ⟨by first | exact Nat.le_of_ble_eq_true rfl | omega | (simp; done) | (simp; omega), by first | exact Nat.le_of_ble_eq_true rfl | omega | (simp; done) | (simp; omega)⟩ (fun E Y1 h => ⟨(Or.inl ⟨h.1, (by first | (simp [q_setOut, hx, h.2.1]; done) | (unfold q_setOut; (repeat' split) <;> simp_all))⟩), h.2.2⟩) hex (by first | exact Nat.le_of_ble_eq_true rfl | omega) (by first | exact Nat.le_of_ble_eq_true rfl | omega) (fun r2 Y1 hr => ?_)
  obtain ⟨⟨d, hy, rfl⟩, rfl⟩ := hr
  obtain ⟨hd, rfl⟩ := ix_y hy
  refine hv_astore (lv1 := [(0, .ref (g.1 0 0)), (1, .int (nI b)), (2, .int (nI d)), (3, .int (z)), (4, .ref (g.1 5 b)), (5, .ref (g.1 5 d))]) C dX4_setOut_12 (by decide) [1, 2, 3, 4, 5, 0] rfl ?_
  refine hv_iload_n C dX4_setOut_14 rfl 3 rfl ?_
  refine hv_iconst (v := nI 1) C dX4_setOut_15 (by decide) ?_
  refine hv_bipush (v := nI 20) C dX4_setOut_16 (by decide) ?_
  refine hv_callSvx (As := [.int (z), .int (nI 1), .int (nI 20)]) (rest := []) (n := 3) C (c_X4_requireRange l w hlt (cl_Y w g A Z Y0) z 1 20 (by decide) (by decide)) gX4_setOut_X4_requireRange rfl (by decide +kernel) ⟨Nat.le_of_ble_eq_true rfl, Nat.le_of_ble_eq_true rfl⟩ rfl rfl (Nat.le_of_ble_eq_true rfl) dX4_setOut_18 ⟨by first | exact Nat.le_of_ble_eq_true rfl | omega | (simp; done) | (simp; omega), by first | exact Nat.le_of_ble_eq_true rfl | omega | (simp; done) | (simp; omega)⟩ (fun E Y1 h => ⟨(Or.inr (Or.inl ⟨h.1, (by unfold q_setOut; simp only [hx, hy, h.2.1] <;> ((repeat' split) <;> first | rfl | simp_all))⟩)), h.2.2⟩) hex (by first | exact Nat.le_of_ble_eq_true rfl | omega) (by first | exact Nat.le_of_ble_eq_true rfl | omega) (fun Y1 hr => ?_)
  obtain ⟨⟨n, hz⟩, rfl⟩ := hr
  obtain ⟨hn, hn2, rfl⟩ := rg_s (by decide) (by decide) hz
  refine hv_aload_n C dX4_setOut_21 rfl 0 rfl ?_
  refine hc_get (kd := 0) (i := 0) (f := 2) (v := .ref (g.1 3 0)) C hg (Or.inl ⟨by decide, rfl⟩) rfl rfl hinX4 (by decide) (by decide +kernel) rfl rfl dX4_setOut_22 ?_
  refine hv_callVr (As := []) (rest := []) (n := 0) C (c_Jx4a65c_size_8abf5 l w (cl_Y w g A Z Y0) (g.1 3 0) ((List.range (A 15 0)).map (g.1 14)) (show cl_Y w g A Z Y0 (g.1 3 0) = some (.inr ((List.range (A 15 0)).map (g.1 14))) from cl_at hg (Or.inl ⟨by decide, rfl⟩))) gX4_setOut_Jx4a65c_size_8abf5 rfl (by decide +kernel) ⟨Nat.le_of_ble_eq_true rfl, Nat.le_of_ble_eq_true rfl⟩ (cl_rcL hg (Or.inl ⟨by decide, rfl⟩) rfl) rfl rfl (Nat.le_of_ble_eq_true rfl) dX4_setOut_25 ⟨by first | exact Nat.le_of_ble_eq_true rfl | omega | (simp; done) | (simp; omega), by first | exact Nat.le_of_ble_eq_true rfl | omega | (simp; done) | (simp; omega)⟩ (fun r4 Y1 hr => ?_)
  obtain ⟨rfl, rfl⟩ := hr
  refine hv_top (y := nI (A 15 0)) (by rw [cl_lenM]) ?_
  refine hv_istore (lv1 := [(0, .ref (g.1 0 0)), (1, .int (nI b)), (2, .int (nI d)), (3, .int (nI n)), (4, .ref (g.1 5 b)), (5, .ref (g.1 5 d)), (6, .int (nI (A 15 0)))]) C dX4_setOut_28 (by decide) [1, 2, 3, 4, 5, 6, 0] rfl ?_
  have h40 := hI.2.2.2.2.2.2.1
  refine hv_iload C dX4_setOut_30 6 rfl ?_
  refine hv_bipush (v := nI 40) C dX4_setOut_32 (by decide) ?_
  refine hv_icmpN_ge (tgt := 52) C dX4_setOut_34 (by decide) (by omega) (by omega) (fun h5 => ?_) (fun h5 => ?_)
  · skip
    exact hv_throw (ik := 51) (is := 106) (ic := 55) (cls := hv_IS) (text := "no more barges can set out here") (names := hv_RE) C hlt (by decide) (by decide) (by decide +kernel) (by decide +kernel) rfl (by decide) (by decide +kernel) (by decide +kernel) (by decide +kernel) dX4_setOut_52 dX4_setOut_55 dX4_setOut_56 dX4_setOut_58 dX4_setOut_61 hex (by decide) (Nat.le_of_ble_eq_true rfl) (Nat.le_of_ble_eq_true rfl) (Nat.le_of_ble_eq_true rfl) (Nat.le_of_ble_eq_true rfl) (Nat.le_of_ble_eq_true rfl) ⟨(Or.inr (Or.inr ⟨rfl, (by simp only [q_setOut, hx, hy, hz]; rw [if_pos (by omega)])⟩)), rfl⟩
  · skip
    refine hv_aload C dX4_setOut_37 4 rfl ?_
    refine hv_aload C dX4_setOut_39 5 rfl ?_
    refine hv_acmpR_eq (tgt := 62) C dX4_setOut_41 (by decide) (fun h6 => ?_) (fun h6 => ?_)
    · skip
      have hk40 : A 15 0 < 40 := by omega
      refine hv_new (fs := [.int (nI 0), .null, .null, .null, .int (nI 0), .int (nI 0), .int (nI 0), .int (nI 0), .int (nI 0)]) C hinX0 tyX0 tyX0_ok (by decide +kernel) (by decide +kernel) (by decide +kernel) (show vwCl[1]? = some (RX0, TX0, 9) from rfl) (fun j hj => by rcases (show j = 0 ∨ j = 1 ∨ j = 2 ∨ j = 3 ∨ j = 4 ∨ j = 5 ∨ j = 6 ∨ j = 7 ∨ j = 8 from by omega) with rfl | rfl | rfl | rfl | rfl | rfl | rfl | rfl | rfl <;> rfl) (Nat.le_of_ble_eq_true rfl) (Nat.le_of_ble_eq_true rfl) dX4_setOut_62 (fun q hq => ?_)
      have hqb : g.1 5 b ≠ q := by intro z; rw [← z, cl_at hg (Or.inr (Or.inl ⟨by decide, by decide, hb⟩))] at hq; cases hq
      refine hv_dup C dX4_setOut_65 rfl ?_
      refine hv_iload C dX4_setOut_66 6 rfl ?_
      refine hv_aload C dX4_setOut_68 4 rfl ?_
      refine hv_aload C dX4_setOut_70 5 rfl ?_
      refine hv_iload_n C dX4_setOut_72 rfl 3 rfl ?_
      refine hv_callIv (As := [.int (nI (A 15 0)), .ref (g.1 5 b), .ref (g.1 5 d), .int (nI n)]) (rest := [.ref (q)]) (n := 4) C (c_X0_init l w (hv_up (cl_Y w g A Z Y0) q (.inl (.inr (1, [.int (nI 0), .null, .null, .null, .int (nI 0), .int (nI 0), .int (nI 0), .int (nI 0), .int (nI 0)])))) q (A 15 0) (g.1 5 b) (g.1 5 d) n b _ hv_up_s ((hv_up_n hqb).trans ((cl_at hg (Or.inr (Or.inl ⟨by decide, by decide, hb⟩))).trans rfl)) rfl hb) gX4_setOut_X0_init rfl (by decide +kernel) (by decide +kernel) (by decide +kernel) rfl (by decide +kernel) ⟨Nat.le_of_ble_eq_true rfl, Nat.le_of_ble_eq_true rfl⟩ rfl rfl (Nat.le_of_ble_eq_true rfl) dX4_setOut_73 ⟨by first | exact Nat.le_of_ble_eq_true rfl | omega | (simp; done) | (simp; omega), by first | exact Nat.le_of_ble_eq_true rfl | omega | (simp; done) | (simp; omega)⟩ (fun Y1 hr => ?_)
      obtain ⟨q2, hq2, hqq, hr⟩ := hr
      subst hr
      rw [hv_upup]
      rw [hv_up_n (Ne.symm hqq)] at hq2
      obtain ⟨hg1, hF1, hYq⟩ := cl_newB (n := n) hg hI hZ hF hq hqq hq2 hb hd
      refine hv_fin ?_ hYq rfl
      have hq14 : (cl_gb g (A 15 0) q q2).1 14 (A 15 0) = q := if_pos ⟨rfl, rfl⟩
      have h21 : ∀ y k, y < 8 → k < A 2 y → A 3 (6 * y + k) < A 15 0 := fun y k hy hk => (hI.2.1 y k hy hk).1
      refine hv_astore (lv1 := [(0, .ref (g.1 0 0)), (1, .int (nI b)), (2, .int (nI d)), (3, .int (nI n)), (4, .ref (g.1 5 b)), (5, .ref (g.1 5 d)), (6, .int (nI (A 15 0))), (7, .ref (q))]) C dX4_setOut_76 (by decide) [1, 2, 3, 4, 5, 6, 7, 0] rfl ?_
      refine hv_aload_n C dX4_setOut_78 rfl 0 rfl ?_
      refine hc_get (g := (cl_gb g (A 15 0) q q2)) (kd := 0) (i := 0) (f := 2) (v := .ref ((cl_gb g (A 15 0) q q2).1 3 0)) C hg1 (Or.inl ⟨by decide, rfl⟩) rfl rfl hinX4 (by decide) (by decide +kernel) rfl rfl dX4_setOut_79 ?_
      refine hv_aload C dX4_setOut_82 7 rfl ?_
      refine hv_callVr (As := [.ref (q)]) (rest := []) (n := 1) C (c_Jx4a65c_add_9ea2d l w (cl_Y w (cl_gb g (A 15 0) q q2) (f_bg A b d n) Z Y0) ((cl_gb g (A 15 0) q q2).1 3 0) q 1 60 _ ((List.range (A 15 0)).map ((cl_gb g (A 15 0) q q2).1 14)) (show cl_Y w (cl_gb g (A 15 0) q q2) (f_bg A b d n) Z Y0 ((cl_gb g (A 15 0) q q2).1 3 0) = some (.inr ((List.range (A 15 0)).map ((cl_gb g (A 15 0) q q2).1 14))) from cl_at hg1 (Or.inl ⟨by decide, rfl⟩)) (by have h9 := cl_at (w := w) (A := (f_bg A b d n)) (Z := Z) (Y0 := Y0) hg1 (kd := 14) (i := A 15 0) (Or.inr (Or.inr (Or.inr ⟨Or.inl rfl, Nat.lt_succ_self _⟩))); rw [hq14] at h9; exact h9) (by rw [cl_lenM]; omega) (Or.inr (Nat.le_refl 60)) (Or.inl rfl) (fun y hy => by obtain ⟨k, hk, rfl⟩ := List.mem_map.mp hy; have hk2 := List.mem_range.mp hk; exact ⟨_, cl_at hg1 (Or.inr (Or.inr (Or.inr ⟨Or.inl rfl, by omega⟩)))⟩)) gX4_setOut_Jx4a65c_add_9ea2d rfl (by decide +kernel) ⟨Nat.le_of_ble_eq_true rfl, Nat.le_of_ble_eq_true rfl⟩ (cl_rcL (g := (cl_gb g (A 15 0) q q2)) hg1 (Or.inl ⟨by decide, rfl⟩) rfl) rfl rfl (Nat.le_of_ble_eq_true rfl) dX4_setOut_84 ⟨by first | exact Nat.le_of_ble_eq_true rfl | omega | (simp; done) | (simp; omega), by first | exact Nat.le_of_ble_eq_true rfl | omega | (simp; done) | (simp; omega)⟩ (fun r8 Y1 hr => ?_)
      obtain ⟨rfl, rfl⟩ := hr
      refine hv_fin (Y1 := cl_Y w (cl_gb g (A 15 0) q q2) (au (f_bg A b d n) 15 0 (A 15 0 + 1)) Z Y0) ?_ (cl_addB (A := (f_bg A b d n)) hg1 hq14) rfl
      refine hv_pop C dX4_setOut_87 rfl ?_
      refine hv_aload C dX4_setOut_88 4 rfl ?_
      refine hv_aload C dX4_setOut_90 5 rfl ?_
      refine hv_acmpR_ne (tgt := 104) C dX4_setOut_92 (by decide) (fun h9 => ?_) (fun h9 => ?_)
      · skip
        have hbd2 : b ≠ d := fun q => h9 ((cl_b hg hb hd).mpr q)
        have h2b := (hI.1 b hb).2.2.2.2
        refine hv_aload C dX4_setOut_104 4 rfl ?_
        refine hc_get (g := (cl_gb g (A 15 0) q q2)) (kd := 5) (i := b) (f := 1) (v := .ref ((cl_gb g (A 15 0) q q2).1 6 b)) C hg1 (Or.inr (Or.inl ⟨by decide, by decide, by omega⟩)) rfl rfl hinX1 (by decide) (by decide +kernel) rfl rfl dX4_setOut_106 ?_
        refine hv_aload C dX4_setOut_109 7 rfl ?_
        refine hv_callVr (As := [.ref (q)]) (rest := []) (n := 1) C (c_Jx4a65c_add_9ea2d l w (cl_Y w (cl_gb g (A 15 0) q q2) (au (f_bg A b d n) 15 0 (A 15 0 + 1)) Z Y0) ((cl_gb g (A 15 0) q q2).1 6 b) q 1 10 _ ((List.range (A 2 b)).map (fun k => (cl_gb g (A 15 0) q q2).1 14 (A 3 (6 * b + k)))) (show cl_Y w (cl_gb g (A 15 0) q q2) (au (f_bg A b d n) 15 0 (A 15 0 + 1)) Z Y0 ((cl_gb g (A 15 0) q q2).1 6 b) = some (.inr ((List.range (A 2 b)).map (fun k => (cl_gb g (A 15 0) q q2).1 14 (A 3 (6 * b + k))))) from cl_at hg1 (Or.inr (Or.inl ⟨by decide, by decide, hb⟩))) (by have h9 := cl_at (w := w) (A := (au (f_bg A b d n) 15 0 (A 15 0 + 1))) (Z := Z) (Y0 := Y0) hg1 (kd := 14) (i := A 15 0) (Or.inr (Or.inr (Or.inr ⟨Or.inl rfl, Nat.lt_succ_self _⟩))); rw [hq14] at h9; exact h9) (by rw [cl_lenM]; omega) (by rw [cl_lenM]; omega) (Or.inl rfl) (fun y hy => by obtain ⟨k, hk, rfl⟩ := List.mem_map.mp hy; have hk2 := List.mem_range.mp hk; exact ⟨_, cl_at hg1 (Or.inr (Or.inr (Or.inr ⟨Or.inl rfl, Nat.lt_succ_of_lt (h21 b k hb hk2)⟩)))⟩)) gX4_setOut_Jx4a65c_add_9ea2d rfl (by decide +kernel) ⟨Nat.le_of_ble_eq_true rfl, Nat.le_of_ble_eq_true rfl⟩ (cl_rcL (g := (cl_gb g (A 15 0) q q2)) hg1 (Or.inr (Or.inl ⟨by decide, by decide, hb⟩)) rfl) rfl rfl (Nat.le_of_ble_eq_true rfl) dX4_setOut_111 ⟨by first | exact Nat.le_of_ble_eq_true rfl | omega | (simp; done) | (simp; omega), by first | exact Nat.le_of_ble_eq_true rfl | omega | (simp; done) | (simp; omega)⟩ (fun r10 Y1 hr => ?_)
        obtain ⟨rfl, rfl⟩ := hr
        refine hv_fin (Y1 := cl_Y w (cl_gb g (A 15 0) q q2) (f_join (au (f_bg A b d n) 15 0 (A 15 0 + 1)) (A 15 0) b) Z Y0) ?_ (by rw [← cl_joinY (A := (au (f_bg A b d n) 15 0 (A 15 0 + 1))) (j := A 15 0) hg1 hb (fun i hi => (hI.1 i hi).2.2.2.2) (show A 2 b < 6 from by omega), hq14]; rfl) rfl
        refine hv_pop C dX4_setOut_114 rfl ?_
        refine hv_iload C dX4_setOut_115 6 rfl ?_
        exact hv_iretx C hret dX4_setOut_117 (by first | exact Nat.le_refl _ | decide | omega | (simp; done) | (simp; omega)) (by first | exact Nat.le_refl _ | decide | omega | (simp; done) | (simp; omega)) (by rw [show q_setOut A (nI b) (nI d) (nI n) = (0, nI (A 15 0), f_out A b d n) from by simp only [q_setOut, hx, hy, hz]; rw [if_neg (by omega)]]; exact ⟨rfl, rfl, ⟨(cl_gb g (A 15 0) q q2), Z, by rw [← out_b hbd2]; exact hg1, by rw [← out_b hbd2]; exact hZ, hF1, rfl, cl_Aeq (out_b hbd2)⟩⟩)
      · skip
        have hbd0 : b = d := (cl_b hg hb hd).mp h9
        refine hv_aload C dX4_setOut_95 7 rfl ?_
        refine hv_iconst (v := nI 1) C dX4_setOut_97 (by decide) ?_
        refine hv_putf (k := 7) C hinX0 tyX0 tyX0_ok nmX0 (show vwCl[1]? = some (RX0, TX0, 9) from rfl) (by have h9 := cl_at (w := w) (A := (au (f_bg A b d n) 15 0 (A 15 0 + 1))) (Z := Z) (Y0 := Y0) hg1 (kd := 14) (i := A 15 0) (Or.inr (Or.inr (Or.inr ⟨Or.inl rfl, Nat.lt_succ_self _⟩))); rw [hq14] at h9; exact h9) (by decide) (by decide +kernel) (fun _ h => h) rfl (ty := .int) (by decide +kernel) (by rfl) (by rfl) (by show 7 < 9; decide) dX4_setOut_98 ?_
        refine hv_fin (Y1 := cl_Y w (cl_gb g (A 15 0) q q2) (au (au (f_bg A b d n) 15 0 (A 15 0 + 1)) 21 (A 15 0) 1) Z Y0) ?_ (cl_c1 (A := (au (f_bg A b d n) 15 0 (A 15 0 + 1))) hg1 (Nat.lt_succ_self _) hq14) rfl
        refine hv_goto (tgt := 115) C dX4_setOut_101 (by decide) ?_
        refine hv_iload C dX4_setOut_115 6 rfl ?_
        exact hv_iretx C hret dX4_setOut_117 (by first | exact Nat.le_refl _ | decide | omega | (simp; done) | (simp; omega)) (by first | exact Nat.le_refl _ | decide | omega | (simp; done) | (simp; omega)) (by rw [show q_setOut A (nI b) (nI d) (nI n) = (0, nI (A 15 0), f_out A b d n) from by simp only [q_setOut, hx, hy, hz]; rw [if_neg (by omega)]]; exact ⟨rfl, rfl, ⟨(cl_gb g (A 15 0) q q2), Z, by rw [← out_a hbd0]; exact hg1, by rw [← out_a hbd0]; exact hZ, hF1, rfl, cl_Aeq (out_a hbd0)⟩⟩)
    · skip
      have hbd : b ≠ d := fun q => h6 ((cl_b hg hb hd).mpr q)
      have h2b := (hI.1 b hb).2.2.2.2
      refine hv_aload C dX4_setOut_44 4 rfl ?_
      refine hv_callVr (As := []) (rest := []) (n := 0) C (c_X1_isFull l w g A Z Y0 hg b hb (hI.1 b hb).2.2.2.2) gX4_setOut_X1_isFull rfl (by decide +kernel) ⟨Nat.le_of_ble_eq_true rfl, Nat.le_of_ble_eq_true rfl⟩ (cl_rc hg (Or.inr (Or.inl ⟨by decide, by decide, by omega⟩)) rfl rfl) rfl rfl (Nat.le_of_ble_eq_true rfl) dX4_setOut_46 ⟨by first | exact Nat.le_of_ble_eq_true rfl | omega | (simp; done) | (simp; omega), by first | exact Nat.le_of_ble_eq_true rfl | omega | (simp; done) | (simp; omega)⟩ (fun r11 Y1 hr => ?_)
      obtain ⟨rfl, rfl⟩ := hr
      refine hv_ifb_eq (tgt := 62) C dX4_setOut_49 (by decide) (fun h12 => ?_) (fun h12 => ?_)
      · skip
        have hk40 : A 15 0 < 40 := by omega
        refine hv_new (fs := [.int (nI 0), .null, .null, .null, .int (nI 0), .int (nI 0), .int (nI 0), .int (nI 0), .int (nI 0)]) C hinX0 tyX0 tyX0_ok (by decide +kernel) (by decide +kernel) (by decide +kernel) (show vwCl[1]? = some (RX0, TX0, 9) from rfl) (fun j hj => by rcases (show j = 0 ∨ j = 1 ∨ j = 2 ∨ j = 3 ∨ j = 4 ∨ j = 5 ∨ j = 6 ∨ j = 7 ∨ j = 8 from by omega) with rfl | rfl | rfl | rfl | rfl | rfl | rfl | rfl | rfl <;> rfl) (Nat.le_of_ble_eq_true rfl) (Nat.le_of_ble_eq_true rfl) dX4_setOut_62 (fun q hq => ?_)
        have hqb : g.1 5 b ≠ q := by intro z; rw [← z, cl_at hg (Or.inr (Or.inl ⟨by decide, by decide, hb⟩))] at hq; cases hq
        refine hv_dup C dX4_setOut_65 rfl ?_
        refine hv_iload C dX4_setOut_66 6 rfl ?_
        refine hv_aload C dX4_setOut_68 4 rfl ?_
        refine hv_aload C dX4_setOut_70 5 rfl ?_
        refine hv_iload_n C dX4_setOut_72 rfl 3 rfl ?_
        refine hv_callIv (As := [.int (nI (A 15 0)), .ref (g.1 5 b), .ref (g.1 5 d), .int (nI n)]) (rest := [.ref (q)]) (n := 4) C (c_X0_init l w (hv_up (cl_Y w g A Z Y0) q (.inl (.inr (1, [.int (nI 0), .null, .null, .null, .int (nI 0), .int (nI 0), .int (nI 0), .int (nI 0), .int (nI 0)])))) q (A 15 0) (g.1 5 b) (g.1 5 d) n b _ hv_up_s ((hv_up_n hqb).trans ((cl_at hg (Or.inr (Or.inl ⟨by decide, by decide, hb⟩))).trans rfl)) rfl hb) gX4_setOut_X0_init rfl (by decide +kernel) (by decide +kernel) (by decide +kernel) rfl (by decide +kernel) ⟨Nat.le_of_ble_eq_true rfl, Nat.le_of_ble_eq_true rfl⟩ rfl rfl (Nat.le_of_ble_eq_true rfl) dX4_setOut_73 ⟨by first | exact Nat.le_of_ble_eq_true rfl | omega | (simp; done) | (simp; omega), by first | exact Nat.le_of_ble_eq_true rfl | omega | (simp; done) | (simp; omega)⟩ (fun Y1 hr => ?_)
        obtain ⟨q2, hq2, hqq, hr⟩ := hr
        subst hr
        rw [hv_upup]
        rw [hv_up_n (Ne.symm hqq)] at hq2
        obtain ⟨hg1, hF1, hYq⟩ := cl_newB (n := n) hg hI hZ hF hq hqq hq2 hb hd
        refine hv_fin ?_ hYq rfl
        have hq14 : (cl_gb g (A 15 0) q q2).1 14 (A 15 0) = q := if_pos ⟨rfl, rfl⟩
        have h21 : ∀ y k, y < 8 → k < A 2 y → A 3 (6 * y + k) < A 15 0 := fun y k hy hk => (hI.2.1 y k hy hk).1
        refine hv_astore (lv1 := [(0, .ref (g.1 0 0)), (1, .int (nI b)), (2, .int (nI d)), (3, .int (nI n)), (4, .ref (g.1 5 b)), (5, .ref (g.1 5 d)), (6, .int (nI (A 15 0))), (7, .ref (q))]) C dX4_setOut_76 (by decide) [1, 2, 3, 4, 5, 6, 7, 0] rfl ?_
        refine hv_aload_n C dX4_setOut_78 rfl 0 rfl ?_
        refine hc_get (g := (cl_gb g (A 15 0) q q2)) (kd := 0) (i := 0) (f := 2) (v := .ref ((cl_gb g (A 15 0) q q2).1 3 0)) C hg1 (Or.inl ⟨by decide, rfl⟩) rfl rfl hinX4 (by decide) (by decide +kernel) rfl rfl dX4_setOut_79 ?_
        refine hv_aload C dX4_setOut_82 7 rfl ?_
        refine hv_callVr (As := [.ref (q)]) (rest := []) (n := 1) C (c_Jx4a65c_add_9ea2d l w (cl_Y w (cl_gb g (A 15 0) q q2) (f_bg A b d n) Z Y0) ((cl_gb g (A 15 0) q q2).1 3 0) q 1 60 _ ((List.range (A 15 0)).map ((cl_gb g (A 15 0) q q2).1 14)) (show cl_Y w (cl_gb g (A 15 0) q q2) (f_bg A b d n) Z Y0 ((cl_gb g (A 15 0) q q2).1 3 0) = some (.inr ((List.range (A 15 0)).map ((cl_gb g (A 15 0) q q2).1 14))) from cl_at hg1 (Or.inl ⟨by decide, rfl⟩)) (by have h9 := cl_at (w := w) (A := (f_bg A b d n)) (Z := Z) (Y0 := Y0) hg1 (kd := 14) (i := A 15 0) (Or.inr (Or.inr (Or.inr ⟨Or.inl rfl, Nat.lt_succ_self _⟩))); rw [hq14] at h9; exact h9) (by rw [cl_lenM]; omega) (Or.inr (Nat.le_refl 60)) (Or.inl rfl) (fun y hy => by obtain ⟨k, hk, rfl⟩ := List.mem_map.mp hy; have hk2 := List.mem_range.mp hk; exact ⟨_, cl_at hg1 (Or.inr (Or.inr (Or.inr ⟨Or.inl rfl, by omega⟩)))⟩)) gX4_setOut_Jx4a65c_add_9ea2d rfl (by decide +kernel) ⟨Nat.le_of_ble_eq_true rfl, Nat.le_of_ble_eq_true rfl⟩ (cl_rcL (g := (cl_gb g (A 15 0) q q2)) hg1 (Or.inl ⟨by decide, rfl⟩) rfl) rfl rfl (Nat.le_of_ble_eq_true rfl) dX4_setOut_84 ⟨by first | exact Nat.le_of_ble_eq_true rfl | omega | (simp; done) | (simp; omega), by first | exact Nat.le_of_ble_eq_true rfl | omega | (simp; done) | (simp; omega)⟩ (fun r14 Y1 hr => ?_)
        obtain ⟨rfl, rfl⟩ := hr
        refine hv_fin (Y1 := cl_Y w (cl_gb g (A 15 0) q q2) (au (f_bg A b d n) 15 0 (A 15 0 + 1)) Z Y0) ?_ (cl_addB (A := (f_bg A b d n)) hg1 hq14) rfl
        refine hv_pop C dX4_setOut_87 rfl ?_
        refine hv_aload C dX4_setOut_88 4 rfl ?_
        refine hv_aload C dX4_setOut_90 5 rfl ?_
        refine hv_acmpR_ne (tgt := 104) C dX4_setOut_92 (by decide) (fun h15 => ?_) (fun h15 => ?_)
        · skip
          have hbd2 : b ≠ d := fun q => h15 ((cl_b hg hb hd).mpr q)
          have h2b := (hI.1 b hb).2.2.2.2
          refine hv_aload C dX4_setOut_104 4 rfl ?_
          refine hc_get (g := (cl_gb g (A 15 0) q q2)) (kd := 5) (i := b) (f := 1) (v := .ref ((cl_gb g (A 15 0) q q2).1 6 b)) C hg1 (Or.inr (Or.inl ⟨by decide, by decide, by omega⟩)) rfl rfl hinX1 (by decide) (by decide +kernel) rfl rfl dX4_setOut_106 ?_
          refine hv_aload C dX4_setOut_109 7 rfl ?_
          refine hv_callVr (As := [.ref (q)]) (rest := []) (n := 1) C (c_Jx4a65c_add_9ea2d l w (cl_Y w (cl_gb g (A 15 0) q q2) (au (f_bg A b d n) 15 0 (A 15 0 + 1)) Z Y0) ((cl_gb g (A 15 0) q q2).1 6 b) q 1 10 _ ((List.range (A 2 b)).map (fun k => (cl_gb g (A 15 0) q q2).1 14 (A 3 (6 * b + k)))) (show cl_Y w (cl_gb g (A 15 0) q q2) (au (f_bg A b d n) 15 0 (A 15 0 + 1)) Z Y0 ((cl_gb g (A 15 0) q q2).1 6 b) = some (.inr ((List.range (A 2 b)).map (fun k => (cl_gb g (A 15 0) q q2).1 14 (A 3 (6 * b + k))))) from cl_at hg1 (Or.inr (Or.inl ⟨by decide, by decide, hb⟩))) (by have h9 := cl_at (w := w) (A := (au (f_bg A b d n) 15 0 (A 15 0 + 1))) (Z := Z) (Y0 := Y0) hg1 (kd := 14) (i := A 15 0) (Or.inr (Or.inr (Or.inr ⟨Or.inl rfl, Nat.lt_succ_self _⟩))); rw [hq14] at h9; exact h9) (by rw [cl_lenM]; omega) (by rw [cl_lenM]; omega) (Or.inl rfl) (fun y hy => by obtain ⟨k, hk, rfl⟩ := List.mem_map.mp hy; have hk2 := List.mem_range.mp hk; exact ⟨_, cl_at hg1 (Or.inr (Or.inr (Or.inr ⟨Or.inl rfl, Nat.lt_succ_of_lt (h21 b k hb hk2)⟩)))⟩)) gX4_setOut_Jx4a65c_add_9ea2d rfl (by decide +kernel) ⟨Nat.le_of_ble_eq_true rfl, Nat.le_of_ble_eq_true rfl⟩ (cl_rcL (g := (cl_gb g (A 15 0) q q2)) hg1 (Or.inr (Or.inl ⟨by decide, by decide, hb⟩)) rfl) rfl rfl (Nat.le_of_ble_eq_true rfl) dX4_setOut_111 ⟨by first | exact Nat.le_of_ble_eq_true rfl | omega | (simp; done) | (simp; omega), by first | exact Nat.le_of_ble_eq_true rfl | omega | (simp; done) | (simp; omega)⟩ (fun r16 Y1 hr => ?_)
          obtain ⟨rfl, rfl⟩ := hr
          refine hv_fin (Y1 := cl_Y w (cl_gb g (A 15 0) q q2) (f_join (au (f_bg A b d n) 15 0 (A 15 0 + 1)) (A 15 0) b) Z Y0) ?_ (by rw [← cl_joinY (A := (au (f_bg A b d n) 15 0 (A 15 0 + 1))) (j := A 15 0) hg1 hb (fun i hi => (hI.1 i hi).2.2.2.2) (show A 2 b < 6 from by omega), hq14]; rfl) rfl
          refine hv_pop C dX4_setOut_114 rfl ?_
          refine hv_iload C dX4_setOut_115 6 rfl ?_
          exact hv_iretx C hret dX4_setOut_117 (by first | exact Nat.le_refl _ | decide | omega | (simp; done) | (simp; omega)) (by first | exact Nat.le_refl _ | decide | omega | (simp; done) | (simp; omega)) (by rw [show q_setOut A (nI b) (nI d) (nI n) = (0, nI (A 15 0), f_out A b d n) from by simp only [q_setOut, hx, hy, hz]; rw [if_neg (by omega)]]; exact ⟨rfl, rfl, ⟨(cl_gb g (A 15 0) q q2), Z, by rw [← out_b hbd2]; exact hg1, by rw [← out_b hbd2]; exact hZ, hF1, rfl, cl_Aeq (out_b hbd2)⟩⟩)
        · skip
          have hbd0 : b = d := (cl_b hg hb hd).mp h15
          refine hv_aload C dX4_setOut_95 7 rfl ?_
          refine hv_iconst (v := nI 1) C dX4_setOut_97 (by decide) ?_
          refine hv_putf (k := 7) C hinX0 tyX0 tyX0_ok nmX0 (show vwCl[1]? = some (RX0, TX0, 9) from rfl) (by have h9 := cl_at (w := w) (A := (au (f_bg A b d n) 15 0 (A 15 0 + 1))) (Z := Z) (Y0 := Y0) hg1 (kd := 14) (i := A 15 0) (Or.inr (Or.inr (Or.inr ⟨Or.inl rfl, Nat.lt_succ_self _⟩))); rw [hq14] at h9; exact h9) (by decide) (by decide +kernel) (fun _ h => h) rfl (ty := .int) (by decide +kernel) (by rfl) (by rfl) (by show 7 < 9; decide) dX4_setOut_98 ?_
          refine hv_fin (Y1 := cl_Y w (cl_gb g (A 15 0) q q2) (au (au (f_bg A b d n) 15 0 (A 15 0 + 1)) 21 (A 15 0) 1) Z Y0) ?_ (cl_c1 (A := (au (f_bg A b d n) 15 0 (A 15 0 + 1))) hg1 (Nat.lt_succ_self _) hq14) rfl
          refine hv_goto (tgt := 115) C dX4_setOut_101 (by decide) ?_
          refine hv_iload C dX4_setOut_115 6 rfl ?_
          exact hv_iretx C hret dX4_setOut_117 (by first | exact Nat.le_refl _ | decide | omega | (simp; done) | (simp; omega)) (by first | exact Nat.le_refl _ | decide | omega | (simp; done) | (simp; omega)) (by rw [show q_setOut A (nI b) (nI d) (nI n) = (0, nI (A 15 0), f_out A b d n) from by simp only [q_setOut, hx, hy, hz]; rw [if_neg (by omega)]]; exact ⟨rfl, rfl, ⟨(cl_gb g (A 15 0) q q2), Z, by rw [← out_a hbd0]; exact hg1, by rw [← out_a hbd0]; exact hZ, hF1, rfl, cl_Aeq (out_a hbd0)⟩⟩)
      · skip
        exact hv_throw (ik := 51) (is := 106) (ic := 55) (cls := hv_IS) (text := "no more barges can set out here") (names := hv_RE) C hlt (by decide) (by decide) (by decide +kernel) (by decide +kernel) rfl (by decide) (by decide +kernel) (by decide +kernel) (by decide +kernel) dX4_setOut_52 dX4_setOut_55 dX4_setOut_56 dX4_setOut_58 dX4_setOut_61 hex (by decide) (Nat.le_of_ble_eq_true rfl) (Nat.le_of_ble_eq_true rfl) (Nat.le_of_ble_eq_true rfl) (Nat.le_of_ble_eq_true rfl) (Nat.le_of_ble_eq_true rfl) ⟨(Or.inr (Or.inr ⟨rfl, (by simp only [q_setOut, hx, hy, hz]; rw [if_pos (by omega)])⟩)), rfl⟩
