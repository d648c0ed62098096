set_option maxRecDepth 100000 in
set_option maxHeartbeats 4000000 in
theorem c_X1_isFull (l : Launch) (w : hv_W) (g : cl_g) (A Z : ab_A) (Y0 : hv_H) (hg : cl_ok g (A 4 0) (A 15 0)) (b : Nat) (hb : b < 8) (h2 : A 2 b ≤ 6) : hv_Mr l yX1_isFull wsX1_isFull ({ frames := 1, cells := 0, slots := 0, locals := 20 }) w [.ref (g.1 5 b)] (cl_Y w g A Z Y0) (fun r Y1 => r = .int (nI (b2 (A 2 b = 6))) ∧ Y1 = cl_Y w g A Z Y0) := by
  refine hv_ofV (cc := cX1_isFull) (own := RX1) (by decide) rfl rfl (Nat.le_of_ble_eq_true rfl) rfl ?_
  intro p e s m below meth c C hret hnm
  have hinX1 : ∀ x ∈ wsX10, x ∈ wsX1_isFull := by decide +kernel
  refine hv_aload_n C dX1_isFull_0 rfl 0 rfl ?_
  refine hc_get (kd := 5) (i := b) (f := 1) (v := .ref (g.1 6 b)) C hg (Or.inr (Or.inl ⟨by decide, by decide, by omega⟩)) rfl rfl hinX1 (by decide) (by decide +kernel) rfl rfl dX1_isFull_1 ?_
  refine hv_callVr (As := []) (rest := []) (n := 0) C (c_Jx4a65c_size_8abf5 l w (cl_Y w g A Z Y0) (g.1 6 b) ((List.range (A 2 b)).map (fun k => g.1 14 (A 3 (6 * b + k)))) (show cl_Y w g A Z Y0 (g.1 6 b) = some (.inr ((List.range (A 2 b)).map (fun k => g.1 14 (A 3 (6 * b + k))))) from cl_at hg (Or.inr (Or.inl ⟨by decide, by decide, by omega⟩)))) gX1_isFull_Jx4a65c_size_8abf5 rfl (by decide +kernel) ⟨Nat.le_of_ble_eq_true rfl, Nat.le_of_ble_eq_true rfl⟩ (cl_rcL hg (Or.inr (Or.inl ⟨by decide, by decide, by omega⟩)) rfl) rfl rfl (Nat.le_of_ble_eq_true rfl) dX1_isFull_4 ⟨by first | exact Nat.le_of_ble_eq_true rfl | omega | (simp; done) | (simp; omega), by first | exact Nat.le_of_ble_eq_true rfl | omega | (simp; done) | (simp; omega)⟩ (fun r1 Y1 hr => ?_)
  obtain ⟨rfl, rfl⟩ := hr
  refine hv_top (y := nI (A 2 b)) (by rw [cl_lenM]) ?_
  refine hv_bipush (v := nI 6) C dX1_isFull_7 (by decide) ?_
  refine hv_icmpN_lt (tgt := 16) C dX1_isFull_9 (by decide) (by omega) (by omega) (fun h2 => ?_) (fun h2 => ?_)
  · skip
    refine hv_iconst (v := nI 0) C dX1_isFull_16 (by decide) ?_
    exact hv_zret C hret (by decide) dX1_isFull_17 (by first | exact Nat.le_refl _ | decide | omega | (simp; done) | (simp; omega)) (by first | exact Nat.le_refl _ | decide | omega | (simp; done) | (simp; omega)) ⟨by first | (rw [b2_t (by omega)]) | (rw [b2_f (by omega)]), rfl⟩
  · skip
    refine hv_iconst (v := nI 1) C dX1_isFull_12 (by decide) ?_
    refine hv_goto (tgt := 17) C dX1_isFull_13 (by decide) ?_
    exact hv_zret C hret (by decide) dX1_isFull_17 (by first | exact Nat.le_refl _ | decide | omega | (simp; done) | (simp; omega)) (by first | exact Nat.le_refl _ | decide | omega | (simp; done) | (simp; omega)) ⟨by first | (rw [b2_t (by omega)]) | (rw [b2_f (by omega)]), rfl⟩
set_option maxRecDepth 100000 in
set_option maxHeartbeats 4000000 in
theorem c_X1_costOfLowWater (l : Launch) (w : hv_W) (g : cl_g) (A Z : ab_A) (Y0 : hv_H) (hg : cl_ok g (A 4 0) (A 15 0)) (b : Nat) (hb : b < 8) (h0 : A 0 b ≤ 200) : hv_Mr l yX1_costOfLowWater wsX1_costOfLowWater ({ frames := 0, cells := 0, slots := 0, locals := 0 }) w [.ref (g.1 5 b)] (cl_Y w g A Z Y0) (fun r Y1 => r = .int (nI (f_dear A b)) ∧ Y1 = cl_Y w g A Z Y0) := by
  refine hv_ofV (cc := cX1_costOfLowWater) (own := RX1) (by decide) rfl rfl (Nat.le_of_ble_eq_true rfl) rfl ?_
  intro p e s m below meth c C hret hnm
  have hinX1 : ∀ x ∈ wsX10, x ∈ wsX1_costOfLowWater := by decide +kernel
  refine hv_aload_n C dX1_costOfLowWater_0 rfl 0 rfl ?_
  refine hc_get (kd := 5) (i := b) (f := 2) (v := .int (nI (A 0 b))) C hg (Or.inr (Or.inl ⟨by decide, by decide, by omega⟩)) rfl rfl hinX1 (by decide) (by decide +kernel) rfl rfl dX1_costOfLowWater_1 ?_
  refine hv_bipush (v := nI 15) C dX1_costOfLowWater_4 (by decide) ?_
  refine hv_icmpN_ge (tgt := 12) C dX1_costOfLowWater_6 (by decide) (by omega) (by omega) (fun h1 => ?_) (fun h1 => ?_)
  · skip
    refine hv_aload_n C dX1_costOfLowWater_12 rfl 0 rfl ?_
    refine hc_get (kd := 5) (i := b) (f := 2) (v := .int (nI (A 0 b))) C hg (Or.inr (Or.inl ⟨by decide, by decide, by omega⟩)) rfl rfl hinX1 (by decide) (by decide +kernel) rfl rfl dX1_costOfLowWater_13 ?_
    refine hv_bipush (v := nI 30) C dX1_costOfLowWater_16 (by decide) ?_
    refine hv_icmpN_ge (tgt := 25) C dX1_costOfLowWater_18 (by decide) (by omega) (by omega) (fun h2 => ?_) (fun h2 => ?_)
    · skip
      refine hv_iconst (v := nI 0) C dX1_costOfLowWater_25 (by decide) ?_
      exact hv_iret C hret dX1_costOfLowWater_26 (by first | exact Nat.le_refl _ | decide | omega | (simp; done) | (simp; omega)) (by first | exact Nat.le_refl _ | decide | omega | (simp; done) | (simp; omega)) ⟨by first | (exfalso; omega) | (congr 2; unfold f_dear; (repeat' split) <;> omega), rfl⟩
    · skip
      refine hv_iconst (v := nI 5) C dX1_costOfLowWater_21 (by decide) ?_
      refine hv_goto (tgt := 26) C dX1_costOfLowWater_22 (by decide) ?_
      exact hv_iret C hret dX1_costOfLowWater_26 (by first | exact Nat.le_refl _ | decide | omega | (simp; done) | (simp; omega)) (by first | exact Nat.le_refl _ | decide | omega | (simp; done) | (simp; omega)) ⟨by first | (exfalso; omega) | (congr 2; unfold f_dear; (repeat' split) <;> omega), rfl⟩
  · skip
    refine hv_bipush (v := nI 10) C dX1_costOfLowWater_9 (by decide) ?_
    exact hv_iret C hret dX1_costOfLowWater_11 (by first | exact Nat.le_refl _ | decide | omega | (simp; done) | (simp; omega)) (by first | exact Nat.le_refl _ | decide | omega | (simp; done) | (simp; omega)) ⟨by first | (exfalso; omega) | (congr 2; unfold f_dear; (repeat' split) <;> omega), rfl⟩
theorem va_rfc (o : Option Nat) : va_rf o = .null ∨ ∃ a, va_rf o = .ref a := by
  cases o with
  | none => exact Or.inl rfl
  | some a => exact Or.inr ⟨a, rfl⟩
theorem au_shadow (X : ab_A) (b v W : Nat) : au X 0 b W = au (au (au X 10 0 v) 0 b W) 10 0 (X 10 0) := by
  funext k i
  simp only [au]
  by_cases h : k = 10
  · subst h
    by_cases h2 : i = 0
    · subst h2
      simp
    · simp [h2]
  · simp [h]
theorem max0_sub {x y : Nat} (hx : x < 2 ^ 30) (hy : y < 2 ^ 30) : (if nI 0 < nI x - nI y then nI x - nI y else nI 0 : Int32) = nI (x - y) := by
  by_cases h : y ≤ x
  · rw [pk_sub h]
    by_cases h2 : 0 < x - y
    · rw [if_pos ((nI_ltI (by decide) (by omega)).mpr h2)]
    · rw [if_neg (fun q => h2 ((nI_ltI (by decide) (by omega)).mp q)), show x - y = 0 by omega]
  · have h3 : (nI x - nI y : Int32) < 0 := by
      have := pk_sneg (a := x) (b := y) (by omega) (by omega)
      exact this
    rw [if_neg (fun q => absurd (Int32.lt_trans q h3) (by decide)), show x - y = 0 by omega]
theorem max5_sub {x y : Nat} (hy : y ≤ x) (hx : x < 2 ^ 30) : (if nI 5 < nI x - nI y then nI x - nI y else nI 5 : Int32) = nI (max 5 (x - y)) := by
  rw [pk_sub hy]
  exact maxN (by decide) (by omega)
set_option maxRecDepth 100000 in
set_option maxHeartbeats 4000000 in
theorem c_X1_fill (l : Launch) (w : hv_W) (g : cl_g) (A Z : ab_A) (Y0 : hv_H) (hg : cl_ok g (A 4 0) (A 15 0)) (b n : Nat) (hb : b < 8) (h0 : A 0 b ≤ 200) (hn : n ≤ 200) : hv_Mr l yX1_fill wsX1_fill ({ frames := 1, cells := 0, slots := 0, locals := 40 }) w [.ref (g.1 5 b), .int (nI n)] (cl_Y w g A Z Y0) (fun r Y1 => r = .int (nI (A 0 b + n - 200)) ∧ Y1 = cl_Y w g (au A 0 b (if 200 < A 0 b + n then 200 else A 0 b + n)) Z Y0) := by
  refine hv_ofV (cc := cX1_fill) (own := RX1) (by decide) rfl rfl (Nat.le_of_ble_eq_true rfl) rfl ?_
  intro p e s m below meth c C hret hnm
  have hinX1 : ∀ x ∈ wsX10, x ∈ wsX1_fill := by decide +kernel
  refine hv_iconst (v := nI 0) C dX1_fill_0 (by decide) ?_
  refine hv_aload_n C dX1_fill_1 rfl 0 rfl ?_
  refine hc_get (kd := 5) (i := b) (f := 2) (v := .int (nI (A 0 b))) C hg (Or.inr (Or.inl ⟨by decide, by decide, by omega⟩)) rfl rfl hinX1 (by decide) (by decide +kernel) rfl rfl dX1_fill_2 ?_
  refine hv_iload_n C dX1_fill_5 rfl 1 rfl ?_
  refine hv_iaddN C dX1_fill_6 ?_
  refine hv_sipush (v := nI 200) C dX1_fill_7 (by decide) ?_
  refine hv_isub C dX1_fill_10 ?_
  refine hv_max C (by decide +kernel) (by decide +kernel) (by decide +kernel) (by decide +kernel) (Nat.le_of_ble_eq_true rfl) (Nat.le_of_ble_eq_true rfl) (by first | exact Nat.le_refl _ | exact Nat.zero_le _) (by first | exact Nat.le_refl _ | exact Nat.zero_le _) dX1_fill_11 ?_
  refine hv_top (y := nI (A 0 b + n - 200)) (max0_sub (by omega) (by omega)) ?_
  refine hv_istore_n (lv1 := [(0, .ref (g.1 5 b)), (1, .int (nI n)), (2, .int (nI (A 0 b + n - 200)))]) C dX1_fill_14 rfl (by decide) [1, 2, 0] rfl ?_
  refine hv_aload_n C dX1_fill_15 rfl 0 rfl ?_
  refine hv_dup C dX1_fill_16 rfl ?_
  refine hc_get (kd := 5) (i := b) (f := 2) (v := .int (nI (A 0 b))) C hg (Or.inr (Or.inl ⟨by decide, by decide, by omega⟩)) rfl rfl hinX1 (by decide) (by decide +kernel) rfl rfl dX1_fill_17 ?_
  refine hv_iload_n C dX1_fill_20 rfl 1 rfl ?_
  refine hv_iload_n C dX1_fill_21 rfl 2 rfl ?_
  refine hv_isubN C dX1_fill_22 (by omega) ?_
  refine hv_iaddN C dX1_fill_23 ?_
  refine hc_put (kd := 5) (i := b) (f := 2) (A' := (au A 0 b ((A 0 b) + (n - (A 0 b + n - 200))))) (Z' := Z) (ty := .int) C hg (Or.inr (Or.inl ⟨by decide, by decide, by omega⟩)) rfl rfl hinX1 tyX1 tyX1_ok nmX1 (by decide) (by decide +kernel) rfl rfl (by decide +kernel) rfl (by rfl) (by show 2 < 6; decide) (by simp [cl_cell, au]) cu_0 dX1_fill_24 ?_
  refine hv_iload_n C dX1_fill_27 rfl 2 rfl ?_
  exact hv_iret C hret dX1_fill_28 (by first | exact Nat.le_refl _ | decide | omega | (simp; done) | (simp; omega)) (by first | exact Nat.le_refl _ | decide | omega | (simp; done) | (simp; omega)) ⟨rfl, by rw [show (if 200 < A 0 b + n then 200 else A 0 b + n) = A 0 b + (n - (A 0 b + n - 200)) from by split <;> omega]⟩
set_option maxRecDepth 100000 in
set_option maxHeartbeats 4000000 in
theorem c_X1_loseDryDayWater (l : Launch) (w : hv_W) (g : cl_g) (A Z : ab_A) (Y0 : hv_H) (hg : cl_ok g (A 4 0) (A 15 0)) (b : Nat) (hb : b < 8) (h0 : 5 ≤ A 0 b) (h0' : A 0 b ≤ 200) : hv_Mv l yX1_loseDryDayWater wsX1_loseDryDayWater ({ frames := 1, cells := 0, slots := 0, locals := 40 }) w [.ref (g.1 5 b)] (cl_Y w g A Z Y0) (fun Y1 => Y1 = cl_Y w g (au A 0 b (max 5 (A 0 b - 3))) Z Y0) := by
  refine hv_ofV (cc := cX1_loseDryDayWater) (own := RX1) (by decide) rfl rfl (Nat.le_of_ble_eq_true rfl) rfl ?_
  intro p e s m below meth c C hret hnm
  have hinX1 : ∀ x ∈ wsX10, x ∈ wsX1_loseDryDayWater := by decide +kernel
  refine hv_aload_n C dX1_loseDryDayWater_0 rfl 0 rfl ?_
  refine hv_iconst (v := nI 5) C dX1_loseDryDayWater_1 (by decide) ?_
  refine hv_aload_n C dX1_loseDryDayWater_2 rfl 0 rfl ?_
  refine hc_get (kd := 5) (i := b) (f := 2) (v := .int (nI (A 0 b))) C hg (Or.inr (Or.inl ⟨by decide, by decide, by omega⟩)) rfl rfl hinX1 (by decide) (by decide +kernel) rfl rfl dX1_loseDryDayWater_3 ?_
  refine hv_iconst (v := nI 3) C dX1_loseDryDayWater_6 (by decide) ?_
  refine hv_isub C dX1_loseDryDayWater_7 ?_
  refine hv_max C (by decide +kernel) (by decide +kernel) (by decide +kernel) (by decide +kernel) (Nat.le_of_ble_eq_true rfl) (Nat.le_of_ble_eq_true rfl) (by first | exact Nat.le_refl _ | exact Nat.zero_le _) (by first | exact Nat.le_refl _ | exact Nat.zero_le _) dX1_loseDryDayWater_8 ?_
  refine hv_top (y := nI (max 5 (A 0 b - 3))) (max5_sub (by omega) (by omega)) ?_
  refine hc_put (kd := 5) (i := b) (f := 2) (A' := (au A 0 b (max 5 (A 0 b - 3)))) (Z' := Z) (ty := .int) C hg (Or.inr (Or.inl ⟨by decide, by decide, by omega⟩)) rfl rfl hinX1 tyX1 tyX1_ok nmX1 (by decide) (by decide +kernel) rfl rfl (by decide +kernel) rfl (by rfl) (by show 2 < 6; decide) (by simp [cl_cell, au]) cu_0 dX1_loseDryDayWater_11 ?_
  exact hv_vret C hret dX1_loseDryDayWater_14 (by first | exact Nat.le_refl _ | decide | omega | (simp; done) | (simp; omega)) (by first | exact Nat.le_refl _ | decide | omega | (simp; done) | (simp; omega)) rfl
set_option maxRecDepth 100000 in
set_option maxHeartbeats 4000000 in
theorem c_X1_canalTowards (l : Launch) (w : hv_W) (g : cl_g) (A Z : ab_A) (Y0 : hv_H) (hg : cl_ok g (A 4 0) (A 15 0)) (b o : Nat) (hb : b < 8) (ho : o < 8) (hz : Z 0 b ≤ 1) : hv_Mr l yX1_canalTowards wsX1_canalTowards ({ frames := 0, cells := 0, slots := 0, locals := 0 }) w [.ref (g.1 5 b), .ref (g.1 5 o)] (cl_Y w g A Z Y0) (fun r Y1 => r = va_rf (cl_r g.1 (A 12 (8 * b + o))) ∧ Y1 = cl_Y w g A Z Y0) := by
  refine hv_ofV (cc := cX1_canalTowards) (own := RX1) (by decide) rfl rfl (Nat.le_of_ble_eq_true rfl) rfl ?_
  intro p e s m below meth c C hret hnm
  have hinX1 : ∀ x ∈ wsX10, x ∈ wsX1_canalTowards := by decide +kernel
  have hinX3 : ∀ x ∈ wsX30, x ∈ wsX1_canalTowards := by decide +kernel
  refine hv_aload_n C dX1_canalTowards_0 rfl 0 rfl ?_
  refine hc_get (kd := 5) (i := b) (f := 4) (v := .ref (g.1 (7 + Z 0 b) b)) C hg (Or.inr (Or.inl ⟨by decide, by decide, by omega⟩)) rfl rfl hinX1 (by decide) (by decide +kernel) rfl rfl dX1_canalTowards_1 ?_
  refine hc_get (kd := (7 + Z 0 (b))) (i := b) (f := 1) (v := .ref (g.1 (11 + Z 0 b) b)) C hg (Or.inr (Or.inl ⟨by omega, by omega, by omega⟩)) (cl_t (by omega)) rfl hinX3 (by decide) (by decide +kernel) rfl rfl dX1_canalTowards_4 ?_
  refine hv_aload_n C dX1_canalTowards_7 rfl 1 rfl ?_
  refine hc_get (kd := 5) (i := o) (f := 0) (v := .int (nI o)) C hg (Or.inr (Or.inl ⟨by decide, by decide, by omega⟩)) rfl rfl hinX1 (by decide) (by decide +kernel) rfl rfl dX1_canalTowards_8 ?_
  refine hc_aald (kd := 11 + Z 0 b) (i := b) (j := o) (x := cl_r g.1 (A 12 (8 * b + o))) C 4 (show (hv_T w)[4]? = some (hv_c w 4, .object RX2) from rfl) hg (Or.inr (Or.inl ⟨by omega, by omega, by omega⟩)) (cl_tc (by omega)) (by decide) (by omega) (if_pos (by omega)) dX1_canalTowards_11 ?_
  exact hv_aret C hret (by first | exact Or.inl ⟨_, rfl⟩ | exact Or.inr ⟨_, rfl⟩) (by first | exact Or.inr ⟨_, rfl⟩ | exact Or.inl rfl | exact va_rfc _) dX1_canalTowards_12 (by first | exact Nat.le_refl _ | decide | omega | (simp; done) | (simp; omega)) (by first | exact Nat.le_refl _ | decide | omega | (simp; done) | (simp; omega)) ⟨rfl, rfl⟩
set_option maxRecDepth 100000 in
set_option maxHeartbeats 4000000 in
theorem c_X2_costNow (l : Launch) (w : hv_W) (g : cl_g) (A Z : ab_A) (Y0 : hv_H) (hg : cl_ok g (A 4 0) (A 15 0)) (j : Nat) (hj : j < A 4 0) (h5 : A 5 j < 8) (h6 : A 6 j < 8) (h0 : ∀ b, b < 8 → A 0 b ≤ 200) : hv_Mr l yX2_costNow wsX2_costNow ({ frames := 1, cells := 0, slots := 0, locals := 20 }) w [.ref (g.1 13 j)] (cl_Y w g A Z Y0) (fun r Y1 => r = .int (nI (f_cost A j)) ∧ Y1 = cl_Y w g A Z Y0) := by
  refine hv_ofV (cc := cX2_costNow) (own := RX2) (by decide) rfl rfl (Nat.le_of_ble_eq_true rfl) rfl ?_
  intro p e s m below meth c C hret hnm
  have hinX2 : ∀ x ∈ wsX20, x ∈ wsX2_costNow := by decide +kernel
  have h05 := h0 _ h5
  have h06 := h0 _ h6
  refine hv_aload_n C dX2_costNow_0 rfl 0 rfl ?_
  refine hc_get (kd := 13) (i := j) (f := 3) (v := .int (nI (A 7 j))) C hg (Or.inr (Or.inr (Or.inl ⟨rfl, by omega⟩))) rfl rfl hinX2 (by decide) (by decide +kernel) rfl rfl dX2_costNow_1 ?_
  refine hv_aload_n C dX2_costNow_4 rfl 0 rfl ?_
  refine hc_get (kd := 13) (i := j) (f := 1) (v := .ref (g.1 5 (A 5 j))) C hg (Or.inr (Or.inr (Or.inl ⟨rfl, by omega⟩))) rfl rfl hinX2 (by decide) (by decide +kernel) rfl rfl dX2_costNow_5 ?_
  refine hv_callVr (As := []) (rest := [.int (nI (A 7 j))]) (n := 0) C (c_X1_costOfLowWater l w g A Z Y0 hg (A 5 j) (by omega) (by omega)) gX2_costNow_X1_costOfLowWater rfl (by decide +kernel) ⟨Nat.le_of_ble_eq_true rfl, Nat.le_of_ble_eq_true rfl⟩ (cl_rc hg (Or.inr (Or.inl ⟨by decide, by decide, by omega⟩)) rfl rfl) rfl rfl (Nat.le_of_ble_eq_true rfl) dX2_costNow_8 ⟨by first | exact Nat.le_of_ble_eq_true rfl | omega | (simp; done) | (simp; omega), by first | exact Nat.le_of_ble_eq_true rfl | omega | (simp; done) | (simp; omega)⟩ (fun r1 Y1 hr => ?_)
  obtain ⟨rfl, rfl⟩ := hr
  refine hv_iaddN C dX2_costNow_11 ?_
  refine hv_aload_n C dX2_costNow_12 rfl 0 rfl ?_
  refine hc_get (kd := 13) (i := j) (f := 2) (v := .ref (g.1 5 (A 6 j))) C hg (Or.inr (Or.inr (Or.inl ⟨rfl, by omega⟩))) rfl rfl hinX2 (by decide) (by decide +kernel) rfl rfl dX2_costNow_13 ?_
  refine hv_callVr (As := []) (rest := [.int (nI ((A 7 j) + (f_dear A (A 5 j))))]) (n := 0) C (c_X1_costOfLowWater l w g A Z Y0 hg (A 6 j) (by omega) (by omega)) gX2_costNow_X1_costOfLowWater rfl (by decide +kernel) ⟨Nat.le_of_ble_eq_true rfl, Nat.le_of_ble_eq_true rfl⟩ (cl_rc hg (Or.inr (Or.inl ⟨by decide, by decide, by omega⟩)) rfl rfl) rfl rfl (Nat.le_of_ble_eq_true rfl) dX2_costNow_16 ⟨by first | exact Nat.le_of_ble_eq_true rfl | omega | (simp; done) | (simp; omega), by first | exact Nat.le_of_ble_eq_true rfl | omega | (simp; done) | (simp; omega)⟩ (fun r2 Y1 hr => ?_)
  obtain ⟨rfl, rfl⟩ := hr
  refine hv_iaddN C dX2_costNow_19 ?_
  exact hv_iret C hret dX2_costNow_20 (by first | exact Nat.le_refl _ | decide | omega | (simp; done) | (simp; omega)) (by first | exact Nat.le_refl _ | decide | omega | (simp; done) | (simp; omega)) ⟨rfl, rfl⟩
set_option maxRecDepth 100000 in
set_option maxHeartbeats 4000000 in
theorem c_X2_isPassable (l : Launch) (w : hv_W) (g : cl_g) (A Z : ab_A) (Y0 : hv_H) (hg : cl_ok g (A 4 0) (A 15 0)) (j : Nat) (hj : j < A 4 0) (h5 : A 5 j < 8) (h8 : A 8 j < 100) (h9 : A 9 j < 100) (h0 : A 0 (A 5 j) ≤ 200) : hv_Mr l yX2_isPassable wsX2_isPassable ({ frames := 0, cells := 0, slots := 0, locals := 0 }) w [.ref (g.1 13 j)] (cl_Y w g A Z Y0) (fun r Y1 => r = .int (nI (b2 (A 9 j ≠ 0 ∧ A 8 j + 5 ≤ A 0 (A 5 j)))) ∧ Y1 = cl_Y w g A Z Y0) := by
  refine hv_ofV (cc := cX2_isPassable) (own := RX2) (by decide) rfl rfl (Nat.le_of_ble_eq_true rfl) rfl ?_
  intro p e s m below meth c C hret hnm
  have hinX1 : ∀ x ∈ wsX10, x ∈ wsX2_isPassable := by decide +kernel
  have hinX2 : ∀ x ∈ wsX20, x ∈ wsX2_isPassable := by decide +kernel
  refine hv_aload_n C dX2_isPassable_0 rfl 0 rfl ?_
  refine hc_get (kd := 13) (i := j) (f := 5) (v := .int (nI (A 9 j))) C hg (Or.inr (Or.inr (Or.inl ⟨rfl, by omega⟩))) rfl rfl hinX2 (by decide) (by decide +kernel) rfl rfl dX2_isPassable_1 ?_
  refine hv_ifN_eq (tgt := 27) C dX2_isPassable_4 (by decide) (by omega) (fun h1 => ?_) (fun h1 => ?_)
  · skip
    refine hv_iconst (v := nI 0) C dX2_isPassable_27 (by decide) ?_
    exact hv_zret C hret (by decide) dX2_isPassable_28 (by first | exact Nat.le_refl _ | decide | omega | (simp; done) | (simp; omega)) (by first | exact Nat.le_refl _ | decide | omega | (simp; done) | (simp; omega)) ⟨by first | (rw [b2_t (by omega)]) | (rw [b2_f (by omega)]), rfl⟩
  · skip
    refine hv_aload_n C dX2_isPassable_7 rfl 0 rfl ?_
    refine hc_get (kd := 13) (i := j) (f := 1) (v := .ref (g.1 5 (A 5 j))) C hg (Or.inr (Or.inr (Or.inl ⟨rfl, by omega⟩))) rfl rfl hinX2 (by decide) (by decide +kernel) rfl rfl dX2_isPassable_8 ?_
    refine hc_get (kd := 5) (i := A 5 j) (f := 2) (v := .int (nI (A 0 (A 5 j)))) C hg (Or.inr (Or.inl ⟨by decide, by decide, by omega⟩)) rfl rfl hinX1 (by decide) (by decide +kernel) rfl rfl dX2_isPassable_11 ?_
    refine hv_aload_n C dX2_isPassable_14 rfl 0 rfl ?_
    refine hc_get (kd := 13) (i := j) (f := 4) (v := .int (nI (A 8 j))) C hg (Or.inr (Or.inr (Or.inl ⟨rfl, by omega⟩))) rfl rfl hinX2 (by decide) (by decide +kernel) rfl rfl dX2_isPassable_15 ?_
    refine hv_iconst (v := nI 5) C dX2_isPassable_18 (by decide) ?_
    refine hv_iaddN C dX2_isPassable_19 ?_
    refine hv_icmpN_lt (tgt := 27) C dX2_isPassable_20 (by decide) (by omega) (by omega) (fun h2 => ?_) (fun h2 => ?_)
    · skip
      refine hv_iconst (v := nI 0) C dX2_isPassable_27 (by decide) ?_
      exact hv_zret C hret (by decide) dX2_isPassable_28 (by first | exact Nat.le_refl _ | decide | omega | (simp; done) | (simp; omega)) (by first | exact Nat.le_refl _ | decide | omega | (simp; done) | (simp; omega)) ⟨by first | (rw [b2_t (by omega)]) | (rw [b2_f (by omega)]), rfl⟩
    · skip
      refine hv_iconst (v := nI 1) C dX2_isPassable_23 (by decide) ?_
      refine hv_goto (tgt := 28) C dX2_isPassable_24 (by decide) ?_
      exact hv_zret C hret (by decide) dX2_isPassable_28 (by first | exact Nat.le_refl _ | decide | omega | (simp; done) | (simp; omega)) (by first | exact Nat.le_refl _ | decide | omega | (simp; done) | (simp; omega)) ⟨by first | (rw [b2_t (by omega)]) | (rw [b2_f (by omega)]), rfl⟩
set_option maxRecDepth 100000 in
set_option maxHeartbeats 4000000 in
theorem c_X2_otherEnd (l : Launch) (w : hv_W) (g : cl_g) (A Z : ab_A) (Y0 : hv_H) (hg : cl_ok g (A 4 0) (A 15 0)) (j b : Nat) (hj : j < A 4 0) (h5 : A 5 j < 8) (hb : b < 8) : hv_Mr l yX2_otherEnd wsX2_otherEnd ({ frames := 0, cells := 0, slots := 0, locals := 0 }) w [.ref (g.1 13 j), .ref (g.1 5 b)] (cl_Y w g A Z Y0) (fun r Y1 => r = .ref (g.1 5 (f_bey A j b)) ∧ Y1 = cl_Y w g A Z Y0) := by
  refine hv_ofV (cc := cX2_otherEnd) (own := RX2) (by decide) rfl rfl (Nat.le_of_ble_eq_true rfl) rfl ?_
  intro p e s m below meth c C hret hnm
  have hinX2 : ∀ x ∈ wsX20, x ∈ wsX2_otherEnd := by decide +kernel
  refine hv_aload_n C dX2_otherEnd_0 rfl 1 rfl ?_
  refine hv_aload_n C dX2_otherEnd_1 rfl 0 rfl ?_
  refine hc_get (kd := 13) (i := j) (f := 1) (v := .ref (g.1 5 (A 5 j))) C hg (Or.inr (Or.inr (Or.inl ⟨rfl, by omega⟩))) rfl rfl hinX2 (by decide) (by decide +kernel) rfl rfl dX2_otherEnd_2 ?_
  refine hv_acmpR_ne (tgt := 15) C dX2_otherEnd_5 (by decide) (fun h1 => ?_) (fun h1 => ?_)
  · skip
    refine hv_aload_n C dX2_otherEnd_15 rfl 0 rfl ?_
    refine hc_get (kd := 13) (i := j) (f := 1) (v := .ref (g.1 5 (A 5 j))) C hg (Or.inr (Or.inr (Or.inl ⟨rfl, by omega⟩))) rfl rfl hinX2 (by decide) (by decide +kernel) rfl rfl dX2_otherEnd_16 ?_
    exact hv_aret C hret (by first | exact Or.inl ⟨_, rfl⟩ | exact Or.inr ⟨_, rfl⟩) (by first | exact Or.inr ⟨_, rfl⟩ | exact Or.inl rfl | exact va_rfc _) dX2_otherEnd_19 (by first | exact Nat.le_refl _ | decide | omega | (simp; done) | (simp; omega)) (by first | exact Nat.le_refl _ | decide | omega | (simp; done) | (simp; omega)) ⟨by unfold f_bey; rw [if_neg (fun q => h1 ((cl_b hg hb h5).mpr q.symm))], rfl⟩
  · skip
    refine hv_aload_n C dX2_otherEnd_8 rfl 0 rfl ?_
    refine hc_get (kd := 13) (i := j) (f := 2) (v := .ref (g.1 5 (A 6 j))) C hg (Or.inr (Or.inr (Or.inl ⟨rfl, by omega⟩))) rfl rfl hinX2 (by decide) (by decide +kernel) rfl rfl dX2_otherEnd_9 ?_
    refine hv_goto (tgt := 19) C dX2_otherEnd_12 (by decide) ?_
    exact hv_aret C hret (by first | exact Or.inl ⟨_, rfl⟩ | exact Or.inr ⟨_, rfl⟩) (by first | exact Or.inr ⟨_, rfl⟩ | exact Or.inl rfl | exact va_rfc _) dX2_otherEnd_19 (by first | exact Nat.le_refl _ | decide | omega | (simp; done) | (simp; omega)) (by first | exact Nat.le_refl _ | decide | omega | (simp; done) | (simp; omega)) ⟨by unfold f_bey; rw [if_pos (((cl_b hg hb h5).mp h1).symm)], rfl⟩
set_option maxRecDepth 100000 in
set_option maxHeartbeats 4000000 in
theorem c_X2_lockThrough (l : Launch) (w : hv_W) (g : cl_g) (A Z : ab_A) (Y0 : hv_H) (hg : cl_ok g (A 4 0) (A 15 0)) (j : Nat) (hj : j < A 4 0) (h5 : A 5 j < 8) (h6 : A 6 j < 8) (h56 : A 5 j ≠ A 6 j) (h8 : A 8 j ≤ 9) (h0 : ∀ b, b < 8 → A 0 b ≤ 200) (hw : A 8 j + 5 ≤ A 0 (A 5 j)) : hv_Mr l yX2_lockThrough wsX2_lockThrough ({ frames := 2, cells := 0, slots := 0, locals := 62 }) w [.ref (g.1 13 j)] (cl_Y w g A Z Y0) (fun r Y1 => r = .int (nI (f_lock A j 10 0 - A 10 0)) ∧ Y1 = cl_Y w g (au (f_lock A j) 10 0 (A 10 0)) Z Y0) := by
  refine hv_ofV (cc := cX2_lockThrough) (own := RX2) (by decide) rfl rfl (Nat.le_of_ble_eq_true rfl) rfl ?_
  intro p e s m below meth c C hret hnm
  have hinX1 : ∀ x ∈ wsX10, x ∈ wsX2_lockThrough := by decide +kernel
  have hinX2 : ∀ x ∈ wsX20, x ∈ wsX2_lockThrough := by decide +kernel
  have h05 := h0 _ h5
  have h06 := h0 _ h6
  refine hv_aload_n C dX2_lockThrough_0 rfl 0 rfl ?_
  refine hc_get (kd := 13) (i := j) (f := 1) (v := .ref (g.1 5 (A 5 j))) C hg (Or.inr (Or.inr (Or.inl ⟨rfl, by omega⟩))) rfl rfl hinX2 (by decide) (by decide +kernel) rfl rfl dX2_lockThrough_1 ?_
  refine hv_dup C dX2_lockThrough_4 rfl ?_
  refine hc_get (kd := 5) (i := A 5 j) (f := 2) (v := .int (nI (A 0 (A 5 j)))) C hg (Or.inr (Or.inl ⟨by decide, by decide, by omega⟩)) rfl rfl hinX1 (by decide) (by decide +kernel) rfl rfl dX2_lockThrough_5 ?_
  refine hv_aload_n C dX2_lockThrough_8 rfl 0 rfl ?_
  refine hc_get (kd := 13) (i := j) (f := 4) (v := .int (nI (A 8 j))) C hg (Or.inr (Or.inr (Or.inl ⟨rfl, by omega⟩))) rfl rfl hinX2 (by decide) (by decide +kernel) rfl rfl dX2_lockThrough_9 ?_
  refine hv_isubN C dX2_lockThrough_12 (by omega) ?_
  refine hc_put (kd := 5) (i := A 5 j) (f := 2) (A' := (au A 0 (A 5 j) ((A 0 (A 5 j)) - (A 8 j)))) (Z' := Z) (ty := .int) C hg (Or.inr (Or.inl ⟨by decide, by decide, by omega⟩)) rfl rfl hinX1 tyX1 tyX1_ok nmX1 (by decide) (by decide +kernel) rfl rfl (by decide +kernel) rfl (by rfl) (by show 2 < 6; decide) (by simp [cl_cell, au]) cu_0 dX2_lockThrough_13 ?_
  refine hv_aload_n C dX2_lockThrough_16 rfl 0 rfl ?_
  refine hc_get (kd := 13) (i := j) (f := 2) (v := .ref (g.1 5 (A 6 j))) C hg (Or.inr (Or.inr (Or.inl ⟨rfl, by omega⟩))) rfl rfl hinX2 (by decide) (by decide +kernel) rfl rfl dX2_lockThrough_17 ?_
  refine hv_aload_n C dX2_lockThrough_20 rfl 0 rfl ?_
  refine hc_get (kd := 13) (i := j) (f := 4) (v := .int (nI (A 8 j))) C hg (Or.inr (Or.inr (Or.inl ⟨rfl, by omega⟩))) rfl rfl hinX2 (by decide) (by decide +kernel) rfl rfl dX2_lockThrough_21 ?_
  refine hv_callVr (As := [.int (nI (A 8 j))]) (rest := []) (n := 1) C (c_X1_fill l w g (au A 0 (A 5 j) ((A 0 (A 5 j)) - (A 8 j))) Z Y0 hg (A 6 j) (A 8 j) (by omega) (by rw [au_i A (Ne.symm h56)]; omega) (by omega)) gX2_lockThrough_X1_fill rfl (by decide +kernel) ⟨Nat.le_of_ble_eq_true rfl, Nat.le_of_ble_eq_true rfl⟩ (cl_rc hg (Or.inr (Or.inl ⟨by decide, by decide, by omega⟩)) rfl rfl) rfl rfl (Nat.le_of_ble_eq_true rfl) dX2_lockThrough_24 ⟨by first | exact Nat.le_of_ble_eq_true rfl | omega | (simp; done) | (simp; omega), by first | exact Nat.le_of_ble_eq_true rfl | omega | (simp; done) | (simp; omega)⟩ (fun r1 Y1 hr => ?_)
  obtain ⟨rfl, rfl⟩ := hr
  exact hv_iret C hret dX2_lockThrough_27 (by first | exact Nat.le_refl _ | decide | omega | (simp; done) | (simp; omega)) (by first | exact Nat.le_refl _ | decide | omega | (simp; done) | (simp; omega)) ⟨by rw [show f_lock A j 10 0 - A 10 0 = au A 0 (A 5 j) (A 0 (A 5 j) - A 8 j) 0 (A 6 j) + A 8 j - 200 from Nat.add_sub_cancel_left _ _], congrArg (fun q => cl_Y w g q Z Y0) (au_shadow _ _ _ _)⟩
