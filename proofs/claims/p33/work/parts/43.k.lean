/-! THE CLASS ASKED WITHIN RANGE: no cell is made -/
set_option maxRecDepth 100000 in
set_option maxHeartbeats 4000000 in
theorem k_basin (l : Launch) (w : hv_W) (g : cl_g) (A Z : ab_A) (Y0 : hv_H) (hg : cl_ok g (A 4 0) (A 15 0)) (b : Nat) (hb : b < 8) : hv_Mr l yX4_basinNumbered wsX4_basinNumbered ({ frames := 6, cells := 0, slots := 0, locals := 130 }) w [.ref (g.1 0 0), .int (nI b)] (cl_Y w g A Z Y0) (fun r Y1 => r = .ref (g.1 5 b) ∧ Y1 = cl_Y w g A Z Y0) := by
  refine hv_ofV (cc := cX4_basinNumbered) (own := RX4) (by decide) rfl rfl (Nat.le_of_ble_eq_true rfl) rfl ?_
  intro p e s m below meth c C hret hex
  have hinX4 : ∀ x ∈ wsX40, x ∈ wsX4_basinNumbered := by decide +kernel
  refine hv_iload_n C dX4_basinNumbered_0 rfl 1 rfl ?_
  refine hv_ifN_lt (tgt := 10) C dX4_basinNumbered_1 (by decide) (by omega) (fun h => h.elim) (fun _ => ?_)
  refine hv_iload_n C dX4_basinNumbered_4 rfl 1 rfl ?_
  refine hv_bipush (v := nI 8) C dX4_basinNumbered_5 (by decide) ?_
  refine hv_icmpN_lt (tgt := 20) C dX4_basinNumbered_7 (by decide) (by omega) (by omega) (fun _ => ?_) (fun h => absurd h (by omega))
  refine hv_aload_n C dX4_basinNumbered_20 rfl 0 rfl ?_
  refine hc_get (kd := 0) (i := 0) (f := 0) (v := .ref (g.1 1 0)) C hg (Or.inl ⟨by decide, rfl⟩) rfl rfl hinX4 (by decide) (by decide +kernel) rfl rfl dX4_basinNumbered_21 ?_
  refine hv_iload_n C dX4_basinNumbered_24 rfl 1 rfl ?_
  refine hc_bas (j := b) C hg (by omega) dX4_basinNumbered_25 ?_
  exact hv_aret C hret (by first | exact Or.inl ⟨_, rfl⟩ | exact Or.inr ⟨_, rfl⟩) (by first | exact Or.inr ⟨_, rfl⟩ | exact Or.inl rfl | exact va_rfc _) dX4_basinNumbered_26 (by first | exact Nat.le_refl _ | decide | omega | (simp; done) | (simp; omega)) (by first | exact Nat.le_refl _ | decide | omega | (simp; done) | (simp; omega)) ⟨rfl, rfl⟩
set_option maxRecDepth 100000 in
set_option maxHeartbeats 4000000 in
theorem k_canal (l : Launch) (w : hv_W) (g : cl_g) (A Z : ab_A) (Y0 : hv_H) (hg : cl_ok g (A 4 0) (A 15 0)) (h4 : A 4 0 ≤ 14) (j : Nat) (hj : j < A 4 0) : hv_Mr l yX4_canalNumbered wsX4_canalNumbered ({ frames := 6, cells := 0, slots := 0, locals := 130 }) w [.ref (g.1 0 0), .int (nI j)] (cl_Y w g A Z Y0) (fun r Y1 => r = .ref (g.1 13 j) ∧ Y1 = cl_Y w g A Z Y0) := by
  refine hv_ofV (cc := cX4_canalNumbered) (own := RX4) (by decide) rfl rfl (Nat.le_of_ble_eq_true rfl) rfl ?_
  intro p e s m below meth c C hret hex
  have hinX4 : ∀ x ∈ wsX40, x ∈ wsX4_canalNumbered := by decide +kernel
  refine hv_iload_n C dX4_canalNumbered_0 rfl 1 rfl ?_
  refine hv_ifN_lt (tgt := 15) C dX4_canalNumbered_1 (by decide) (by omega) (fun h => h.elim) (fun _ => ?_)
  refine hv_iload_n C dX4_canalNumbered_4 rfl 1 rfl ?_
  refine hv_aload_n C dX4_canalNumbered_5 rfl 0 rfl ?_
  refine hc_get (kd := 0) (i := 0) (f := 1) (v := .ref (g.1 2 0)) C hg (Or.inl ⟨by decide, rfl⟩) rfl rfl hinX4 (by decide) (by decide +kernel) rfl rfl dX4_canalNumbered_6 ?_
  refine hv_callVr (As := []) (rest := [.int (nI j)]) (n := 0) C (c_Jx4a65c_size_8abf5 l w (cl_Y w g A Z Y0) (g.1 2 0) ((List.range (A 4 0)).map (g.1 13)) (show cl_Y w g A Z Y0 (g.1 2 0) = some (.inr ((List.range (A 4 0)).map (g.1 13))) from cl_at hg (Or.inl ⟨by decide, rfl⟩))) gX4_canalNumbered_Jx4a65c_size_8abf5 rfl (by decide +kernel) ⟨Nat.le_of_ble_eq_true rfl, Nat.le_of_ble_eq_true rfl⟩ (cl_rcL hg (Or.inl ⟨by decide, rfl⟩) rfl) rfl rfl (Nat.le_of_ble_eq_true rfl) dX4_canalNumbered_9 ⟨by first | exact Nat.le_of_ble_eq_true rfl | omega | (simp; done) | (simp; omega), by first | exact Nat.le_of_ble_eq_true rfl | omega | (simp; done) | (simp; omega)⟩ (fun r2 Y1 hr => ?_)
  obtain ⟨rfl, rfl⟩ := hr
  refine hv_top (y := nI (A 4 0)) (by rw [cl_lenM]) ?_
  refine hv_icmpN_lt (tgt := 25) C dX4_canalNumbered_12 (by decide) (by omega) (by omega) (fun _ => ?_) (fun h => absurd h (by omega))
  refine hv_aload_n C dX4_canalNumbered_25 rfl 0 rfl ?_
  refine hc_get (kd := 0) (i := 0) (f := 1) (v := .ref (g.1 2 0)) C hg (Or.inl ⟨by decide, rfl⟩) rfl rfl hinX4 (by decide) (by decide +kernel) rfl rfl dX4_canalNumbered_26 ?_
  refine hv_iload_n C dX4_canalNumbered_29 rfl 1 rfl ?_
  refine hv_callVr (As := [.int (nI j)]) (rest := []) (n := 1) C (c_Jx4a65c_get_915e3 l w (cl_Y w g A Z Y0) (g.1 2 0) ((List.range (A 4 0)).map (g.1 13)) (show cl_Y w g A Z Y0 (g.1 2 0) = some (.inr ((List.range (A 4 0)).map (g.1 13))) from cl_at hg (Or.inl ⟨by decide, rfl⟩)) (by rw [cl_lenM]; omega) j (g.1 13 j) (cl_getM (by omega))) gX4_canalNumbered_Jx4a65c_get_915e3 rfl (by decide +kernel) ⟨Nat.le_of_ble_eq_true rfl, Nat.le_of_ble_eq_true rfl⟩ (cl_rcL hg (Or.inl ⟨by decide, rfl⟩) rfl) rfl rfl (Nat.le_of_ble_eq_true rfl) dX4_canalNumbered_30 ⟨by first | exact Nat.le_of_ble_eq_true rfl | omega | (simp; done) | (simp; omega), by first | exact Nat.le_of_ble_eq_true rfl | omega | (simp; done) | (simp; omega)⟩ (fun r4 Y1 hr => ?_)
  obtain ⟨rfl, rfl⟩ := hr
  refine hv_cast (ci := 3) C rfl ((cl_at hg (Or.inr (Or.inr (Or.inl ⟨rfl, by omega⟩)))).trans rfl) (by decide +kernel) dX4_canalNumbered_33 ?_
  exact hv_aret C hret (by first | exact Or.inl ⟨_, rfl⟩ | exact Or.inr ⟨_, rfl⟩) (by first | exact Or.inr ⟨_, rfl⟩ | exact Or.inl rfl | exact va_rfc _) dX4_canalNumbered_36 (by first | exact Nat.le_refl _ | decide | omega | (simp; done) | (simp; omega)) (by first | exact Nat.le_refl _ | decide | omega | (simp; done) | (simp; omega)) ⟨rfl, rfl⟩
set_option maxRecDepth 100000 in
set_option maxHeartbeats 4000000 in
theorem k_barge (l : Launch) (w : hv_W) (g : cl_g) (A Z : ab_A) (Y0 : hv_H) (hg : cl_ok g (A 4 0) (A 15 0)) (h15 : A 15 0 ≤ 40) (j : Nat) (hj : j < A 15 0) : hv_Mr l yX4_bargeNumbered wsX4_bargeNumbered ({ frames := 6, cells := 0, slots := 0, locals := 130 }) w [.ref (g.1 0 0), .int (nI j)] (cl_Y w g A Z Y0) (fun r Y1 => r = .ref (g.1 14 j) ∧ Y1 = cl_Y w g A Z Y0) := by
  refine hv_ofV (cc := cX4_bargeNumbered) (own := RX4) (by decide) rfl rfl (Nat.le_of_ble_eq_true rfl) rfl ?_
  intro p e s m below meth c C hret hex
  have hinX4 : ∀ x ∈ wsX40, x ∈ wsX4_bargeNumbered := by decide +kernel
  refine hv_iload_n C dX4_bargeNumbered_0 rfl 1 rfl ?_
  refine hv_ifN_lt (tgt := 15) C dX4_bargeNumbered_1 (by decide) (by omega) (fun h => h.elim) (fun _ => ?_)
  refine hv_iload_n C dX4_bargeNumbered_4 rfl 1 rfl ?_
  refine hv_aload_n C dX4_bargeNumbered_5 rfl 0 rfl ?_
  refine hc_get (kd := 0) (i := 0) (f := 2) (v := .ref (g.1 3 0)) C hg (Or.inl ⟨by decide, rfl⟩) rfl rfl hinX4 (by decide) (by decide +kernel) rfl rfl dX4_bargeNumbered_6 ?_
  refine hv_callVr (As := []) (rest := [.int (nI j)]) (n := 0) C (c_Jx4a65c_size_8abf5 l w (cl_Y w g A Z Y0) (g.1 3 0) ((List.range (A 15 0)).map (g.1 14)) (show cl_Y w g A Z Y0 (g.1 3 0) = some (.inr ((List.range (A 15 0)).map (g.1 14))) from cl_at hg (Or.inl ⟨by decide, rfl⟩))) gX4_bargeNumbered_Jx4a65c_size_8abf5 rfl (by decide +kernel) ⟨Nat.le_of_ble_eq_true rfl, Nat.le_of_ble_eq_true rfl⟩ (cl_rcL hg (Or.inl ⟨by decide, rfl⟩) rfl) rfl rfl (Nat.le_of_ble_eq_true rfl) dX4_bargeNumbered_9 ⟨by first | exact Nat.le_of_ble_eq_true rfl | omega | (simp; done) | (simp; omega), by first | exact Nat.le_of_ble_eq_true rfl | omega | (simp; done) | (simp; omega)⟩ (fun r2 Y1 hr => ?_)
  obtain ⟨rfl, rfl⟩ := hr
  refine hv_top (y := nI (A 15 0)) (by rw [cl_lenM]) ?_
  refine hv_icmpN_lt (tgt := 25) C dX4_bargeNumbered_12 (by decide) (by omega) (by omega) (fun _ => ?_) (fun h => absurd h (by omega))
  refine hv_aload_n C dX4_bargeNumbered_25 rfl 0 rfl ?_
  refine hc_get (kd := 0) (i := 0) (f := 2) (v := .ref (g.1 3 0)) C hg (Or.inl ⟨by decide, rfl⟩) rfl rfl hinX4 (by decide) (by decide +kernel) rfl rfl dX4_bargeNumbered_26 ?_
  refine hv_iload_n C dX4_bargeNumbered_29 rfl 1 rfl ?_
  refine hv_callVr (As := [.int (nI j)]) (rest := []) (n := 1) C (c_Jx4a65c_get_915e3 l w (cl_Y w g A Z Y0) (g.1 3 0) ((List.range (A 15 0)).map (g.1 14)) (show cl_Y w g A Z Y0 (g.1 3 0) = some (.inr ((List.range (A 15 0)).map (g.1 14))) from cl_at hg (Or.inl ⟨by decide, rfl⟩)) (by rw [cl_lenM]; omega) j (g.1 14 j) (cl_getM (by omega))) gX4_bargeNumbered_Jx4a65c_get_915e3 rfl (by decide +kernel) ⟨Nat.le_of_ble_eq_true rfl, Nat.le_of_ble_eq_true rfl⟩ (cl_rcL hg (Or.inl ⟨by decide, rfl⟩) rfl) rfl rfl (Nat.le_of_ble_eq_true rfl) dX4_bargeNumbered_30 ⟨by first | exact Nat.le_of_ble_eq_true rfl | omega | (simp; done) | (simp; omega), by first | exact Nat.le_of_ble_eq_true rfl | omega | (simp; done) | (simp; omega)⟩ (fun r4 Y1 hr => ?_)
  obtain ⟨rfl, rfl⟩ := hr
  refine hv_cast (ci := 1) C rfl ((cl_at hg (Or.inr (Or.inr (Or.inr ⟨Or.inl rfl, by omega⟩)))).trans rfl) (by decide +kernel) dX4_bargeNumbered_33 ?_
  exact hv_aret C hret (by first | exact Or.inl ⟨_, rfl⟩ | exact Or.inr ⟨_, rfl⟩) (by first | exact Or.inr ⟨_, rfl⟩ | exact Or.inl rfl | exact va_rfc _) dX4_bargeNumbered_36 (by first | exact Nat.le_refl _ | decide | omega | (simp; done) | (simp; omega)) (by first | exact Nat.le_refl _ | decide | omega | (simp; done) | (simp; omega)) ⟨rfl, rfl⟩
set_option maxRecDepth 100000 in
set_option maxHeartbeats 4000000 in
theorem k_water (l : Launch) (w : hv_W) (o9 : Nat) (Y0 : hv_H) (A : ab_A) (Y : hv_H) (hY : cl_S w o9 Y0 A Y) (hI : ab_I A) (b : Nat) (hb : b < 8) : hv_Mr l yX4_water wsX4_water ({ frames := 7, cells := 0, slots := 0, locals := 151 }) w [.ref o9, .int (nI b)] Y (fun r Y1 => r = .int (nI (A 0 b)) ∧ Y1 = Y) := by
  obtain ⟨g, Z, hg, hZ, hF, rfl, rfl⟩ := hY
  refine hv_ofV (cc := cX4_water) (own := RX4) (by decide) rfl rfl (Nat.le_of_ble_eq_true rfl) rfl ?_
  intro p e s m below meth c C hret hex
  have hinX1 : ∀ x ∈ wsX10, x ∈ wsX4_water := by decide +kernel
  refine hv_aload_n C dX4_water_0 rfl 0 rfl ?_
  refine hv_iload_n C dX4_water_1 rfl 1 rfl ?_
  refine hv_callVr (As := [.int (nI b)]) (rest := []) (n := 1) C (k_basin l w g A Z Y0 hg b hb) gX4_water_X4_basinNumbered rfl (by decide +kernel) ⟨Nat.le_of_ble_eq_true rfl, Nat.le_of_ble_eq_true rfl⟩ (cl_rc hg (Or.inl ⟨by decide, rfl⟩) rfl rfl) rfl rfl (Nat.le_of_ble_eq_true rfl) dX4_water_2 ⟨by first | exact Nat.le_of_ble_eq_true rfl | omega | (simp; done) | (simp; omega), by first | exact Nat.le_of_ble_eq_true rfl | omega | (simp; done) | (simp; omega)⟩ (fun r1 Y1 hr => ?_)
  obtain ⟨rfl, rfl⟩ := hr
  refine hc_get (kd := 5) (i := b) (f := 2) (v := .int (nI (A 0 b))) C hg (Or.inr (Or.inl ⟨by decide, by decide, by omega⟩)) rfl rfl hinX1 (by decide) (by decide +kernel) rfl rfl dX4_water_5 ?_
  exact hv_iret C hret dX4_water_8 (by first | exact Nat.le_refl _ | decide | omega | (simp; done) | (simp; omega)) (by first | exact Nat.le_refl _ | decide | omega | (simp; done) | (simp; omega)) ⟨rfl, rfl⟩
set_option maxRecDepth 100000 in
set_option maxHeartbeats 4000000 in
theorem k_cost (l : Launch) (w : hv_W) (o9 : Nat) (Y0 : hv_H) (A : ab_A) (Y : hv_H) (hY : cl_S w o9 Y0 A Y) (hI : ab_I A) (j : Nat) (hj : j < A 4 0) : hv_Mr l yX4_cost wsX4_cost ({ frames := 7, cells := 0, slots := 0, locals := 151 }) w [.ref o9, .int (nI j)] Y (fun r Y1 => r = .int (nI (f_cost A j)) ∧ Y1 = Y) := by
  obtain ⟨g, Z, hg, hZ, hF, rfl, rfl⟩ := hY
  refine hv_ofV (cc := cX4_cost) (own := RX4) (by decide) rfl rfl (Nat.le_of_ble_eq_true rfl) rfl ?_
  intro p e s m below meth c C hret hex
  refine hv_aload_n C dX4_cost_0 rfl 0 rfl ?_
  refine hv_iload_n C dX4_cost_1 rfl 1 rfl ?_
  refine hv_callVr (As := [.int (nI j)]) (rest := []) (n := 1) C (k_canal l w g A Z Y0 hg hI.2.2.2.1 j hj) gX4_cost_X4_canalNumbered rfl (by decide +kernel) ⟨Nat.le_of_ble_eq_true rfl, Nat.le_of_ble_eq_true rfl⟩ (cl_rc hg (Or.inl ⟨by decide, rfl⟩) rfl rfl) rfl rfl (Nat.le_of_ble_eq_true rfl) dX4_cost_2 ⟨by first | exact Nat.le_of_ble_eq_true rfl | omega | (simp; done) | (simp; omega), by first | exact Nat.le_of_ble_eq_true rfl | omega | (simp; done) | (simp; omega)⟩ (fun r1 Y1 hr => ?_)
  obtain ⟨rfl, rfl⟩ := hr
  refine hv_callVr (As := []) (rest := []) (n := 0) C (c_X2_costNow l w g A Z Y0 hg j hj (hI.2.2.2.2.1 j hj).1 (hI.2.2.2.2.1 j hj).2.1 (fun b hb => (hI.1 b hb).2.1)) gX4_cost_X2_costNow rfl (by decide +kernel) ⟨Nat.le_of_ble_eq_true rfl, Nat.le_of_ble_eq_true rfl⟩ (cl_rc hg (Or.inr (Or.inr (Or.inl ⟨rfl, by omega⟩))) rfl rfl) rfl rfl (Nat.le_of_ble_eq_true rfl) dX4_cost_5 ⟨by first | exact Nat.le_of_ble_eq_true rfl | omega | (simp; done) | (simp; omega), by first | exact Nat.le_of_ble_eq_true rfl | omega | (simp; done) | (simp; omega)⟩ (fun r2 Y1 hr => ?_)
  obtain ⟨rfl, rfl⟩ := hr
  exact hv_iret C hret dX4_cost_8 (by first | exact Nat.le_refl _ | decide | omega | (simp; done) | (simp; omega)) (by first | exact Nat.le_refl _ | decide | omega | (simp; done) | (simp; omega)) ⟨rfl, rfl⟩
set_option maxRecDepth 100000 in
set_option maxHeartbeats 4000000 in
theorem k_canPass (l : Launch) (w : hv_W) (o9 : Nat) (Y0 : hv_H) (A : ab_A) (Y : hv_H) (hY : cl_S w o9 Y0 A Y) (hI : ab_I A) (j : Nat) (hj : j < A 4 0) : hv_Mr l yX4_canPass wsX4_canPass ({ frames := 7, cells := 0, slots := 0, locals := 151 }) w [.ref o9, .int (nI j)] Y (fun r Y1 => r = .int (nI (b2 (A 9 j ≠ 0 ∧ A 8 j + 5 ≤ A 0 (A 5 j)))) ∧ Y1 = Y) := by
  obtain ⟨g, Z, hg, hZ, hF, rfl, rfl⟩ := hY
  refine hv_ofV (cc := cX4_canPass) (own := RX4) (by decide) rfl rfl (Nat.le_of_ble_eq_true rfl) rfl ?_
  intro p e s m below meth c C hret hex
  refine hv_aload_n C dX4_canPass_0 rfl 0 rfl ?_
  refine hv_iload_n C dX4_canPass_1 rfl 1 rfl ?_
  refine hv_callVr (As := [.int (nI j)]) (rest := []) (n := 1) C (k_canal l w g A Z Y0 hg hI.2.2.2.1 j hj) gX4_canPass_X4_canalNumbered rfl (by decide +kernel) ⟨Nat.le_of_ble_eq_true rfl, Nat.le_of_ble_eq_true rfl⟩ (cl_rc hg (Or.inl ⟨by decide, rfl⟩) rfl rfl) rfl rfl (Nat.le_of_ble_eq_true rfl) dX4_canPass_2 ⟨by first | exact Nat.le_of_ble_eq_true rfl | omega | (simp; done) | (simp; omega), by first | exact Nat.le_of_ble_eq_true rfl | omega | (simp; done) | (simp; omega)⟩ (fun r1 Y1 hr => ?_)
  obtain ⟨rfl, rfl⟩ := hr
  refine hv_callVr (As := []) (rest := []) (n := 0) C (c_X2_isPassable l w g A Z Y0 hg j hj (hI.2.2.2.2.1 j hj).1 (by have := (hI.2.2.2.2.1 j hj).2.2.2.2.2.1; omega) (by have := (hI.2.2.2.2.1 j hj).2.2.2.2.2.2; omega) (hI.1 _ (hI.2.2.2.2.1 j hj).1).2.1) gX4_canPass_X2_isPassable rfl (by decide +kernel) ⟨Nat.le_of_ble_eq_true rfl, Nat.le_of_ble_eq_true rfl⟩ (cl_rc hg (Or.inr (Or.inr (Or.inl ⟨rfl, by omega⟩))) rfl rfl) rfl rfl (Nat.le_of_ble_eq_true rfl) dX4_canPass_5 ⟨by first | exact Nat.le_of_ble_eq_true rfl | omega | (simp; done) | (simp; omega), by first | exact Nat.le_of_ble_eq_true rfl | omega | (simp; done) | (simp; omega)⟩ (fun r2 Y1 hr => ?_)
  obtain ⟨rfl, rfl⟩ := hr
  exact hv_zret C hret b2_nar dX4_canPass_8 (by first | exact Nat.le_refl _ | decide | omega | (simp; done) | (simp; omega)) (by first | exact Nat.le_refl _ | decide | omega | (simp; done) | (simp; omega)) ⟨rfl, rfl⟩
set_option maxRecDepth 100000 in
set_option maxHeartbeats 4000000 in
theorem k_distance (l : Launch) (w : hv_W) (o9 : Nat) (Y0 : hv_H) (A : ab_A) (Y : hv_H) (hY : cl_S w o9 Y0 A Y) (hI : ab_I A) (b : Nat) (hb : b < 8) (o : Nat) (ho : o < 8) : hv_Mr l yX4_distance wsX4_distance ({ frames := 7, cells := 0, slots := 0, locals := 151 }) w [.ref o9, .int (nI b), .int (nI o)] Y (fun r Y1 => r = .int (nI (A 11 (8 * b + o)) + (-1)) ∧ Y1 = Y) := by
  obtain ⟨g, Z, hg, hZ, hF, rfl, rfl⟩ := hY
  refine hv_ofV (cc := cX4_distance) (own := RX4) (by decide) rfl rfl (Nat.le_of_ble_eq_true rfl) rfl ?_
  intro p e s m below meth c C hret hex
  have hinX1 : ∀ x ∈ wsX10, x ∈ wsX4_distance := by decide +kernel
  have hinX3 : ∀ x ∈ wsX30, x ∈ wsX4_distance := by decide +kernel
  refine hv_aload_n C dX4_distance_0 rfl 0 rfl ?_
  refine hv_iload_n C dX4_distance_1 rfl 1 rfl ?_
  refine hv_callVr (As := [.int (nI b)]) (rest := []) (n := 1) C (k_basin l w g A Z Y0 hg b hb) gX4_distance_X4_basinNumbered rfl (by decide +kernel) ⟨Nat.le_of_ble_eq_true rfl, Nat.le_of_ble_eq_true rfl⟩ (cl_rc hg (Or.inl ⟨by decide, rfl⟩) rfl rfl) rfl rfl (Nat.le_of_ble_eq_true rfl) dX4_distance_2 ⟨by first | exact Nat.le_of_ble_eq_true rfl | omega | (simp; done) | (simp; omega), by first | exact Nat.le_of_ble_eq_true rfl | omega | (simp; done) | (simp; omega)⟩ (fun r1 Y1 hr => ?_)
  obtain ⟨rfl, rfl⟩ := hr
  refine hv_astore_n (lv1 := [(0, .ref (g.1 0 0)), (1, .int (nI b)), (2, .int (nI o)), (3, .ref (g.1 5 b))]) C dX4_distance_5 rfl (by decide) [1, 2, 3, 0] rfl ?_
  have hzb := hZ.1 b hb
  refine hv_aload_n C dX4_distance_6 rfl 3 rfl ?_
  refine hc_get (kd := 5) (i := b) (f := 4) (v := .ref (g.1 (7 + Z 0 b) b)) C hg (Or.inr (Or.inl ⟨by decide, by decide, by omega⟩)) rfl rfl hinX1 (by decide) (by decide +kernel) rfl rfl dX4_distance_7 ?_
  refine hc_get (kd := (7 + Z 0 (b))) (i := b) (f := 0) (v := .ref (g.1 (9 + Z 0 b) b)) C hg (Or.inr (Or.inl ⟨by omega, by omega, by omega⟩)) (cl_t (show Z 0 b ≤ 1 from by omega)) rfl hinX3 (by decide) (by decide +kernel) rfl rfl dX4_distance_10 ?_
  refine hv_aload_n C dX4_distance_13 rfl 0 rfl ?_
  refine hv_iload_n C dX4_distance_14 rfl 2 rfl ?_
  refine hv_callVr (As := [.int (nI o)]) (rest := [.ref (g.1 (9 + Z 0 b) b)]) (n := 1) C (k_basin l w g A Z Y0 hg o ho) gX4_distance_X4_basinNumbered rfl (by decide +kernel) ⟨Nat.le_of_ble_eq_true rfl, Nat.le_of_ble_eq_true rfl⟩ (cl_rc hg (Or.inl ⟨by decide, rfl⟩) rfl rfl) rfl rfl (Nat.le_of_ble_eq_true rfl) dX4_distance_15 ⟨by first | exact Nat.le_of_ble_eq_true rfl | omega | (simp; done) | (simp; omega), by first | exact Nat.le_of_ble_eq_true rfl | omega | (simp; done) | (simp; omega)⟩ (fun r2 Y1 hr => ?_)
  obtain ⟨rfl, rfl⟩ := hr
  refine hc_get (kd := 5) (i := o) (f := 0) (v := .int (nI o)) C hg (Or.inr (Or.inl ⟨by decide, by decide, by omega⟩)) rfl rfl hinX1 (by decide) (by decide +kernel) rfl rfl dX4_distance_18 ?_
  refine hc_iald (kd := 9 + Z 0 b) (i := b) (j := o) (x := (nI (A 11 (8 * b + o)) + (-1))) C hg (Or.inr (Or.inl ⟨by omega, by omega, by omega⟩)) (cl_td (show Z 0 b ≤ 1 from by omega)) (by decide) (by omega) (if_pos (by omega)) dX4_distance_21 ?_
  exact hv_iret C hret dX4_distance_22 (by first | exact Nat.le_refl _ | decide | omega | (simp; done) | (simp; omega)) (by first | exact Nat.le_refl _ | decide | omega | (simp; done) | (simp; omega)) ⟨rfl, rfl⟩
set_option maxRecDepth 100000 in
set_option maxHeartbeats 4000000 in
theorem k_canalTo (l : Launch) (w : hv_W) (o9 : Nat) (Y0 : hv_H) (A : ab_A) (Y : hv_H) (hY : cl_S w o9 Y0 A Y) (hI : ab_I A) (b : Nat) (hb : b < 8) (o : Nat) (ho : o < 8) : hv_Mr l yX4_canalTo wsX4_canalTo ({ frames := 7, cells := 0, slots := 0, locals := 151 }) w [.ref o9, .int (nI b), .int (nI o)] Y (fun r Y1 => r = .int (nI (A 12 (8 * b + o)) + (-1)) ∧ Y1 = Y) := by
  obtain ⟨g, Z, hg, hZ, hF, rfl, rfl⟩ := hY
  refine hv_ofV (cc := cX4_canalTo) (own := RX4) (by decide) rfl rfl (Nat.le_of_ble_eq_true rfl) rfl ?_
  intro p e s m below meth c C hret hex
  have hinX2 : ∀ x ∈ wsX20, x ∈ wsX4_canalTo := by decide +kernel
  refine hv_aload_n C dX4_canalTo_0 rfl 0 rfl ?_
  refine hv_iload_n C dX4_canalTo_1 rfl 1 rfl ?_
  refine hv_callVr (As := [.int (nI b)]) (rest := []) (n := 1) C (k_basin l w g A Z Y0 hg b hb) gX4_canalTo_X4_basinNumbered rfl (by decide +kernel) ⟨Nat.le_of_ble_eq_true rfl, Nat.le_of_ble_eq_true rfl⟩ (cl_rc hg (Or.inl ⟨by decide, rfl⟩) rfl rfl) rfl rfl (Nat.le_of_ble_eq_true rfl) dX4_canalTo_2 ⟨by first | exact Nat.le_of_ble_eq_true rfl | omega | (simp; done) | (simp; omega), by first | exact Nat.le_of_ble_eq_true rfl | omega | (simp; done) | (simp; omega)⟩ (fun r1 Y1 hr => ?_)
  obtain ⟨rfl, rfl⟩ := hr
  refine hv_astore_n (lv1 := [(0, .ref (g.1 0 0)), (1, .int (nI b)), (2, .int (nI o)), (3, .ref (g.1 5 b))]) C dX4_canalTo_5 rfl (by decide) [1, 2, 3, 0] rfl ?_
  refine hv_aload_n C dX4_canalTo_6 rfl 3 rfl ?_
  refine hv_aload_n C dX4_canalTo_7 rfl 0 rfl ?_
  refine hv_iload_n C dX4_canalTo_8 rfl 2 rfl ?_
  refine hv_callVr (As := [.int (nI o)]) (rest := [.ref (g.1 5 b)]) (n := 1) C (k_basin l w g A Z Y0 hg o ho) gX4_canalTo_X4_basinNumbered rfl (by decide +kernel) ⟨Nat.le_of_ble_eq_true rfl, Nat.le_of_ble_eq_true rfl⟩ (cl_rc hg (Or.inl ⟨by decide, rfl⟩) rfl rfl) rfl rfl (Nat.le_of_ble_eq_true rfl) dX4_canalTo_9 ⟨by first | exact Nat.le_of_ble_eq_true rfl | omega | (simp; done) | (simp; omega), by first | exact Nat.le_of_ble_eq_true rfl | omega | (simp; done) | (simp; omega)⟩ (fun r2 Y1 hr => ?_)
  obtain ⟨rfl, rfl⟩ := hr
  refine hv_callVr (As := [.ref (g.1 5 o)]) (rest := []) (n := 1) C (c_X1_canalTowards l w g A Z Y0 hg b o hb ho (hZ.1 b hb)) gX4_canalTo_X1_canalTowards rfl (by decide +kernel) ⟨Nat.le_of_ble_eq_true rfl, Nat.le_of_ble_eq_true rfl⟩ (cl_rc hg (Or.inr (Or.inl ⟨by decide, by decide, by omega⟩)) rfl rfl) rfl rfl (Nat.le_of_ble_eq_true rfl) dX4_canalTo_12 ⟨by first | exact Nat.le_of_ble_eq_true rfl | omega | (simp; done) | (simp; omega), by first | exact Nat.le_of_ble_eq_true rfl | omega | (simp; done) | (simp; omega)⟩ (fun r3 Y1 hr => ?_)
  obtain ⟨rfl, rfl⟩ := hr
  by_cases hc : A 12 (8 * b + o) = 0
  · refine hv_topV (cl_r0 hc) ?_
    refine hv_astoreN (lv1 := [(0, .ref (g.1 0 0)), (1, .int (nI b)), (2, .int (nI o)), (3, .ref (g.1 5 b)), (4, .null)]) C dX4_canalTo_15 (by decide) [1, 2, 3, 4, 0] rfl ?_
    refine hv_aloadN C dX4_canalTo_17 4 rfl ?_
    refine hv_ifnonnullN C dX4_canalTo_19 ?_
    refine hv_iconst (v := nI 0 + (-1)) C dX4_canalTo_22 (by decide) ?_
    refine hv_goto (tgt := 31) C dX4_canalTo_23 (by decide) ?_
    exact hv_iret C hret dX4_canalTo_31 (by first | exact Nat.le_refl _ | decide | omega | (simp; done) | (simp; omega)) (by first | exact Nat.le_refl _ | decide | omega | (simp; done) | (simp; omega)) ⟨by rw [hc], rfl⟩
  · refine hv_topV (cl_r1 hc) ?_
    have hcl : A 12 (8 * b + o) - 1 < A 4 0 := by have := (hI.2.2.2.2.2.1 b o hb ho).2.1; omega
    obtain ⟨g1, g2, g3, g4, g5, g6, g7⟩ := hI.2.2.2.2.1 (A 12 (8 * b + o) - 1) hcl
    refine hv_astore (lv1 := [(0, .ref (g.1 0 0)), (1, .int (nI b)), (2, .int (nI o)), (3, .ref (g.1 5 b)), (4, .ref (g.1 13 (A 12 (8 * b + o) - 1)))]) C dX4_canalTo_15 (by decide) [1, 2, 3, 4, 0] rfl ?_
    refine hv_aload C dX4_canalTo_17 4 rfl ?_
    refine hv_ifnonnullR (tgt := 26) C dX4_canalTo_19 (by decide) ?_
    refine hv_aload C dX4_canalTo_26 4 rfl ?_
    refine hc_get (kd := 13) (i := A 12 (8 * b + o) - 1) (f := 0) (v := .int (nI (A 12 (8 * b + o) - 1))) C hg (Or.inr (Or.inr (Or.inl ⟨rfl, by omega⟩))) rfl rfl hinX2 (by decide) (by decide +kernel) rfl rfl dX4_canalTo_28 ?_
    exact hv_iret C hret dX4_canalTo_31 (by first | exact Nat.le_refl _ | decide | omega | (simp; done) | (simp; omega)) (by first | exact Nat.le_refl _ | decide | omega | (simp; done) | (simp; omega)) ⟨by rw [nI_em (by omega)], rfl⟩
set_option maxRecDepth 100000 in
set_option maxHeartbeats 4000000 in
theorem k_isLoop (l : Launch) (w : hv_W) (o9 : Nat) (Y0 : hv_H) (A : ab_A) (Y : hv_H) (hY : cl_S w o9 Y0 A Y) (hI : ab_I A) (b : Nat) (hb : b < 8) (o : Nat) (ho : o < 8) : hv_Mr l yX4_isLoop wsX4_isLoop ({ frames := 7, cells := 0, slots := 0, locals := 151 }) w [.ref o9, .int (nI b), .int (nI o)] Y (fun r Y1 => r = .int (nI (b2 (f_walk A o 8 b = true))) ∧ Y1 = Y) := by
  obtain ⟨g, Z, hg, hZ, hF, rfl, rfl⟩ := hY
  refine hv_ofV (cc := cX4_isLoop) (own := RX4) (by decide) rfl rfl (Nat.le_of_ble_eq_true rfl) rfl ?_
  intro p e s m below meth c C hret hex
  refine hv_aload_n C dX4_isLoop_0 rfl 0 rfl ?_
  refine hv_iload_n C dX4_isLoop_1 rfl 1 rfl ?_
  refine hv_callVr (As := [.int (nI b)]) (rest := []) (n := 1) C (k_basin l w g A Z Y0 hg b hb) gX4_isLoop_X4_basinNumbered rfl (by decide +kernel) ⟨Nat.le_of_ble_eq_true rfl, Nat.le_of_ble_eq_true rfl⟩ (cl_rc hg (Or.inl ⟨by decide, rfl⟩) rfl rfl) rfl rfl (Nat.le_of_ble_eq_true rfl) dX4_isLoop_2 ⟨by first | exact Nat.le_of_ble_eq_true rfl | omega | (simp; done) | (simp; omega), by first | exact Nat.le_of_ble_eq_true rfl | omega | (simp; done) | (simp; omega)⟩ (fun r1 Y1 hr => ?_)
  obtain ⟨rfl, rfl⟩ := hr
  refine hv_astore_n (lv1 := [(0, .ref (g.1 0 0)), (1, .int (nI b)), (2, .int (nI o)), (3, .ref (g.1 5 b))]) C dX4_isLoop_5 rfl (by decide) [1, 2, 3, 0] rfl ?_
  refine hv_aload_n C dX4_isLoop_6 rfl 3 rfl ?_
  refine hv_aload_n C dX4_isLoop_7 rfl 0 rfl ?_
  refine hv_iload_n C dX4_isLoop_8 rfl 2 rfl ?_
  refine hv_callVr (As := [.int (nI o)]) (rest := [.ref (g.1 5 b)]) (n := 1) C (k_basin l w g A Z Y0 hg o ho) gX4_isLoop_X4_basinNumbered rfl (by decide +kernel) ⟨Nat.le_of_ble_eq_true rfl, Nat.le_of_ble_eq_true rfl⟩ (cl_rc hg (Or.inl ⟨by decide, rfl⟩) rfl rfl) rfl rfl (Nat.le_of_ble_eq_true rfl) dX4_isLoop_9 ⟨by first | exact Nat.le_of_ble_eq_true rfl | omega | (simp; done) | (simp; omega), by first | exact Nat.le_of_ble_eq_true rfl | omega | (simp; done) | (simp; omega)⟩ (fun r2 Y1 hr => ?_)
  obtain ⟨rfl, rfl⟩ := hr
  refine hv_callSr (As := [.ref (g.1 5 b), .ref (g.1 5 o)]) (rest := []) (n := 2) C (c_X4_goesRound l w g A Z Y0 hg hI hZ b o hb ho) gX4_isLoop_X4_goesRound rfl (by decide +kernel) ⟨Nat.le_of_ble_eq_true rfl, Nat.le_of_ble_eq_true rfl⟩ rfl rfl (Nat.le_of_ble_eq_true rfl) dX4_isLoop_12 ⟨by first | exact Nat.le_of_ble_eq_true rfl | omega | (simp; done) | (simp; omega), by first | exact Nat.le_of_ble_eq_true rfl | omega | (simp; done) | (simp; omega)⟩ (fun r3 Y1 hr => ?_)
  obtain ⟨rfl, rfl⟩ := hr
  exact hv_zret C hret b2_nar dX4_isLoop_15 (by first | exact Nat.le_refl _ | decide | omega | (simp; done) | (simp; omega)) (by first | exact Nat.le_refl _ | decide | omega | (simp; done) | (simp; omega)) ⟨rfl, rfl⟩
set_option maxRecDepth 100000 in
set_option maxHeartbeats 4000000 in
theorem k_state (l : Launch) (w : hv_W) (o9 : Nat) (Y0 : hv_H) (A : ab_A) (Y : hv_H) (hY : cl_S w o9 Y0 A Y) (hI : ab_I A) (j : Nat) (hj : j < A 15 0) : hv_Mr l yX4_state wsX4_state ({ frames := 7, cells := 0, slots := 0, locals := 151 }) w [.ref o9, .int (nI j)] Y (fun r Y1 => r = .int (nI (A 21 j)) ∧ Y1 = Y) := by
  obtain ⟨g, Z, hg, hZ, hF, rfl, rfl⟩ := hY
  refine hv_ofV (cc := cX4_state) (own := RX4) (by decide) rfl rfl (Nat.le_of_ble_eq_true rfl) rfl ?_
  intro p e s m below meth c C hret hex
  have hinX0 : ∀ x ∈ wsX00, x ∈ wsX4_state := by decide +kernel
  refine hv_aload_n C dX4_state_0 rfl 0 rfl ?_
  refine hv_iload_n C dX4_state_1 rfl 1 rfl ?_
  refine hv_callVr (As := [.int (nI j)]) (rest := []) (n := 1) C (k_barge l w g A Z Y0 hg hI.2.2.2.2.2.2.1 j hj) gX4_state_X4_bargeNumbered rfl (by decide +kernel) ⟨Nat.le_of_ble_eq_true rfl, Nat.le_of_ble_eq_true rfl⟩ (cl_rc hg (Or.inl ⟨by decide, rfl⟩) rfl rfl) rfl rfl (Nat.le_of_ble_eq_true rfl) dX4_state_2 ⟨by first | exact Nat.le_of_ble_eq_true rfl | omega | (simp; done) | (simp; omega), by first | exact Nat.le_of_ble_eq_true rfl | omega | (simp; done) | (simp; omega)⟩ (fun r1 Y1 hr => ?_)
  obtain ⟨rfl, rfl⟩ := hr
  refine hc_get (kd := 14) (i := j) (f := 7) (v := .int (nI (A 21 j))) C hg (Or.inr (Or.inr (Or.inr ⟨Or.inl rfl, by omega⟩))) rfl rfl hinX0 (by decide) (by decide +kernel) rfl rfl dX4_state_5 ?_
  exact hv_iret C hret dX4_state_8 (by first | exact Nat.le_refl _ | decide | omega | (simp; done) | (simp; omega)) (by first | exact Nat.le_refl _ | decide | omega | (simp; done) | (simp; omega)) ⟨rfl, rfl⟩
set_option maxRecDepth 100000 in
set_option maxHeartbeats 4000000 in
theorem k_hops (l : Launch) (w : hv_W) (o9 : Nat) (Y0 : hv_H) (A : ab_A) (Y : hv_H) (hY : cl_S w o9 Y0 A Y) (hI : ab_I A) (j : Nat) (hj : j < A 15 0) : hv_Mr l yX4_hops wsX4_hops ({ frames := 7, cells := 0, slots := 0, locals := 151 }) w [.ref o9, .int (nI j)] Y (fun r Y1 => r = .int (nI (A 19 j)) ∧ Y1 = Y) := by
  obtain ⟨g, Z, hg, hZ, hF, rfl, rfl⟩ := hY
  refine hv_ofV (cc := cX4_hops) (own := RX4) (by decide) rfl rfl (Nat.le_of_ble_eq_true rfl) rfl ?_
  intro p e s m below meth c C hret hex
  have hinX0 : ∀ x ∈ wsX00, x ∈ wsX4_hops := by decide +kernel
  refine hv_aload_n C dX4_hops_0 rfl 0 rfl ?_
  refine hv_iload_n C dX4_hops_1 rfl 1 rfl ?_
  refine hv_callVr (As := [.int (nI j)]) (rest := []) (n := 1) C (k_barge l w g A Z Y0 hg hI.2.2.2.2.2.2.1 j hj) gX4_hops_X4_bargeNumbered rfl (by decide +kernel) ⟨Nat.le_of_ble_eq_true rfl, Nat.le_of_ble_eq_true rfl⟩ (cl_rc hg (Or.inl ⟨by decide, rfl⟩) rfl rfl) rfl rfl (Nat.le_of_ble_eq_true rfl) dX4_hops_2 ⟨by first | exact Nat.le_of_ble_eq_true rfl | omega | (simp; done) | (simp; omega), by first | exact Nat.le_of_ble_eq_true rfl | omega | (simp; done) | (simp; omega)⟩ (fun r1 Y1 hr => ?_)
  obtain ⟨rfl, rfl⟩ := hr
  refine hc_get (kd := 14) (i := j) (f := 5) (v := .int (nI (A 19 j))) C hg (Or.inr (Or.inr (Or.inr ⟨Or.inl rfl, by omega⟩))) rfl rfl hinX0 (by decide) (by decide +kernel) rfl rfl dX4_hops_5 ?_
  exact hv_iret C hret dX4_hops_8 (by first | exact Nat.le_refl _ | decide | omega | (simp; done) | (simp; omega)) (by first | exact Nat.le_refl _ | decide | omega | (simp; done) | (simp; omega)) ⟨rfl, rfl⟩
set_option maxRecDepth 100000 in
set_option maxHeartbeats 4000000 in
theorem k_life (l : Launch) (w : hv_W) (o9 : Nat) (Y0 : hv_H) (A : ab_A) (Y : hv_H) (hY : cl_S w o9 Y0 A Y) (hI : ab_I A) (j : Nat) (hj : j < A 15 0) : hv_Mr l yX4_life wsX4_life ({ frames := 7, cells := 0, slots := 0, locals := 151 }) w [.ref o9, .int (nI j)] Y (fun r Y1 => r = .int (nI (A 18 j)) ∧ Y1 = Y) := by
  obtain ⟨g, Z, hg, hZ, hF, rfl, rfl⟩ := hY
  refine hv_ofV (cc := cX4_life) (own := RX4) (by decide) rfl rfl (Nat.le_of_ble_eq_true rfl) rfl ?_
  intro p e s m below meth c C hret hex
  have hinX0 : ∀ x ∈ wsX00, x ∈ wsX4_life := by decide +kernel
  refine hv_aload_n C dX4_life_0 rfl 0 rfl ?_
  refine hv_iload_n C dX4_life_1 rfl 1 rfl ?_
  refine hv_callVr (As := [.int (nI j)]) (rest := []) (n := 1) C (k_barge l w g A Z Y0 hg hI.2.2.2.2.2.2.1 j hj) gX4_life_X4_bargeNumbered rfl (by decide +kernel) ⟨Nat.le_of_ble_eq_true rfl, Nat.le_of_ble_eq_true rfl⟩ (cl_rc hg (Or.inl ⟨by decide, rfl⟩) rfl rfl) rfl rfl (Nat.le_of_ble_eq_true rfl) dX4_life_2 ⟨by first | exact Nat.le_of_ble_eq_true rfl | omega | (simp; done) | (simp; omega), by first | exact Nat.le_of_ble_eq_true rfl | omega | (simp; done) | (simp; omega)⟩ (fun r1 Y1 hr => ?_)
  obtain ⟨rfl, rfl⟩ := hr
  refine hc_get (kd := 14) (i := j) (f := 4) (v := .int (nI (A 18 j))) C hg (Or.inr (Or.inr (Or.inr ⟨Or.inl rfl, by omega⟩))) rfl rfl hinX0 (by decide) (by decide +kernel) rfl rfl dX4_life_5 ?_
  exact hv_iret C hret dX4_life_8 (by first | exact Nat.le_refl _ | decide | omega | (simp; done) | (simp; omega)) (by first | exact Nat.le_refl _ | decide | omega | (simp; done) | (simp; omega)) ⟨rfl, rfl⟩
set_option maxRecDepth 100000 in
set_option maxHeartbeats 4000000 in
theorem k_repeats (l : Launch) (w : hv_W) (o9 : Nat) (Y0 : hv_H) (A : ab_A) (Y : hv_H) (hY : cl_S w o9 Y0 A Y) (hI : ab_I A) (j : Nat) (hj : j < A 15 0) : hv_Mr l yX4_repeats wsX4_repeats ({ frames := 7, cells := 0, slots := 0, locals := 151 }) w [.ref o9, .int (nI j)] Y (fun r Y1 => r = .int (nI (A 20 j)) ∧ Y1 = Y) := by
  obtain ⟨g, Z, hg, hZ, hF, rfl, rfl⟩ := hY
  refine hv_ofV (cc := cX4_repeats) (own := RX4) (by decide) rfl rfl (Nat.le_of_ble_eq_true rfl) rfl ?_
  intro p e s m below meth c C hret hex
  have hinX0 : ∀ x ∈ wsX00, x ∈ wsX4_repeats := by decide +kernel
  refine hv_aload_n C dX4_repeats_0 rfl 0 rfl ?_
  refine hv_iload_n C dX4_repeats_1 rfl 1 rfl ?_
  refine hv_callVr (As := [.int (nI j)]) (rest := []) (n := 1) C (k_barge l w g A Z Y0 hg hI.2.2.2.2.2.2.1 j hj) gX4_repeats_X4_bargeNumbered rfl (by decide +kernel) ⟨Nat.le_of_ble_eq_true rfl, Nat.le_of_ble_eq_true rfl⟩ (cl_rc hg (Or.inl ⟨by decide, rfl⟩) rfl rfl) rfl rfl (Nat.le_of_ble_eq_true rfl) dX4_repeats_2 ⟨by first | exact Nat.le_of_ble_eq_true rfl | omega | (simp; done) | (simp; omega), by first | exact Nat.le_of_ble_eq_true rfl | omega | (simp; done) | (simp; omega)⟩ (fun r1 Y1 hr => ?_)
  obtain ⟨rfl, rfl⟩ := hr
  refine hc_get (kd := 14) (i := j) (f := 6) (v := .int (nI (A 20 j))) C hg (Or.inr (Or.inr (Or.inr ⟨Or.inl rfl, by omega⟩))) rfl rfl hinX0 (by decide) (by decide +kernel) rfl rfl dX4_repeats_5 ?_
  exact hv_iret C hret dX4_repeats_8 (by first | exact Nat.le_refl _ | decide | omega | (simp; done) | (simp; omega)) (by first | exact Nat.le_refl _ | decide | omega | (simp; done) | (simp; omega)) ⟨rfl, rfl⟩
set_option maxRecDepth 100000 in
set_option maxHeartbeats 4000000 in
theorem k_basinOf (l : Launch) (w : hv_W) (o9 : Nat) (Y0 : hv_H) (A : ab_A) (Y : hv_H) (hY : cl_S w o9 Y0 A Y) (hI : ab_I A) (j : Nat) (hj : j < A 15 0) : hv_Mr l yX4_basinOf wsX4_basinOf ({ frames := 7, cells := 0, slots := 0, locals := 151 }) w [.ref o9, .int (nI j)] Y (fun r Y1 => r = .int (nI (A 22 j)) ∧ Y1 = Y) := by
  obtain ⟨g, Z, hg, hZ, hF, rfl, rfl⟩ := hY
  refine hv_ofV (cc := cX4_basinOf) (own := RX4) (by decide) rfl rfl (Nat.le_of_ble_eq_true rfl) rfl ?_
  intro p e s m below meth c C hret hex
  have hinX0 : ∀ x ∈ wsX00, x ∈ wsX4_basinOf := by decide +kernel
  have hinX1 : ∀ x ∈ wsX10, x ∈ wsX4_basinOf := by decide +kernel
  refine hv_aload_n C dX4_basinOf_0 rfl 0 rfl ?_
  refine hv_iload_n C dX4_basinOf_1 rfl 1 rfl ?_
  refine hv_callVr (As := [.int (nI j)]) (rest := []) (n := 1) C (k_barge l w g A Z Y0 hg hI.2.2.2.2.2.2.1 j hj) gX4_basinOf_X4_bargeNumbered rfl (by decide +kernel) ⟨Nat.le_of_ble_eq_true rfl, Nat.le_of_ble_eq_true rfl⟩ (cl_rc hg (Or.inl ⟨by decide, rfl⟩) rfl rfl) rfl rfl (Nat.le_of_ble_eq_true rfl) dX4_basinOf_2 ⟨by first | exact Nat.le_of_ble_eq_true rfl | omega | (simp; done) | (simp; omega), by first | exact Nat.le_of_ble_eq_true rfl | omega | (simp; done) | (simp; omega)⟩ (fun r1 Y1 hr => ?_)
  obtain ⟨rfl, rfl⟩ := hr
  have h22 := (hI.2.2.2.2.2.2.2.2.1 j hj).2.2.2.1
  refine hc_get (kd := 14) (i := j) (f := 3) (v := .ref (g.1 5 (A 22 j))) C hg (Or.inr (Or.inr (Or.inr ⟨Or.inl rfl, by omega⟩))) rfl rfl hinX0 (by decide) (by decide +kernel) rfl rfl dX4_basinOf_5 ?_
  refine hc_get (kd := 5) (i := A 22 j) (f := 0) (v := .int (nI (A 22 j))) C hg (Or.inr (Or.inl ⟨by decide, by decide, by omega⟩)) rfl rfl hinX1 (by decide) (by decide +kernel) rfl rfl dX4_basinOf_8 ?_
  exact hv_iret C hret dX4_basinOf_11 (by first | exact Nat.le_refl _ | decide | omega | (simp; done) | (simp; omega)) (by first | exact Nat.le_refl _ | decide | omega | (simp; done) | (simp; omega)) ⟨rfl, rfl⟩
set_option maxRecDepth 100000 in
set_option maxHeartbeats 4000000 in
theorem k_queue (l : Launch) (w : hv_W) (o9 : Nat) (Y0 : hv_H) (A : ab_A) (Y : hv_H) (hY : cl_S w o9 Y0 A Y) (hI : ab_I A) (b : Nat) (hb : b < 8) : hv_Mr l yX4_queue wsX4_queue ({ frames := 7, cells := 0, slots := 0, locals := 151 }) w [.ref o9, .int (nI b)] Y (fun r Y1 => r = .int (nI (A 2 b)) ∧ Y1 = Y) := by
  obtain ⟨g, Z, hg, hZ, hF, rfl, rfl⟩ := hY
  refine hv_ofV (cc := cX4_queue) (own := RX4) (by decide) rfl rfl (Nat.le_of_ble_eq_true rfl) rfl ?_
  intro p e s m below meth c C hret hex
  have hinX1 : ∀ x ∈ wsX10, x ∈ wsX4_queue := by decide +kernel
  refine hv_aload_n C dX4_queue_0 rfl 0 rfl ?_
  refine hv_iload_n C dX4_queue_1 rfl 1 rfl ?_
  refine hv_callVr (As := [.int (nI b)]) (rest := []) (n := 1) C (k_basin l w g A Z Y0 hg b hb) gX4_queue_X4_basinNumbered rfl (by decide +kernel) ⟨Nat.le_of_ble_eq_true rfl, Nat.le_of_ble_eq_true rfl⟩ (cl_rc hg (Or.inl ⟨by decide, rfl⟩) rfl rfl) rfl rfl (Nat.le_of_ble_eq_true rfl) dX4_queue_2 ⟨by first | exact Nat.le_of_ble_eq_true rfl | omega | (simp; done) | (simp; omega), by first | exact Nat.le_of_ble_eq_true rfl | omega | (simp; done) | (simp; omega)⟩ (fun r1 Y1 hr => ?_)
  obtain ⟨rfl, rfl⟩ := hr
  refine hc_get (kd := 5) (i := b) (f := 1) (v := .ref (g.1 6 b)) C hg (Or.inr (Or.inl ⟨by decide, by decide, by omega⟩)) rfl rfl hinX1 (by decide) (by decide +kernel) rfl rfl dX4_queue_5 ?_
  refine hv_callVr (As := []) (rest := []) (n := 0) C (c_Jx4a65c_size_8abf5 l w (cl_Y w g A Z Y0) (g.1 6 b) ((List.range (A 2 b)).map (fun k => g.1 14 (A 3 (6 * b + k)))) (show cl_Y w g A Z Y0 (g.1 6 b) = some (.inr ((List.range (A 2 b)).map (fun k => g.1 14 (A 3 (6 * b + k))))) from cl_at hg (Or.inr (Or.inl ⟨by decide, by decide, by omega⟩)))) gX4_queue_Jx4a65c_size_8abf5 rfl (by decide +kernel) ⟨Nat.le_of_ble_eq_true rfl, Nat.le_of_ble_eq_true rfl⟩ (cl_rcL hg (Or.inr (Or.inl ⟨by decide, by decide, by omega⟩)) rfl) rfl rfl (Nat.le_of_ble_eq_true rfl) dX4_queue_8 ⟨by first | exact Nat.le_of_ble_eq_true rfl | omega | (simp; done) | (simp; omega), by first | exact Nat.le_of_ble_eq_true rfl | omega | (simp; done) | (simp; omega)⟩ (fun r2 Y1 hr => ?_)
  obtain ⟨rfl, rfl⟩ := hr
  refine hv_top (y := nI (A 2 b)) (by rw [cl_lenM]) ?_
  exact hv_iret C hret dX4_queue_11 (by first | exact Nat.le_refl _ | decide | omega | (simp; done) | (simp; omega)) (by first | exact Nat.le_refl _ | decide | omega | (simp; done) | (simp; omega)) ⟨rfl, rfl⟩
set_option maxRecDepth 100000 in
set_option maxHeartbeats 4000000 in
theorem k_queued (l : Launch) (w : hv_W) (o9 : Nat) (Y0 : hv_H) (A : ab_A) (Y : hv_H) (hY : cl_S w o9 Y0 A Y) (hI : ab_I A) (b : Nat) (hb : b < 8) (j : Nat) (hj : j < 2 ^ 31) : hv_Mr l yX4_queued wsX4_queued ({ frames := 7, cells := 0, slots := 0, locals := 151 }) w [.ref o9, .int (nI b), .int (nI j)] Y (fun r Y1 => r = .int (if j < A 2 b then nI (A 3 (6 * b + j)) else nI 0 + (-1)) ∧ Y1 = Y) := by
  obtain ⟨g, Z, hg, hZ, hF, rfl, rfl⟩ := hY
  refine hv_ofV (cc := cX4_queued) (own := RX4) (by decide) rfl rfl (Nat.le_of_ble_eq_true rfl) rfl ?_
  intro p e s m below meth c C hret hex
  have hinX0 : ∀ x ∈ wsX00, x ∈ wsX4_queued := by decide +kernel
  have hinX1 : ∀ x ∈ wsX10, x ∈ wsX4_queued := by decide +kernel
  refine hv_aload_n C dX4_queued_0 rfl 0 rfl ?_
  refine hv_iload_n C dX4_queued_1 rfl 1 rfl ?_
  refine hv_callVr (As := [.int (nI b)]) (rest := []) (n := 1) C (k_basin l w g A Z Y0 hg b hb) gX4_queued_X4_basinNumbered rfl (by decide +kernel) ⟨Nat.le_of_ble_eq_true rfl, Nat.le_of_ble_eq_true rfl⟩ (cl_rc hg (Or.inl ⟨by decide, rfl⟩) rfl rfl) rfl rfl (Nat.le_of_ble_eq_true rfl) dX4_queued_2 ⟨by first | exact Nat.le_of_ble_eq_true rfl | omega | (simp; done) | (simp; omega), by first | exact Nat.le_of_ble_eq_true rfl | omega | (simp; done) | (simp; omega)⟩ (fun r1 Y1 hr => ?_)
  obtain ⟨rfl, rfl⟩ := hr
  refine hv_astore_n (lv1 := [(0, .ref (g.1 0 0)), (1, .int (nI b)), (2, .int (nI j)), (3, .ref (g.1 5 b))]) C dX4_queued_5 rfl (by decide) [1, 2, 3, 0] rfl ?_
  have h2b := (hI.1 b hb).2.2.2.2
  refine hv_iload_n C dX4_queued_6 rfl 2 rfl ?_
  refine hv_ifN_ge (tgt := 20) C dX4_queued_7 (by decide) (by omega) (fun h2 => ?_) (fun h => h.elim)
  · skip
    refine hv_iload_n C dX4_queued_20 rfl 2 rfl ?_
    refine hv_aload_n C dX4_queued_21 rfl 3 rfl ?_
    refine hc_get (kd := 5) (i := b) (f := 1) (v := .ref (g.1 6 b)) C hg (Or.inr (Or.inl ⟨by decide, by decide, by omega⟩)) rfl rfl hinX1 (by decide) (by decide +kernel) rfl rfl dX4_queued_22 ?_
    refine hv_callVr (As := []) (rest := [.int (nI j)]) (n := 0) C (c_Jx4a65c_size_8abf5 l w (cl_Y w g A Z Y0) (g.1 6 b) ((List.range (A 2 b)).map (fun k => g.1 14 (A 3 (6 * b + k)))) (show cl_Y w g A Z Y0 (g.1 6 b) = some (.inr ((List.range (A 2 b)).map (fun k => g.1 14 (A 3 (6 * b + k))))) from cl_at hg (Or.inr (Or.inl ⟨by decide, by decide, by omega⟩)))) gX4_queued_Jx4a65c_size_8abf5 rfl (by decide +kernel) ⟨Nat.le_of_ble_eq_true rfl, Nat.le_of_ble_eq_true rfl⟩ (cl_rcL hg (Or.inr (Or.inl ⟨by decide, by decide, by omega⟩)) rfl) rfl rfl (Nat.le_of_ble_eq_true rfl) dX4_queued_25 ⟨by first | exact Nat.le_of_ble_eq_true rfl | omega | (simp; done) | (simp; omega), by first | exact Nat.le_of_ble_eq_true rfl | omega | (simp; done) | (simp; omega)⟩ (fun r3 Y1 hr => ?_)
    obtain ⟨rfl, rfl⟩ := hr
    refine hv_top (y := nI (A 2 b)) (by rw [cl_lenM]) ?_
    refine hv_icmpN_ge (tgt := 48) C dX4_queued_28 (by decide) (by omega) (by omega) (fun h4 => ?_) (fun h4 => ?_)
    · skip
      refine hv_iconst (v := nI 0 + (-1)) C dX4_queued_48 (by decide) ?_
      exact hv_iret C hret dX4_queued_49 (by first | exact Nat.le_refl _ | decide | omega | (simp; done) | (simp; omega)) (by first | exact Nat.le_refl _ | decide | omega | (simp; done) | (simp; omega)) ⟨by rw [if_neg (by omega)], rfl⟩
    · skip
      obtain ⟨z15, -⟩ := hI.2.1 b j hb (by omega)
      refine hv_aload_n C dX4_queued_31 rfl 3 rfl ?_
      refine hc_get (kd := 5) (i := b) (f := 1) (v := .ref (g.1 6 b)) C hg (Or.inr (Or.inl ⟨by decide, by decide, by omega⟩)) rfl rfl hinX1 (by decide) (by decide +kernel) rfl rfl dX4_queued_32 ?_
      refine hv_iload_n C dX4_queued_35 rfl 2 rfl ?_
      refine hv_callVr (As := [.int (nI j)]) (rest := []) (n := 1) C (c_Jx4a65c_get_915e3 l w (cl_Y w g A Z Y0) (g.1 6 b) ((List.range (A 2 b)).map (fun k => g.1 14 (A 3 (6 * b + k)))) (show cl_Y w g A Z Y0 (g.1 6 b) = some (.inr ((List.range (A 2 b)).map (fun k => g.1 14 (A 3 (6 * b + k))))) from cl_at hg (Or.inr (Or.inl ⟨by decide, by decide, by omega⟩))) (by rw [cl_lenM]; omega) j (g.1 14 (A 3 (6 * b + j))) (cl_getM (by omega))) gX4_queued_Jx4a65c_get_915e3 rfl (by decide +kernel) ⟨Nat.le_of_ble_eq_true rfl, Nat.le_of_ble_eq_true rfl⟩ (cl_rcL hg (Or.inr (Or.inl ⟨by decide, by decide, by omega⟩)) rfl) rfl rfl (Nat.le_of_ble_eq_true rfl) dX4_queued_36 ⟨by first | exact Nat.le_of_ble_eq_true rfl | omega | (simp; done) | (simp; omega), by first | exact Nat.le_of_ble_eq_true rfl | omega | (simp; done) | (simp; omega)⟩ (fun r5 Y1 hr => ?_)
      obtain ⟨rfl, rfl⟩ := hr
      refine hv_cast (ci := 1) C rfl ((cl_at hg (Or.inr (Or.inr (Or.inr ⟨Or.inl rfl, by omega⟩)))).trans rfl) (by decide +kernel) dX4_queued_39 ?_
      refine hc_get (kd := 14) (i := A 3 (6 * b + j)) (f := 0) (v := .int (nI (A 3 (6 * b + j)))) C hg (Or.inr (Or.inr (Or.inr ⟨Or.inl rfl, by omega⟩))) rfl rfl hinX0 (by decide) (by decide +kernel) rfl rfl dX4_queued_42 ?_
      refine hv_goto (tgt := 49) C dX4_queued_45 (by decide) ?_
      exact hv_iret C hret dX4_queued_49 (by first | exact Nat.le_refl _ | decide | omega | (simp; done) | (simp; omega)) (by first | exact Nat.le_refl _ | decide | omega | (simp; done) | (simp; omega)) ⟨by rw [if_pos (by omega)], rfl⟩
set_option maxRecDepth 100000 in
set_option maxHeartbeats 4000000 in
theorem k_cheapest (l : Launch) (w : hv_W) (o9 : Nat) (Y0 : hv_H) (A : ab_A) (Y : hv_H) (hY : cl_S w o9 Y0 A Y) (hI : ab_I A) (b : Nat) (hb : b < 8) (o : Nat) (ho : o < 8) : hv_Mr l yX4_cheapest wsX4_cheapest ({ frames := 7, cells := 0, slots := 0, locals := 151 }) w [.ref o9, .int (nI b), .int (nI o)] Y (fun r Y1 => r = .int (nI (s_ch A b o) + (-1)) ∧ cl_S w o9 Y0 A Y1) := by
  obtain ⟨g, Z, hg, hZ, hF, rfl, rfl⟩ := hY
  refine hv_ofV (cc := cX4_cheapest) (own := RX4) (by decide) rfl rfl (Nat.le_of_ble_eq_true rfl) rfl ?_
  intro p e s m below meth c C hret hex
  have hinX1 : ∀ x ∈ wsX10, x ∈ wsX4_cheapest := by decide +kernel
  have hinX4 : ∀ x ∈ wsX40, x ∈ wsX4_cheapest := by decide +kernel
  refine hv_aload_n C dX4_cheapest_0 rfl 0 rfl ?_
  refine hv_iload_n C dX4_cheapest_1 rfl 1 rfl ?_
  refine hv_callVr (As := [.int (nI b)]) (rest := []) (n := 1) C (k_basin l w g A Z Y0 hg b hb) gX4_cheapest_X4_basinNumbered rfl (by decide +kernel) ⟨Nat.le_of_ble_eq_true rfl, Nat.le_of_ble_eq_true rfl⟩ (cl_rc hg (Or.inl ⟨by decide, rfl⟩) rfl rfl) rfl rfl (Nat.le_of_ble_eq_true rfl) dX4_cheapest_2 ⟨by first | exact Nat.le_of_ble_eq_true rfl | omega | (simp; done) | (simp; omega), by first | exact Nat.le_of_ble_eq_true rfl | omega | (simp; done) | (simp; omega)⟩ (fun r1 Y1 hr => ?_)
  obtain ⟨rfl, rfl⟩ := hr
  refine hv_astore_n (lv1 := [(0, .ref (g.1 0 0)), (1, .int (nI b)), (2, .int (nI o)), (3, .ref (g.1 5 b))]) C dX4_cheapest_5 rfl (by decide) [1, 2, 3, 0] rfl ?_
  refine hv_aload_n C dX4_cheapest_6 rfl 0 rfl ?_
  refine hv_iload_n C dX4_cheapest_7 rfl 2 rfl ?_
  refine hv_callVr (As := [.int (nI o)]) (rest := []) (n := 1) C (k_basin l w g A Z Y0 hg o ho) gX4_cheapest_X4_basinNumbered rfl (by decide +kernel) ⟨Nat.le_of_ble_eq_true rfl, Nat.le_of_ble_eq_true rfl⟩ (cl_rc hg (Or.inl ⟨by decide, rfl⟩) rfl rfl) rfl rfl (Nat.le_of_ble_eq_true rfl) dX4_cheapest_8 ⟨by first | exact Nat.le_of_ble_eq_true rfl | omega | (simp; done) | (simp; omega), by first | exact Nat.le_of_ble_eq_true rfl | omega | (simp; done) | (simp; omega)⟩ (fun r2 Y1 hr => ?_)
  obtain ⟨rfl, rfl⟩ := hr
  refine hv_astore (lv1 := [(0, .ref (g.1 0 0)), (1, .int (nI b)), (2, .int (nI o)), (3, .ref (g.1 5 b)), (4, .ref (g.1 5 o))]) C dX4_cheapest_11 (by decide) [1, 2, 3, 4, 0] rfl ?_
  refine hv_aload_n C dX4_cheapest_13 rfl 0 rfl ?_
  refine hv_aload_n C dX4_cheapest_14 rfl 3 rfl ?_
  refine hv_callVv (As := [.ref (g.1 5 b)]) (rest := []) (n := 1) C (c_X4_findCheapestWays l w g A Z Y0 hg hI b hb) gX4_cheapest_X4_findCheapestWays rfl (by decide +kernel) ⟨Nat.le_of_ble_eq_true rfl, Nat.le_of_ble_eq_true rfl⟩ (cl_rc hg (Or.inl ⟨by decide, rfl⟩) rfl rfl) rfl rfl (Nat.le_of_ble_eq_true rfl) dX4_cheapest_15 ⟨by first | exact Nat.le_of_ble_eq_true rfl | omega | (simp; done) | (simp; omega), by first | exact Nat.le_of_ble_eq_true rfl | omega | (simp; done) | (simp; omega)⟩ (fun Y1 hr => ?_)
  subst hr
  refine hv_aload_n C dX4_cheapest_18 rfl 0 rfl ?_
  refine hc_get (kd := 0) (i := 0) (f := 3) (v := .ref (g.1 4 0)) C hg (Or.inl ⟨by decide, rfl⟩) rfl rfl hinX4 (by decide) (by decide +kernel) rfl rfl dX4_cheapest_19 ?_
  refine hv_aload C dX4_cheapest_22 4 rfl ?_
  refine hc_get (kd := 5) (i := o) (f := 0) (v := .int (nI o)) C hg (Or.inr (Or.inl ⟨by decide, by decide, by omega⟩)) rfl rfl hinX1 (by decide) (by decide +kernel) rfl rfl dX4_cheapest_24 ?_
  refine hc_iald (kd := 4) (i := 0) (j := o) (x := (nI (f_cr A b (7 * A 4 0) o) + (-1))) C hg (Or.inl ⟨by decide, rfl⟩) rfl (by decide) (by omega) (congrArg (fun q : Nat => (nI q + (-1) : Int32)) (w3_3 (by omega))) dX4_cheapest_27 ?_
  refine hv_istore (lv1 := [(0, .ref (g.1 0 0)), (1, .int (nI b)), (2, .int (nI o)), (3, .ref (g.1 5 b)), (4, .ref (g.1 5 o)), (5, .int (nI (f_cr A b (7 * A 4 0) o) + (-1)))]) C dX4_cheapest_28 (by decide) [1, 2, 3, 4, 5, 0] rfl ?_
  have hTle : f_cr A b (7 * A 4 0) o ≤ 5685 := by
    by_cases hn0 : A 4 0 = 0
    · rw [hn0]; show (if o = b then 1 else 0) ≤ 5685; split <;> omega
    · have h3 := f_cr_le hI hn0 b (7 * A 4 0) o; have h14 := hI.2.2.2.1; omega
  have hsame := f_cheap_same hI hb ho
  by_cases hz0 : f_cr A b (7 * A 4 0) o = 0
  · skip
    refine hv_iload C dX4_cheapest_30 5 rfl ?_
    refine hv_top (y := nI 0 + (-1)) (by rw [hz0]) ?_
    refine hv_bipush (v := nI 40) C dX4_cheapest_32 (by decide) ?_
    refine hv_icmp_le (tgt := 41) C dX4_cheapest_34 (by decide) (fun h4 => ?_) (fun h4 => ?_)
    · skip
      refine hv_iload C dX4_cheapest_41 5 rfl ?_
      refine hv_top (y := nI 0 + (-1)) (by rw [hz0]) ?_
      exact hv_iret C hret dX4_cheapest_43 (by first | exact Nat.le_refl _ | decide | omega | (simp; done) | (simp; omega)) (by first | exact Nat.le_refl _ | decide | omega | (simp; done) | (simp; omega)) ⟨congrArg Value.int (by unfold s_ch; rw [← hsame, hz0]; rfl), ⟨g, f_w3 Z (f_cr A b (7 * A 4 0)), hg, ⟨fun i hi => hZ.1 i hi, fun k hk => hZ.2 k hk⟩, hF, rfl, rfl⟩⟩
    · skip
      exact absurd (by decide) h4
  · skip
    refine hv_iload C dX4_cheapest_30 5 rfl ?_
    refine hv_top (nI_em (by omega)) ?_
    refine hv_bipush (v := nI 40) C dX4_cheapest_32 (by decide) ?_
    refine hv_icmpN_le (tgt := 41) C dX4_cheapest_34 (by decide) (by omega) (by omega) (fun h5 => ?_) (fun h5 => ?_)
    · skip
      refine hv_iload C dX4_cheapest_41 5 rfl ?_
      exact hv_iret C hret dX4_cheapest_43 (by first | exact Nat.le_refl _ | decide | omega | (simp; done) | (simp; omega)) (by first | exact Nat.le_refl _ | decide | omega | (simp; done) | (simp; omega)) ⟨congrArg Value.int (by unfold s_ch; rw [← hsame, if_pos (by omega)]), ⟨g, f_w3 Z (f_cr A b (7 * A 4 0)), hg, ⟨fun i hi => hZ.1 i hi, fun k hk => hZ.2 k hk⟩, hF, rfl, rfl⟩⟩
    · skip
      refine hv_iconst (v := nI 0 + (-1)) C dX4_cheapest_37 (by decide) ?_
      refine hv_goto (tgt := 43) C dX4_cheapest_38 (by decide) ?_
      exact hv_iret C hret dX4_cheapest_43 (by first | exact Nat.le_refl _ | decide | omega | (simp; done) | (simp; omega)) (by first | exact Nat.le_refl _ | decide | omega | (simp; done) | (simp; omega)) ⟨congrArg Value.int (by unfold s_ch; rw [← hsame, if_neg (by omega)]), ⟨g, f_w3 Z (f_cr A b (7 * A 4 0)), hg, ⟨fun i hi => hZ.1 i hi, fun k hk => hZ.2 k hk⟩, hF, rfl, rfl⟩⟩
set_option maxRecDepth 100000 in
set_option maxHeartbeats 4000000 in
theorem k_range (l : Launch) (w : hv_W) (Y : hv_H) (x lo hi : Nat) (hhi : hi < 2 ^ 31) (h1 : lo ≤ x) (h2 : x ≤ hi) : hv_Mv l yX4_requireRange wsX4_requireRange ({ frames := 6, cells := 0, slots := 0, locals := 130 }) w [.int (nI x), .int (nI lo), .int (nI hi)] Y (fun Y1 => Y1 = Y) := by
  refine hv_ofV (cc := cX4_requireRange) (own := RX4) (by decide) rfl rfl (Nat.le_of_ble_eq_true rfl) rfl ?_
  intro p e s m below meth c C hret hex
  refine hv_iload_n C dX4_requireRange_0 rfl 0 rfl ?_
  refine hv_iload_n C dX4_requireRange_1 rfl 1 rfl ?_
  refine hv_icmpN_lt (tgt := 10) C dX4_requireRange_2 (by decide) (by omega) (by omega) (fun h => absurd h (by omega)) (fun _ => ?_)
  refine hv_iload_n C dX4_requireRange_5 rfl 0 rfl ?_
  refine hv_iload_n C dX4_requireRange_6 rfl 2 rfl ?_
  refine hv_icmpN_le (tgt := 20) C dX4_requireRange_7 (by decide) (by omega) (by omega) (fun _ => ?_) (fun h => absurd h (by omega))
  exact hv_vret C hret dX4_requireRange_20 (by first | exact Nat.le_refl _ | decide) (by first | exact Nat.le_refl _ | decide) rfl
set_option maxRecDepth 100000 in
set_option maxHeartbeats 4000000 in
theorem k_settle (l : Launch) (w : hv_W) (o9 : Nat) (Y0 : hv_H) (A : ab_A) (Y : hv_H) (hY : cl_S w o9 Y0 A Y) (hI : ab_I A) (t : Nat) (ht : 1 ≤ t) (ht2 : t ≤ 50) : hv_Mr l yX4_settle wsX4_settle ({ frames := 7, cells := 0, slots := 0, locals := 152 }) w [.ref o9, .int (nI t)] Y (fun r Y1 => r = .int (nI (f_chg (f_ticks A (t - 1)) 64)) ∧ cl_S w o9 Y0 (f_ticks A t) Y1) := by
  obtain ⟨g, Z, hg, hZ, hF, rfl, rfl⟩ := hY
  refine hv_ofV (cc := cX4_settle) (own := RX4) (by decide) rfl rfl (Nat.le_of_ble_eq_true rfl) rfl ?_
  intro p e s m below meth c C hret hex
  have hinX4 : ∀ x ∈ wsX40, x ∈ wsX4_settle := by decide +kernel
  refine hv_iload_n C dX4_settle_0 rfl 1 rfl ?_
  refine hv_iconst (v := nI 1) C dX4_settle_1 (by decide) ?_
  refine hv_bipush (v := nI 50) C dX4_settle_2 (by decide) ?_
  refine hv_callSv (As := [.int (nI t), .int (nI 1), .int (nI 50)]) (rest := []) (n := 3) C (k_range l w (cl_Y w g A Z Y0) t 1 50 (by decide) ht ht2) gX4_settle_X4_requireRange rfl (by decide +kernel) ⟨Nat.le_of_ble_eq_true rfl, Nat.le_of_ble_eq_true rfl⟩ rfl rfl (Nat.le_of_ble_eq_true rfl) dX4_settle_4 ⟨by first | exact Nat.le_of_ble_eq_true rfl | omega | (simp; done) | (simp; omega), by first | exact Nat.le_of_ble_eq_true rfl | omega | (simp; done) | (simp; omega)⟩ (fun Y1 hr => ?_)
  subst hr
  refine hv_iconst (v := nI 0) C dX4_settle_7 (by decide) ?_
  refine hv_istore_n (lv1 := [(0, .ref (g.1 0 0)), (1, .int (nI t)), (2, .int (nI 0))]) C dX4_settle_8 rfl (by decide) [1, 2, 0] rfl ?_
  refine hv_iconst (v := nI 0) C dX4_settle_9 (by decide) ?_
  refine hv_istore_n (lv1 := [(0, .ref (g.1 0 0)), (1, .int (nI t)), (2, .int (nI 0)), (3, .int (nI 0))]) C dX4_settle_10 rfl (by decide) [1, 2, 3, 0] rfl ?_
  refine hv_loopP (σ := ab_A) t (fun i z => cl_Y w g (f_ticks A i) z Y0) (fun i z => [(0, .ref (g.1 0 0)), (1, .int (nI t)), (2, .int (nI (f_chd A i))), (3, .int (nI i))]) (fun i z => cl_Z (f_ticks A i) z) ?_ ?_ Z hZ
  · intro z hz
    have hgt : cl_ok g (f_ticks A t 4 0) (f_ticks A t 15 0) := by rw [f_ticks_k A t (k := 4) (by decide), f_ticks_k A t (k := 15) (by decide)]; exact hg
    refine hv_iload_n C dX4_settle_11 rfl 3 rfl ?_
    refine hv_iload_n C dX4_settle_12 rfl 1 rfl ?_
    refine hv_icmpN_ge (tgt := 57) C dX4_settle_13 (by decide) (by omega) (by omega) (fun h2 => ?_) (fun h2 => ?_)
    · skip
      refine hv_iload_n C dX4_settle_57 rfl 2 rfl ?_
      exact hv_iret C hret dX4_settle_58 (by first | exact Nat.le_refl _ | decide | omega | (simp; done) | (simp; omega)) (by first | exact Nat.le_refl _ | decide | omega | (simp; done) | (simp; omega)) ⟨by obtain ⟨t9, rfl⟩ : ∃ z, t = z + 1 := ⟨t - 1, by omega⟩; rfl, ⟨g, z, hgt, hz, hF, rfl, rfl⟩⟩
    · skip
      exact absurd h2 (by omega)
  · intro i z hi hz ih
    have hgi : cl_ok g ((f_ticks A i) 4 0) ((f_ticks A i) 15 0) := by rw [f_ticks_k A i (k := 4) (by decide), f_ticks_k A i (k := 15) (by decide)]; exact hg
    have hIi := I_ticks hI i
    refine hv_iload_n C dX4_settle_11 rfl 3 rfl ?_
    refine hv_iload_n C dX4_settle_12 rfl 1 rfl ?_
    refine hv_icmpN_ge (tgt := 57) C dX4_settle_13 (by decide) (by omega) (by omega) (fun h3 => ?_) (fun h3 => ?_)
    · skip
      exact absurd h3 (by omega)
    · skip
      refine hv_aload_n C dX4_settle_16 rfl 0 rfl ?_
      refine hv_callVv (As := []) (rest := []) (n := 0) C (c_X4_prepareNextTables l w g (f_ticks A i) z Y0 hgi hIi hz.1) gX4_settle_X4_prepareNextTables rfl (by decide +kernel) ⟨Nat.le_of_ble_eq_true rfl, Nat.le_of_ble_eq_true rfl⟩ (cl_rc hgi (Or.inl ⟨by decide, rfl⟩) rfl rfl) rfl rfl (Nat.le_of_ble_eq_true rfl) dX4_settle_17 ⟨by first | exact Nat.le_of_ble_eq_true rfl | omega | (simp; done) | (simp; omega), by first | exact Nat.le_of_ble_eq_true rfl | omega | (simp; done) | (simp; omega)⟩ (fun Y1 hr => ?_)
      subst hr
      refine hv_aload_n C dX4_settle_20 rfl 0 rfl ?_
      refine hv_callVr (As := []) (rest := []) (n := 0) C (c_X4_countNextChanges l w g (f_ticks A i) (f_zn (f_ticks A i) z ((f_ticks A i) 4 0)) Y0 hgi hIi (fun i hi => hz.1 i hi) (zn_le _ _ _).1 (zn_le _ _ _).2) gX4_settle_X4_countNextChanges rfl (by decide +kernel) ⟨Nat.le_of_ble_eq_true rfl, Nat.le_of_ble_eq_true rfl⟩ (cl_rc hgi (Or.inl ⟨by decide, rfl⟩) rfl rfl) rfl rfl (Nat.le_of_ble_eq_true rfl) dX4_settle_21 ⟨by first | exact Nat.le_of_ble_eq_true rfl | omega | (simp; done) | (simp; omega), by first | exact Nat.le_of_ble_eq_true rfl | omega | (simp; done) | (simp; omega)⟩ (fun r5 Y1 hr => ?_)
      obtain ⟨rfl, rfl⟩ := hr
      refine hv_top (y := nI (f_chg (f_ticks A i) 64)) (by rw [dfs_64]) ?_
      have hcl := f_chg_le (f_ticks A i) 64
      refine hv_istore_n (lv1 := [(0, .ref (g.1 0 0)), (1, .int (nI t)), (2, .int (nI (f_chg (f_ticks A i) 64))), (3, .int (nI i))]) C dX4_settle_24 rfl (by decide) [1, 2, 0, 3] rfl ?_
      refine hv_iconst (v := nI 0) C dX4_settle_25 (by decide) ?_
      refine hv_istore (lv1 := [(0, .ref (g.1 0 0)), (1, .int (nI t)), (2, .int (nI (f_chg (f_ticks A i) 64))), (3, .int (nI i)), (4, .int (nI 0))]) C dX4_settle_26 (by decide) [1, 2, 3, 4, 0] rfl ?_
      refine hv_fin ?_ (show _ = cl_Y w g (f_tA (f_ticks A i) (f_zn (f_ticks A i) z ((f_ticks A i) 4 0)) 0) (f_tZ (f_ticks A i) (f_zn (f_ticks A i) z ((f_ticks A i) 4 0)) 0) Y0 from by rw [← tA_0, ← tZ_0]) rfl
      refine hv_loop 8 (fun k => cl_Y w g (f_tA (f_ticks A i) (f_zn (f_ticks A i) z ((f_ticks A i) 4 0)) k) (f_tZ (f_ticks A i) (f_zn (f_ticks A i) z ((f_ticks A i) 4 0)) k) Y0) (fun k => [(0, .ref (g.1 0 0)), (1, .int (nI t)), (2, .int (nI (f_chg (f_ticks A i) 64))), (3, .int (nI i)), (4, .int (nI k))]) ?_ ?_
      · skip
        refine hv_iload C dX4_settle_28 4 rfl ?_
        refine hv_bipush (v := nI 8) C dX4_settle_30 (by decide) ?_
        refine hv_icmpN_ge (tgt := 51) C dX4_settle_32 (by decide) (by omega) (by omega) (fun _ => ?_) (fun h => absurd h (by decide))
        refine hv_iinc (v := nI (i + 1)) (lv1 := [(0, .ref (g.1 0 0)), (1, .int (nI t)), (2, .int (nI (f_chg (f_ticks A i) 64))), (3, .int (nI (i + 1))), (4, .int (nI 8))]) C dX4_settle_51 (k := 3) rfl (nI_1 _) (by decide) [1, 2, 3, 0, 4] rfl ?_
        refine hv_goto (tgt := 11) C dX4_settle_54 (by decide) ?_
        refine hv_fin (Y1 := cl_Y w g (f_tick (f_ticks A i)) (f_tZ (f_ticks A i) (f_zn (f_ticks A i) z ((f_ticks A i) 4 0)) 8) Y0) ?_ (cl_13 hgi (tA_8 (f_ticks A i) z)).symm rfl
        exact hv_sub (lv1 := [(0, .ref (g.1 0 0)), (1, .int (nI t)), (2, .int (nI (f_chg (f_ticks A i) 64))), (3, .int (nI (i + 1)))]) [0, 1, 2, 3] rfl (ih _ (tZ_ok hIi (fun i hi => hz.1 i hi)))
      · intro k hk ihk
        refine hv_iload C dX4_settle_28 4 rfl ?_
        refine hv_bipush (v := nI 8) C dX4_settle_30 (by decide) ?_
        refine hv_icmpN_ge (tgt := 51) C dX4_settle_32 (by decide) (by omega) (by omega) (fun h7 => ?_) (fun h7 => ?_)
        · skip
          exact absurd h7 (by omega)
        · skip
          refine hv_aload_n C dX4_settle_35 rfl 0 rfl ?_
          refine hc_get (kd := 0) (i := 0) (f := 0) (v := .ref (g.1 1 0)) C hgi (Or.inl ⟨by decide, rfl⟩) rfl rfl hinX4 (by decide) (by decide +kernel) rfl rfl dX4_settle_36 ?_
          refine hv_iload C dX4_settle_39 4 rfl ?_
          refine hc_bas (j := k) C hgi (by omega) dX4_settle_41 ?_
          refine hv_callVv (As := []) (rest := []) (n := 0) C (c_X1_turnTable l w g (f_tA (f_ticks A i) (f_zn (f_ticks A i) z ((f_ticks A i) 4 0)) k) (f_tZ (f_ticks A i) (f_zn (f_ticks A i) z ((f_ticks A i) 4 0)) k) Y0 hgi k hk (by show (if k < k then 1 - z 0 k else z 0 k) ≤ 1; rw [if_neg (Nat.lt_irrefl k)]; exact hz.1 k hk)) gX4_settle_X1_turnTable rfl (by decide +kernel) ⟨Nat.le_of_ble_eq_true rfl, Nat.le_of_ble_eq_true rfl⟩ (cl_rc hgi (Or.inr (Or.inl ⟨by decide, by decide, by omega⟩)) rfl rfl) rfl rfl (Nat.le_of_ble_eq_true rfl) dX4_settle_42 ⟨by first | exact Nat.le_of_ble_eq_true rfl | omega | (simp; done) | (simp; omega), by first | exact Nat.le_of_ble_eq_true rfl | omega | (simp; done) | (simp; omega)⟩ (fun Y1 hr => ?_)
          subst hr
          refine hv_fin ?_ (show _ = cl_Y w g (f_tA (f_ticks A i) (f_zn (f_ticks A i) z ((f_ticks A i) 4 0)) (k + 1)) (f_tZ (f_ticks A i) (f_zn (f_ticks A i) z ((f_ticks A i) 4 0)) (k + 1)) Y0 from by rw [← tA_s, ← tZ_s]) rfl
          refine hv_iinc (v := nI (k + 1)) (lv1 := [(0, .ref (g.1 0 0)), (1, .int (nI t)), (2, .int (nI (f_chg (f_ticks A i) 64))), (3, .int (nI i)), (4, .int (nI (k + 1)))]) C dX4_settle_45 (k := 4) rfl (nI_1 _) (by decide) [1, 2, 3, 4, 0] rfl ?_
          refine hv_goto (tgt := 28) C dX4_settle_48 (by decide) ?_
          exact ihk
set_option maxRecDepth 100000 in
set_option maxHeartbeats 4000000 in
theorem k_setMark (l : Launch) (w : hv_W) (o9 : Nat) (Y0 : hv_H) (A : ab_A) (Y : hv_H) (hY : cl_S w o9 Y0 A Y) (hI : ab_I A) (b k : Nat) (hb : b < 8) (hk : 1 ≤ k) (hk2 : k ≤ 6) : hv_Mr l yX4_setMark wsX4_setMark ({ frames := 7, cells := 0, slots := 0, locals := 152 }) w [.ref o9, .int (nI b), .int (nI k)] Y (fun r Y1 => r = .int (nI (A 1 b)) ∧ cl_S w o9 Y0 (au A 1 b k) Y1) := by
  obtain ⟨g, Z, hg, hZ, hF, rfl, rfl⟩ := hY
  refine hv_ofV (cc := cX4_setMark) (own := RX4) (by decide) rfl rfl (Nat.le_of_ble_eq_true rfl) rfl ?_
  intro p e s m below meth c C hret hex
  have hinX1 : ∀ x ∈ wsX10, x ∈ wsX4_setMark := by decide +kernel
  refine hv_aload_n C dX4_setMark_0 rfl 0 rfl ?_
  refine hv_iload_n C dX4_setMark_1 rfl 1 rfl ?_
  refine hv_callVr (As := [.int (nI b)]) (rest := []) (n := 1) C (k_basin l w g A Z Y0 hg b hb) gX4_setMark_X4_basinNumbered rfl (by decide +kernel) ⟨Nat.le_of_ble_eq_true rfl, Nat.le_of_ble_eq_true rfl⟩ (cl_rc hg (Or.inl ⟨by decide, rfl⟩) rfl rfl) rfl rfl (Nat.le_of_ble_eq_true rfl) dX4_setMark_2 ⟨by first | exact Nat.le_of_ble_eq_true rfl | omega | (simp; done) | (simp; omega), by first | exact Nat.le_of_ble_eq_true rfl | omega | (simp; done) | (simp; omega)⟩ (fun r1 Y1 hr => ?_)
  obtain ⟨rfl, rfl⟩ := hr
  refine hv_astore_n (lv1 := [(0, .ref (g.1 0 0)), (1, .int (nI b)), (2, .int (nI k)), (3, .ref (g.1 5 b))]) C dX4_setMark_5 rfl (by decide) [1, 2, 3, 0] rfl ?_
  refine hv_iload_n C dX4_setMark_6 rfl 2 rfl ?_
  refine hv_iconst (v := nI 1) C dX4_setMark_7 (by decide) ?_
  refine hv_bipush (v := nI 6) C dX4_setMark_8 (by decide) ?_
  refine hv_callSv (As := [.int (nI k), .int (nI 1), .int (nI 6)]) (rest := []) (n := 3) C (k_range l w (cl_Y w g A Z Y0) k 1 6 (by decide) hk hk2) gX4_setMark_X4_requireRange rfl (by decide +kernel) ⟨Nat.le_of_ble_eq_true rfl, Nat.le_of_ble_eq_true rfl⟩ rfl rfl (Nat.le_of_ble_eq_true rfl) dX4_setMark_10 ⟨by first | exact Nat.le_of_ble_eq_true rfl | omega | (simp; done) | (simp; omega), by first | exact Nat.le_of_ble_eq_true rfl | omega | (simp; done) | (simp; omega)⟩ (fun Y1 hr => ?_)
  subst hr
  refine hv_aload_n C dX4_setMark_13 rfl 3 rfl ?_
  refine hc_get (kd := 5) (i := b) (f := 3) (v := .int (nI (A 1 b))) C hg (Or.inr (Or.inl ⟨by decide, by decide, by omega⟩)) rfl rfl hinX1 (by decide) (by decide +kernel) rfl rfl dX4_setMark_14 ?_
  refine hv_istore (lv1 := [(0, .ref (g.1 0 0)), (1, .int (nI b)), (2, .int (nI k)), (3, .ref (g.1 5 b)), (4, .int (nI (A 1 b)))]) C dX4_setMark_17 (by decide) [1, 2, 3, 4, 0] rfl ?_
  refine hv_aload_n C dX4_setMark_19 rfl 3 rfl ?_
  refine hv_iload_n C dX4_setMark_20 rfl 2 rfl ?_
  refine hc_put (kd := 5) (i := b) (f := 3) (A' := (au A 1 b k)) (Z' := Z) (ty := .int) C hg (Or.inr (Or.inl ⟨by decide, by decide, by omega⟩)) rfl rfl hinX1 tyX1 tyX1_ok nmX1 (by decide) (by decide +kernel) rfl rfl (by decide +kernel) rfl (by rfl) (by show 3 < 6; decide) (by simp [cl_cell, au]) cu_1 dX4_setMark_21 ?_
  refine hv_iload C dX4_setMark_24 4 rfl ?_
  exact hv_iret C hret dX4_setMark_26 (by first | exact Nat.le_refl _ | decide | omega | (simp; done) | (simp; omega)) (by first | exact Nat.le_refl _ | decide | omega | (simp; done) | (simp; omega)) ⟨rfl, ⟨g, Z, hg, hZ, hF, rfl, rfl⟩⟩
set_option maxRecDepth 100000 in
set_option maxHeartbeats 4000000 in
theorem k_setGate (l : Launch) (w : hv_W) (o9 : Nat) (Y0 : hv_H) (A : ab_A) (Y : hv_H) (hY : cl_S w o9 Y0 A Y) (hI : ab_I A) (j o : Nat) (hj : j < A 4 0) (ho : o ≤ 1) : hv_Mr l yX4_setGate wsX4_setGate ({ frames := 7, cells := 0, slots := 0, locals := 152 }) w [.ref o9, .int (nI j), .int (nI o)] Y (fun r Y1 => r = .int (nI (A 9 j)) ∧ cl_S w o9 Y0 (au A 9 j o) Y1) := by
  obtain ⟨g, Z, hg, hZ, hF, rfl, rfl⟩ := hY
  refine hv_ofV (cc := cX4_setGate) (own := RX4) (by decide) rfl rfl (Nat.le_of_ble_eq_true rfl) rfl ?_
  intro p e s m below meth c C hret hex
  have hinX2 : ∀ x ∈ wsX20, x ∈ wsX4_setGate := by decide +kernel
  refine hv_aload_n C dX4_setGate_0 rfl 0 rfl ?_
  refine hv_iload_n C dX4_setGate_1 rfl 1 rfl ?_
  refine hv_callVr (As := [.int (nI j)]) (rest := []) (n := 1) C (k_canal l w g A Z Y0 hg hI.2.2.2.1 j hj) gX4_setGate_X4_canalNumbered rfl (by decide +kernel) ⟨Nat.le_of_ble_eq_true rfl, Nat.le_of_ble_eq_true rfl⟩ (cl_rc hg (Or.inl ⟨by decide, rfl⟩) rfl rfl) rfl rfl (Nat.le_of_ble_eq_true rfl) dX4_setGate_2 ⟨by first | exact Nat.le_of_ble_eq_true rfl | omega | (simp; done) | (simp; omega), by first | exact Nat.le_of_ble_eq_true rfl | omega | (simp; done) | (simp; omega)⟩ (fun r1 Y1 hr => ?_)
  obtain ⟨rfl, rfl⟩ := hr
  refine hv_astore_n (lv1 := [(0, .ref (g.1 0 0)), (1, .int (nI j)), (2, .int (nI o)), (3, .ref (g.1 13 j))]) C dX4_setGate_5 rfl (by decide) [1, 2, 3, 0] rfl ?_
  refine hv_aload_n C dX4_setGate_6 rfl 3 rfl ?_
  refine hc_get (kd := 13) (i := j) (f := 5) (v := .int (nI (A 9 j))) C hg (Or.inr (Or.inr (Or.inl ⟨rfl, by omega⟩))) rfl rfl hinX2 (by decide) (by decide +kernel) rfl rfl dX4_setGate_7 ?_
  refine hv_istore (lv1 := [(0, .ref (g.1 0 0)), (1, .int (nI j)), (2, .int (nI o)), (3, .ref (g.1 13 j)), (4, .int (nI (A 9 j)))]) C dX4_setGate_10 (by decide) [1, 2, 3, 4, 0] rfl ?_
  refine hv_aload_n C dX4_setGate_12 rfl 3 rfl ?_
  refine hv_iload_n C dX4_setGate_13 rfl 2 rfl ?_
  refine hc_put (kd := 13) (i := j) (f := 5) (A' := (au A 9 j o)) (Z' := Z) (ty := .boolean) C hg (Or.inr (Or.inr (Or.inl ⟨rfl, by omega⟩))) rfl rfl hinX2 tyX2 tyX2_ok nmX2 (by decide) (by decide +kernel) rfl rfl (by decide +kernel) (by rcases (show o = 0 ∨ o = 1 by omega) with rfl | rfl <;> rfl) (by rcases (show o = 0 ∨ o = 1 by omega) with rfl | rfl <;> rfl) (by show 5 < 6; decide) (by simp [cl_cell, au]) cu_9 dX4_setGate_14 ?_
  refine hv_iload C dX4_setGate_17 4 rfl ?_
  exact hv_zret C hret (by rcases (show A 9 j = 0 ∨ A 9 j = 1 by have := (hI.2.2.2.2.1 j hj).2.2.2.2.2.2; omega) with q | q <;> rw [q] <;> decide) dX4_setGate_19 (by first | exact Nat.le_refl _ | decide | omega | (simp; done) | (simp; omega)) (by first | exact Nat.le_refl _ | decide | omega | (simp; done) | (simp; omega)) ⟨rfl, ⟨g, Z, hg, hZ, hF, rfl, rfl⟩⟩
set_option maxRecDepth 100000 in
set_option maxHeartbeats 4000000 in
theorem k_rain (l : Launch) (w : hv_W) (o9 : Nat) (Y0 : hv_H) (A : ab_A) (Y : hv_H) (hY : cl_S w o9 Y0 A Y) (hI : ab_I A) (b n : Nat) (hb : b < 8) (hn : 1 ≤ n) (hn2 : n ≤ 200) : hv_Mr l yX4_rain wsX4_rain ({ frames := 7, cells := 0, slots := 0, locals := 152 }) w [.ref o9, .int (nI b), .int (nI n)] Y (fun r Y1 => r = .int (nI (f_pour A b n 0 b)) ∧ cl_S w o9 Y0 (f_pour A b n) Y1) := by
  obtain ⟨g, Z, hg, hZ, hF, rfl, rfl⟩ := hY
  refine hv_ofV (cc := cX4_rain) (own := RX4) (by decide) rfl rfl (Nat.le_of_ble_eq_true rfl) rfl ?_
  intro p e s m below meth c C hret hex
  have hinX1 : ∀ x ∈ wsX10, x ∈ wsX4_rain := by decide +kernel
  have hinX4 : ∀ x ∈ wsX40, x ∈ wsX4_rain := by decide +kernel
  refine hv_aload_n C dX4_rain_0 rfl 0 rfl ?_
  refine hv_iload_n C dX4_rain_1 rfl 1 rfl ?_
  refine hv_callVr (As := [.int (nI b)]) (rest := []) (n := 1) C (k_basin l w g A Z Y0 hg b hb) gX4_rain_X4_basinNumbered rfl (by decide +kernel) ⟨Nat.le_of_ble_eq_true rfl, Nat.le_of_ble_eq_true rfl⟩ (cl_rc hg (Or.inl ⟨by decide, rfl⟩) rfl rfl) rfl rfl (Nat.le_of_ble_eq_true rfl) dX4_rain_2 ⟨by first | exact Nat.le_of_ble_eq_true rfl | omega | (simp; done) | (simp; omega), by first | exact Nat.le_of_ble_eq_true rfl | omega | (simp; done) | (simp; omega)⟩ (fun r1 Y1 hr => ?_)
  obtain ⟨rfl, rfl⟩ := hr
  refine hv_astore_n (lv1 := [(0, .ref (g.1 0 0)), (1, .int (nI b)), (2, .int (nI n)), (3, .ref (g.1 5 b))]) C dX4_rain_5 rfl (by decide) [1, 2, 3, 0] rfl ?_
  refine hv_iload_n C dX4_rain_6 rfl 2 rfl ?_
  refine hv_iconst (v := nI 1) C dX4_rain_7 (by decide) ?_
  refine hv_sipush (v := nI 200) C dX4_rain_8 (by decide) ?_
  refine hv_callSv (As := [.int (nI n), .int (nI 1), .int (nI 200)]) (rest := []) (n := 3) C (k_range l w (cl_Y w g A Z Y0) n 1 200 (by decide) hn hn2) gX4_rain_X4_requireRange rfl (by decide +kernel) ⟨Nat.le_of_ble_eq_true rfl, Nat.le_of_ble_eq_true rfl⟩ rfl rfl (Nat.le_of_ble_eq_true rfl) dX4_rain_11 ⟨by first | exact Nat.le_of_ble_eq_true rfl | omega | (simp; done) | (simp; omega), by first | exact Nat.le_of_ble_eq_true rfl | omega | (simp; done) | (simp; omega)⟩ (fun Y1 hr => ?_)
  subst hr
  refine hv_aload_n C dX4_rain_14 rfl 0 rfl ?_
  refine hv_dup C dX4_rain_15 rfl ?_
  refine hc_get (kd := 0) (i := 0) (f := 4) (v := .int (nI (A 10 0))) C hg (Or.inl ⟨by decide, rfl⟩) rfl rfl hinX4 (by decide) (by decide +kernel) rfl rfl dX4_rain_16 ?_
  refine hv_aload_n C dX4_rain_19 rfl 3 rfl ?_
  refine hv_iload_n C dX4_rain_20 rfl 2 rfl ?_
  refine hv_callVr (As := [.int (nI n)]) (rest := [.int (nI (A 10 0)), .ref (g.1 0 0)]) (n := 1) C (c_X1_fill l w g A Z Y0 hg b n (by omega) (hI.1 b hb).2.1 (by omega)) gX4_rain_X1_fill rfl (by decide +kernel) ⟨Nat.le_of_ble_eq_true rfl, Nat.le_of_ble_eq_true rfl⟩ (cl_rc hg (Or.inr (Or.inl ⟨by decide, by decide, by omega⟩)) rfl rfl) rfl rfl (Nat.le_of_ble_eq_true rfl) dX4_rain_21 ⟨by first | exact Nat.le_of_ble_eq_true rfl | omega | (simp; done) | (simp; omega), by first | exact Nat.le_of_ble_eq_true rfl | omega | (simp; done) | (simp; omega)⟩ (fun r3 Y1 hr => ?_)
  obtain ⟨rfl, rfl⟩ := hr
  refine hv_iaddN C dX4_rain_24 ?_
  refine hc_put (kd := 0) (i := 0) (f := 4) (A' := (au (au A 0 b (if 200 < A 0 b + n then 200 else A 0 b + n)) 10 0 ((A 10 0) + (A 0 b + n - 200)))) (Z' := Z) (ty := .int) C hg (Or.inl ⟨by decide, rfl⟩) rfl rfl hinX4 tyX4 tyX4_ok nmX4 (by decide) (by decide +kernel) rfl rfl (by decide +kernel) rfl (by rfl) (by show 4 < 6; decide) (by simp [cl_cell, au]) cu_10 dX4_rain_25 ?_
  refine hv_aload_n C dX4_rain_28 rfl 3 rfl ?_
  refine hc_get (kd := 5) (i := b) (f := 2) (v := .int (nI (if 200 < A 0 b + n then 200 else A 0 b + n))) C hg (Or.inr (Or.inl ⟨by decide, by decide, by omega⟩)) rfl rfl hinX1 (by decide) (by decide +kernel) rfl (by simp [au]) dX4_rain_29 ?_
  exact hv_iret C hret dX4_rain_32 (by first | exact Nat.le_refl _ | decide | omega | (simp; done) | (simp; omega)) (by first | exact Nat.le_refl _ | decide | omega | (simp; done) | (simp; omega)) ⟨congrArg (fun q : Nat => Value.int (nI q)) (show _ = f_pour A b n 0 b from by rw [f_pour_0, if_pos rfl]), ⟨g, Z, hg, hZ, hF, rfl, cl_Aeq (pour_c A b n)⟩⟩
set_option maxRecDepth 100000 in
set_option maxHeartbeats 4000000 in
theorem k_dry (l : Launch) (w : hv_W) (o9 : Nat) (Y0 : hv_H) (A : ab_A) (Y : hv_H) (hY : cl_S w o9 Y0 A Y) (hI : ab_I A) (d : Nat) (hd : 1 ≤ d) (hd2 : d ≤ 50) : hv_Mr l yX4_dry wsX4_dry ({ frames := 7, cells := 0, slots := 0, locals := 152 }) w [.ref o9, .int (nI d)] Y (fun r Y1 => r = .int (nI (f_low (f_dry A d 8) 8)) ∧ cl_S w o9 Y0 (f_dry A d 8) Y1) := by
  obtain ⟨g, Z, hg, hZ, hF, rfl, rfl⟩ := hY
  refine hv_ofV (cc := cX4_dry) (own := RX4) (by decide) rfl rfl (Nat.le_of_ble_eq_true rfl) rfl ?_
  intro p e s m below meth c C hret hex
  have hinX4 : ∀ x ∈ wsX40, x ∈ wsX4_dry := by decide +kernel
  refine hv_iload_n C dX4_dry_0 rfl 1 rfl ?_
  refine hv_iconst (v := nI 1) C dX4_dry_1 (by decide) ?_
  refine hv_bipush (v := nI 50) C dX4_dry_2 (by decide) ?_
  refine hv_callSv (As := [.int (nI d), .int (nI 1), .int (nI 50)]) (rest := []) (n := 3) C (k_range l w (cl_Y w g A Z Y0) d 1 50 (by decide) hd hd2) gX4_dry_X4_requireRange rfl (by decide +kernel) ⟨Nat.le_of_ble_eq_true rfl, Nat.le_of_ble_eq_true rfl⟩ rfl rfl (Nat.le_of_ble_eq_true rfl) dX4_dry_4 ⟨by first | exact Nat.le_of_ble_eq_true rfl | omega | (simp; done) | (simp; omega), by first | exact Nat.le_of_ble_eq_true rfl | omega | (simp; done) | (simp; omega)⟩ (fun Y1 hr => ?_)
  subst hr
  refine hv_iconst (v := nI 0) C dX4_dry_7 (by decide) ?_
  refine hv_istore_n (lv1 := [(0, .ref (g.1 0 0)), (1, .int (nI d)), (2, .int (nI 0))]) C dX4_dry_8 rfl (by decide) [1, 2, 0] rfl ?_
  refine hv_fin ?_ (cl_Aeq (dd_0 (fun b hb => (hI.1 b hb).1))) rfl
  refine hv_loop d (fun t => cl_Y w g (f_dd A t 0) Z Y0) (fun t => [(0, .ref (g.1 0 0)), (1, .int (nI d)), (2, .int (nI t))]) ?_ ?_
  · skip
    refine hv_iload_n C dX4_dry_9 rfl 2 rfl ?_
    refine hv_iload_n C dX4_dry_10 rfl 1 rfl ?_
    refine hv_icmpN_ge (tgt := 43) C dX4_dry_11 (by decide) (by omega) (by omega) (fun h2 => ?_) (fun h2 => ?_)
    · skip
      refine hv_aload_n C dX4_dry_43 rfl 0 rfl ?_
      refine hv_callVr (As := []) (rest := []) (n := 0) C (c_X4_countLowBasins l w g (f_dd A d 0) Z Y0 hg (fun b hb => dd_le (fun b hb => (hI.1 b hb).2.1) d hb)) gX4_dry_X4_countLowBasins rfl (by decide +kernel) ⟨Nat.le_of_ble_eq_true rfl, Nat.le_of_ble_eq_true rfl⟩ (cl_rc hg (Or.inl ⟨by decide, rfl⟩) rfl rfl) rfl rfl (Nat.le_of_ble_eq_true rfl) dX4_dry_44 ⟨by first | exact Nat.le_of_ble_eq_true rfl | omega | (simp; done) | (simp; omega), by first | exact Nat.le_of_ble_eq_true rfl | omega | (simp; done) | (simp; omega)⟩ (fun r3 Y1 hr => ?_)
      obtain ⟨rfl, rfl⟩ := hr
      exact hv_iret C hret dX4_dry_47 (by first | exact Nat.le_refl _ | decide | omega | (simp; done) | (simp; omega)) (by first | exact Nat.le_refl _ | decide | omega | (simp; done) | (simp; omega)) (by rw [← dd_dry]; exact ⟨rfl, ⟨g, Z, hg, hZ, hF, rfl, rfl⟩⟩)
    · skip
      exact absurd h2 (by omega)
  · intro t ht ih
    refine hv_iload_n C dX4_dry_9 rfl 2 rfl ?_
    refine hv_iload_n C dX4_dry_10 rfl 1 rfl ?_
    refine hv_icmpN_ge (tgt := 43) C dX4_dry_11 (by decide) (by omega) (by omega) (fun h4 => ?_) (fun h4 => ?_)
    · skip
      exact absurd h4 (by omega)
    · skip
      refine hv_iconst (v := nI 0) C dX4_dry_14 (by decide) ?_
      refine hv_istore_n (lv1 := [(0, .ref (g.1 0 0)), (1, .int (nI d)), (2, .int (nI t)), (3, .int (nI 0))]) C dX4_dry_15 rfl (by decide) [1, 2, 3, 0] rfl ?_
      refine hv_loop 8 (fun k => cl_Y w g (f_dd A t k) Z Y0) (fun k => [(0, .ref (g.1 0 0)), (1, .int (nI d)), (2, .int (nI t)), (3, .int (nI k))]) ?_ ?_
      · skip
        refine hv_iload_n C dX4_dry_16 rfl 3 rfl ?_
        refine hv_bipush (v := nI 8) C dX4_dry_17 (by decide) ?_
        refine hv_icmpN_ge (tgt := 37) C dX4_dry_19 (by decide) (by omega) (by omega) (fun _ => ?_) (fun h => absurd h (by decide))
        refine hv_iinc (v := nI (t + 1)) (lv1 := [(0, .ref (g.1 0 0)), (1, .int (nI d)), (2, .int (nI (t + 1))), (3, .int (nI 8))]) C dX4_dry_37 (k := 2) rfl (nI_1 _) (by decide) [1, 2, 0, 3] rfl ?_
        refine hv_goto (tgt := 9) C dX4_dry_40 (by decide) ?_
        exact hv_sub (lv1 := [(0, .ref (g.1 0 0)), (1, .int (nI d)), (2, .int (nI (t + 1)))]) [0, 1, 2] rfl (hv_fin ih (cl_Aeq (dd_8 A t)) rfl)
      · intro k hk ihk
        have h5k := (hI.1 k hk).1
        refine hv_iload_n C dX4_dry_16 rfl 3 rfl ?_
        refine hv_bipush (v := nI 8) C dX4_dry_17 (by decide) ?_
        refine hv_icmpN_ge (tgt := 37) C dX4_dry_19 (by decide) (by omega) (by omega) (fun h6 => ?_) (fun h6 => ?_)
        · skip
          exact absurd h6 (by omega)
        · skip
          refine hv_aload_n C dX4_dry_22 rfl 0 rfl ?_
          refine hc_get (kd := 0) (i := 0) (f := 0) (v := .ref (g.1 1 0)) C hg (Or.inl ⟨by decide, rfl⟩) rfl rfl hinX4 (by decide) (by decide +kernel) rfl rfl dX4_dry_23 ?_
          refine hv_iload_n C dX4_dry_26 rfl 3 rfl ?_
          refine hc_bas (j := k) C hg (by omega) dX4_dry_27 ?_
          refine hv_callVv (As := []) (rest := []) (n := 0) C (c_X1_loseDryDayWater l w g (f_dd A t k) Z Y0 hg k hk (by rw [dd_at A t hk]; exact f_left_ge _ _) (dd_le (fun b hb => (hI.1 b hb).2.1) t hk)) gX4_dry_X1_loseDryDayWater rfl (by decide +kernel) ⟨Nat.le_of_ble_eq_true rfl, Nat.le_of_ble_eq_true rfl⟩ (cl_rc hg (Or.inr (Or.inl ⟨by decide, by decide, by omega⟩)) rfl rfl) rfl rfl (Nat.le_of_ble_eq_true rfl) dX4_dry_28 ⟨by first | exact Nat.le_of_ble_eq_true rfl | omega | (simp; done) | (simp; omega), by first | exact Nat.le_of_ble_eq_true rfl | omega | (simp; done) | (simp; omega)⟩ (fun Y1 hr => ?_)
          subst hr
          refine hv_fin ?_ (cl_Aeq (dd_s hk h5k)) rfl
          refine hv_iinc (v := nI (k + 1)) (lv1 := [(0, .ref (g.1 0 0)), (1, .int (nI d)), (2, .int (nI t)), (3, .int (nI (k + 1)))]) C dX4_dry_31 (k := 3) rfl (nI_1 _) (by decide) [1, 2, 3, 0] rfl ?_
          refine hv_goto (tgt := 16) C dX4_dry_34 (by decide) ?_
          exact ihk
theorem k_canals (l : Launch) (w : hv_W) (o9 : Nat) (Y0 : hv_H) (A : ab_A) (Y : hv_H) (hY : cl_S w o9 Y0 A Y) (hI : ab_I A) : hv_Mr l yX4_canals wsX4_canals ({ frames := 1, cells := 0, slots := 0, locals := 20 }) w [.ref o9] Y (fun r Y1 => r = .int (nI (A 4 0)) ∧ Y1 = Y) := by
  obtain ⟨g, Z, hg, hZ, hF, rfl, rfl⟩ := hY
  exact c_X4_canals l w g A Z Y0 hg
theorem k_barges (l : Launch) (w : hv_W) (o9 : Nat) (Y0 : hv_H) (A : ab_A) (Y : hv_H) (hY : cl_S w o9 Y0 A Y) (hI : ab_I A) : hv_Mr l yX4_barges wsX4_barges ({ frames := 1, cells := 0, slots := 0, locals := 20 }) w [.ref o9] Y (fun r Y1 => r = .int (nI (A 15 0)) ∧ Y1 = Y) := by
  obtain ⟨g, Z, hg, hZ, hF, rfl, rfl⟩ := hY
  exact c_X4_barges l w g A Z Y0 hg
theorem k_spilt (l : Launch) (w : hv_W) (o9 : Nat) (Y0 : hv_H) (A : ab_A) (Y : hv_H) (hY : cl_S w o9 Y0 A Y) (hI : ab_I A) : hv_Mr l yX4_spilt wsX4_spilt ({ frames := 0, cells := 0, slots := 0, locals := 0 }) w [.ref o9] Y (fun r Y1 => r = .int (nI (A 10 0)) ∧ Y1 = Y) := by
  obtain ⟨g, Z, hg, hZ, hF, rfl, rfl⟩ := hY
  exact c_X4_spilt l w g A Z Y0 hg
theorem k_ticks (l : Launch) (w : hv_W) (o9 : Nat) (Y0 : hv_H) (A : ab_A) (Y : hv_H) (hY : cl_S w o9 Y0 A Y) (hI : ab_I A) : hv_Mr l yX4_ticks wsX4_ticks ({ frames := 0, cells := 0, slots := 0, locals := 0 }) w [.ref o9] Y (fun r Y1 => r = .int (nI (A 16 0)) ∧ Y1 = Y) := by
  obtain ⟨g, Z, hg, hZ, hF, rfl, rfl⟩ := hY
  exact c_X4_ticks l w g A Z Y0 hg
theorem k_allWater (l : Launch) (w : hv_W) (o9 : Nat) (Y0 : hv_H) (A : ab_A) (Y : hv_H) (hY : cl_S w o9 Y0 A Y) (hI : ab_I A) : hv_Mr l yX4_allWater wsX4_allWater ({ frames := 0, cells := 0, slots := 0, locals := 0 }) w [.ref o9] Y (fun r Y1 => r = .int (nI (f_all A 8)) ∧ Y1 = Y) := by
  obtain ⟨g, Z, hg, hZ, hF, rfl, rfl⟩ := hY
  exact c_X4_allWater l w g A Z Y0 hg
theorem k_laidBy (l : Launch) (w : hv_W) (o9 : Nat) (Y0 : hv_H) (A : ab_A) (Y : hv_H) (hY : cl_S w o9 Y0 A Y) (hI : ab_I A) : hv_Mr l yX4_laidBy wsX4_laidBy ({ frames := 4, cells := 0, slots := 0, locals := 104 }) w [.ref o9] Y (fun r Y1 => r = .int (nI (f_laid A (A 15 0))) ∧ Y1 = Y) := by
  obtain ⟨g, Z, hg, hZ, hF, rfl, rfl⟩ := hY
  exact c_X4_laidBy l w g A Z Y0 hg hI
theorem k_loops (l : Launch) (w : hv_W) (o9 : Nat) (Y0 : hv_H) (A : ab_A) (Y : hv_H) (hY : cl_S w o9 Y0 A Y) (hI : ab_I A) : hv_Mr l yX4_loops wsX4_loops ({ frames := 2, cells := 0, slots := 0, locals := 45 }) w [.ref o9] Y (fun r Y1 => r = .int (nI (f_loops A 64)) ∧ Y1 = Y) := by
  obtain ⟨g, Z, hg, hZ, hF, rfl, rfl⟩ := hY
  exact c_X4_loops l w g A Z Y0 hg hI hZ
theorem k_areStill (l : Launch) (w : hv_W) (o9 : Nat) (Y0 : hv_H) (A : ab_A) (Y : hv_H) (hY : cl_S w o9 Y0 A Y) (hI : ab_I A) : hv_Mr l yX4_areStill wsX4_areStill ({ frames := 5, cells := 0, slots := 0, locals := 126 }) w [.ref o9] Y (fun r Y1 => r = .int (nI (b2 (f_chg A 64 = 0))) ∧ cl_S w o9 Y0 A Y1) := by
  obtain ⟨g, Z, hg, hZ, hF, rfl, rfl⟩ := hY
  exact c_X4_areStill l w g A Z Y0 hg hI hZ hF
