/-- no address of ours is another's -/
def cl_F (g : cl_g) (Y0 : hv_H) : Prop := ∀ a q, g.2 a = some q → Y0 a = none
/-- the class's state is A, its object at o -/
def cl_S (w : hv_W) (o : Nat) (Y0 : hv_H) (A : ab_A) (Y1 : hv_H) : Prop := ∃ g Z, cl_ok g (A 4 0) (A 15 0) ∧ cl_Z A Z ∧ cl_F g Y0 ∧ g.1 0 0 = o ∧ Y1 = cl_Y w g A Z Y0
/-- how exceptions count: which code is E's -/
def ec (k : Nat) (E : String) (c : Nat) : Prop := match k with
  | 0 => E = hv_IO ∧ c = 1
  | 1 => (E = hv_IO ∧ c = 1) ∨ (E = hv_IA ∧ c = 2)
  | 2 => (E = hv_IO ∧ c = 1) ∨ (E = hv_IA ∧ c = 2) ∨ (E = hv_IS ∧ c = 3)
  | 3 => E = hv_IA ∧ c = 1
  | _ => (E = hv_IA ∧ c = 1) ∨ (E = hv_IS ∧ c = 2)
section HTV
variable {p : Program} {l : Launch} {e : Env} {R : Room} {s : State} {m : MethodId} {args : Array Value} {below : List Frame} {meth : Method} {c : Code} {w : hv_W} {nL : Nat} {Q : State → Prop} {cells slots : Nat} {Y : hv_H} {lv : List (Nat × Value)} {pc : Nat} {rest : List Value}
theorem hv_topV {x y : Value} (h : x = y) (kk : hv_V p l e R s m args below meth c w nL Q cells slots Y lv pc (y :: rest)) : hv_V p l e R s m args below meth c w nL Q cells slots Y lv pc (x :: rest) := by rw [h]; exact kk
end HTV
theorem cl_r0 {ad : Nat → Nat → Nat} {x : Nat} (h : x = 0) : va_rf (cl_r ad x) = .null := by
  unfold cl_r
  rw [if_pos h]
  rfl
theorem cl_r1 {ad : Nat → Nat → Nat} {x : Nat} (h : x ≠ 0) : va_rf (cl_r ad x) = .ref (ad 13 (x - 1)) := by
  unfold cl_r
  rw [if_neg h]
  rfl
theorem cl_13 {w : hv_W} {g : cl_g} {A A' Z : ab_A} {Y0 : hv_H} {n k : Nat} (hg : cl_ok g n k) (h : ∀ s, s ≠ 13 → s ≠ 14 → A' s = A s) : cl_Y w g A' Z Y0 = cl_Y w g A Z Y0 := by
  refine cl_ext hg (fun kd i _ => cl_cellT (fun s _ _ h3 h4 => h s h3 h4) (fun _ => rfl) (fun _ j _ => ?_) (fun _ j _ => ?_) (fun _ j _ => ?_) (fun _ j _ => ?_) (fun _ _ => rfl))
  · rw [h 11 (by decide) (by decide)]
  · rw [h 11 (by decide) (by decide)]
  · rw [h 12 (by decide) (by decide)]
  · rw [h 12 (by decide) (by decide)]
set_option maxRecDepth 100000 in
set_option maxHeartbeats 4000000 in
theorem c_X4_water (l : Launch) (w : hv_W) (g : cl_g) (A Z : ab_A) (Y0 : hv_H) (hg : cl_ok g (A 4 0) (A 15 0)) (hlt : l.stackTraces = false) (hI : ab_I A) (hZ : cl_Z A Z) (hF : cl_F g Y0) (x : Int32)  : hv_Nr l yX4_water wsX4_water ({ frames := 7, cells := 6, slots := 40, locals := 151 }) w [.ref (g.1 0 0), .int (x)] (cl_Y w g A Z Y0) (fun r Y1 => (q_water A x).1 = 0 ∧ r = .int (q_water A x).2.1 ∧ cl_S w (g.1 0 0) Y0 (q_water A x).2.2 Y1) (fun E Y1 => ec 0 E (q_water A x).1 ∧ Y1 = cl_Y w g A Z Y0) := by
  refine hv_ofVx (cc := cX4_water) (own := RX4) (by decide) rfl rfl (Nat.le_of_ble_eq_true rfl) rfl ?_
  intro p e s m below meth c C hret hex
  have hinX1 : ∀ x ∈ wsX10, x ∈ wsX4_water := by decide +kernel
  refine hv_aload_n C dX4_water_0 rfl 0 rfl ?_
  refine hv_iload_n C dX4_water_1 rfl 1 rfl ?_
  refine hv_callVrx (As := [.int (x)]) (rest := []) (n := 1) C (c_X4_basinNumbered l w g A Z Y0 hg hlt x) gX4_water_X4_basinNumbered rfl (by decide +kernel) ⟨Nat.le_of_ble_eq_true rfl, Nat.le_of_ble_eq_true rfl⟩ (cl_rc hg (Or.inl ⟨by decide, rfl⟩) rfl rfl) rfl rfl (Nat.le_of_ble_eq_true rfl) dX4_water_2 ⟨by first | exact Nat.le_of_ble_eq_true rfl | omega | (simp; done) | (simp; omega), by first | exact Nat.le_of_ble_eq_true rfl | omega | (simp; done) | (simp; omega)⟩ (fun E Y1 h => ⟨(⟨h.1, (by first | (simp [q_water, h.2.1]; done) | (unfold q_water; (repeat' split) <;> simp_all))⟩), h.2.2⟩) hex (by first | exact Nat.le_of_ble_eq_true rfl | omega) (by first | exact Nat.le_of_ble_eq_true rfl | omega) (fun r1 Y1 hr => ?_)
  obtain ⟨⟨b, hx, rfl⟩, rfl⟩ := hr
  obtain ⟨hb, rfl⟩ := ix_y hx
  refine hc_get (kd := 5) (i := b) (f := 2) (v := .int (nI (A 0 b))) C hg (Or.inr (Or.inl ⟨by decide, by decide, by omega⟩)) rfl rfl hinX1 (by decide) (by decide +kernel) rfl rfl dX4_water_5 ?_
  exact hv_iretx C hret dX4_water_8 (by first | exact Nat.le_refl _ | decide | omega | (simp; done) | (simp; omega)) (by first | exact Nat.le_refl _ | decide | omega | (simp; done) | (simp; omega)) (by rw [show q_water A (nI b) = (0, (nI (A 0 b)), A) from by first | (simp [q_water, hx]; done) | (skip; simp [q_water, hx]; done) | (simp only [q_water, hx]; done)]; exact ⟨rfl, rfl, ⟨g, Z, hg, hZ, hF, rfl, rfl⟩⟩)
set_option maxRecDepth 100000 in
set_option maxHeartbeats 4000000 in
theorem c_X4_cost (l : Launch) (w : hv_W) (g : cl_g) (A Z : ab_A) (Y0 : hv_H) (hg : cl_ok g (A 4 0) (A 15 0)) (hlt : l.stackTraces = false) (hI : ab_I A) (hZ : cl_Z A Z) (hF : cl_F g Y0) (x : Int32)  : hv_Nr l yX4_cost wsX4_cost ({ frames := 7, cells := 6, slots := 40, locals := 151 }) w [.ref (g.1 0 0), .int (x)] (cl_Y w g A Z Y0) (fun r Y1 => (q_cost A x).1 = 0 ∧ r = .int (q_cost A x).2.1 ∧ cl_S w (g.1 0 0) Y0 (q_cost A x).2.2 Y1) (fun E Y1 => ec 0 E (q_cost A x).1 ∧ Y1 = cl_Y w g A Z Y0) := by
  refine hv_ofVx (cc := cX4_cost) (own := RX4) (by decide) rfl rfl (Nat.le_of_ble_eq_true rfl) rfl ?_
  intro p e s m below meth c C hret hex
  refine hv_aload_n C dX4_cost_0 rfl 0 rfl ?_
  refine hv_iload_n C dX4_cost_1 rfl 1 rfl ?_
  refine hv_callVrx (As := [.int (x)]) (rest := []) (n := 1) C (c_X4_canalNumbered l w g A Z Y0 hg hlt x hI.2.2.2.1) gX4_cost_X4_canalNumbered rfl (by decide +kernel) ⟨Nat.le_of_ble_eq_true rfl, Nat.le_of_ble_eq_true rfl⟩ (cl_rc hg (Or.inl ⟨by decide, rfl⟩) rfl rfl) rfl rfl (Nat.le_of_ble_eq_true rfl) dX4_cost_2 ⟨by first | exact Nat.le_of_ble_eq_true rfl | omega | (simp; done) | (simp; omega), by first | exact Nat.le_of_ble_eq_true rfl | omega | (simp; done) | (simp; omega)⟩ (fun E Y1 h => ⟨(⟨h.1, (by first | (simp [q_cost, h.2.1]; done) | (unfold q_cost; (repeat' split) <;> simp_all))⟩), h.2.2⟩) hex (by first | exact Nat.le_of_ble_eq_true rfl | omega) (by first | exact Nat.le_of_ble_eq_true rfl | omega) (fun r1 Y1 hr => ?_)
  obtain ⟨⟨j, hx, rfl⟩, rfl⟩ := hr
  obtain ⟨hj, rfl⟩ := ix_s (by first | exact Nat.lt_of_le_of_lt hI.2.2.2.1 (by decide) | exact Nat.lt_of_le_of_lt hI.2.2.2.2.2.2.1 (by decide)) hx
  refine hv_callVr (As := []) (rest := []) (n := 0) C (c_X2_costNow l w g A Z Y0 hg j hj (hI.2.2.2.2.1 j hj).1 (hI.2.2.2.2.1 j hj).2.1 (fun b hb => (hI.1 b hb).2.1)) gX4_cost_X2_costNow rfl (by decide +kernel) ⟨Nat.le_of_ble_eq_true rfl, Nat.le_of_ble_eq_true rfl⟩ (cl_rc hg (Or.inr (Or.inr (Or.inl ⟨rfl, by omega⟩))) rfl rfl) rfl rfl (Nat.le_of_ble_eq_true rfl) dX4_cost_5 ⟨by first | exact Nat.le_of_ble_eq_true rfl | omega | (simp; done) | (simp; omega), by first | exact Nat.le_of_ble_eq_true rfl | omega | (simp; done) | (simp; omega)⟩ (fun r2 Y1 hr => ?_)
  obtain ⟨rfl, rfl⟩ := hr
  exact hv_iretx C hret dX4_cost_8 (by first | exact Nat.le_refl _ | decide | omega | (simp; done) | (simp; omega)) (by first | exact Nat.le_refl _ | decide | omega | (simp; done) | (simp; omega)) (by rw [show q_cost A (nI j) = (0, (nI (f_cost A j)), A) from by first | (simp [q_cost, hx]; done) | (skip; simp [q_cost, hx]; done) | (simp only [q_cost, hx]; done)]; exact ⟨rfl, rfl, ⟨g, Z, hg, hZ, hF, rfl, rfl⟩⟩)
set_option maxRecDepth 100000 in
set_option maxHeartbeats 4000000 in
theorem c_X4_canPass (l : Launch) (w : hv_W) (g : cl_g) (A Z : ab_A) (Y0 : hv_H) (hg : cl_ok g (A 4 0) (A 15 0)) (hlt : l.stackTraces = false) (hI : ab_I A) (hZ : cl_Z A Z) (hF : cl_F g Y0) (x : Int32)  : hv_Nr l yX4_canPass wsX4_canPass ({ frames := 7, cells := 6, slots := 40, locals := 151 }) w [.ref (g.1 0 0), .int (x)] (cl_Y w g A Z Y0) (fun r Y1 => (q_canPass A x).1 = 0 ∧ r = .int (q_canPass A x).2.1 ∧ cl_S w (g.1 0 0) Y0 (q_canPass A x).2.2 Y1) (fun E Y1 => ec 0 E (q_canPass A x).1 ∧ Y1 = cl_Y w g A Z Y0) := by
  refine hv_ofVx (cc := cX4_canPass) (own := RX4) (by decide) rfl rfl (Nat.le_of_ble_eq_true rfl) rfl ?_
  intro p e s m below meth c C hret hex
  refine hv_aload_n C dX4_canPass_0 rfl 0 rfl ?_
  refine hv_iload_n C dX4_canPass_1 rfl 1 rfl ?_
  refine hv_callVrx (As := [.int (x)]) (rest := []) (n := 1) C (c_X4_canalNumbered l w g A Z Y0 hg hlt x hI.2.2.2.1) gX4_canPass_X4_canalNumbered rfl (by decide +kernel) ⟨Nat.le_of_ble_eq_true rfl, Nat.le_of_ble_eq_true rfl⟩ (cl_rc hg (Or.inl ⟨by decide, rfl⟩) rfl rfl) rfl rfl (Nat.le_of_ble_eq_true rfl) dX4_canPass_2 ⟨by first | exact Nat.le_of_ble_eq_true rfl | omega | (simp; done) | (simp; omega), by first | exact Nat.le_of_ble_eq_true rfl | omega | (simp; done) | (simp; omega)⟩ (fun E Y1 h => ⟨(⟨h.1, (by first | (simp [q_canPass, h.2.1]; done) | (unfold q_canPass; (repeat' split) <;> simp_all))⟩), h.2.2⟩) hex (by first | exact Nat.le_of_ble_eq_true rfl | omega) (by first | exact Nat.le_of_ble_eq_true rfl | omega) (fun r1 Y1 hr => ?_)
  obtain ⟨⟨j, hx, rfl⟩, rfl⟩ := hr
  obtain ⟨hj, rfl⟩ := ix_s (by first | exact Nat.lt_of_le_of_lt hI.2.2.2.1 (by decide) | exact Nat.lt_of_le_of_lt hI.2.2.2.2.2.2.1 (by decide)) hx
  refine hv_callVr (As := []) (rest := []) (n := 0) C (c_X2_isPassable l w g A Z Y0 hg j hj (hI.2.2.2.2.1 j hj).1 (by have := (hI.2.2.2.2.1 j hj).2.2.2.2.2.1; omega) (by have := (hI.2.2.2.2.1 j hj).2.2.2.2.2.2; omega) (hI.1 _ (hI.2.2.2.2.1 j hj).1).2.1) gX4_canPass_X2_isPassable rfl (by decide +kernel) ⟨Nat.le_of_ble_eq_true rfl, Nat.le_of_ble_eq_true rfl⟩ (cl_rc hg (Or.inr (Or.inr (Or.inl ⟨rfl, by omega⟩))) rfl rfl) rfl rfl (Nat.le_of_ble_eq_true rfl) dX4_canPass_5 ⟨by first | exact Nat.le_of_ble_eq_true rfl | omega | (simp; done) | (simp; omega), by first | exact Nat.le_of_ble_eq_true rfl | omega | (simp; done) | (simp; omega)⟩ (fun r2 Y1 hr => ?_)
  obtain ⟨rfl, rfl⟩ := hr
  exact hv_zretx C hret b2_nar dX4_canPass_8 (by first | exact Nat.le_refl _ | decide | omega | (simp; done) | (simp; omega)) (by first | exact Nat.le_refl _ | decide | omega | (simp; done) | (simp; omega)) (by rw [show q_canPass A (nI j) = (0, (nI (b2 (A 9 j ≠ 0 ∧ A 8 j + 5 ≤ A 0 (A 5 j)))), A) from by first | (simp [q_canPass, hx]; done) | (rfl; simp [q_canPass, hx]; done) | (simp only [q_canPass, hx]; rfl)]; exact ⟨rfl, rfl, ⟨g, Z, hg, hZ, hF, rfl, rfl⟩⟩)
set_option maxRecDepth 100000 in
set_option maxHeartbeats 4000000 in
theorem c_X4_distance (l : Launch) (w : hv_W) (g : cl_g) (A Z : ab_A) (Y0 : hv_H) (hg : cl_ok g (A 4 0) (A 15 0)) (hlt : l.stackTraces = false) (hI : ab_I A) (hZ : cl_Z A Z) (hF : cl_F g Y0) (x y : Int32)  : hv_Nr l yX4_distance wsX4_distance ({ frames := 7, cells := 6, slots := 40, locals := 151 }) w [.ref (g.1 0 0), .int (x), .int (y)] (cl_Y w g A Z Y0) (fun r Y1 => (q_distance A x y).1 = 0 ∧ r = .int (q_distance A x y).2.1 ∧ cl_S w (g.1 0 0) Y0 (q_distance A x y).2.2 Y1) (fun E Y1 => ec 0 E (q_distance A x y).1 ∧ Y1 = cl_Y w g A Z Y0) := by
  refine hv_ofVx (cc := cX4_distance) (own := RX4) (by decide) rfl rfl (Nat.le_of_ble_eq_true rfl) rfl ?_
  intro p e s m below meth c C hret hex
  have hinX1 : ∀ x ∈ wsX10, x ∈ wsX4_distance := by decide +kernel
  have hinX3 : ∀ x ∈ wsX30, x ∈ wsX4_distance := by decide +kernel
  refine hv_aload_n C dX4_distance_0 rfl 0 rfl ?_
  refine hv_iload_n C dX4_distance_1 rfl 1 rfl ?_
  refine hv_callVrx (As := [.int (x)]) (rest := []) (n := 1) C (c_X4_basinNumbered l w g A Z Y0 hg hlt x) gX4_distance_X4_basinNumbered rfl (by decide +kernel) ⟨Nat.le_of_ble_eq_true rfl, Nat.le_of_ble_eq_true rfl⟩ (cl_rc hg (Or.inl ⟨by decide, rfl⟩) rfl rfl) rfl rfl (Nat.le_of_ble_eq_true rfl) dX4_distance_2 ⟨by first | exact Nat.le_of_ble_eq_true rfl | omega | (simp; done) | (simp; omega), by first | exact Nat.le_of_ble_eq_true rfl | omega | (simp; done) | (simp; omega)⟩ (fun E Y1 h => ⟨(⟨h.1, (by first | (simp [q_distance, h.2.1]; done) | (unfold q_distance; (repeat' split) <;> simp_all))⟩), h.2.2⟩) hex (by first | exact Nat.le_of_ble_eq_true rfl | omega) (by first | exact Nat.le_of_ble_eq_true rfl | omega) (fun r1 Y1 hr => ?_)
  obtain ⟨⟨b, hx, rfl⟩, rfl⟩ := hr
  obtain ⟨hb, rfl⟩ := ix_y hx
  refine hv_astore_n (lv1 := [(0, .ref (g.1 0 0)), (1, .int (nI b)), (2, .int (y)), (3, .ref (g.1 5 b))]) C dX4_distance_5 rfl (by decide) [1, 2, 3, 0] rfl ?_
  have hzb := hZ.1 b hb
  refine hv_aload_n C dX4_distance_6 rfl 3 rfl ?_
  refine hc_get (kd := 5) (i := b) (f := 4) (v := .ref (g.1 (7 + Z 0 b) b)) C hg (Or.inr (Or.inl ⟨by decide, by decide, by omega⟩)) rfl rfl hinX1 (by decide) (by decide +kernel) rfl rfl dX4_distance_7 ?_
  refine hc_get (kd := (7 + Z 0 (b))) (i := b) (f := 0) (v := .ref (g.1 (9 + Z 0 b) b)) C hg (Or.inr (Or.inl ⟨by omega, by omega, by omega⟩)) (cl_t (show Z 0 b ≤ 1 from by omega)) rfl hinX3 (by decide) (by decide +kernel) rfl rfl dX4_distance_10 ?_
  refine hv_aload_n C dX4_distance_13 rfl 0 rfl ?_
  refine hv_iload_n C dX4_distance_14 rfl 2 rfl ?_
  refine hv_callVrx (As := [.int (y)]) (rest := [.ref (g.1 (9 + Z 0 b) b)]) (n := 1) C (c_X4_basinNumbered l w g A Z Y0 hg hlt y) gX4_distance_X4_basinNumbered rfl (by decide +kernel) ⟨Nat.le_of_ble_eq_true rfl, Nat.le_of_ble_eq_true rfl⟩ (cl_rc hg (Or.inl ⟨by decide, rfl⟩) rfl rfl) rfl rfl (Nat.le_of_ble_eq_true rfl) dX4_distance_15 ⟨by first | exact Nat.le_of_ble_eq_true rfl | omega | (simp; done) | (simp; omega), by first | exact Nat.le_of_ble_eq_true rfl | omega | (simp; done) | (simp; omega)⟩ (fun E Y1 h => ⟨(⟨h.1, (by first | (simp [q_distance, hx, h.2.1]; done) | (unfold q_distance; (repeat' split) <;> simp_all))⟩), h.2.2⟩) hex (by first | exact Nat.le_of_ble_eq_true rfl | omega) (by first | exact Nat.le_of_ble_eq_true rfl | omega) (fun r2 Y1 hr => ?_)
  obtain ⟨⟨o, hy, rfl⟩, rfl⟩ := hr
  obtain ⟨ho, rfl⟩ := ix_y hy
  refine hc_get (kd := 5) (i := o) (f := 0) (v := .int (nI o)) C hg (Or.inr (Or.inl ⟨by decide, by decide, by omega⟩)) rfl rfl hinX1 (by decide) (by decide +kernel) rfl rfl dX4_distance_18 ?_
  refine hc_iald (kd := 9 + Z 0 b) (i := b) (j := o) (x := (nI (A 11 (8 * b + o)) + (-1))) C hg (Or.inr (Or.inl ⟨by omega, by omega, by omega⟩)) (cl_td (show Z 0 b ≤ 1 from by omega)) (by decide) (by omega) (if_pos (by omega)) dX4_distance_21 ?_
  exact hv_iretx C hret dX4_distance_22 (by first | exact Nat.le_refl _ | decide | omega | (simp; done) | (simp; omega)) (by first | exact Nat.le_refl _ | decide | omega | (simp; done) | (simp; omega)) (by rw [show q_distance A (nI b) (nI o) = (0, (nI (A 11 (8 * b + o)) + (-1)), A) from by first | (simp [q_distance, hx, hy]; done) | (skip; simp [q_distance, hx, hy]; done) | (simp only [q_distance, hx, hy]; done)]; exact ⟨rfl, rfl, ⟨g, Z, hg, hZ, hF, rfl, rfl⟩⟩)
set_option maxRecDepth 100000 in
set_option maxHeartbeats 4000000 in
theorem c_X4_canalTo (l : Launch) (w : hv_W) (g : cl_g) (A Z : ab_A) (Y0 : hv_H) (hg : cl_ok g (A 4 0) (A 15 0)) (hlt : l.stackTraces = false) (hI : ab_I A) (hZ : cl_Z A Z) (hF : cl_F g Y0) (x y : Int32)  : hv_Nr l yX4_canalTo wsX4_canalTo ({ frames := 7, cells := 6, slots := 40, locals := 151 }) w [.ref (g.1 0 0), .int (x), .int (y)] (cl_Y w g A Z Y0) (fun r Y1 => (q_canalTo A x y).1 = 0 ∧ r = .int (q_canalTo A x y).2.1 ∧ cl_S w (g.1 0 0) Y0 (q_canalTo A x y).2.2 Y1) (fun E Y1 => ec 0 E (q_canalTo A x y).1 ∧ Y1 = cl_Y w g A Z Y0) := by
  refine hv_ofVx (cc := cX4_canalTo) (own := RX4) (by decide) rfl rfl (Nat.le_of_ble_eq_true rfl) rfl ?_
  intro p e s m below meth c C hret hex
  have hinX2 : ∀ x ∈ wsX20, x ∈ wsX4_canalTo := by decide +kernel
  refine hv_aload_n C dX4_canalTo_0 rfl 0 rfl ?_
  refine hv_iload_n C dX4_canalTo_1 rfl 1 rfl ?_
  refine hv_callVrx (As := [.int (x)]) (rest := []) (n := 1) C (c_X4_basinNumbered l w g A Z Y0 hg hlt x) gX4_canalTo_X4_basinNumbered rfl (by decide +kernel) ⟨Nat.le_of_ble_eq_true rfl, Nat.le_of_ble_eq_true rfl⟩ (cl_rc hg (Or.inl ⟨by decide, rfl⟩) rfl rfl) rfl rfl (Nat.le_of_ble_eq_true rfl) dX4_canalTo_2 ⟨by first | exact Nat.le_of_ble_eq_true rfl | omega | (simp; done) | (simp; omega), by first | exact Nat.le_of_ble_eq_true rfl | omega | (simp; done) | (simp; omega)⟩ (fun E Y1 h => ⟨(⟨h.1, (by first | (simp [q_canalTo, h.2.1]; done) | (unfold q_canalTo; (repeat' split) <;> simp_all))⟩), h.2.2⟩) hex (by first | exact Nat.le_of_ble_eq_true rfl | omega) (by first | exact Nat.le_of_ble_eq_true rfl | omega) (fun r1 Y1 hr => ?_)
  obtain ⟨⟨b, hx, rfl⟩, rfl⟩ := hr
  obtain ⟨hb, rfl⟩ := ix_y hx
  refine hv_astore_n (lv1 := [(0, .ref (g.1 0 0)), (1, .int (nI b)), (2, .int (y)), (3, .ref (g.1 5 b))]) C dX4_canalTo_5 rfl (by decide) [1, 2, 3, 0] rfl ?_
  refine hv_aload_n C dX4_canalTo_6 rfl 3 rfl ?_
  refine hv_aload_n C dX4_canalTo_7 rfl 0 rfl ?_
  refine hv_iload_n C dX4_canalTo_8 rfl 2 rfl ?_
  refine hv_callVrx (As := [.int (y)]) (rest := [.ref (g.1 5 b)]) (n := 1) C (c_X4_basinNumbered l w g A Z Y0 hg hlt y) gX4_canalTo_X4_basinNumbered rfl (by decide +kernel) ⟨Nat.le_of_ble_eq_true rfl, Nat.le_of_ble_eq_true rfl⟩ (cl_rc hg (Or.inl ⟨by decide, rfl⟩) rfl rfl) rfl rfl (Nat.le_of_ble_eq_true rfl) dX4_canalTo_9 ⟨by first | exact Nat.le_of_ble_eq_true rfl | omega | (simp; done) | (simp; omega), by first | exact Nat.le_of_ble_eq_true rfl | omega | (simp; done) | (simp; omega)⟩ (fun E Y1 h => ⟨(⟨h.1, (by first | (simp [q_canalTo, hx, h.2.1]; done) | (unfold q_canalTo; (repeat' split) <;> simp_all))⟩), h.2.2⟩) hex (by first | exact Nat.le_of_ble_eq_true rfl | omega) (by first | exact Nat.le_of_ble_eq_true rfl | omega) (fun r2 Y1 hr => ?_)
  obtain ⟨⟨o, hy, rfl⟩, rfl⟩ := hr
  obtain ⟨ho, rfl⟩ := ix_y hy
  refine hv_callVr (As := [.ref (g.1 5 o)]) (rest := []) (n := 1) C (c_X1_canalTowards l w g A Z Y0 hg b o hb ho (hZ.1 b hb)) gX4_canalTo_X1_canalTowards rfl (by decide +kernel) ⟨Nat.le_of_ble_eq_true rfl, Nat.le_of_ble_eq_true rfl⟩ (cl_rc hg (Or.inr (Or.inl ⟨by decide, by decide, by omega⟩)) rfl rfl) rfl rfl (Nat.le_of_ble_eq_true rfl) dX4_canalTo_12 ⟨by first | exact Nat.le_of_ble_eq_true rfl | omega | (simp; done) | (simp; omega), by first | exact Nat.le_of_ble_eq_true rfl | omega | (simp; done) | (simp; omega)⟩ (fun r3 Y1 hr => ?_)
  obtain ⟨rfl, rfl⟩ := hr
  by_cases hc : A 12 (8 * b + o) = 0
  · refine hv_topV (cl_r0 hc) ?_
    refine hv_astoreN (lv1 := [(0, .ref (g.1 0 0)), (1, .int (nI b)), (2, .int (nI o)), (3, .ref (g.1 5 b)), (4, .null)]) C dX4_canalTo_15 (by decide) [1, 2, 3, 4, 0] rfl ?_
    refine hv_aloadN C dX4_canalTo_17 4 rfl ?_
    refine hv_ifnonnullN C dX4_canalTo_19 ?_
    refine hv_iconst (v := nI 0 + (-1)) C dX4_canalTo_22 (by decide) ?_
    refine hv_goto (tgt := 31) C dX4_canalTo_23 (by decide) ?_
    exact hv_iretx C hret dX4_canalTo_31 (by first | exact Nat.le_refl _ | decide | omega | (simp; done) | (simp; omega)) (by first | exact Nat.le_refl _ | decide | omega | (simp; done) | (simp; omega)) (by rw [show q_canalTo A (nI b) (nI o) = (0, (nI (0) + (-1)), A) from by simp only [q_canalTo, hx, hy]; rw [hc]]; exact ⟨rfl, rfl, ⟨g, Z, hg, hZ, hF, rfl, rfl⟩⟩)
  · refine hv_topV (cl_r1 hc) ?_
    have hcl : A 12 (8 * b + o) - 1 < A 4 0 := by have := (hI.2.2.2.2.2.1 b o hb ho).2.1; omega
    obtain ⟨g1, g2, g3, g4, g5, g6, g7⟩ := hI.2.2.2.2.1 (A 12 (8 * b + o) - 1) hcl
    refine hv_astore (lv1 := [(0, .ref (g.1 0 0)), (1, .int (nI b)), (2, .int (nI o)), (3, .ref (g.1 5 b)), (4, .ref (g.1 13 (A 12 (8 * b + o) - 1)))]) C dX4_canalTo_15 (by decide) [1, 2, 3, 4, 0] rfl ?_
    refine hv_aload C dX4_canalTo_17 4 rfl ?_
    refine hv_ifnonnullR (tgt := 26) C dX4_canalTo_19 (by decide) ?_
    refine hv_aload C dX4_canalTo_26 4 rfl ?_
    refine hc_get (kd := 13) (i := A 12 (8 * b + o) - 1) (f := 0) (v := .int (nI (A 12 (8 * b + o) - 1))) C hg (Or.inr (Or.inr (Or.inl ⟨rfl, by omega⟩))) rfl rfl hinX2 (by decide) (by decide +kernel) rfl rfl dX4_canalTo_28 ?_
    exact hv_iretx C hret dX4_canalTo_31 (by first | exact Nat.le_refl _ | decide | omega | (simp; done) | (simp; omega)) (by first | exact Nat.le_refl _ | decide | omega | (simp; done) | (simp; omega)) (by rw [show q_canalTo A (nI b) (nI o) = (0, (nI (A 12 (8 * b + o) - 1)), A) from by simp only [q_canalTo, hx, hy]; rw [nI_em (by omega)]]; exact ⟨rfl, rfl, ⟨g, Z, hg, hZ, hF, rfl, rfl⟩⟩)
def f_gi (A : ab_A) (o b i v : Nat) : Prop := v < 8 ∧ f_walk A o (8 - i) v = f_walk A o 8 b
theorem gi_1 {A : ab_A} {o b i v : Nat} (h : f_gi A o b i v) (hi : i < 8) (hv : v = o) : ¬ (f_walk A o 8 b = true) := by
  rw [← h.2, show 8 - i = (7 - i) + 1 by omega]
  show ¬ ((if v = o then false else _) = true)
  rw [if_pos hv]
  decide
theorem gi_2 {A : ab_A} {o b i v : Nat} (h : f_gi A o b i v) (hi : i < 8) (hc : A 12 (8 * v + o) = 0) : ¬ (f_walk A o 8 b = true) := by
  rw [← h.2, show 8 - i = (7 - i) + 1 by omega]
  show ¬ ((if v = o then false else if A 12 (8 * v + o) = 0 then false else _) = true)
  rw [if_pos hc]
  split <;> decide
theorem gi_3 {A : ab_A} {o b i v : Nat} (h : f_gi A o b i v) (hi : i < 8) (hv : v ≠ o) (hc : A 12 (8 * v + o) ≠ 0) (h8 : f_bey A (A 12 (8 * v + o) - 1) v < 8) : f_gi A o b (i + 1) (f_bey A (A 12 (8 * v + o) - 1) v) := by
  refine ⟨h8, ?_⟩
  rw [← h.2, show 8 - i = (8 - (i + 1)) + 1 by omega]
  show _ = (if v = o then false else if A 12 (8 * v + o) = 0 then false else _)
  rw [if_neg hv, if_neg hc]
set_option maxRecDepth 100000 in
set_option maxHeartbeats 4000000 in
theorem c_X4_goesRound (l : Launch) (w : hv_W) (g : cl_g) (A Z : ab_A) (Y0 : hv_H) (hg : cl_ok g (A 4 0) (A 15 0)) (hI : ab_I A) (hZ : cl_Z A Z) (b o : Nat) (hb : b < 8) (ho : o < 8) : hv_Mr l yX4_goesRound wsX4_goesRound ({ frames := 1, cells := 0, slots := 0, locals := 21 }) w [.ref (g.1 5 b), .ref (g.1 5 o)] (cl_Y w g A Z Y0) (fun r Y1 => r = .int (nI (b2 (f_walk A o 8 b = true))) ∧ Y1 = cl_Y w g A Z Y0) := by
  refine hv_ofV (cc := cX4_goesRound) (own := RX4) (by decide) rfl rfl (Nat.le_of_ble_eq_true rfl) rfl ?_
  intro p e s m below meth c C hret hnm
  refine hv_aload_n C dX4_goesRound_0 rfl 0 rfl ?_
  refine hv_astore_n (lv1 := [(0, .ref (g.1 5 b)), (1, .ref (g.1 5 o)), (2, .ref (g.1 5 b))]) C dX4_goesRound_1 rfl (by decide) [1, 2, 0] rfl ?_
  refine hv_iconst (v := nI 0) C dX4_goesRound_2 (by decide) ?_
  refine hv_istore_n (lv1 := [(0, .ref (g.1 5 b)), (1, .ref (g.1 5 o)), (2, .ref (g.1 5 b)), (3, .int (nI 0))]) C dX4_goesRound_3 rfl (by decide) [1, 2, 3, 0] rfl ?_
  refine hv_loopP (σ := Nat) 8 (fun _ _ => cl_Y w g A Z Y0) (fun i z => [(0, .ref (g.1 5 b)), (1, .ref (g.1 5 o)), (2, .ref (g.1 5 z)), (3, .int (nI i))]) (fun i z => f_gi A o b i z) ?_ ?_ b ⟨hb, rfl⟩
  · intro v hv
    refine hv_iload_n C dX4_goesRound_4 rfl 3 rfl ?_
    refine hv_bipush (v := nI 8) C dX4_goesRound_5 (by decide) ?_
    refine hv_icmpN_ge (tgt := 44) C dX4_goesRound_7 (by decide) (by omega) (by omega) (fun _ => ?_) (fun h => absurd h (by decide))
    refine hv_iconst (v := nI 1) C dX4_goesRound_44 (by decide) ?_
    exact hv_zret C hret (by decide) dX4_goesRound_45 (by first | exact Nat.le_refl _ | decide | omega | (simp; done) | (simp; omega)) (by first | exact Nat.le_refl _ | decide | omega | (simp; done) | (simp; omega)) ⟨by rw [b2_t (show f_walk A o 8 b = true from hv.2.symm)], rfl⟩
  · intro i v hi hv ih
    have v8 := hv.1
    refine hv_iload_n C dX4_goesRound_4 rfl 3 rfl ?_
    refine hv_bipush (v := nI 8) C dX4_goesRound_5 (by decide) ?_
    refine hv_icmpN_ge (tgt := 44) C dX4_goesRound_7 (by decide) (by omega) (by omega) (fun h2 => ?_) (fun h2 => ?_)
    · skip
      exact absurd h2 (by omega)
    · skip
      refine hv_aload_n C dX4_goesRound_10 rfl 2 rfl ?_
      refine hv_aload_n C dX4_goesRound_11 rfl 1 rfl ?_
      refine hv_acmpR_ne (tgt := 17) C dX4_goesRound_12 (by decide) (fun h3 => ?_) (fun h3 => ?_)
      · skip
        refine hv_aload_n C dX4_goesRound_17 rfl 2 rfl ?_
        refine hv_aload_n C dX4_goesRound_18 rfl 1 rfl ?_
        refine hv_callVr (As := [.ref (g.1 5 o)]) (rest := []) (n := 1) C (c_X1_canalTowards l w g A Z Y0 hg v o v8 ho (hZ.1 v v8)) gX4_goesRound_X1_canalTowards rfl (by decide +kernel) ⟨Nat.le_of_ble_eq_true rfl, Nat.le_of_ble_eq_true rfl⟩ (cl_rc hg (Or.inr (Or.inl ⟨by decide, by decide, by omega⟩)) rfl rfl) rfl rfl (Nat.le_of_ble_eq_true rfl) dX4_goesRound_19 ⟨by first | exact Nat.le_of_ble_eq_true rfl | omega | (simp; done) | (simp; omega), by first | exact Nat.le_of_ble_eq_true rfl | omega | (simp; done) | (simp; omega)⟩ (fun r4 Y1 hr => ?_)
        obtain ⟨rfl, rfl⟩ := hr
        by_cases hc : A 12 (8 * v + o) = 0
        · refine hv_topV (cl_r0 hc) ?_
          refine hv_astoreN (lv1 := [(0, .ref (g.1 5 b)), (1, .ref (g.1 5 o)), (2, .ref (g.1 5 v)), (3, .int (nI i)), (4, .null)]) C dX4_goesRound_22 (by decide) [1, 2, 3, 4, 0] rfl ?_
          refine hv_aloadN C dX4_goesRound_24 4 rfl ?_
          refine hv_ifnonnullN C dX4_goesRound_26 ?_
          refine hv_iconst (v := nI 0) C dX4_goesRound_29 (by decide) ?_
          exact hv_zret C hret (by decide) dX4_goesRound_30 (by first | exact Nat.le_refl _ | decide | omega | (simp; done) | (simp; omega)) (by first | exact Nat.le_refl _ | decide | omega | (simp; done) | (simp; omega)) ⟨by rw [b2_f (gi_2 hv hi hc)], rfl⟩
        · refine hv_topV (cl_r1 hc) ?_
          have hcl : A 12 (8 * v + o) - 1 < A 4 0 := by have := (hI.2.2.2.2.2.1 v o v8 ho).2.1; omega
          obtain ⟨g1, g2, g3, g4, g5, g6, g7⟩ := hI.2.2.2.2.1 (A 12 (8 * v + o) - 1) hcl
          refine hv_astore (lv1 := [(0, .ref (g.1 5 b)), (1, .ref (g.1 5 o)), (2, .ref (g.1 5 v)), (3, .int (nI i)), (4, .ref (g.1 13 (A 12 (8 * v + o) - 1)))]) C dX4_goesRound_22 (by decide) [1, 2, 3, 4, 0] rfl ?_
          refine hv_aload C dX4_goesRound_24 4 rfl ?_
          refine hv_ifnonnullR (tgt := 31) C dX4_goesRound_26 (by decide) ?_
          refine hv_aload C dX4_goesRound_31 4 rfl ?_
          refine hv_aload_n C dX4_goesRound_33 rfl 2 rfl ?_
          refine hv_callVr (As := [.ref (g.1 5 v)]) (rest := []) (n := 1) C (c_X2_otherEnd l w g A Z Y0 hg (A 12 (8 * v + o) - 1) v hcl g1 v8) gX4_goesRound_X2_otherEnd rfl (by decide +kernel) ⟨Nat.le_of_ble_eq_true rfl, Nat.le_of_ble_eq_true rfl⟩ (cl_rc hg (Or.inr (Or.inr (Or.inl ⟨rfl, by omega⟩))) rfl rfl) rfl rfl (Nat.le_of_ble_eq_true rfl) dX4_goesRound_34 ⟨by first | exact Nat.le_of_ble_eq_true rfl | omega | (simp; done) | (simp; omega), by first | exact Nat.le_of_ble_eq_true rfl | omega | (simp; done) | (simp; omega)⟩ (fun r5 Y1 hr => ?_)
          obtain ⟨rfl, rfl⟩ := hr
          refine hv_astore_n (lv1 := [(0, .ref (g.1 5 b)), (1, .ref (g.1 5 o)), (2, .ref (g.1 5 (f_bey A (A 12 (8 * v + o) - 1) v))), (3, .int (nI i)), (4, .ref (g.1 13 (A 12 (8 * v + o) - 1)))]) C dX4_goesRound_37 rfl (by decide) [1, 2, 0, 3, 4] rfl ?_
          refine hv_iinc (v := nI (i + 1)) (lv1 := [(0, .ref (g.1 5 b)), (1, .ref (g.1 5 o)), (2, .ref (g.1 5 (f_bey A (A 12 (8 * v + o) - 1) v))), (3, .int (nI (i + 1))), (4, .ref (g.1 13 (A 12 (8 * v + o) - 1)))]) C dX4_goesRound_38 (k := 3) rfl (nI_1 _) (by decide) [1, 2, 3, 0, 4] rfl ?_
          refine hv_goto (tgt := 4) C dX4_goesRound_41 (by decide) ?_
          exact hv_sub (lv1 := [(0, .ref (g.1 5 b)), (1, .ref (g.1 5 o)), (2, .ref (g.1 5 (f_bey A (A 12 (8 * v + o) - 1) v))), (3, .int (nI (i + 1)))]) [0, 1, 2, 3] rfl (ih (f_bey A (A 12 (8 * v + o) - 1) v) (gi_3 hv hi (fun q => h3 ((cl_b hg v8 ho).mpr q)) hc (f_bey_lt g1 g2)))
      · skip
        refine hv_iconst (v := nI 0) C dX4_goesRound_15 (by decide) ?_
        exact hv_zret C hret (by decide) dX4_goesRound_16 (by first | exact Nat.le_refl _ | decide | omega | (simp; done) | (simp; omega)) (by first | exact Nat.le_refl _ | decide | omega | (simp; done) | (simp; omega)) ⟨by rw [b2_f (gi_1 hv hi ((cl_b hg v8 ho).mp h3))], rfl⟩
set_option maxRecDepth 100000 in
set_option maxHeartbeats 4000000 in
theorem c_X4_isLoop (l : Launch) (w : hv_W) (g : cl_g) (A Z : ab_A) (Y0 : hv_H) (hg : cl_ok g (A 4 0) (A 15 0)) (hlt : l.stackTraces = false) (hI : ab_I A) (hZ : cl_Z A Z) (hF : cl_F g Y0) (x y : Int32)  : hv_Nr l yX4_isLoop wsX4_isLoop ({ frames := 7, cells := 6, slots := 40, locals := 151 }) w [.ref (g.1 0 0), .int (x), .int (y)] (cl_Y w g A Z Y0) (fun r Y1 => (q_isLoop A x y).1 = 0 ∧ r = .int (q_isLoop A x y).2.1 ∧ cl_S w (g.1 0 0) Y0 (q_isLoop A x y).2.2 Y1) (fun E Y1 => ec 0 E (q_isLoop A x y).1 ∧ Y1 = cl_Y w g A Z Y0) := by
  refine hv_ofVx (cc := cX4_isLoop) (own := RX4) (by decide) rfl rfl (Nat.le_of_ble_eq_true rfl) rfl ?_
  intro p e s m below meth c C hret hex
  refine hv_aload_n C dX4_isLoop_0 rfl 0 rfl ?_
  refine hv_iload_n C dX4_isLoop_1 rfl 1 rfl ?_
  refine hv_callVrx (As := [.int (x)]) (rest := []) (n := 1) C (c_X4_basinNumbered l w g A Z Y0 hg hlt x) gX4_isLoop_X4_basinNumbered rfl (by decide +kernel) ⟨Nat.le_of_ble_eq_true rfl, Nat.le_of_ble_eq_true rfl⟩ (cl_rc hg (Or.inl ⟨by decide, rfl⟩) rfl rfl) rfl rfl (Nat.le_of_ble_eq_true rfl) dX4_isLoop_2 ⟨by first | exact Nat.le_of_ble_eq_true rfl | omega | (simp; done) | (simp; omega), by first | exact Nat.le_of_ble_eq_true rfl | omega | (simp; done) | (simp; omega)⟩ (fun E Y1 h => ⟨(⟨h.1, (by first | (simp [q_isLoop, h.2.1]; done) | (unfold q_isLoop; (repeat' split) <;> simp_all))⟩), h.2.2⟩) hex (by first | exact Nat.le_of_ble_eq_true rfl | omega) (by first | exact Nat.le_of_ble_eq_true rfl | omega) (fun r1 Y1 hr => ?_)
  obtain ⟨⟨b, hx, rfl⟩, rfl⟩ := hr
  obtain ⟨hb, rfl⟩ := ix_y hx
  refine hv_astore_n (lv1 := [(0, .ref (g.1 0 0)), (1, .int (nI b)), (2, .int (y)), (3, .ref (g.1 5 b))]) C dX4_isLoop_5 rfl (by decide) [1, 2, 3, 0] rfl ?_
  refine hv_aload_n C dX4_isLoop_6 rfl 3 rfl ?_
  refine hv_aload_n C dX4_isLoop_7 rfl 0 rfl ?_
  refine hv_iload_n C dX4_isLoop_8 rfl 2 rfl ?_
  refine hv_callVrx (As := [.int (y)]) (rest := [.ref (g.1 5 b)]) (n := 1) C (c_X4_basinNumbered l w g A Z Y0 hg hlt y) gX4_isLoop_X4_basinNumbered rfl (by decide +kernel) ⟨Nat.le_of_ble_eq_true rfl, Nat.le_of_ble_eq_true rfl⟩ (cl_rc hg (Or.inl ⟨by decide, rfl⟩) rfl rfl) rfl rfl (Nat.le_of_ble_eq_true rfl) dX4_isLoop_9 ⟨by first | exact Nat.le_of_ble_eq_true rfl | omega | (simp; done) | (simp; omega), by first | exact Nat.le_of_ble_eq_true rfl | omega | (simp; done) | (simp; omega)⟩ (fun E Y1 h => ⟨(⟨h.1, (by first | (simp [q_isLoop, hx, h.2.1]; done) | (unfold q_isLoop; (repeat' split) <;> simp_all))⟩), h.2.2⟩) hex (by first | exact Nat.le_of_ble_eq_true rfl | omega) (by first | exact Nat.le_of_ble_eq_true rfl | omega) (fun r2 Y1 hr => ?_)
  obtain ⟨⟨o, hy, rfl⟩, rfl⟩ := hr
  obtain ⟨ho, rfl⟩ := ix_y hy
  refine hv_callSr (As := [.ref (g.1 5 b), .ref (g.1 5 o)]) (rest := []) (n := 2) C (c_X4_goesRound l w g A Z Y0 hg hI hZ b o hb ho) gX4_isLoop_X4_goesRound rfl (by decide +kernel) ⟨Nat.le_of_ble_eq_true rfl, Nat.le_of_ble_eq_true rfl⟩ rfl rfl (Nat.le_of_ble_eq_true rfl) dX4_isLoop_12 ⟨by first | exact Nat.le_of_ble_eq_true rfl | omega | (simp; done) | (simp; omega), by first | exact Nat.le_of_ble_eq_true rfl | omega | (simp; done) | (simp; omega)⟩ (fun r3 Y1 hr => ?_)
  obtain ⟨rfl, rfl⟩ := hr
  exact hv_zretx C hret b2_nar dX4_isLoop_15 (by first | exact Nat.le_refl _ | decide | omega | (simp; done) | (simp; omega)) (by first | exact Nat.le_refl _ | decide | omega | (simp; done) | (simp; omega)) (by rw [show q_isLoop A (nI b) (nI o) = (0, (nI (b2 (f_walk A o 8 b = true))), A) from by first | (simp [q_isLoop, hx, hy]; done) | (rfl; simp [q_isLoop, hx, hy]; done) | (simp only [q_isLoop, hx, hy]; rfl)]; exact ⟨rfl, rfl, ⟨g, Z, hg, hZ, hF, rfl, rfl⟩⟩)
set_option maxRecDepth 100000 in
set_option maxHeartbeats 4000000 in
theorem c_X4_state (l : Launch) (w : hv_W) (g : cl_g) (A Z : ab_A) (Y0 : hv_H) (hg : cl_ok g (A 4 0) (A 15 0)) (hlt : l.stackTraces = false) (hI : ab_I A) (hZ : cl_Z A Z) (hF : cl_F g Y0) (x : Int32)  : hv_Nr l yX4_state wsX4_state ({ frames := 7, cells := 6, slots := 40, locals := 151 }) w [.ref (g.1 0 0), .int (x)] (cl_Y w g A Z Y0) (fun r Y1 => (q_barge A x 21).1 = 0 ∧ r = .int (q_barge A x 21).2.1 ∧ cl_S w (g.1 0 0) Y0 (q_barge A x 21).2.2 Y1) (fun E Y1 => ec 0 E (q_barge A x 21).1 ∧ Y1 = cl_Y w g A Z Y0) := by
  refine hv_ofVx (cc := cX4_state) (own := RX4) (by decide) rfl rfl (Nat.le_of_ble_eq_true rfl) rfl ?_
  intro p e s m below meth c C hret hex
  have hinX0 : ∀ x ∈ wsX00, x ∈ wsX4_state := by decide +kernel
  refine hv_aload_n C dX4_state_0 rfl 0 rfl ?_
  refine hv_iload_n C dX4_state_1 rfl 1 rfl ?_
  refine hv_callVrx (As := [.int (x)]) (rest := []) (n := 1) C (c_X4_bargeNumbered l w g A Z Y0 hg hlt x hI.2.2.2.2.2.2.1) gX4_state_X4_bargeNumbered rfl (by decide +kernel) ⟨Nat.le_of_ble_eq_true rfl, Nat.le_of_ble_eq_true rfl⟩ (cl_rc hg (Or.inl ⟨by decide, rfl⟩) rfl rfl) rfl rfl (Nat.le_of_ble_eq_true rfl) dX4_state_2 ⟨by first | exact Nat.le_of_ble_eq_true rfl | omega | (simp; done) | (simp; omega), by first | exact Nat.le_of_ble_eq_true rfl | omega | (simp; done) | (simp; omega)⟩ (fun E Y1 h => ⟨(⟨h.1, (by first | (simp [q_barge, h.2.1]; done) | (unfold q_barge; (repeat' split) <;> simp_all))⟩), h.2.2⟩) hex (by first | exact Nat.le_of_ble_eq_true rfl | omega) (by first | exact Nat.le_of_ble_eq_true rfl | omega) (fun r1 Y1 hr => ?_)
  obtain ⟨⟨j, hx, rfl⟩, rfl⟩ := hr
  obtain ⟨hj, rfl⟩ := ix_s (by first | exact Nat.lt_of_le_of_lt hI.2.2.2.1 (by decide) | exact Nat.lt_of_le_of_lt hI.2.2.2.2.2.2.1 (by decide)) hx
  refine hc_get (kd := 14) (i := j) (f := 7) (v := .int (nI (A 21 j))) C hg (Or.inr (Or.inr (Or.inr ⟨Or.inl rfl, by omega⟩))) rfl rfl hinX0 (by decide) (by decide +kernel) rfl rfl dX4_state_5 ?_
  exact hv_iretx C hret dX4_state_8 (by first | exact Nat.le_refl _ | decide | omega | (simp; done) | (simp; omega)) (by first | exact Nat.le_refl _ | decide | omega | (simp; done) | (simp; omega)) (by rw [show q_barge A (nI j) 21 = (0, (nI (A 21 j)), A) from by first | (simp [q_barge, hx]; done) | (skip; simp [q_barge, hx]; done) | (simp only [q_barge, hx]; done)]; exact ⟨rfl, rfl, ⟨g, Z, hg, hZ, hF, rfl, rfl⟩⟩)
set_option maxRecDepth 100000 in
set_option maxHeartbeats 4000000 in
theorem c_X4_hops (l : Launch) (w : hv_W) (g : cl_g) (A Z : ab_A) (Y0 : hv_H) (hg : cl_ok g (A 4 0) (A 15 0)) (hlt : l.stackTraces = false) (hI : ab_I A) (hZ : cl_Z A Z) (hF : cl_F g Y0) (x : Int32)  : hv_Nr l yX4_hops wsX4_hops ({ frames := 7, cells := 6, slots := 40, locals := 151 }) w [.ref (g.1 0 0), .int (x)] (cl_Y w g A Z Y0) (fun r Y1 => (q_barge A x 19).1 = 0 ∧ r = .int (q_barge A x 19).2.1 ∧ cl_S w (g.1 0 0) Y0 (q_barge A x 19).2.2 Y1) (fun E Y1 => ec 0 E (q_barge A x 19).1 ∧ Y1 = cl_Y w g A Z Y0) := by
  refine hv_ofVx (cc := cX4_hops) (own := RX4) (by decide) rfl rfl (Nat.le_of_ble_eq_true rfl) rfl ?_
  intro p e s m below meth c C hret hex
  have hinX0 : ∀ x ∈ wsX00, x ∈ wsX4_hops := by decide +kernel
  refine hv_aload_n C dX4_hops_0 rfl 0 rfl ?_
  refine hv_iload_n C dX4_hops_1 rfl 1 rfl ?_
  refine hv_callVrx (As := [.int (x)]) (rest := []) (n := 1) C (c_X4_bargeNumbered l w g A Z Y0 hg hlt x hI.2.2.2.2.2.2.1) gX4_hops_X4_bargeNumbered rfl (by decide +kernel) ⟨Nat.le_of_ble_eq_true rfl, Nat.le_of_ble_eq_true rfl⟩ (cl_rc hg (Or.inl ⟨by decide, rfl⟩) rfl rfl) rfl rfl (Nat.le_of_ble_eq_true rfl) dX4_hops_2 ⟨by first | exact Nat.le_of_ble_eq_true rfl | omega | (simp; done) | (simp; omega), by first | exact Nat.le_of_ble_eq_true rfl | omega | (simp; done) | (simp; omega)⟩ (fun E Y1 h => ⟨(⟨h.1, (by first | (simp [q_barge, h.2.1]; done) | (unfold q_barge; (repeat' split) <;> simp_all))⟩), h.2.2⟩) hex (by first | exact Nat.le_of_ble_eq_true rfl | omega) (by first | exact Nat.le_of_ble_eq_true rfl | omega) (fun r1 Y1 hr => ?_)
  obtain ⟨⟨j, hx, rfl⟩, rfl⟩ := hr
  obtain ⟨hj, rfl⟩ := ix_s (by first | exact Nat.lt_of_le_of_lt hI.2.2.2.1 (by decide) | exact Nat.lt_of_le_of_lt hI.2.2.2.2.2.2.1 (by decide)) hx
  refine hc_get (kd := 14) (i := j) (f := 5) (v := .int (nI (A 19 j))) C hg (Or.inr (Or.inr (Or.inr ⟨Or.inl rfl, by omega⟩))) rfl rfl hinX0 (by decide) (by decide +kernel) rfl rfl dX4_hops_5 ?_
  exact hv_iretx C hret dX4_hops_8 (by first | exact Nat.le_refl _ | decide | omega | (simp; done) | (simp; omega)) (by first | exact Nat.le_refl _ | decide | omega | (simp; done) | (simp; omega)) (by rw [show q_barge A (nI j) 19 = (0, (nI (A 19 j)), A) from by first | (simp [q_barge, hx]; done) | (skip; simp [q_barge, hx]; done) | (simp only [q_barge, hx]; done)]; exact ⟨rfl, rfl, ⟨g, Z, hg, hZ, hF, rfl, rfl⟩⟩)
set_option maxRecDepth 100000 in
set_option maxHeartbeats 4000000 in
theorem c_X4_life (l : Launch) (w : hv_W) (g : cl_g) (A Z : ab_A) (Y0 : hv_H) (hg : cl_ok g (A 4 0) (A 15 0)) (hlt : l.stackTraces = false) (hI : ab_I A) (hZ : cl_Z A Z) (hF : cl_F g Y0) (x : Int32)  : hv_Nr l yX4_life wsX4_life ({ frames := 7, cells := 6, slots := 40, locals := 151 }) w [.ref (g.1 0 0), .int (x)] (cl_Y w g A Z Y0) (fun r Y1 => (q_barge A x 18).1 = 0 ∧ r = .int (q_barge A x 18).2.1 ∧ cl_S w (g.1 0 0) Y0 (q_barge A x 18).2.2 Y1) (fun E Y1 => ec 0 E (q_barge A x 18).1 ∧ Y1 = cl_Y w g A Z Y0) := by
  refine hv_ofVx (cc := cX4_life) (own := RX4) (by decide) rfl rfl (Nat.le_of_ble_eq_true rfl) rfl ?_
  intro p e s m below meth c C hret hex
  have hinX0 : ∀ x ∈ wsX00, x ∈ wsX4_life := by decide +kernel
  refine hv_aload_n C dX4_life_0 rfl 0 rfl ?_
  refine hv_iload_n C dX4_life_1 rfl 1 rfl ?_
  refine hv_callVrx (As := [.int (x)]) (rest := []) (n := 1) C (c_X4_bargeNumbered l w g A Z Y0 hg hlt x hI.2.2.2.2.2.2.1) gX4_life_X4_bargeNumbered rfl (by decide +kernel) ⟨Nat.le_of_ble_eq_true rfl, Nat.le_of_ble_eq_true rfl⟩ (cl_rc hg (Or.inl ⟨by decide, rfl⟩) rfl rfl) rfl rfl (Nat.le_of_ble_eq_true rfl) dX4_life_2 ⟨by first | exact Nat.le_of_ble_eq_true rfl | omega | (simp; done) | (simp; omega), by first | exact Nat.le_of_ble_eq_true rfl | omega | (simp; done) | (simp; omega)⟩ (fun E Y1 h => ⟨(⟨h.1, (by first | (simp [q_barge, h.2.1]; done) | (unfold q_barge; (repeat' split) <;> simp_all))⟩), h.2.2⟩) hex (by first | exact Nat.le_of_ble_eq_true rfl | omega) (by first | exact Nat.le_of_ble_eq_true rfl | omega) (fun r1 Y1 hr => ?_)
  obtain ⟨⟨j, hx, rfl⟩, rfl⟩ := hr
  obtain ⟨hj, rfl⟩ := ix_s (by first | exact Nat.lt_of_le_of_lt hI.2.2.2.1 (by decide) | exact Nat.lt_of_le_of_lt hI.2.2.2.2.2.2.1 (by decide)) hx
  refine hc_get (kd := 14) (i := j) (f := 4) (v := .int (nI (A 18 j))) C hg (Or.inr (Or.inr (Or.inr ⟨Or.inl rfl, by omega⟩))) rfl rfl hinX0 (by decide) (by decide +kernel) rfl rfl dX4_life_5 ?_
  exact hv_iretx C hret dX4_life_8 (by first | exact Nat.le_refl _ | decide | omega | (simp; done) | (simp; omega)) (by first | exact Nat.le_refl _ | decide | omega | (simp; done) | (simp; omega)) (by rw [show q_barge A (nI j) 18 = (0, (nI (A 18 j)), A) from by first | (simp [q_barge, hx]; done) | (skip; simp [q_barge, hx]; done) | (simp only [q_barge, hx]; done)]; exact ⟨rfl, rfl, ⟨g, Z, hg, hZ, hF, rfl, rfl⟩⟩)
set_option maxRecDepth 100000 in
set_option maxHeartbeats 4000000 in
theorem c_X4_repeats (l : Launch) (w : hv_W) (g : cl_g) (A Z : ab_A) (Y0 : hv_H) (hg : cl_ok g (A 4 0) (A 15 0)) (hlt : l.stackTraces = false) (hI : ab_I A) (hZ : cl_Z A Z) (hF : cl_F g Y0) (x : Int32)  : hv_Nr l yX4_repeats wsX4_repeats ({ frames := 7, cells := 6, slots := 40, locals := 151 }) w [.ref (g.1 0 0), .int (x)] (cl_Y w g A Z Y0) (fun r Y1 => (q_barge A x 20).1 = 0 ∧ r = .int (q_barge A x 20).2.1 ∧ cl_S w (g.1 0 0) Y0 (q_barge A x 20).2.2 Y1) (fun E Y1 => ec 0 E (q_barge A x 20).1 ∧ Y1 = cl_Y w g A Z Y0) := by
  refine hv_ofVx (cc := cX4_repeats) (own := RX4) (by decide) rfl rfl (Nat.le_of_ble_eq_true rfl) rfl ?_
  intro p e s m below meth c C hret hex
  have hinX0 : ∀ x ∈ wsX00, x ∈ wsX4_repeats := by decide +kernel
  refine hv_aload_n C dX4_repeats_0 rfl 0 rfl ?_
  refine hv_iload_n C dX4_repeats_1 rfl 1 rfl ?_
  refine hv_callVrx (As := [.int (x)]) (rest := []) (n := 1) C (c_X4_bargeNumbered l w g A Z Y0 hg hlt x hI.2.2.2.2.2.2.1) gX4_repeats_X4_bargeNumbered rfl (by decide +kernel) ⟨Nat.le_of_ble_eq_true rfl, Nat.le_of_ble_eq_true rfl⟩ (cl_rc hg (Or.inl ⟨by decide, rfl⟩) rfl rfl) rfl rfl (Nat.le_of_ble_eq_true rfl) dX4_repeats_2 ⟨by first | exact Nat.le_of_ble_eq_true rfl | omega | (simp; done) | (simp; omega), by first | exact Nat.le_of_ble_eq_true rfl | omega | (simp; done) | (simp; omega)⟩ (fun E Y1 h => ⟨(⟨h.1, (by first | (simp [q_barge, h.2.1]; done) | (unfold q_barge; (repeat' split) <;> simp_all))⟩), h.2.2⟩) hex (by first | exact Nat.le_of_ble_eq_true rfl | omega) (by first | exact Nat.le_of_ble_eq_true rfl | omega) (fun r1 Y1 hr => ?_)
  obtain ⟨⟨j, hx, rfl⟩, rfl⟩ := hr
  obtain ⟨hj, rfl⟩ := ix_s (by first | exact Nat.lt_of_le_of_lt hI.2.2.2.1 (by decide) | exact Nat.lt_of_le_of_lt hI.2.2.2.2.2.2.1 (by decide)) hx
  refine hc_get (kd := 14) (i := j) (f := 6) (v := .int (nI (A 20 j))) C hg (Or.inr (Or.inr (Or.inr ⟨Or.inl rfl, by omega⟩))) rfl rfl hinX0 (by decide) (by decide +kernel) rfl rfl dX4_repeats_5 ?_
  exact hv_iretx C hret dX4_repeats_8 (by first | exact Nat.le_refl _ | decide | omega | (simp; done) | (simp; omega)) (by first | exact Nat.le_refl _ | decide | omega | (simp; done) | (simp; omega)) (by rw [show q_barge A (nI j) 20 = (0, (nI (A 20 j)), A) from by first | (simp [q_barge, hx]; done) | (skip; simp [q_barge, hx]; done) | (simp only [q_barge, hx]; done)]; exact ⟨rfl, rfl, ⟨g, Z, hg, hZ, hF, rfl, rfl⟩⟩)
set_option maxRecDepth 100000 in
set_option maxHeartbeats 4000000 in
theorem c_X4_basinOf (l : Launch) (w : hv_W) (g : cl_g) (A Z : ab_A) (Y0 : hv_H) (hg : cl_ok g (A 4 0) (A 15 0)) (hlt : l.stackTraces = false) (hI : ab_I A) (hZ : cl_Z A Z) (hF : cl_F g Y0) (x : Int32)  : hv_Nr l yX4_basinOf wsX4_basinOf ({ frames := 7, cells := 6, slots := 40, locals := 151 }) w [.ref (g.1 0 0), .int (x)] (cl_Y w g A Z Y0) (fun r Y1 => (q_barge A x 22).1 = 0 ∧ r = .int (q_barge A x 22).2.1 ∧ cl_S w (g.1 0 0) Y0 (q_barge A x 22).2.2 Y1) (fun E Y1 => ec 0 E (q_barge A x 22).1 ∧ Y1 = cl_Y w g A Z Y0) := by
  refine hv_ofVx (cc := cX4_basinOf) (own := RX4) (by decide) rfl rfl (Nat.le_of_ble_eq_true rfl) rfl ?_
  intro p e s m below meth c C hret hex
  have hinX0 : ∀ x ∈ wsX00, x ∈ wsX4_basinOf := by decide +kernel
  have hinX1 : ∀ x ∈ wsX10, x ∈ wsX4_basinOf := by decide +kernel
  refine hv_aload_n C dX4_basinOf_0 rfl 0 rfl ?_
  refine hv_iload_n C dX4_basinOf_1 rfl 1 rfl ?_
  refine hv_callVrx (As := [.int (x)]) (rest := []) (n := 1) C (c_X4_bargeNumbered l w g A Z Y0 hg hlt x hI.2.2.2.2.2.2.1) gX4_basinOf_X4_bargeNumbered rfl (by decide +kernel) ⟨Nat.le_of_ble_eq_true rfl, Nat.le_of_ble_eq_true rfl⟩ (cl_rc hg (Or.inl ⟨by decide, rfl⟩) rfl rfl) rfl rfl (Nat.le_of_ble_eq_true rfl) dX4_basinOf_2 ⟨by first | exact Nat.le_of_ble_eq_true rfl | omega | (simp; done) | (simp; omega), by first | exact Nat.le_of_ble_eq_true rfl | omega | (simp; done) | (simp; omega)⟩ (fun E Y1 h => ⟨(⟨h.1, (by first | (simp [q_barge, h.2.1]; done) | (unfold q_barge; (repeat' split) <;> simp_all))⟩), h.2.2⟩) hex (by first | exact Nat.le_of_ble_eq_true rfl | omega) (by first | exact Nat.le_of_ble_eq_true rfl | omega) (fun r1 Y1 hr => ?_)
  obtain ⟨⟨j, hx, rfl⟩, rfl⟩ := hr
  obtain ⟨hj, rfl⟩ := ix_s (by first | exact Nat.lt_of_le_of_lt hI.2.2.2.1 (by decide) | exact Nat.lt_of_le_of_lt hI.2.2.2.2.2.2.1 (by decide)) hx
  have h22 := (hI.2.2.2.2.2.2.2.2.1 j hj).2.2.2.1
  refine hc_get (kd := 14) (i := j) (f := 3) (v := .ref (g.1 5 (A 22 j))) C hg (Or.inr (Or.inr (Or.inr ⟨Or.inl rfl, by omega⟩))) rfl rfl hinX0 (by decide) (by decide +kernel) rfl rfl dX4_basinOf_5 ?_
  refine hc_get (kd := 5) (i := A 22 j) (f := 0) (v := .int (nI (A 22 j))) C hg (Or.inr (Or.inl ⟨by decide, by decide, by omega⟩)) rfl rfl hinX1 (by decide) (by decide +kernel) rfl rfl dX4_basinOf_8 ?_
  exact hv_iretx C hret dX4_basinOf_11 (by first | exact Nat.le_refl _ | decide | omega | (simp; done) | (simp; omega)) (by first | exact Nat.le_refl _ | decide | omega | (simp; done) | (simp; omega)) (by rw [show q_barge A (nI j) 22 = (0, (nI (A 22 j)), A) from by first | (simp [q_barge, hx]; done) | (skip; simp [q_barge, hx]; done) | (simp only [q_barge, hx]; done)]; exact ⟨rfl, rfl, ⟨g, Z, hg, hZ, hF, rfl, rfl⟩⟩)
set_option maxRecDepth 100000 in
set_option maxHeartbeats 4000000 in
theorem c_X4_queue (l : Launch) (w : hv_W) (g : cl_g) (A Z : ab_A) (Y0 : hv_H) (hg : cl_ok g (A 4 0) (A 15 0)) (hlt : l.stackTraces = false) (hI : ab_I A) (hZ : cl_Z A Z) (hF : cl_F g Y0) (x : Int32)  : hv_Nr l yX4_queue wsX4_queue ({ frames := 7, cells := 6, slots := 40, locals := 151 }) w [.ref (g.1 0 0), .int (x)] (cl_Y w g A Z Y0) (fun r Y1 => (q_queue A x).1 = 0 ∧ r = .int (q_queue A x).2.1 ∧ cl_S w (g.1 0 0) Y0 (q_queue A x).2.2 Y1) (fun E Y1 => ec 0 E (q_queue A x).1 ∧ Y1 = cl_Y w g A Z Y0) := by
  refine hv_ofVx (cc := cX4_queue) (own := RX4) (by decide) rfl rfl (Nat.le_of_ble_eq_true rfl) rfl ?_
  intro p e s m below meth c C hret hex
  have hinX1 : ∀ x ∈ wsX10, x ∈ wsX4_queue := by decide +kernel
  refine hv_aload_n C dX4_queue_0 rfl 0 rfl ?_
  refine hv_iload_n C dX4_queue_1 rfl 1 rfl ?_
  refine hv_callVrx (As := [.int (x)]) (rest := []) (n := 1) C (c_X4_basinNumbered l w g A Z Y0 hg hlt x) gX4_queue_X4_basinNumbered rfl (by decide +kernel) ⟨Nat.le_of_ble_eq_true rfl, Nat.le_of_ble_eq_true rfl⟩ (cl_rc hg (Or.inl ⟨by decide, rfl⟩) rfl rfl) rfl rfl (Nat.le_of_ble_eq_true rfl) dX4_queue_2 ⟨by first | exact Nat.le_of_ble_eq_true rfl | omega | (simp; done) | (simp; omega), by first | exact Nat.le_of_ble_eq_true rfl | omega | (simp; done) | (simp; omega)⟩ (fun E Y1 h => ⟨(⟨h.1, (by first | (simp [q_queue, h.2.1]; done) | (unfold q_queue; (repeat' split) <;> simp_all))⟩), h.2.2⟩) hex (by first | exact Nat.le_of_ble_eq_true rfl | omega) (by first | exact Nat.le_of_ble_eq_true rfl | omega) (fun r1 Y1 hr => ?_)
  obtain ⟨⟨b, hx, rfl⟩, rfl⟩ := hr
  obtain ⟨hb, rfl⟩ := ix_y hx
  refine hc_get (kd := 5) (i := b) (f := 1) (v := .ref (g.1 6 b)) C hg (Or.inr (Or.inl ⟨by decide, by decide, by omega⟩)) rfl rfl hinX1 (by decide) (by decide +kernel) rfl rfl dX4_queue_5 ?_
  refine hv_callVr (As := []) (rest := []) (n := 0) C (c_Jx4a65c_size_8abf5 l w (cl_Y w g A Z Y0) (g.1 6 b) ((List.range (A 2 b)).map (fun k => g.1 14 (A 3 (6 * b + k)))) (show cl_Y w g A Z Y0 (g.1 6 b) = some (.inr ((List.range (A 2 b)).map (fun k => g.1 14 (A 3 (6 * b + k))))) from cl_at hg (Or.inr (Or.inl ⟨by decide, by decide, by omega⟩)))) gX4_queue_Jx4a65c_size_8abf5 rfl (by decide +kernel) ⟨Nat.le_of_ble_eq_true rfl, Nat.le_of_ble_eq_true rfl⟩ (cl_rcL hg (Or.inr (Or.inl ⟨by decide, by decide, by omega⟩)) rfl) rfl rfl (Nat.le_of_ble_eq_true rfl) dX4_queue_8 ⟨by first | exact Nat.le_of_ble_eq_true rfl | omega | (simp; done) | (simp; omega), by first | exact Nat.le_of_ble_eq_true rfl | omega | (simp; done) | (simp; omega)⟩ (fun r2 Y1 hr => ?_)
  obtain ⟨rfl, rfl⟩ := hr
  refine hv_top (y := nI (A 2 b)) (by rw [cl_lenM]) ?_
  exact hv_iretx C hret dX4_queue_11 (by first | exact Nat.le_refl _ | decide | omega | (simp; done) | (simp; omega)) (by first | exact Nat.le_refl _ | decide | omega | (simp; done) | (simp; omega)) (by rw [show q_queue A (nI b) = (0, (nI (A 2 b)), A) from by first | (simp [q_queue, hx]; done) | (skip; simp [q_queue, hx]; done) | (simp only [q_queue, hx]; done)]; exact ⟨rfl, rfl, ⟨g, Z, hg, hZ, hF, rfl, rfl⟩⟩)
set_option maxRecDepth 100000 in
set_option maxHeartbeats 4000000 in
theorem c_X4_queued (l : Launch) (w : hv_W) (g : cl_g) (A Z : ab_A) (Y0 : hv_H) (hg : cl_ok g (A 4 0) (A 15 0)) (hlt : l.stackTraces = false) (hI : ab_I A) (hZ : cl_Z A Z) (hF : cl_F g Y0) (x y : Int32)  : hv_Nr l yX4_queued wsX4_queued ({ frames := 7, cells := 6, slots := 40, locals := 151 }) w [.ref (g.1 0 0), .int (x), .int (y)] (cl_Y w g A Z Y0) (fun r Y1 => (q_queued A x y).1 = 0 ∧ r = .int (q_queued A x y).2.1 ∧ cl_S w (g.1 0 0) Y0 (q_queued A x y).2.2 Y1) (fun E Y1 => ec 1 E (q_queued A x y).1 ∧ Y1 = cl_Y w g A Z Y0) := by
  refine hv_ofVx (cc := cX4_queued) (own := RX4) (by decide) rfl rfl (Nat.le_of_ble_eq_true rfl) rfl ?_
  intro p e s m below meth c C hret hex
  have hinX0 : ∀ x ∈ wsX00, x ∈ wsX4_queued := by decide +kernel
  have hinX1 : ∀ x ∈ wsX10, x ∈ wsX4_queued := by decide +kernel
  refine hv_aload_n C dX4_queued_0 rfl 0 rfl ?_
  refine hv_iload_n C dX4_queued_1 rfl 1 rfl ?_
  refine hv_callVrx (As := [.int (x)]) (rest := []) (n := 1) C (c_X4_basinNumbered l w g A Z Y0 hg hlt x) gX4_queued_X4_basinNumbered rfl (by decide +kernel) ⟨Nat.le_of_ble_eq_true rfl, Nat.le_of_ble_eq_true rfl⟩ (cl_rc hg (Or.inl ⟨by decide, rfl⟩) rfl rfl) rfl rfl (Nat.le_of_ble_eq_true rfl) dX4_queued_2 ⟨by first | exact Nat.le_of_ble_eq_true rfl | omega | (simp; done) | (simp; omega), by first | exact Nat.le_of_ble_eq_true rfl | omega | (simp; done) | (simp; omega)⟩ (fun E Y1 h => ⟨(Or.inl ⟨h.1, (by first | (simp [q_queued, h.2.1]; done) | (unfold q_queued; (repeat' split) <;> simp_all))⟩), h.2.2⟩) hex (by first | exact Nat.le_of_ble_eq_true rfl | omega) (by first | exact Nat.le_of_ble_eq_true rfl | omega) (fun r1 Y1 hr => ?_)
  obtain ⟨⟨b, hx, rfl⟩, rfl⟩ := hr
  obtain ⟨hb, rfl⟩ := ix_y hx
  refine hv_astore_n (lv1 := [(0, .ref (g.1 0 0)), (1, .int (nI b)), (2, .int (y)), (3, .ref (g.1 5 b))]) C dX4_queued_5 rfl (by decide) [1, 2, 3, 0] rfl ?_
  have h2b := (hI.1 b hb).2.2.2.2
  refine hv_iload_n C dX4_queued_6 rfl 2 rfl ?_
  refine hv_if_ge (tgt := 20) C dX4_queued_7 (by decide) (fun h2 => ?_) (fun h2 => ?_)
  · skip
    obtain ⟨j, hj, rfl⟩ := nI_pos_of h2
    refine hv_iload_n C dX4_queued_20 rfl 2 rfl ?_
    refine hv_aload_n C dX4_queued_21 rfl 3 rfl ?_
    refine hc_get (kd := 5) (i := b) (f := 1) (v := .ref (g.1 6 b)) C hg (Or.inr (Or.inl ⟨by decide, by decide, by omega⟩)) rfl rfl hinX1 (by decide) (by decide +kernel) rfl rfl dX4_queued_22 ?_
    refine hv_callVr (As := []) (rest := [.int (nI j)]) (n := 0) C (c_Jx4a65c_size_8abf5 l w (cl_Y w g A Z Y0) (g.1 6 b) ((List.range (A 2 b)).map (fun k => g.1 14 (A 3 (6 * b + k)))) (show cl_Y w g A Z Y0 (g.1 6 b) = some (.inr ((List.range (A 2 b)).map (fun k => g.1 14 (A 3 (6 * b + k))))) from cl_at hg (Or.inr (Or.inl ⟨by decide, by decide, by omega⟩)))) gX4_queued_Jx4a65c_size_8abf5 rfl (by decide +kernel) ⟨Nat.le_of_ble_eq_true rfl, Nat.le_of_ble_eq_true rfl⟩ (cl_rcL hg (Or.inr (Or.inl ⟨by decide, by decide, by omega⟩)) rfl) rfl rfl (Nat.le_of_ble_eq_true rfl) dX4_queued_25 ⟨by first | exact Nat.le_of_ble_eq_true rfl | omega | (simp; done) | (simp; omega), by first | exact Nat.le_of_ble_eq_true rfl | omega | (simp; done) | (simp; omega)⟩ (fun r3 Y1 hr => ?_)
    obtain ⟨rfl, rfl⟩ := hr
    refine hv_top (y := nI (A 2 b)) (by rw [cl_lenM]) ?_
    refine hv_icmpN_ge (tgt := 48) C dX4_queued_28 (by decide) (by omega) (by omega) (fun h4 => ?_) (fun h4 => ?_)
    · skip
      refine hv_iconst (v := nI 0 + (-1)) C dX4_queued_48 (by decide) ?_
      exact hv_iretx C hret dX4_queued_49 (by first | exact Nat.le_refl _ | decide | omega | (simp; done) | (simp; omega)) (by first | exact Nat.le_refl _ | decide | omega | (simp; done) | (simp; omega)) (by rw [show q_queued A (nI b) (nI j) = (0, (nI (0) + (-1)), A) from by rw [q_queued_1 hx hj (by omega), if_neg (by omega)]]; exact ⟨rfl, rfl, ⟨g, Z, hg, hZ, hF, rfl, rfl⟩⟩)
    · skip
      obtain ⟨z15, -⟩ := hI.2.1 b j hb (by omega)
      refine hv_aload_n C dX4_queued_31 rfl 3 rfl ?_
      refine hc_get (kd := 5) (i := b) (f := 1) (v := .ref (g.1 6 b)) C hg (Or.inr (Or.inl ⟨by decide, by decide, by omega⟩)) rfl rfl hinX1 (by decide) (by decide +kernel) rfl rfl dX4_queued_32 ?_
      refine hv_iload_n C dX4_queued_35 rfl 2 rfl ?_
      refine hv_callVr (As := [.int (nI j)]) (rest := []) (n := 1) C (c_Jx4a65c_get_915e3 l w (cl_Y w g A Z Y0) (g.1 6 b) ((List.range (A 2 b)).map (fun k => g.1 14 (A 3 (6 * b + k)))) (show cl_Y w g A Z Y0 (g.1 6 b) = some (.inr ((List.range (A 2 b)).map (fun k => g.1 14 (A 3 (6 * b + k))))) from cl_at hg (Or.inr (Or.inl ⟨by decide, by decide, by omega⟩))) (by rw [cl_lenM]; omega) j (g.1 14 (A 3 (6 * b + j))) (cl_getM (by omega))) gX4_queued_Jx4a65c_get_915e3 rfl (by decide +kernel) ⟨Nat.le_of_ble_eq_true rfl, Nat.le_of_ble_eq_true rfl⟩ (cl_rcL hg (Or.inr (Or.inl ⟨by decide, by decide, by omega⟩)) rfl) rfl rfl (Nat.le_of_ble_eq_true rfl) dX4_queued_36 ⟨by first | exact Nat.le_of_ble_eq_true rfl | omega | (simp; done) | (simp; omega), by first | exact Nat.le_of_ble_eq_true rfl | omega | (simp; done) | (simp; omega)⟩ (fun r5 Y1 hr => ?_)
      obtain ⟨rfl, rfl⟩ := hr
      refine hv_cast (ci := 1) C rfl ((cl_at hg (Or.inr (Or.inr (Or.inr ⟨Or.inl rfl, by omega⟩)))).trans rfl) (by decide +kernel) dX4_queued_39 ?_
      refine hc_get (kd := 14) (i := A 3 (6 * b + j)) (f := 0) (v := .int (nI (A 3 (6 * b + j)))) C hg (Or.inr (Or.inr (Or.inr ⟨Or.inl rfl, by omega⟩))) rfl rfl hinX0 (by decide) (by decide +kernel) rfl rfl dX4_queued_42 ?_
      refine hv_goto (tgt := 49) C dX4_queued_45 (by decide) ?_
      exact hv_iretx C hret dX4_queued_49 (by first | exact Nat.le_refl _ | decide | omega | (simp; done) | (simp; omega)) (by first | exact Nat.le_refl _ | decide | omega | (simp; done) | (simp; omega)) (by rw [show q_queued A (nI b) (nI j) = (0, (nI (A 3 (6 * b + j))), A) from by rw [q_queued_1 hx hj (by omega), if_pos (by omega)]]; exact ⟨rfl, rfl, ⟨g, Z, hg, hZ, hF, rfl, rfl⟩⟩)
  · skip
    exact hv_throw (ik := 36) (is := 175) (ic := 40) (cls := hv_IA) (text := "places begin at 0") (names := hv_RE) C hlt (by decide) (by decide) (by decide +kernel) (by decide +kernel) rfl (by decide) (by decide +kernel) (by decide +kernel) (by decide +kernel) dX4_queued_10 dX4_queued_13 dX4_queued_14 dX4_queued_16 dX4_queued_19 hex (by decide) (Nat.le_of_ble_eq_true rfl) (Nat.le_of_ble_eq_true rfl) (Nat.le_of_ble_eq_true rfl) (Nat.le_of_ble_eq_true rfl) (Nat.le_of_ble_eq_true rfl) ⟨(Or.inr ⟨rfl, (by rw [q_queued_2 hx (Int32.not_le.mp h2)])⟩), rfl⟩
set_option maxRecDepth 100000 in
set_option maxHeartbeats 4000000 in
theorem c_X4_canals (l : Launch) (w : hv_W) (g : cl_g) (A Z : ab_A) (Y0 : hv_H) (hg : cl_ok g (A 4 0) (A 15 0))  : hv_Mr l yX4_canals wsX4_canals ({ frames := 1, cells := 0, slots := 0, locals := 20 }) w [.ref (g.1 0 0)] (cl_Y w g A Z Y0) (fun r Y1 => r = .int (nI (A 4 0)) ∧ Y1 = cl_Y w g A Z Y0) := by
  refine hv_ofV (cc := cX4_canals) (own := RX4) (by decide) rfl rfl (Nat.le_of_ble_eq_true rfl) rfl ?_
  intro p e s m below meth c C hret hnm
  have hinX4 : ∀ x ∈ wsX40, x ∈ wsX4_canals := by decide +kernel
  refine hv_aload_n C dX4_canals_0 rfl 0 rfl ?_
  refine hc_get (kd := 0) (i := 0) (f := 1) (v := .ref (g.1 2 0)) C hg (Or.inl ⟨by decide, rfl⟩) rfl rfl hinX4 (by decide) (by decide +kernel) rfl rfl dX4_canals_1 ?_
  refine hv_callVr (As := []) (rest := []) (n := 0) C (c_Jx4a65c_size_8abf5 l w (cl_Y w g A Z Y0) (g.1 2 0) ((List.range (A 4 0)).map (g.1 13)) (show cl_Y w g A Z Y0 (g.1 2 0) = some (.inr ((List.range (A 4 0)).map (g.1 13))) from cl_at hg (Or.inl ⟨by decide, rfl⟩))) gX4_canals_Jx4a65c_size_8abf5 rfl (by decide +kernel) ⟨Nat.le_of_ble_eq_true rfl, Nat.le_of_ble_eq_true rfl⟩ (cl_rcL hg (Or.inl ⟨by decide, rfl⟩) rfl) rfl rfl (Nat.le_of_ble_eq_true rfl) dX4_canals_4 ⟨by first | exact Nat.le_of_ble_eq_true rfl | omega | (simp; done) | (simp; omega), by first | exact Nat.le_of_ble_eq_true rfl | omega | (simp; done) | (simp; omega)⟩ (fun r1 Y1 hr => ?_)
  obtain ⟨rfl, rfl⟩ := hr
  refine hv_top (y := nI (A 4 0)) (by rw [cl_lenM]) ?_
  exact hv_iret C hret dX4_canals_7 (by first | exact Nat.le_refl _ | decide | omega | (simp; done) | (simp; omega)) (by first | exact Nat.le_refl _ | decide | omega | (simp; done) | (simp; omega)) ⟨rfl, rfl⟩
set_option maxRecDepth 100000 in
set_option maxHeartbeats 4000000 in
theorem c_X4_barges (l : Launch) (w : hv_W) (g : cl_g) (A Z : ab_A) (Y0 : hv_H) (hg : cl_ok g (A 4 0) (A 15 0))  : hv_Mr l yX4_barges wsX4_barges ({ frames := 1, cells := 0, slots := 0, locals := 20 }) w [.ref (g.1 0 0)] (cl_Y w g A Z Y0) (fun r Y1 => r = .int (nI (A 15 0)) ∧ Y1 = cl_Y w g A Z Y0) := by
  refine hv_ofV (cc := cX4_barges) (own := RX4) (by decide) rfl rfl (Nat.le_of_ble_eq_true rfl) rfl ?_
  intro p e s m below meth c C hret hnm
  have hinX4 : ∀ x ∈ wsX40, x ∈ wsX4_barges := by decide +kernel
  refine hv_aload_n C dX4_barges_0 rfl 0 rfl ?_
  refine hc_get (kd := 0) (i := 0) (f := 2) (v := .ref (g.1 3 0)) C hg (Or.inl ⟨by decide, rfl⟩) rfl rfl hinX4 (by decide) (by decide +kernel) rfl rfl dX4_barges_1 ?_
  refine hv_callVr (As := []) (rest := []) (n := 0) C (c_Jx4a65c_size_8abf5 l w (cl_Y w g A Z Y0) (g.1 3 0) ((List.range (A 15 0)).map (g.1 14)) (show cl_Y w g A Z Y0 (g.1 3 0) = some (.inr ((List.range (A 15 0)).map (g.1 14))) from cl_at hg (Or.inl ⟨by decide, rfl⟩))) gX4_barges_Jx4a65c_size_8abf5 rfl (by decide +kernel) ⟨Nat.le_of_ble_eq_true rfl, Nat.le_of_ble_eq_true rfl⟩ (cl_rcL hg (Or.inl ⟨by decide, rfl⟩) rfl) rfl rfl (Nat.le_of_ble_eq_true rfl) dX4_barges_4 ⟨by first | exact Nat.le_of_ble_eq_true rfl | omega | (simp; done) | (simp; omega), by first | exact Nat.le_of_ble_eq_true rfl | omega | (simp; done) | (simp; omega)⟩ (fun r1 Y1 hr => ?_)
  obtain ⟨rfl, rfl⟩ := hr
  refine hv_top (y := nI (A 15 0)) (by rw [cl_lenM]) ?_
  exact hv_iret C hret dX4_barges_7 (by first | exact Nat.le_refl _ | decide | omega | (simp; done) | (simp; omega)) (by first | exact Nat.le_refl _ | decide | omega | (simp; done) | (simp; omega)) ⟨rfl, rfl⟩
set_option maxRecDepth 100000 in
set_option maxHeartbeats 4000000 in
theorem c_X4_spilt (l : Launch) (w : hv_W) (g : cl_g) (A Z : ab_A) (Y0 : hv_H) (hg : cl_ok g (A 4 0) (A 15 0))  : hv_Mr l yX4_spilt wsX4_spilt ({ frames := 0, cells := 0, slots := 0, locals := 0 }) w [.ref (g.1 0 0)] (cl_Y w g A Z Y0) (fun r Y1 => r = .int (nI (A 10 0)) ∧ Y1 = cl_Y w g A Z Y0) := by
  refine hv_ofV (cc := cX4_spilt) (own := RX4) (by decide) rfl rfl (Nat.le_of_ble_eq_true rfl) rfl ?_
  intro p e s m below meth c C hret hnm
  have hinX4 : ∀ x ∈ wsX40, x ∈ wsX4_spilt := by decide +kernel
  refine hv_aload_n C dX4_spilt_0 rfl 0 rfl ?_
  refine hc_get (kd := 0) (i := 0) (f := 4) (v := .int (nI (A 10 0))) C hg (Or.inl ⟨by decide, rfl⟩) rfl rfl hinX4 (by decide) (by decide +kernel) rfl rfl dX4_spilt_1 ?_
  exact hv_iret C hret dX4_spilt_4 (by first | exact Nat.le_refl _ | decide | omega | (simp; done) | (simp; omega)) (by first | exact Nat.le_refl _ | decide | omega | (simp; done) | (simp; omega)) ⟨rfl, rfl⟩
set_option maxRecDepth 100000 in
set_option maxHeartbeats 4000000 in
theorem c_X4_ticks (l : Launch) (w : hv_W) (g : cl_g) (A Z : ab_A) (Y0 : hv_H) (hg : cl_ok g (A 4 0) (A 15 0))  : hv_Mr l yX4_ticks wsX4_ticks ({ frames := 0, cells := 0, slots := 0, locals := 0 }) w [.ref (g.1 0 0)] (cl_Y w g A Z Y0) (fun r Y1 => r = .int (nI (A 16 0)) ∧ Y1 = cl_Y w g A Z Y0) := by
  refine hv_ofV (cc := cX4_ticks) (own := RX4) (by decide) rfl rfl (Nat.le_of_ble_eq_true rfl) rfl ?_
  intro p e s m below meth c C hret hnm
  have hinX4 : ∀ x ∈ wsX40, x ∈ wsX4_ticks := by decide +kernel
  refine hv_aload_n C dX4_ticks_0 rfl 0 rfl ?_
  refine hc_get (kd := 0) (i := 0) (f := 5) (v := .int (nI (A 16 0))) C hg (Or.inl ⟨by decide, rfl⟩) rfl rfl hinX4 (by decide) (by decide +kernel) rfl rfl dX4_ticks_1 ?_
  exact hv_iret C hret dX4_ticks_4 (by first | exact Nat.le_refl _ | decide | omega | (simp; done) | (simp; omega)) (by first | exact Nat.le_refl _ | decide | omega | (simp; done) | (simp; omega)) ⟨rfl, rfl⟩
set_option maxRecDepth 100000 in
set_option maxHeartbeats 4000000 in
theorem c_X4_allWater (l : Launch) (w : hv_W) (g : cl_g) (A Z : ab_A) (Y0 : hv_H) (hg : cl_ok g (A 4 0) (A 15 0))  : hv_Mr l yX4_allWater wsX4_allWater ({ frames := 0, cells := 0, slots := 0, locals := 0 }) w [.ref (g.1 0 0)] (cl_Y w g A Z Y0) (fun r Y1 => r = .int (nI (f_all A 8)) ∧ Y1 = cl_Y w g A Z Y0) := by
  refine hv_ofV (cc := cX4_allWater) (own := RX4) (by decide) rfl rfl (Nat.le_of_ble_eq_true rfl) rfl ?_
  intro p e s m below meth c C hret hnm
  have hinX1 : ∀ x ∈ wsX10, x ∈ wsX4_allWater := by decide +kernel
  have hinX4 : ∀ x ∈ wsX40, x ∈ wsX4_allWater := by decide +kernel
  refine hv_iconst (v := nI 0) C dX4_allWater_0 (by decide) ?_
  refine hv_istore_n (lv1 := [(0, .ref (g.1 0 0)), (1, .int (nI 0))]) C dX4_allWater_1 rfl (by decide) [1, 0] rfl ?_
  refine hv_iconst (v := nI 0) C dX4_allWater_2 (by decide) ?_
  refine hv_istore_n (lv1 := [(0, .ref (g.1 0 0)), (1, .int (nI 0)), (2, .int (nI 0))]) C dX4_allWater_3 rfl (by decide) [1, 2, 0] rfl ?_
  refine hv_loop 8 (fun i => cl_Y w g A Z Y0) (fun i => [(0, .ref (g.1 0 0)), (1, .int (nI (f_all A i))), (2, .int (nI i))]) ?_ ?_
  · skip
    refine hv_iload_n C dX4_allWater_4 rfl 2 rfl ?_
    refine hv_bipush (v := nI 8) C dX4_allWater_5 (by decide) ?_
    refine hv_icmpN_ge (tgt := 28) C dX4_allWater_7 (by decide) (by omega) (by omega) (fun _ => ?_) (fun h => absurd h (by decide))
    refine hv_iload_n C dX4_allWater_28 rfl 1 rfl ?_
    exact hv_iret C hret dX4_allWater_29 (by first | exact Nat.le_refl _ | decide | omega | (simp; done) | (simp; omega)) (by first | exact Nat.le_refl _ | decide | omega | (simp; done) | (simp; omega)) ⟨rfl, rfl⟩
  · intro i hi ih
    refine hv_iload_n C dX4_allWater_4 rfl 2 rfl ?_
    refine hv_bipush (v := nI 8) C dX4_allWater_5 (by decide) ?_
    refine hv_icmpN_ge (tgt := 28) C dX4_allWater_7 (by decide) (by omega) (by omega) (fun h2 => ?_) (fun h2 => ?_)
    · skip
      exact absurd h2 (by omega)
    · skip
      refine hv_iload_n C dX4_allWater_10 rfl 1 rfl ?_
      refine hv_aload_n C dX4_allWater_11 rfl 0 rfl ?_
      refine hc_get (kd := 0) (i := 0) (f := 0) (v := .ref (g.1 1 0)) C hg (Or.inl ⟨by decide, rfl⟩) rfl rfl hinX4 (by decide) (by decide +kernel) rfl rfl dX4_allWater_12 ?_
      refine hv_iload_n C dX4_allWater_15 rfl 2 rfl ?_
      refine hc_bas (j := i) C hg (by omega) dX4_allWater_16 ?_
      refine hc_get (kd := 5) (i := i) (f := 2) (v := .int (nI (A 0 i))) C hg (Or.inr (Or.inl ⟨by decide, by decide, by omega⟩)) rfl rfl hinX1 (by decide) (by decide +kernel) rfl rfl dX4_allWater_17 ?_
      refine hv_iaddN C dX4_allWater_20 ?_
      refine hv_istore_n (lv1 := [(0, .ref (g.1 0 0)), (1, .int (nI ((f_all A i) + (A 0 i)))), (2, .int (nI i))]) C dX4_allWater_21 rfl (by decide) [1, 0, 2] rfl ?_
      refine hv_iinc (v := nI (i + 1)) (lv1 := [(0, .ref (g.1 0 0)), (1, .int (nI ((f_all A i) + (A 0 i)))), (2, .int (nI (i + 1)))]) C dX4_allWater_22 (k := 2) rfl (nI_1 _) (by decide) [1, 2, 0] rfl ?_
      refine hv_goto (tgt := 4) C dX4_allWater_25 (by decide) ?_
      exact ih
set_option maxRecDepth 100000 in
set_option maxHeartbeats 4000000 in
theorem c_X4_countLowBasins (l : Launch) (w : hv_W) (g : cl_g) (A Z : ab_A) (Y0 : hv_H) (hg : cl_ok g (A 4 0) (A 15 0)) (h0 : ∀ b, b < 8 → A 0 b ≤ 200) : hv_Mr l yX4_countLowBasins wsX4_countLowBasins ({ frames := 0, cells := 0, slots := 0, locals := 0 }) w [.ref (g.1 0 0)] (cl_Y w g A Z Y0) (fun r Y1 => r = .int (nI (f_low A 8)) ∧ Y1 = cl_Y w g A Z Y0) := by
  refine hv_ofV (cc := cX4_countLowBasins) (own := RX4) (by decide) rfl rfl (Nat.le_of_ble_eq_true rfl) rfl ?_
  intro p e s m below meth c C hret hnm
  have hinX1 : ∀ x ∈ wsX10, x ∈ wsX4_countLowBasins := by decide +kernel
  have hinX4 : ∀ x ∈ wsX40, x ∈ wsX4_countLowBasins := by decide +kernel
  refine hv_iconst (v := nI 0) C dX4_countLowBasins_0 (by decide) ?_
  refine hv_istore_n (lv1 := [(0, .ref (g.1 0 0)), (1, .int (nI 0))]) C dX4_countLowBasins_1 rfl (by decide) [1, 0] rfl ?_
  refine hv_iconst (v := nI 0) C dX4_countLowBasins_2 (by decide) ?_
  refine hv_istore_n (lv1 := [(0, .ref (g.1 0 0)), (1, .int (nI 0)), (2, .int (nI 0))]) C dX4_countLowBasins_3 rfl (by decide) [1, 2, 0] rfl ?_
  refine hv_loop 8 (fun i => cl_Y w g A Z Y0) (fun i => [(0, .ref (g.1 0 0)), (1, .int (nI (f_low A i))), (2, .int (nI i))]) ?_ ?_
  · skip
    refine hv_iload_n C dX4_countLowBasins_4 rfl 2 rfl ?_
    refine hv_bipush (v := nI 8) C dX4_countLowBasins_5 (by decide) ?_
    refine hv_icmpN_ge (tgt := 33) C dX4_countLowBasins_7 (by decide) (by omega) (by omega) (fun _ => ?_) (fun h => absurd h (by decide))
    refine hv_iload_n C dX4_countLowBasins_33 rfl 1 rfl ?_
    exact hv_iret C hret dX4_countLowBasins_34 (by first | exact Nat.le_refl _ | decide | omega | (simp; done) | (simp; omega)) (by first | exact Nat.le_refl _ | decide | omega | (simp; done) | (simp; omega)) ⟨rfl, rfl⟩
  · intro i hi ih
    have h0i := h0 i hi
    have hlo := f_low_le A i
    refine hv_iload_n C dX4_countLowBasins_4 rfl 2 rfl ?_
    refine hv_bipush (v := nI 8) C dX4_countLowBasins_5 (by decide) ?_
    refine hv_icmpN_ge (tgt := 33) C dX4_countLowBasins_7 (by decide) (by omega) (by omega) (fun h2 => ?_) (fun h2 => ?_)
    · skip
      exact absurd h2 (by omega)
    · skip
      refine hv_aload_n C dX4_countLowBasins_10 rfl 0 rfl ?_
      refine hc_get (kd := 0) (i := 0) (f := 0) (v := .ref (g.1 1 0)) C hg (Or.inl ⟨by decide, rfl⟩) rfl rfl hinX4 (by decide) (by decide +kernel) rfl rfl dX4_countLowBasins_11 ?_
      refine hv_iload_n C dX4_countLowBasins_14 rfl 2 rfl ?_
      refine hc_bas (j := i) C hg (by omega) dX4_countLowBasins_15 ?_
      refine hc_get (kd := 5) (i := i) (f := 2) (v := .int (nI (A 0 i))) C hg (Or.inr (Or.inl ⟨by decide, by decide, by omega⟩)) rfl rfl hinX1 (by decide) (by decide +kernel) rfl rfl dX4_countLowBasins_16 ?_
      refine hv_bipush (v := nI 30) C dX4_countLowBasins_19 (by decide) ?_
      refine hv_icmpN_ge (tgt := 27) C dX4_countLowBasins_21 (by decide) (by omega) (by omega) (fun h3 => ?_) (fun h3 => ?_)
      · skip
        refine hv_iinc (v := nI (i + 1)) (lv1 := [(0, .ref (g.1 0 0)), (1, .int (nI (f_low A i))), (2, .int (nI (i + 1)))]) C dX4_countLowBasins_27 (k := 2) rfl (nI_1 _) (by decide) [1, 2, 0] rfl ?_
        refine hv_goto (tgt := 4) C dX4_countLowBasins_30 (by decide) ?_
        exact hv_fin ih rfl (by rw [show f_low A (i + 1) = f_low A i + b2 (A 0 i < 30) from rfl, b2_f (by omega)]; rfl)
      · skip
        refine hv_iinc (v := nI (f_low A i + 1)) (lv1 := [(0, .ref (g.1 0 0)), (1, .int (nI (f_low A i + 1))), (2, .int (nI i))]) C dX4_countLowBasins_24 (k := 1) rfl (nI_1 _) (by decide) [1, 0, 2] rfl ?_
        refine hv_iinc (v := nI (i + 1)) (lv1 := [(0, .ref (g.1 0 0)), (1, .int (nI (f_low A i + 1))), (2, .int (nI (i + 1)))]) C dX4_countLowBasins_27 (k := 2) rfl (nI_1 _) (by decide) [1, 2, 0] rfl ?_
        refine hv_goto (tgt := 4) C dX4_countLowBasins_30 (by decide) ?_
        exact hv_fin ih rfl (by rw [show f_low A (i + 1) = f_low A i + b2 (A 0 i < 30) from rfl, b2_t (by omega)])
set_option maxRecDepth 100000 in
set_option maxHeartbeats 4000000 in
theorem c_X4_laidBy (l : Launch) (w : hv_W) (g : cl_g) (A Z : ab_A) (Y0 : hv_H) (hg : cl_ok g (A 4 0) (A 15 0)) (hI : ab_I A) : hv_Mr l yX4_laidBy wsX4_laidBy ({ frames := 4, cells := 0, slots := 0, locals := 104 }) w [.ref (g.1 0 0)] (cl_Y w g A Z Y0) (fun r Y1 => r = .int (nI (f_laid A (A 15 0))) ∧ Y1 = cl_Y w g A Z Y0) := by
  refine hv_ofV (cc := cX4_laidBy) (own := RX4) (by decide) rfl rfl (Nat.le_of_ble_eq_true rfl) rfl ?_
  intro p e s m below meth c C hret hnm
  have hinX0 : ∀ x ∈ wsX00, x ∈ wsX4_laidBy := by decide +kernel
  have hinX4 : ∀ x ∈ wsX40, x ∈ wsX4_laidBy := by decide +kernel
  have h15 := hI.2.2.2.2.2.2.1
  refine hv_iconst (v := nI 0) C dX4_laidBy_0 (by decide) ?_
  refine hv_istore_n (lv1 := [(0, .ref (g.1 0 0)), (1, .int (nI 0))]) C dX4_laidBy_1 rfl (by decide) [1, 0] rfl ?_
  refine hv_iconst (v := nI 0) C dX4_laidBy_2 (by decide) ?_
  refine hv_istore_n (lv1 := [(0, .ref (g.1 0 0)), (1, .int (nI 0)), (2, .int (nI 0))]) C dX4_laidBy_3 rfl (by decide) [1, 2, 0] rfl ?_
  refine hv_loop (A 15 0) (fun i => cl_Y w g A Z Y0) (fun i => [(0, .ref (g.1 0 0)), (1, .int (nI (f_laid A i))), (2, .int (nI i))]) ?_ ?_
  · skip
    refine hv_iload_n C dX4_laidBy_4 rfl 2 rfl ?_
    refine hv_aload_n C dX4_laidBy_5 rfl 0 rfl ?_
    refine hc_get (kd := 0) (i := 0) (f := 2) (v := .ref (g.1 3 0)) C hg (Or.inl ⟨by decide, rfl⟩) rfl rfl hinX4 (by decide) (by decide +kernel) rfl rfl dX4_laidBy_6 ?_
    refine hv_callVr (As := []) (rest := [.int (nI (A 15 0))]) (n := 0) C (c_Jx4a65c_size_8abf5 l w (cl_Y w g A Z Y0) (g.1 3 0) ((List.range (A 15 0)).map (g.1 14)) (show cl_Y w g A Z Y0 (g.1 3 0) = some (.inr ((List.range (A 15 0)).map (g.1 14))) from cl_at hg (Or.inl ⟨by decide, rfl⟩))) gX4_laidBy_Jx4a65c_size_8abf5 rfl (by decide +kernel) ⟨Nat.le_of_ble_eq_true rfl, Nat.le_of_ble_eq_true rfl⟩ (cl_rcL hg (Or.inl ⟨by decide, rfl⟩) rfl) rfl rfl (Nat.le_of_ble_eq_true rfl) dX4_laidBy_9 ⟨by first | exact Nat.le_of_ble_eq_true rfl | omega | (simp; done) | (simp; omega), by first | exact Nat.le_of_ble_eq_true rfl | omega | (simp; done) | (simp; omega)⟩ (fun r1 Y1 hr => ?_)
    obtain ⟨rfl, rfl⟩ := hr
    refine hv_top (y := nI (A 15 0)) (by rw [cl_lenM]) ?_
    refine hv_icmpN_ge (tgt := 42) C dX4_laidBy_12 (by decide) (by omega) (by omega) (fun h2 => ?_) (fun h2 => ?_)
    · skip
      refine hv_iload_n C dX4_laidBy_42 rfl 1 rfl ?_
      exact hv_iret C hret dX4_laidBy_43 (by first | exact Nat.le_refl _ | decide | omega | (simp; done) | (simp; omega)) (by first | exact Nat.le_refl _ | decide | omega | (simp; done) | (simp; omega)) ⟨rfl, rfl⟩
    · skip
      exact absurd h2 (by omega)
  · intro i hi ih
    have h21 := (hI.2.2.2.2.2.2.2.2.1 i hi).2.2.1
    refine hv_iload_n C dX4_laidBy_4 rfl 2 rfl ?_
    refine hv_aload_n C dX4_laidBy_5 rfl 0 rfl ?_
    refine hc_get (kd := 0) (i := 0) (f := 2) (v := .ref (g.1 3 0)) C hg (Or.inl ⟨by decide, rfl⟩) rfl rfl hinX4 (by decide) (by decide +kernel) rfl rfl dX4_laidBy_6 ?_
    refine hv_callVr (As := []) (rest := [.int (nI i)]) (n := 0) C (c_Jx4a65c_size_8abf5 l w (cl_Y w g A Z Y0) (g.1 3 0) ((List.range (A 15 0)).map (g.1 14)) (show cl_Y w g A Z Y0 (g.1 3 0) = some (.inr ((List.range (A 15 0)).map (g.1 14))) from cl_at hg (Or.inl ⟨by decide, rfl⟩))) gX4_laidBy_Jx4a65c_size_8abf5 rfl (by decide +kernel) ⟨Nat.le_of_ble_eq_true rfl, Nat.le_of_ble_eq_true rfl⟩ (cl_rcL hg (Or.inl ⟨by decide, rfl⟩) rfl) rfl rfl (Nat.le_of_ble_eq_true rfl) dX4_laidBy_9 ⟨by first | exact Nat.le_of_ble_eq_true rfl | omega | (simp; done) | (simp; omega), by first | exact Nat.le_of_ble_eq_true rfl | omega | (simp; done) | (simp; omega)⟩ (fun r3 Y1 hr => ?_)
    obtain ⟨rfl, rfl⟩ := hr
    refine hv_top (y := nI (A 15 0)) (by rw [cl_lenM]) ?_
    refine hv_icmpN_ge (tgt := 42) C dX4_laidBy_12 (by decide) (by omega) (by omega) (fun h4 => ?_) (fun h4 => ?_)
    · skip
      exact absurd h4 (by omega)
    · skip
      refine hv_aload_n C dX4_laidBy_15 rfl 0 rfl ?_
      refine hc_get (kd := 0) (i := 0) (f := 2) (v := .ref (g.1 3 0)) C hg (Or.inl ⟨by decide, rfl⟩) rfl rfl hinX4 (by decide) (by decide +kernel) rfl rfl dX4_laidBy_16 ?_
      refine hv_iload_n C dX4_laidBy_19 rfl 2 rfl ?_
      refine hv_callVr (As := [.int (nI i)]) (rest := []) (n := 1) C (c_Jx4a65c_get_915e3 l w (cl_Y w g A Z Y0) (g.1 3 0) ((List.range (A 15 0)).map (g.1 14)) (show cl_Y w g A Z Y0 (g.1 3 0) = some (.inr ((List.range (A 15 0)).map (g.1 14))) from cl_at hg (Or.inl ⟨by decide, rfl⟩)) (by rw [cl_lenM]; omega) i (g.1 14 i) (cl_getM (by omega))) gX4_laidBy_Jx4a65c_get_915e3 rfl (by decide +kernel) ⟨Nat.le_of_ble_eq_true rfl, Nat.le_of_ble_eq_true rfl⟩ (cl_rcL hg (Or.inl ⟨by decide, rfl⟩) rfl) rfl rfl (Nat.le_of_ble_eq_true rfl) dX4_laidBy_20 ⟨by first | exact Nat.le_of_ble_eq_true rfl | omega | (simp; done) | (simp; omega), by first | exact Nat.le_of_ble_eq_true rfl | omega | (simp; done) | (simp; omega)⟩ (fun r5 Y1 hr => ?_)
      obtain ⟨rfl, rfl⟩ := hr
      refine hv_cast (ci := 1) C rfl ((cl_at hg (Or.inr (Or.inr (Or.inr ⟨Or.inl rfl, by omega⟩)))).trans rfl) (by decide +kernel) dX4_laidBy_23 ?_
      refine hc_get (kd := 14) (i := i) (f := 7) (v := .int (nI (A 21 i))) C hg (Or.inr (Or.inr (Or.inr ⟨Or.inl rfl, by omega⟩))) rfl rfl hinX0 (by decide) (by decide +kernel) rfl rfl dX4_laidBy_26 ?_
      refine hv_iconst (v := nI 2) C dX4_laidBy_29 (by decide) ?_
      refine hv_icmpN_ne (tgt := 36) C dX4_laidBy_30 (by decide) (by omega) (by omega) (fun h6 => ?_) (fun h6 => ?_)
      · skip
        refine hv_iinc (v := nI (i + 1)) (lv1 := [(0, .ref (g.1 0 0)), (1, .int (nI (f_laid A i))), (2, .int (nI (i + 1)))]) C dX4_laidBy_36 (k := 2) rfl (nI_1 _) (by decide) [1, 2, 0] rfl ?_
        refine hv_goto (tgt := 4) C dX4_laidBy_39 (by decide) ?_
        exact hv_fin ih rfl (by rw [show f_laid A (i + 1) = f_laid A i + b2 (A 21 i = 2) from rfl, b2_f (by omega)]; rfl)
      · skip
        refine hv_iinc (v := nI (f_laid A i + 1)) (lv1 := [(0, .ref (g.1 0 0)), (1, .int (nI (f_laid A i + 1))), (2, .int (nI i))]) C dX4_laidBy_33 (k := 1) rfl (nI_1 _) (by decide) [1, 0, 2] rfl ?_
        refine hv_iinc (v := nI (i + 1)) (lv1 := [(0, .ref (g.1 0 0)), (1, .int (nI (f_laid A i + 1))), (2, .int (nI (i + 1)))]) C dX4_laidBy_36 (k := 2) rfl (nI_1 _) (by decide) [1, 2, 0] rfl ?_
        refine hv_goto (tgt := 4) C dX4_laidBy_39 (by decide) ?_
        exact hv_fin ih rfl (by rw [show f_laid A (i + 1) = f_laid A i + b2 (A 21 i = 2) from rfl, b2_t (by omega)])
set_option maxRecDepth 100000 in
set_option maxHeartbeats 4000000 in
theorem c_X4_loops (l : Launch) (w : hv_W) (g : cl_g) (A Z : ab_A) (Y0 : hv_H) (hg : cl_ok g (A 4 0) (A 15 0)) (hI : ab_I A) (hZ : cl_Z A Z) : hv_Mr l yX4_loops wsX4_loops ({ frames := 2, cells := 0, slots := 0, locals := 45 }) w [.ref (g.1 0 0)] (cl_Y w g A Z Y0) (fun r Y1 => r = .int (nI (f_loops A 64)) ∧ Y1 = cl_Y w g A Z Y0) := by
  refine hv_ofV (cc := cX4_loops) (own := RX4) (by decide) rfl rfl (Nat.le_of_ble_eq_true rfl) rfl ?_
  intro p e s m below meth c C hret hnm
  have hinX4 : ∀ x ∈ wsX40, x ∈ wsX4_loops := by decide +kernel
  refine hv_iconst (v := nI 0) C dX4_loops_0 (by decide) ?_
  refine hv_istore_n (lv1 := [(0, .ref (g.1 0 0)), (1, .int (nI 0))]) C dX4_loops_1 rfl (by decide) [1, 0] rfl ?_
  refine hv_iconst (v := nI 0) C dX4_loops_2 (by decide) ?_
  refine hv_istore_n (lv1 := [(0, .ref (g.1 0 0)), (1, .int (nI 0)), (2, .int (nI 0))]) C dX4_loops_3 rfl (by decide) [1, 2, 0] rfl ?_
  refine hv_loop 8 (fun i => cl_Y w g A Z Y0) (fun i => [(0, .ref (g.1 0 0)), (1, .int (nI (f_loops A (8 * i)))), (2, .int (nI i))]) ?_ ?_
  · skip
    refine hv_iload_n C dX4_loops_4 rfl 2 rfl ?_
    refine hv_bipush (v := nI 8) C dX4_loops_5 (by decide) ?_
    refine hv_icmpN_ge (tgt := 51) C dX4_loops_7 (by decide) (by omega) (by omega) (fun _ => ?_) (fun h => absurd h (by decide))
    refine hv_iload_n C dX4_loops_51 rfl 1 rfl ?_
    exact hv_iret C hret dX4_loops_52 (by first | exact Nat.le_refl _ | decide | omega | (simp; done) | (simp; omega)) (by first | exact Nat.le_refl _ | decide | omega | (simp; done) | (simp; omega)) ⟨rfl, rfl⟩
  · intro i hi ih
    refine hv_iload_n C dX4_loops_4 rfl 2 rfl ?_
    refine hv_bipush (v := nI 8) C dX4_loops_5 (by decide) ?_
    refine hv_icmpN_ge (tgt := 51) C dX4_loops_7 (by decide) (by omega) (by omega) (fun h2 => ?_) (fun h2 => ?_)
    · skip
      exact absurd h2 (by omega)
    · skip
      refine hv_iconst (v := nI 0) C dX4_loops_10 (by decide) ?_
      refine hv_istore_n (lv1 := [(0, .ref (g.1 0 0)), (1, .int (nI (f_loops A (8 * i)))), (2, .int (nI i)), (3, .int (nI 0))]) C dX4_loops_11 rfl (by decide) [1, 2, 3, 0] rfl ?_
      refine hv_loop 8 (fun o => cl_Y w g A Z Y0) (fun o => [(0, .ref (g.1 0 0)), (1, .int (nI (f_loops A (8 * i + o)))), (2, .int (nI i)), (3, .int (nI o))]) ?_ ?_
      · skip
        refine hv_iload_n C dX4_loops_12 rfl 3 rfl ?_
        refine hv_bipush (v := nI 8) C dX4_loops_13 (by decide) ?_
        refine hv_icmpN_ge (tgt := 45) C dX4_loops_15 (by decide) (by omega) (by omega) (fun _ => ?_) (fun h => absurd h (by decide))
        refine hv_iinc (v := nI (i + 1)) (lv1 := [(0, .ref (g.1 0 0)), (1, .int (nI (f_loops A (8 * i + 8)))), (2, .int (nI (i + 1))), (3, .int (nI 8))]) C dX4_loops_45 (k := 2) rfl (nI_1 _) (by decide) [1, 2, 0, 3] rfl ?_
        refine hv_goto (tgt := 4) C dX4_loops_48 (by decide) ?_
        exact hv_sub (lv1 := [(0, .ref (g.1 0 0)), (1, .int (nI (f_loops A (8 * i + 8)))), (2, .int (nI (i + 1)))]) [0, 1, 2] rfl (hv_fin ih rfl rfl)
      · intro o ho ih2
        refine hv_iload_n C dX4_loops_12 rfl 3 rfl ?_
        refine hv_bipush (v := nI 8) C dX4_loops_13 (by decide) ?_
        refine hv_icmpN_ge (tgt := 45) C dX4_loops_15 (by decide) (by omega) (by omega) (fun h4 => ?_) (fun h4 => ?_)
        · skip
          exact absurd h4 (by omega)
        · skip
          refine hv_aload_n C dX4_loops_18 rfl 0 rfl ?_
          refine hc_get (kd := 0) (i := 0) (f := 0) (v := .ref (g.1 1 0)) C hg (Or.inl ⟨by decide, rfl⟩) rfl rfl hinX4 (by decide) (by decide +kernel) rfl rfl dX4_loops_19 ?_
          refine hv_iload_n C dX4_loops_22 rfl 2 rfl ?_
          refine hc_bas (j := i) C hg (by omega) dX4_loops_23 ?_
          refine hv_aload_n C dX4_loops_24 rfl 0 rfl ?_
          refine hc_get (kd := 0) (i := 0) (f := 0) (v := .ref (g.1 1 0)) C hg (Or.inl ⟨by decide, rfl⟩) rfl rfl hinX4 (by decide) (by decide +kernel) rfl rfl dX4_loops_25 ?_
          refine hv_iload_n C dX4_loops_28 rfl 3 rfl ?_
          refine hc_bas (j := o) C hg (by omega) dX4_loops_29 ?_
          refine hv_callSr (As := [.ref (g.1 5 i), .ref (g.1 5 o)]) (rest := []) (n := 2) C (c_X4_goesRound l w g A Z Y0 hg hI hZ i o hi ho) gX4_loops_X4_goesRound rfl (by decide +kernel) ⟨Nat.le_of_ble_eq_true rfl, Nat.le_of_ble_eq_true rfl⟩ rfl rfl (Nat.le_of_ble_eq_true rfl) dX4_loops_30 ⟨by first | exact Nat.le_of_ble_eq_true rfl | omega | (simp; done) | (simp; omega), by first | exact Nat.le_of_ble_eq_true rfl | omega | (simp; done) | (simp; omega)⟩ (fun r5 Y1 hr => ?_)
          obtain ⟨rfl, rfl⟩ := hr
          refine hv_ifb_eq (tgt := 39) C dX4_loops_33 (by decide) (fun h6 => ?_) (fun h6 => ?_)
          · skip
            refine hv_iinc (v := nI (o + 1)) (lv1 := [(0, .ref (g.1 0 0)), (1, .int (nI (f_loops A (8 * i + o)))), (2, .int (nI i)), (3, .int (nI (o + 1)))]) C dX4_loops_39 (k := 3) rfl (nI_1 _) (by decide) [1, 2, 3, 0] rfl ?_
            refine hv_goto (tgt := 12) C dX4_loops_42 (by decide) ?_
            exact hv_sub (lv1 := [(0, .ref (g.1 0 0)), (1, .int (nI (f_loops A (8 * i + o)))), (2, .int (nI i)), (3, .int (nI (o + 1)))]) [0, 1, 2, 3] rfl (hv_fin ih2 rfl (by rw [show f_loops A (8 * i + (o + 1)) = f_loops A (8 * i + o) + b2 (f_walk A ((8 * i + o) % 8) 8 ((8 * i + o) / 8) = true) from rfl, show (8 * i + o) % 8 = o by omega, show (8 * i + o) / 8 = i by omega, b2_f h6]; rfl))
          · skip
            refine hv_iinc (v := nI (f_loops A (8 * i + o) + 1)) (lv1 := [(0, .ref (g.1 0 0)), (1, .int (nI (f_loops A (8 * i + o) + 1))), (2, .int (nI i)), (3, .int (nI o))]) C dX4_loops_36 (k := 1) rfl (nI_1 _) (by decide) [1, 0, 2, 3] rfl ?_
            refine hv_iinc (v := nI (o + 1)) (lv1 := [(0, .ref (g.1 0 0)), (1, .int (nI (f_loops A (8 * i + o) + 1))), (2, .int (nI i)), (3, .int (nI (o + 1)))]) C dX4_loops_39 (k := 3) rfl (nI_1 _) (by decide) [1, 2, 3, 0] rfl ?_
            refine hv_goto (tgt := 12) C dX4_loops_42 (by decide) ?_
            exact hv_sub (lv1 := [(0, .ref (g.1 0 0)), (1, .int (nI (f_loops A (8 * i + o) + 1))), (2, .int (nI i)), (3, .int (nI (o + 1)))]) [0, 1, 2, 3] rfl (hv_fin ih2 rfl (by rw [show f_loops A (8 * i + (o + 1)) = f_loops A (8 * i + o) + b2 (f_walk A ((8 * i + o) % 8) 8 ((8 * i + o) / 8) = true) from rfl, show (8 * i + o) % 8 = o by omega, show (8 * i + o) / 8 = i by omega, b2_t h6]))
set_option maxRecDepth 100000 in
set_option maxHeartbeats 4000000 in
theorem c_X4_setGate (l : Launch) (w : hv_W) (g : cl_g) (A Z : ab_A) (Y0 : hv_H) (hg : cl_ok g (A 4 0) (A 15 0)) (hlt : l.stackTraces = false) (hI : ab_I A) (hZ : cl_Z A Z) (hF : cl_F g Y0) (x : Int32) (o : Nat) (ho : o ≤ 1)  : hv_Nr l yX4_setGate wsX4_setGate ({ frames := 7, cells := 6, slots := 40, locals := 151 }) w [.ref (g.1 0 0), .int (x), .int (nI o)] (cl_Y w g A Z Y0) (fun r Y1 => (q_setGate A x o).1 = 0 ∧ r = .int (q_setGate A x o).2.1 ∧ cl_S w (g.1 0 0) Y0 (q_setGate A x o).2.2 Y1) (fun E Y1 => ec 0 E (q_setGate A x o).1 ∧ Y1 = cl_Y w g A Z Y0) := by
  refine hv_ofVx (cc := cX4_setGate) (own := RX4) (by decide) rfl rfl (Nat.le_of_ble_eq_true rfl) rfl ?_
  intro p e s m below meth c C hret hex
  have hinX2 : ∀ x ∈ wsX20, x ∈ wsX4_setGate := by decide +kernel
  refine hv_aload_n C dX4_setGate_0 rfl 0 rfl ?_
  refine hv_iload_n C dX4_setGate_1 rfl 1 rfl ?_
  refine hv_callVrx (As := [.int (x)]) (rest := []) (n := 1) C (c_X4_canalNumbered l w g A Z Y0 hg hlt x hI.2.2.2.1) gX4_setGate_X4_canalNumbered rfl (by decide +kernel) ⟨Nat.le_of_ble_eq_true rfl, Nat.le_of_ble_eq_true rfl⟩ (cl_rc hg (Or.inl ⟨by decide, rfl⟩) rfl rfl) rfl rfl (Nat.le_of_ble_eq_true rfl) dX4_setGate_2 ⟨by first | exact Nat.le_of_ble_eq_true rfl | omega | (simp; done) | (simp; omega), by first | exact Nat.le_of_ble_eq_true rfl | omega | (simp; done) | (simp; omega)⟩ (fun E Y1 h => ⟨(⟨h.1, (by first | (simp [q_setGate, h.2.1]; done) | (unfold q_setGate; (repeat' split) <;> simp_all))⟩), h.2.2⟩) hex (by first | exact Nat.le_of_ble_eq_true rfl | omega) (by first | exact Nat.le_of_ble_eq_true rfl | omega) (fun r1 Y1 hr => ?_)
  obtain ⟨⟨j, hx, rfl⟩, rfl⟩ := hr
  obtain ⟨hj, rfl⟩ := ix_s (by first | exact Nat.lt_of_le_of_lt hI.2.2.2.1 (by decide) | exact Nat.lt_of_le_of_lt hI.2.2.2.2.2.2.1 (by decide)) hx
  refine hv_astore_n (lv1 := [(0, .ref (g.1 0 0)), (1, .int (nI j)), (2, .int (nI o)), (3, .ref (g.1 13 j))]) C dX4_setGate_5 rfl (by decide) [1, 2, 3, 0] rfl ?_
  refine hv_aload_n C dX4_setGate_6 rfl 3 rfl ?_
  refine hc_get (kd := 13) (i := j) (f := 5) (v := .int (nI (A 9 j))) C hg (Or.inr (Or.inr (Or.inl ⟨rfl, by omega⟩))) rfl rfl hinX2 (by decide) (by decide +kernel) rfl rfl dX4_setGate_7 ?_
  refine hv_istore (lv1 := [(0, .ref (g.1 0 0)), (1, .int (nI j)), (2, .int (nI o)), (3, .ref (g.1 13 j)), (4, .int (nI (A 9 j)))]) C dX4_setGate_10 (by decide) [1, 2, 3, 4, 0] rfl ?_
  refine hv_aload_n C dX4_setGate_12 rfl 3 rfl ?_
  refine hv_iload_n C dX4_setGate_13 rfl 2 rfl ?_
  refine hc_put (kd := 13) (i := j) (f := 5) (A' := (au A 9 j o)) (Z' := Z) (ty := .boolean) C hg (Or.inr (Or.inr (Or.inl ⟨rfl, by omega⟩))) rfl rfl hinX2 tyX2 tyX2_ok nmX2 (by decide) (by decide +kernel) rfl rfl (by decide +kernel) (by rcases (show o = 0 ∨ o = 1 by omega) with rfl | rfl <;> rfl) (by rcases (show o = 0 ∨ o = 1 by omega) with rfl | rfl <;> rfl) (by show 5 < 6; decide) (by simp [cl_cell, au]) cu_9 dX4_setGate_14 ?_
  refine hv_iload C dX4_setGate_17 4 rfl ?_
  exact hv_zretx C hret (by rcases (show A 9 j = 0 ∨ A 9 j = 1 by have := (hI.2.2.2.2.1 j hj).2.2.2.2.2.2; omega) with q | q <;> rw [q] <;> decide) dX4_setGate_19 (by first | exact Nat.le_refl _ | decide | omega | (simp; done) | (simp; omega)) (by first | exact Nat.le_refl _ | decide | omega | (simp; done) | (simp; omega)) (by rw [show q_setGate A (nI j) o = (0, (nI (A 9 j)), au A 9 j o) from by first | (simp [q_setGate, hx]; done) | (skip; simp [q_setGate, hx]; done) | (simp only [q_setGate, hx]; done)]; exact ⟨rfl, rfl, ⟨g, Z, hg, hZ, hF, rfl, rfl⟩⟩)
set_option maxRecDepth 100000 in
set_option maxHeartbeats 4000000 in
theorem c_X4_setMark (l : Launch) (w : hv_W) (g : cl_g) (A Z : ab_A) (Y0 : hv_H) (hg : cl_ok g (A 4 0) (A 15 0)) (hlt : l.stackTraces = false) (hI : ab_I A) (hZ : cl_Z A Z) (hF : cl_F g Y0) (x y : Int32)  : hv_Nr l yX4_setMark wsX4_setMark ({ frames := 7, cells := 6, slots := 40, locals := 152 }) w [.ref (g.1 0 0), .int (x), .int (y)] (cl_Y w g A Z Y0) (fun r Y1 => (q_setMark A x y).1 = 0 ∧ r = .int (q_setMark A x y).2.1 ∧ cl_S w (g.1 0 0) Y0 (q_setMark A x y).2.2 Y1) (fun E Y1 => ec 1 E (q_setMark A x y).1 ∧ Y1 = cl_Y w g A Z Y0) := by
  refine hv_ofVx (cc := cX4_setMark) (own := RX4) (by decide) rfl rfl (Nat.le_of_ble_eq_true rfl) rfl ?_
  intro p e s m below meth c C hret hex
  have hinX1 : ∀ x ∈ wsX10, x ∈ wsX4_setMark := by decide +kernel
  refine hv_aload_n C dX4_setMark_0 rfl 0 rfl ?_
  refine hv_iload_n C dX4_setMark_1 rfl 1 rfl ?_
  refine hv_callVrx (As := [.int (x)]) (rest := []) (n := 1) C (c_X4_basinNumbered l w g A Z Y0 hg hlt x) gX4_setMark_X4_basinNumbered rfl (by decide +kernel) ⟨Nat.le_of_ble_eq_true rfl, Nat.le_of_ble_eq_true rfl⟩ (cl_rc hg (Or.inl ⟨by decide, rfl⟩) rfl rfl) rfl rfl (Nat.le_of_ble_eq_true rfl) dX4_setMark_2 ⟨by first | exact Nat.le_of_ble_eq_true rfl | omega | (simp; done) | (simp; omega), by first | exact Nat.le_of_ble_eq_true rfl | omega | (simp; done) | (simp; omega)⟩ (fun E Y1 h => ⟨(Or.inl ⟨h.1, (by first | (simp [q_setMark, h.2.1]; done) | (unfold q_setMark; (repeat' split) <;> simp_all))⟩), h.2.2⟩) hex (by first | exact Nat.le_of_ble_eq_true rfl | omega) (by first | exact Nat.le_of_ble_eq_true rfl | omega) (fun r1 Y1 hr => ?_)
  obtain ⟨⟨b, hx, rfl⟩, rfl⟩ := hr
  obtain ⟨hb, rfl⟩ := ix_y hx
  refine hv_astore_n (lv1 := [(0, .ref (g.1 0 0)), (1, .int (nI b)), (2, .int (y)), (3, .ref (g.1 5 b))]) C dX4_setMark_5 rfl (by decide) [1, 2, 3, 0] rfl ?_
  refine hv_iload_n C dX4_setMark_6 rfl 2 rfl ?_
  refine hv_iconst (v := nI 1) C dX4_setMark_7 (by decide) ?_
  refine hv_bipush (v := nI 6) C dX4_setMark_8 (by decide) ?_
  refine hv_callSvx (As := [.int (y), .int (nI 1), .int (nI 6)]) (rest := []) (n := 3) C (c_X4_requireRange l w hlt (cl_Y w g A Z Y0) y 1 6 (by decide) (by decide)) gX4_setMark_X4_requireRange rfl (by decide +kernel) ⟨Nat.le_of_ble_eq_true rfl, Nat.le_of_ble_eq_true rfl⟩ rfl rfl (Nat.le_of_ble_eq_true rfl) dX4_setMark_10 ⟨by first | exact Nat.le_of_ble_eq_true rfl | omega | (simp; done) | (simp; omega), by first | exact Nat.le_of_ble_eq_true rfl | omega | (simp; done) | (simp; omega)⟩ (fun E Y1 h => ⟨(Or.inr ⟨h.1, (by first | (simp [q_setMark, hx, h.2.1]; done) | (unfold q_setMark; (repeat' split) <;> simp_all))⟩), h.2.2⟩) hex (by first | exact Nat.le_of_ble_eq_true rfl | omega) (by first | exact Nat.le_of_ble_eq_true rfl | omega) (fun Y1 hr => ?_)
  obtain ⟨⟨k, hy⟩, rfl⟩ := hr
  obtain ⟨hk, hk2, rfl⟩ := rg_s (by decide) (by decide) hy
  refine hv_aload_n C dX4_setMark_13 rfl 3 rfl ?_
  refine hc_get (kd := 5) (i := b) (f := 3) (v := .int (nI (A 1 b))) C hg (Or.inr (Or.inl ⟨by decide, by decide, by omega⟩)) rfl rfl hinX1 (by decide) (by decide +kernel) rfl rfl dX4_setMark_14 ?_
  refine hv_istore (lv1 := [(0, .ref (g.1 0 0)), (1, .int (nI b)), (2, .int (nI k)), (3, .ref (g.1 5 b)), (4, .int (nI (A 1 b)))]) C dX4_setMark_17 (by decide) [1, 2, 3, 4, 0] rfl ?_
  refine hv_aload_n C dX4_setMark_19 rfl 3 rfl ?_
  refine hv_iload_n C dX4_setMark_20 rfl 2 rfl ?_
  refine hc_put (kd := 5) (i := b) (f := 3) (A' := (au A 1 b k)) (Z' := Z) (ty := .int) C hg (Or.inr (Or.inl ⟨by decide, by decide, by omega⟩)) rfl rfl hinX1 tyX1 tyX1_ok nmX1 (by decide) (by decide +kernel) rfl rfl (by decide +kernel) rfl (by rfl) (by show 3 < 6; decide) (by simp [cl_cell, au]) cu_1 dX4_setMark_21 ?_
  refine hv_iload C dX4_setMark_24 4 rfl ?_
  exact hv_iretx C hret dX4_setMark_26 (by first | exact Nat.le_refl _ | decide | omega | (simp; done) | (simp; omega)) (by first | exact Nat.le_refl _ | decide | omega | (simp; done) | (simp; omega)) (by rw [show q_setMark A (nI b) (nI k) = (0, (nI (A 1 b)), au A 1 b k) from by first | (simp [q_setMark, hx, hy]; done) | (skip; simp [q_setMark, hx, hy]; done) | (simp only [q_setMark, hx, hy]; done)]; exact ⟨rfl, rfl, ⟨g, Z, hg, hZ, hF, rfl, rfl⟩⟩)
theorem pour_c (A : ab_A) (b n : Nat) : au (au A 0 b (if 200 < A 0 b + n then 200 else A 0 b + n)) 10 0 (A 10 0 + (A 0 b + n - 200)) = f_pour A b n := by
  funext k i
  by_cases h : k = 0
  · subst h; rfl
  · by_cases h2 : k = 10
    · subst h2; rfl
    · simp only [f_pour, au, if_neg h, if_neg h2]
set_option maxRecDepth 100000 in
set_option maxHeartbeats 4000000 in
theorem c_X4_rain (l : Launch) (w : hv_W) (g : cl_g) (A Z : ab_A) (Y0 : hv_H) (hg : cl_ok g (A 4 0) (A 15 0)) (hlt : l.stackTraces = false) (hI : ab_I A) (hZ : cl_Z A Z) (hF : cl_F g Y0) (x y : Int32)  : hv_Nr l yX4_rain wsX4_rain ({ frames := 7, cells := 6, slots := 40, locals := 152 }) w [.ref (g.1 0 0), .int (x), .int (y)] (cl_Y w g A Z Y0) (fun r Y1 => (q_rain A x y).1 = 0 ∧ r = .int (q_rain A x y).2.1 ∧ cl_S w (g.1 0 0) Y0 (q_rain A x y).2.2 Y1) (fun E Y1 => ec 1 E (q_rain A x y).1 ∧ Y1 = cl_Y w g A Z Y0) := by
  refine hv_ofVx (cc := cX4_rain) (own := RX4) (by decide) rfl rfl (Nat.le_of_ble_eq_true rfl) rfl ?_
  intro p e s m below meth c C hret hex
  have hinX1 : ∀ x ∈ wsX10, x ∈ wsX4_rain := by decide +kernel
  have hinX4 : ∀ x ∈ wsX40, x ∈ wsX4_rain := by decide +kernel
  refine hv_aload_n C dX4_rain_0 rfl 0 rfl ?_
  refine hv_iload_n C dX4_rain_1 rfl 1 rfl ?_
  refine hv_callVrx (As := [.int (x)]) (rest := []) (n := 1) C (c_X4_basinNumbered l w g A Z Y0 hg hlt x) gX4_rain_X4_basinNumbered rfl (by decide +kernel) ⟨Nat.le_of_ble_eq_true rfl, Nat.le_of_ble_eq_true rfl⟩ (cl_rc hg (Or.inl ⟨by decide, rfl⟩) rfl rfl) rfl rfl (Nat.le_of_ble_eq_true rfl) dX4_rain_2 ⟨by first | exact Nat.le_of_ble_eq_true rfl | omega | (simp; done) | (simp; omega), by first | exact Nat.le_of_ble_eq_true rfl | omega | (simp; done) | (simp; omega)⟩ (fun E Y1 h => ⟨(Or.inl ⟨h.1, (by first | (simp [q_rain, h.2.1]; done) | (unfold q_rain; (repeat' split) <;> simp_all))⟩), h.2.2⟩) hex (by first | exact Nat.le_of_ble_eq_true rfl | omega) (by first | exact Nat.le_of_ble_eq_true rfl | omega) (fun r1 Y1 hr => ?_)
  obtain ⟨⟨b, hx, rfl⟩, rfl⟩ := hr
  obtain ⟨hb, rfl⟩ := ix_y hx
  refine hv_astore_n (lv1 := [(0, .ref (g.1 0 0)), (1, .int (nI b)), (2, .int (y)), (3, .ref (g.1 5 b))]) C dX4_rain_5 rfl (by decide) [1, 2, 3, 0] rfl ?_
  refine hv_iload_n C dX4_rain_6 rfl 2 rfl ?_
  refine hv_iconst (v := nI 1) C dX4_rain_7 (by decide) ?_
  refine hv_sipush (v := nI 200) C dX4_rain_8 (by decide) ?_
  refine hv_callSvx (As := [.int (y), .int (nI 1), .int (nI 200)]) (rest := []) (n := 3) C (c_X4_requireRange l w hlt (cl_Y w g A Z Y0) y 1 200 (by decide) (by decide)) gX4_rain_X4_requireRange rfl (by decide +kernel) ⟨Nat.le_of_ble_eq_true rfl, Nat.le_of_ble_eq_true rfl⟩ rfl rfl (Nat.le_of_ble_eq_true rfl) dX4_rain_11 ⟨by first | exact Nat.le_of_ble_eq_true rfl | omega | (simp; done) | (simp; omega), by first | exact Nat.le_of_ble_eq_true rfl | omega | (simp; done) | (simp; omega)⟩ (fun E Y1 h => ⟨(Or.inr ⟨h.1, (by first | (simp [q_rain, hx, h.2.1]; done) | (unfold q_rain; (repeat' split) <;> simp_all))⟩), h.2.2⟩) hex (by first | exact Nat.le_of_ble_eq_true rfl | omega) (by first | exact Nat.le_of_ble_eq_true rfl | omega) (fun Y1 hr => ?_)
  obtain ⟨⟨n, hy⟩, rfl⟩ := hr
  obtain ⟨hn, hn2, rfl⟩ := rg_s (by decide) (by decide) hy
  refine hv_aload_n C dX4_rain_14 rfl 0 rfl ?_
  refine hv_dup C dX4_rain_15 rfl ?_
  refine hc_get (kd := 0) (i := 0) (f := 4) (v := .int (nI (A 10 0))) C hg (Or.inl ⟨by decide, rfl⟩) rfl rfl hinX4 (by decide) (by decide +kernel) rfl rfl dX4_rain_16 ?_
  refine hv_aload_n C dX4_rain_19 rfl 3 rfl ?_
  refine hv_iload_n C dX4_rain_20 rfl 2 rfl ?_
  refine hv_callVr (As := [.int (nI n)]) (rest := [.int (nI (A 10 0)), .ref (g.1 0 0)]) (n := 1) C (c_X1_fill l w g A Z Y0 hg b n (by omega) (hI.1 b hb).2.1 (by omega)) gX4_rain_X1_fill rfl (by decide +kernel) ⟨Nat.le_of_ble_eq_true rfl, Nat.le_of_ble_eq_true rfl⟩ (cl_rc hg (Or.inr (Or.inl ⟨by decide, by decide, by omega⟩)) rfl rfl) rfl rfl (Nat.le_of_ble_eq_true rfl) dX4_rain_21 ⟨by first | exact Nat.le_of_ble_eq_true rfl | omega | (simp; done) | (simp; omega), by first | exact Nat.le_of_ble_eq_true rfl | omega | (simp; done) | (simp; omega)⟩ (fun r3 Y1 hr => ?_)
  obtain ⟨rfl, rfl⟩ := hr
  refine hv_iaddN C dX4_rain_24 ?_
  refine hc_put (kd := 0) (i := 0) (f := 4) (A' := (au (au A 0 b (if 200 < A 0 b + n then 200 else A 0 b + n)) 10 0 ((A 10 0) + (A 0 b + n - 200)))) (Z' := Z) (ty := .int) C hg (Or.inl ⟨by decide, rfl⟩) rfl rfl hinX4 tyX4 tyX4_ok nmX4 (by decide) (by decide +kernel) rfl rfl (by decide +kernel) rfl (by rfl) (by show 4 < 6; decide) (by simp [cl_cell, au]) cu_10 dX4_rain_25 ?_
  refine hv_aload_n C dX4_rain_28 rfl 3 rfl ?_
  refine hc_get (kd := 5) (i := b) (f := 2) (v := .int (nI (if 200 < A 0 b + n then 200 else A 0 b + n))) C hg (Or.inr (Or.inl ⟨by decide, by decide, by omega⟩)) rfl rfl hinX1 (by decide) (by decide +kernel) rfl (by simp [au]) dX4_rain_29 ?_
  exact hv_iretx C hret dX4_rain_32 (by first | exact Nat.le_refl _ | decide | omega | (simp; done) | (simp; omega)) (by first | exact Nat.le_refl _ | decide | omega | (simp; done) | (simp; omega)) (by rw [show q_rain A (nI b) (nI n) = (0, nI (f_pour A b n 0 b), f_pour A b n) from by simp only [q_rain, hx, hy]]; exact ⟨rfl, congrArg (fun q : Nat => Value.int (nI q)) (show _ = f_pour A b n 0 b from by rw [f_pour_0, if_pos rfl]), ⟨g, Z, hg, hZ, hF, rfl, cl_Aeq (pour_c A b n)⟩⟩)
