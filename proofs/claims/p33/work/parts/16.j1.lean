/-! THE LIBRARY'S LIST, over lists whole -/
theorem hv_upL {Y : hv_H} {a : Nat} {e : hv_E} (h : Y a = some e) : hv_up Y a e = Y := by
  funext b
  unfold hv_up
  split
  · rename_i q
    rw [q, h]
  · rfl
theorem hv_upup {Y : hv_H} {a : Nat} {e e' : hv_E} : hv_up (hv_up Y a e) a e' = hv_up Y a e' := by
  funext b
  unfold hv_up
  split <;> rfl
section HL
variable {p : Program} {l : Launch} {e : Env} {R : Room} {s : State} {m : MethodId} {args : Array Value} {below : List Frame} {meth : Method} {c : Code} {w : hv_W} {nL : Nat} {Q : State → Prop} {cells slots : Nat} {Y : hv_H} {lv : List (Nat × Value)} {pc : Nat} {rest : List Value} {own : String} {cc : ByteArray} {Ts : List Cond}
theorem hv_ownV {a : Nat} {e9 : hv_E} {st : List Value} (hY : Y a = some e9) (kk : hv_t w ≠ a → Y (hv_t w) = none → hv_V p l e R s m args below meth c w nL Q cells slots Y lv pc st) : hv_V p l e R s m args below meth c w nL Q cells slots Y lv pc st := by
  intro H locs ls hR hS hl
  have h0 := hR.1.1
  refine kk ?_ ?_ H locs ls hR hS hl
  · intro q
    have := (hR.own hY).1
    omega
  · cases q : Y (hv_t w) with
    | none => rfl
    | some e8 =>
      have := (hR.own q).1
      omega
theorem hv_shutL {a ed : Nat} {mc : Int32} {o : Option Nat} {L : List Nat} {st : List Value} (hY : Y a = some (.inr L)) (h1 : ed ≠ a) (h2 : Y ed = none) (h3 : hv_cap w o ed L) (kk : hv_V p l e R s m args below meth c w nL Q cells slots Y lv pc st) : hv_V p l e R s m args below meth c w nL Q cells slots (hv_op w Y a mc ed o L) lv pc st := hv_shut h1 h2 h3 (by rw [hv_upL hY]; exact kk)
theorem hv_lsize (C : hv_C own cc nL Ts w p s m args meth c) {index a : Nat} {L : List Nat} (hY : Y a = some (.inr L)) (hin : ∀ x ∈ wsJx4a65c0, x ∈ Ts) (hlink : Cond.fieldLink own index "java/util/ArrayList" "size" "I" ∈ Ts) (hdg : decode cc pc = .ok (.getfield index, 3)) (kk : hv_V p l e R s m args below meth c w nL Q cells slots Y lv (pc + 3) (.int (nI L.length) :: rest)) : hv_V p l e R s m args below meth c w nL Q cells slots Y lv pc (.ref a :: rest) := by
  refine hv_opnV hY (fun ed mc o h1 h2 h3 => ?_)
  refine hv_getf (k := 2) C hin (show vwCl[0]? = some (RJx4a65c, TJx4a65c, 3) from rfl) (hv_op_a h1) (by decide) hlink (fun _ h => h) rfl hdg ?_
  exact hv_shutL hY h1 h2 h3 kk
/-- what may lie in our lists -/
theorem hv_E13 (C : hv_C own cc nL Ts w p s m args meth c) {ci : Nat} (h : ci = 1 ∨ ci = 3) : ∃ (Ev : String) (T : u_T) (N : Nat), vwCl[ci]? = some (Ev, T, N) ∧ (Cond.castable Ev "java/lang/Object").before args s = true := by
  have hN := C.2.2.2.2.2.2.1.2.2.2.2.2.2.2.1
  have hb : ∀ x ∈ hv_N, x.before args s = true := fun x hx => hv_face (hv_N_face x hx) (State.WarmedH.refl s) (hN x hx)
  rcases h with rfl | rfl
  · exact ⟨_, _, _, rfl, hb _ (by decide +kernel)⟩
  · exact ⟨_, _, _, rfl, hb _ (by decide +kernel)⟩
end HL
theorem hv_app (L : List Nat) (v : Nat) : va_up (fun j => L[j]?) L.length (some v) = fun j => (L ++ [v])[j]? := by
  funext j
  unfold va_up
  by_cases h : j = L.length
  · rw [if_pos h, h, List.getElem?_concat_length]
  · rw [if_neg h]
    dsimp only
    by_cases h2 : j < L.length
    · rw [List.getElem?_append_left h2]
    · rw [List.getElem?_eq_none (by omega), List.getElem?_eq_none (by simp; omega)]
theorem hv_cpy0 {L : List Nat} {n : Nat} (h : L.length ≤ n) : va_cpy (fun j => L[j]?) (fun _ => none) 0 0 n = fun j => L[j]? := by
  funext j
  unfold va_cpy
  by_cases q : j < n
  · rw [if_pos ⟨Nat.zero_le _, by omega⟩, Nat.zero_add, Nat.sub_zero]
  · rw [if_neg (by omega), List.getElem?_eq_none (by omega)]
theorem hv_cpy1 (x : Nat) (L : List Nat) : va_up (va_cpy (fun j => (x :: L)[j]?) (fun j => (x :: L)[j]?) 1 0 L.length) L.length none = fun j => L[j]? := by
  funext j
  unfold va_up va_cpy
  by_cases q : j = L.length
  · rw [if_pos q, q, List.getElem?_eq_none (Nat.le_refl _)]
  · rw [if_neg q]
    by_cases q2 : j < L.length
    · rw [if_pos ⟨Nat.zero_le _, by omega⟩, Nat.sub_zero, Nat.add_comm]
      dsimp only
      rw [List.getElem?_cons_succ]
    · rw [if_neg (by omega)]
      dsimp only
      rw [List.getElem?_eq_none (show (x :: L).length ≤ j from by simp; omega), List.getElem?_eq_none (by omega)]
theorem hv_cpy2 (x : Nat) : va_up (fun j => [x][j]?) 0 none = fun j => ([] : List Nat)[j]? := by
  funext j
  unfold va_up
  by_cases q : j = 0
  · rw [if_pos q]; rfl
  · rw [if_neg q]
    dsimp only
    rw [List.getElem?_eq_none (by simp; omega), List.getElem?_eq_none (by simp)]
set_option maxRecDepth 100000 in
set_option maxHeartbeats 4000000 in
theorem c_Jxa1e45_init_da8c8 (l : Launch) (w : hv_W) (Y : hv_H) (a : Nat) : hv_Mv l yJxa1e45_init_da8c8 wsJxa1e45_init_da8c8 ({ frames := 1, cells := 0, slots := 0, locals := 40 }) w [.ref (a)] (Y) (fun Y1 => Y1 = Y) := by
  refine hv_ofV (cc := cJxa1e45_init_da8c8) (own := RJxa1e45) (by decide) rfl rfl (Nat.le_of_ble_eq_true rfl) rfl ?_
  intro p e s m below meth c C hret hnm
  refine hv_aload_n C dJxa1e45_init_da8c8_0 rfl 0 rfl ?_
  refine hv_objInit C (by decide +kernel) (by decide +kernel) (by decide +kernel) (Nat.le_of_ble_eq_true rfl) (Nat.le_of_ble_eq_true rfl) dJxa1e45_init_da8c8_1 ?_
  exact hv_vret C hret dJxa1e45_init_da8c8_4 (by first | exact Nat.le_refl _ | decide | omega | (simp; done) | (simp; omega)) (by first | exact Nat.le_refl _ | decide | omega | (simp; done) | (simp; omega)) rfl
set_option maxRecDepth 100000 in
set_option maxHeartbeats 4000000 in
theorem c_Jxc12de_init_da8c8 (l : Launch) (w : hv_W) (Y : hv_H) (a : Nat) (hY : Y a = some (.inl (.inr (0, [.int (nI 0), .null, .int (nI 0)])))) : hv_Mv l yJxc12de_init_da8c8 wsJxc12de_init_da8c8 ({ frames := 2, cells := 0, slots := 0, locals := 60 }) w [.ref (a)] (Y) (fun Y1 => Y1 = Y) := by
  refine hv_ofV (cc := cJxc12de_init_da8c8) (own := RJxc12de) (by decide) rfl rfl (Nat.le_of_ble_eq_true rfl) rfl ?_
  intro p e s m below meth c C hret hnm
  have hin : ∀ x ∈ wsJx4a65c0, x ∈ wsJxc12de_init_da8c8 := by decide +kernel
  refine hv_aload_n C dJxc12de_init_da8c8_0 rfl 0 rfl ?_
  refine hv_callIv (As := []) (rest := []) (n := 0) C (c_Jxa1e45_init_da8c8 l w Y a) gJxc12de_init_da8c8_Jxa1e45_init_da8c8 rfl (by decide +kernel) (by decide +kernel) (by decide +kernel) rfl (by decide +kernel) ⟨Nat.le_of_ble_eq_true rfl, Nat.le_of_ble_eq_true rfl⟩ rfl rfl (Nat.le_of_ble_eq_true rfl) dJxc12de_init_da8c8_1 ⟨by first | exact Nat.le_of_ble_eq_true rfl | omega | (simp; done) | (simp; omega), by first | exact Nat.le_of_ble_eq_true rfl | omega | (simp; done) | (simp; omega)⟩ (fun Y1 hr => ?_)
  obtain rfl := hr.symm
  refine hv_aload_n C dJxc12de_init_da8c8_4 rfl 0 rfl ?_
  refine hv_iconst (v := nI 0) C dJxc12de_init_da8c8_5 (by decide) ?_
  refine hv_putf (k := 0) C hin tyJx4a65c tyJx4a65c_ok nmJx4a65c (show vwCl[0]? = some (RJx4a65c, TJx4a65c, 3) from rfl) hY (by decide) (by decide +kernel) (fun _ h => h) rfl (ty := .int) (by decide +kernel) (by rfl) (by rfl) (by show 0 < 3; decide) dJxc12de_init_da8c8_6 ?_
  refine hv_fin ?_ (hv_upL hY) rfl
  exact hv_vret C hret dJxc12de_init_da8c8_9 (by first | exact Nat.le_refl _ | decide | omega | (simp; done) | (simp; omega)) (by first | exact Nat.le_refl _ | decide | omega | (simp; done) | (simp; omega)) rfl
set_option maxRecDepth 100000 in
set_option maxHeartbeats 4000000 in
theorem c_Jx4a65c_init_da8c8 (l : Launch) (w : hv_W) (Y : hv_H) (a : Nat) (hY : Y a = some (.inl (.inr (0, [.int (nI 0), .null, .int (nI 0)])))) : hv_Mv l yJx4a65c_init_da8c8 wsJx4a65c_init_da8c8 ({ frames := 3, cells := 0, slots := 0, locals := 80 }) w [.ref (a)] (Y) (fun Y1 => Y1 = hv_up Y a (.inr [])) := by
  refine hv_ofV (cc := cJx4a65c_init_da8c8) (own := RJx4a65c) (by decide) rfl rfl (Nat.le_of_ble_eq_true rfl) rfl ?_
  intro p e s m below meth c C hret hnm
  have hin : ∀ x ∈ wsJx4a65c0, x ∈ wsJx4a65c_init_da8c8 := by decide +kernel
  refine hv_ownV hY (fun hta htn => ?_)
  refine hv_aload_n C dJx4a65c_init_da8c8_0 rfl 0 rfl ?_
  refine hv_callIv (As := []) (rest := []) (n := 0) C (c_Jxc12de_init_da8c8 l w Y a hY) gJx4a65c_init_da8c8_Jxc12de_init_da8c8 rfl (by decide +kernel) (by decide +kernel) (by decide +kernel) rfl (by decide +kernel) ⟨Nat.le_of_ble_eq_true rfl, Nat.le_of_ble_eq_true rfl⟩ rfl rfl (Nat.le_of_ble_eq_true rfl) dJx4a65c_init_da8c8_1 ⟨by first | exact Nat.le_of_ble_eq_true rfl | omega | (simp; done) | (simp; omega), by first | exact Nat.le_of_ble_eq_true rfl | omega | (simp; done) | (simp; omega)⟩ (fun Y1 hr => ?_)
  obtain rfl := hr.symm
  refine hv_aload_n C dJx4a65c_init_da8c8_4 rfl 0 rfl ?_
  refine hv_gets C (by decide +kernel) dJx4a65c_init_da8c8_5 ?_
  refine hv_putf (k := 1) C hin tyJx4a65c tyJx4a65c_ok nmJx4a65c (show vwCl[0]? = some (RJx4a65c, TJx4a65c, 3) from rfl) hY (by decide) (by decide +kernel) (fun _ h => h) rfl (ty := .array (.object "java/lang/Object")) (by decide +kernel) (by rfl) (by rfl) (by show 1 < 3; decide) dJx4a65c_init_da8c8_8 ?_
  refine hv_fin (Y1 := hv_op w Y a (nI 0) (hv_t w) none []) ?_ rfl rfl
  refine hv_shut hta htn ⟨rfl, rfl⟩ ?_
  exact hv_vret C hret dJx4a65c_init_da8c8_11 (by first | exact Nat.le_refl _ | decide | omega | (simp; done) | (simp; omega)) (by first | exact Nat.le_refl _ | decide | omega | (simp; done) | (simp; omega)) rfl
set_option maxRecDepth 100000 in
set_option maxHeartbeats 4000000 in
theorem c_Jx4a65c_size_8abf5 (l : Launch) (w : hv_W) (Y : hv_H) (a : Nat) (L : List Nat) (hY : Y a = some (.inr L)) : hv_Mr l yJx4a65c_size_8abf5 wsJx4a65c_size_8abf5 ({ frames := 0, cells := 0, slots := 0, locals := 0 }) w [.ref (a)] (Y) (fun r Y1 => r = .int (nI L.length) ∧ Y1 = Y) := by
  refine hv_ofV (cc := cJx4a65c_size_8abf5) (own := RJx4a65c) (by decide) rfl rfl (Nat.le_of_ble_eq_true rfl) rfl ?_
  intro p e s m below meth c C hret hnm
  have hin : ∀ x ∈ wsJx4a65c0, x ∈ wsJx4a65c_size_8abf5 := by decide +kernel
  refine hv_aload_n C dJx4a65c_size_8abf5_0 rfl 0 rfl ?_
  refine hv_lsize C hY hin (by decide +kernel) dJx4a65c_size_8abf5_1 ?_
  exact hv_iret C hret dJx4a65c_size_8abf5_4 (by first | exact Nat.le_refl _ | decide | omega | (simp; done) | (simp; omega)) (by first | exact Nat.le_refl _ | decide | omega | (simp; done) | (simp; omega)) ⟨rfl, rfl⟩
set_option maxRecDepth 100000 in
set_option maxHeartbeats 4000000 in
theorem c_Jx4a65c_isEmpty_aae02 (l : Launch) (w : hv_W) (Y : hv_H) (a : Nat) (L : List Nat) (hY : Y a = some (.inr L)) (hL : L.length < 2 ^ 31) : hv_Mr l yJx4a65c_isEmpty_aae02 wsJx4a65c_isEmpty_aae02 ({ frames := 0, cells := 0, slots := 0, locals := 0 }) w [.ref (a)] (Y) (fun r Y1 => r = .int (nI (b2 (L.length = 0))) ∧ Y1 = Y) := by
  refine hv_ofV (cc := cJx4a65c_isEmpty_aae02) (own := RJx4a65c) (by decide) rfl rfl (Nat.le_of_ble_eq_true rfl) rfl ?_
  intro p e s m below meth c C hret hnm
  have hin : ∀ x ∈ wsJx4a65c0, x ∈ wsJx4a65c_isEmpty_aae02 := by decide +kernel
  refine hv_aload_n C dJx4a65c_isEmpty_aae02_0 rfl 0 rfl ?_
  refine hv_lsize C hY hin (by decide +kernel) dJx4a65c_isEmpty_aae02_1 ?_
  refine hv_ifN_ne (tgt := 11) C dJx4a65c_isEmpty_aae02_4 (by decide) (by omega) (fun h1 => ?_) (fun h1 => ?_)
  · skip
    refine hv_iconst (v := nI 0) C dJx4a65c_isEmpty_aae02_11 (by decide) ?_
    exact hv_zret C hret (by decide) dJx4a65c_isEmpty_aae02_12 (by first | exact Nat.le_refl _ | decide | omega | (simp; done) | (simp; omega)) (by first | exact Nat.le_refl _ | decide | omega | (simp; done) | (simp; omega)) ⟨by first | rw [b2_t (by omega)] | rw [b2_f (by omega)], rfl⟩
  · skip
    refine hv_iconst (v := nI 1) C dJx4a65c_isEmpty_aae02_7 (by decide) ?_
    refine hv_goto (tgt := 12) C dJx4a65c_isEmpty_aae02_8 (by decide) ?_
    exact hv_zret C hret (by decide) dJx4a65c_isEmpty_aae02_12 (by first | exact Nat.le_refl _ | decide | omega | (simp; done) | (simp; omega)) (by first | exact Nat.le_refl _ | decide | omega | (simp; done) | (simp; omega)) ⟨by first | rw [b2_t (by omega)] | rw [b2_f (by omega)], rfl⟩
set_option maxRecDepth 100000 in
set_option maxHeartbeats 4000000 in
theorem c_J3_checkIndex_8e157 (l : Launch) (w : hv_W) (Y : hv_H) (x n : Nat) (hx : x < n) (hn : n < 2 ^ 31) : hv_Mr l yJ3_checkIndex_8e157 wsJ3_checkIndex_8e157 ({ frames := 1, cells := 0, slots := 0, locals := 40 }) w [.int (nI x), .int (nI n), .null] (Y) (fun r Y1 => r = .int (nI x) ∧ Y1 = Y) := by
  refine hv_ofV (cc := cJ3_checkIndex_8e157) (own := RJ3) (by decide) rfl rfl (Nat.le_of_ble_eq_true rfl) rfl ?_
  intro p e s m below meth c C hret hnm
  refine hv_iload_n C dJ3_checkIndex_8e157_0 rfl 0 rfl ?_
  refine hv_ifN_lt (tgt := 9) C dJ3_checkIndex_8e157_1 (by decide) (by omega) (fun h1 => ?_) (fun h1 => ?_)
  · skip
    exact h1.elim
  · skip
    refine hv_iload_n C dJ3_checkIndex_8e157_4 rfl 0 rfl ?_
    refine hv_iload_n C dJ3_checkIndex_8e157_5 rfl 1 rfl ?_
    refine hv_icmpN_lt (tgt := 16) C dJ3_checkIndex_8e157_6 (by decide) (by omega) (by omega) (fun h2 => ?_) (fun h2 => ?_)
    · skip
      refine hv_iload_n C dJ3_checkIndex_8e157_16 rfl 0 rfl ?_
      exact hv_iret C hret dJ3_checkIndex_8e157_17 (by first | exact Nat.le_refl _ | decide | omega | (simp; done) | (simp; omega)) (by first | exact Nat.le_refl _ | decide | omega | (simp; done) | (simp; omega)) ⟨rfl, rfl⟩
    · skip
      exact absurd h2 (by omega)
set_option maxRecDepth 100000 in
set_option maxHeartbeats 4000000 in
theorem c_J15_checkIndex_7cf53 (l : Launch) (w : hv_W) (Y : hv_H) (x n : Nat) (hx : x < n) (hn : n < 2 ^ 31) : hv_Mr l yJ15_checkIndex_7cf53 wsJ15_checkIndex_7cf53 ({ frames := 2, cells := 0, slots := 0, locals := 62 }) w [.int (nI x), .int (nI n)] (Y) (fun r Y1 => r = .int (nI x) ∧ Y1 = Y) := by
  refine hv_ofV (cc := cJ15_checkIndex_7cf53) (own := RJ15) (by decide) rfl rfl (Nat.le_of_ble_eq_true rfl) rfl ?_
  intro p e s m below meth c C hret hnm
  refine hv_iload_n C dJ15_checkIndex_7cf53_0 rfl 0 rfl ?_
  refine hv_iload_n C dJ15_checkIndex_7cf53_1 rfl 1 rfl ?_
  refine hv_null C dJ15_checkIndex_7cf53_2 ?_
  refine hv_callSr (As := [.int (nI x), .int (nI n), .null]) (rest := []) (n := 3) C (c_J3_checkIndex_8e157 l w Y x n hx hn) gJ15_checkIndex_7cf53_J3_checkIndex_8e157 rfl (by decide +kernel) ⟨Nat.le_of_ble_eq_true rfl, Nat.le_of_ble_eq_true rfl⟩ rfl rfl (Nat.le_of_ble_eq_true rfl) dJ15_checkIndex_7cf53_3 ⟨by first | exact Nat.le_of_ble_eq_true rfl | omega | (simp; done) | (simp; omega), by first | exact Nat.le_of_ble_eq_true rfl | omega | (simp; done) | (simp; omega)⟩ (fun r1 Y1 hr => ?_)
  obtain ⟨rfl, hr⟩ := hr
  obtain rfl := hr.symm
  exact hv_iret C hret dJ15_checkIndex_7cf53_6 (by first | exact Nat.le_refl _ | decide | omega | (simp; done) | (simp; omega)) (by first | exact Nat.le_refl _ | decide | omega | (simp; done) | (simp; omega)) ⟨rfl, rfl⟩
set_option maxRecDepth 100000 in
set_option maxHeartbeats 4000000 in
theorem c_Jx4a65c_elementData_915e3 (l : Launch) (w : hv_W) (Y : hv_H) (a : Nat) (L : List Nat) (hY : Y a = some (.inr L)) (i v : Nat) (hi : L[i]? = some v) : hv_Mr l yJx4a65c_elementData_915e3 wsJx4a65c_elementData_915e3 ({ frames := 0, cells := 0, slots := 0, locals := 0 }) w [.ref (a), .int (nI i)] (Y) (fun r Y1 => r = .ref v ∧ Y1 = Y) := by
  refine hv_ofV (cc := cJx4a65c_elementData_915e3) (own := RJx4a65c) (by decide) rfl rfl (Nat.le_of_ble_eq_true rfl) rfl ?_
  intro p e s m below meth c C hret hnm
  have hin : ∀ x ∈ wsJx4a65c0, x ∈ wsJx4a65c_elementData_915e3 := by decide +kernel
  refine hv_opnV hY (fun ed mc o hea hed hcap => ?_)
  rcases o with _ | n
  · exact absurd hi (by rw [hcap.2]; simp)
  · obtain ⟨c1, c2, c3⟩ := hcap
    have hil := (List.getElem?_eq_some_iff.mp hi).1
    refine hv_aload_n C dJx4a65c_elementData_915e3_0 rfl 0 rfl ?_
    refine hv_getf (k := 1) C hin (show vwCl[0]? = some (RJx4a65c, TJx4a65c, 3) from rfl) (hv_op_a hea) (by decide) (by decide +kernel) (fun _ h => h) rfl dJx4a65c_elementData_915e3_1 ?_
    refine hv_iload_n C dJx4a65c_elementData_915e3_4 rfl 1 rfl ?_
    refine hv_aald C 5 rfl hv_op_e (vp_in_nI (n := i) (by omega) (by omega)) dJx4a65c_elementData_915e3_5 ?_
    rw [nI_clamp (by omega), hi]
    refine hv_shutL hY hea hed ⟨c1, c2, c3⟩ ?_
    exact hv_aret C hret (by first | exact Or.inl ⟨_, rfl⟩ | exact Or.inr ⟨_, rfl⟩) (by first | exact Or.inr ⟨_, rfl⟩ | exact Or.inl rfl) dJx4a65c_elementData_915e3_6 (by first | exact Nat.le_refl _ | decide | omega | (simp; done) | (simp; omega)) (by first | exact Nat.le_refl _ | decide | omega | (simp; done) | (simp; omega)) ⟨rfl, rfl⟩
set_option maxRecDepth 100000 in
set_option maxHeartbeats 4000000 in
theorem c_Jx4a65c_get_915e3 (l : Launch) (w : hv_W) (Y : hv_H) (a : Nat) (L : List Nat) (hY : Y a = some (.inr L)) (hL : L.length < 2 ^ 31) (i v : Nat) (hi : L[i]? = some v) : hv_Mr l yJx4a65c_get_915e3 wsJx4a65c_get_915e3 ({ frames := 3, cells := 0, slots := 0, locals := 83 }) w [.ref (a), .int (nI i)] (Y) (fun r Y1 => r = .ref v ∧ Y1 = Y) := by
  refine hv_ofV (cc := cJx4a65c_get_915e3) (own := RJx4a65c) (by decide) rfl rfl (Nat.le_of_ble_eq_true rfl) rfl ?_
  intro p e s m below meth c C hret hnm
  have hin : ∀ x ∈ wsJx4a65c0, x ∈ wsJx4a65c_get_915e3 := by decide +kernel
  refine hv_iload_n C dJx4a65c_get_915e3_0 rfl 1 rfl ?_
  refine hv_aload_n C dJx4a65c_get_915e3_1 rfl 0 rfl ?_
  refine hv_lsize C hY hin (by decide +kernel) dJx4a65c_get_915e3_2 ?_
  refine hv_callSr (As := [.int (nI i), .int (nI (L.length))]) (rest := []) (n := 2) C (c_J15_checkIndex_7cf53 l w Y i L.length (List.getElem?_eq_some_iff.mp hi).1 hL) gJx4a65c_get_915e3_J15_checkIndex_7cf53 rfl (by decide +kernel) ⟨Nat.le_of_ble_eq_true rfl, Nat.le_of_ble_eq_true rfl⟩ rfl rfl (Nat.le_of_ble_eq_true rfl) dJx4a65c_get_915e3_5 ⟨by first | exact Nat.le_of_ble_eq_true rfl | omega | (simp; done) | (simp; omega), by first | exact Nat.le_of_ble_eq_true rfl | omega | (simp; done) | (simp; omega)⟩ (fun r1 Y1 hr => ?_)
  obtain ⟨rfl, hr⟩ := hr
  obtain rfl := hr.symm
  refine hv_pop C dJx4a65c_get_915e3_8 rfl ?_
  refine hv_aload_n C dJx4a65c_get_915e3_9 rfl 0 rfl ?_
  refine hv_iload_n C dJx4a65c_get_915e3_10 rfl 1 rfl ?_
  refine hv_callVr (As := [.int (nI i)]) (rest := []) (n := 1) C (c_Jx4a65c_elementData_915e3 l w Y a L hY i v hi) gJx4a65c_get_915e3_Jx4a65c_elementData_915e3 rfl (by decide +kernel) ⟨Nat.le_of_ble_eq_true rfl, Nat.le_of_ble_eq_true rfl⟩ (hv_rcL hY) rfl rfl (Nat.le_of_ble_eq_true rfl) dJx4a65c_get_915e3_11 ⟨by first | exact Nat.le_of_ble_eq_true rfl | omega | (simp; done) | (simp; omega), by first | exact Nat.le_of_ble_eq_true rfl | omega | (simp; done) | (simp; omega)⟩ (fun r2 Y1 hr => ?_)
  obtain ⟨rfl, hr⟩ := hr
  obtain rfl := hr.symm
  exact hv_aret C hret (by first | exact Or.inl ⟨_, rfl⟩ | exact Or.inr ⟨_, rfl⟩) (by first | exact Or.inr ⟨_, rfl⟩ | exact Or.inl rfl) dJx4a65c_get_915e3_14 (by first | exact Nat.le_refl _ | decide | omega | (simp; done) | (simp; omega)) (by first | exact Nat.le_refl _ | decide | omega | (simp; done) | (simp; omega)) ⟨rfl, rfl⟩
theorem maxN {x y : Nat} (hx : x < 2 ^ 31) (hy : y < 2 ^ 31) : (if nI x < nI y then nI y else nI x) = nI (max x y) := by
  by_cases h : x < y
  · rw [if_pos ((nI_ltI hx hy).mpr h), Nat.max_eq_right (by omega)]
  · rw [if_neg (fun q => h ((nI_ltI hx hy).mp q)), Nat.max_eq_left (by omega)]
theorem minN {x y : Nat} (hx : x < 2 ^ 31) (hy : y < 2 ^ 31) : (if nI y < nI x then nI y else nI x) = nI (min x y) := by
  by_cases h : y < x
  · rw [if_pos ((nI_ltI hy hx).mpr h), Nat.min_eq_right (by omega)]
  · rw [if_neg (fun q => h ((nI_ltI hy hx).mp q)), Nat.min_eq_left (by omega)]
set_option maxRecDepth 100000 in
set_option maxHeartbeats 4000000 in
theorem c_J8_newLength_cabcc (l : Launch) (w : hv_W) (Y : hv_H) (x y z : Nat) (hx : x < 2 ^ 20) (hy : y < 2 ^ 20) (hz : z < 2 ^ 20) (h0 : 0 < y) : hv_Mr l yJ8_newLength_cabcc wsJ8_newLength_cabcc ({ frames := 1, cells := 0, slots := 0, locals := 40 }) w [.int (nI x), .int (nI y), .int (nI z)] (Y) (fun r Y1 => r = .int (nI (x + max y z)) ∧ Y1 = Y) := by
  refine hv_ofV (cc := cJ8_newLength_cabcc) (own := RJ8) (by decide) rfl rfl (Nat.le_of_ble_eq_true rfl) rfl ?_
  intro p e s m below meth c C hret hnm
  refine hv_iload_n C dJ8_newLength_cabcc_0 rfl 0 rfl ?_
  refine hv_iload_n C dJ8_newLength_cabcc_1 rfl 1 rfl ?_
  refine hv_iload_n C dJ8_newLength_cabcc_2 rfl 2 rfl ?_
  refine hv_max C (by decide +kernel) (by decide +kernel) (by decide +kernel) (by decide +kernel) (Nat.le_of_ble_eq_true rfl) (Nat.le_of_ble_eq_true rfl) (by first | exact Nat.le_refl _ | exact Nat.zero_le _ | exact hcs.1) (by first | exact Nat.le_refl _ | exact Nat.zero_le _ | exact hcs.2) dJ8_newLength_cabcc_3 ?_
  refine hv_top (y := nI (max y z)) (maxN (by omega) (by omega)) ?_
  refine hv_iaddN C dJ8_newLength_cabcc_6 ?_
  refine hv_istore_n (lv1 := [(0, .int (nI x)), (1, .int (nI y)), (2, .int (nI z)), (3, .int (nI (x + (max y z))))]) C dJ8_newLength_cabcc_7 rfl (by decide) [1, 2, 3, 0] rfl ?_
  refine hv_iconst (v := nI 0) C dJ8_newLength_cabcc_8 (by decide) ?_
  refine hv_iload_n C dJ8_newLength_cabcc_9 rfl 3 rfl ?_
  refine hv_icmpN_ge (tgt := 21) C dJ8_newLength_cabcc_10 (by decide) (by omega) (by omega) (fun h1 => ?_) (fun h1 => ?_)
  · skip
    exact absurd h1 (by omega)
  · skip
    refine hv_iload_n C dJ8_newLength_cabcc_13 rfl 3 rfl ?_
    refine hv_ldc (v := nI 2147483639) C (by decide +kernel) dJ8_newLength_cabcc_14 ?_
    refine hv_icmpN_gt (tgt := 21) C dJ8_newLength_cabcc_16 (by decide) (by omega) (by omega) (fun h2 => ?_) (fun h2 => ?_)
    · skip
      exact absurd h2 (by omega)
    · skip
      refine hv_iload_n C dJ8_newLength_cabcc_19 rfl 3 rfl ?_
      exact hv_iret C hret dJ8_newLength_cabcc_20 (by first | exact Nat.le_refl _ | decide | omega | (simp; done) | (simp; omega)) (by first | exact Nat.le_refl _ | decide | omega | (simp; done) | (simp; omega)) ⟨rfl, rfl⟩
