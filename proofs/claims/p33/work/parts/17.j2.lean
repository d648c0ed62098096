theorem hv_cpy3 {x : Nat} {L : List Nat} (h : L.length ≤ 0) : va_up (fun j => (x :: L)[j]?) L.length none = fun j => L[j]? := by
  obtain rfl : L = [] := List.eq_nil_of_length_eq_zero (by omega)
  exact hv_cpy2 x
theorem hv_regrow {w : hv_W} {Y : hv_H} {a ed q : Nat} {mc : Int32} {o : Option Nat} {L : List Nat} (hed : Y ed = none) (hea : ed ≠ a) (hq : hv_op w Y a mc ed o L q = none) : q ≠ a ∧ Y q = none := by
  have h1 : q ≠ a := by
    intro z
    rw [z, hv_op_a hea] at hq
    cases hq
  refine ⟨h1, ?_⟩
  by_cases z : q = ed
  · rw [z]; exact hed
  · rw [hv_op_n h1 z] at hq
    exact hq
theorem hv_regrow2 {w : hv_W} {Y : hv_H} {a ed q N : Nat} {mc : Int32} {o : Option Nat} {L : List Nat} (hed : Y ed = none) (hqa : q ≠ a) : ∀ (b : Nat) (e : hv_E), hv_op w Y a mc q (some N) L b = some e → hv_up (hv_up (hv_op w Y a mc ed o L) q (hv_la w N L)) a (hv_lo mc q L) b = some e := by
  intro b e hb
  by_cases h1 : b = a
  · subst h1
    rw [hv_op_a hqa] at hb
    rw [hv_up_s]
    exact hb
  · by_cases h2 : b = q
    · subst h2
      rw [hv_op_e] at hb
      rw [hv_up_n h1, hv_up_s]
      exact hb
    · rw [hv_op_n h1 h2] at hb
      have h3 : b ≠ ed := by
        intro z
        rw [z, hed] at hb
        cases hb
      rw [hv_up_n h1, hv_up_n h2, hv_op_n h1 h3]
      exact hb
theorem hv_op_add {w : hv_W} {Y : hv_H} {a ed n : Nat} {mc : Int32} {L L' : List Nat} (hea : ed ≠ a) : hv_up (hv_up (hv_op w Y a mc ed (some n) L) ed (hv_la w n L')) a (hv_lo mc ed L') = hv_op w Y a mc ed (some n) L' := by
  funext b
  by_cases h1 : b = a
  · subst h1
    rw [hv_up_s, hv_op_a hea]
  · by_cases h2 : b = ed
    · subst h2
      rw [hv_up_n h1, hv_up_s, hv_op_e]
    · rw [hv_up_n h1, hv_up_n h2, hv_op_n h1 h2, hv_op_n h1 h2]
theorem hv_op_rem {w : hv_W} {Y : hv_H} {a ed n : Nat} {mc : Int32} {L L' : List Nat} {X : hv_E} (hea : ed ≠ a) : hv_up (hv_up (hv_up (hv_op w Y a mc ed (some n) L) ed X) a (hv_lo mc ed L')) ed (hv_la w n L') = hv_op w Y a mc ed (some n) L' := by
  funext b
  by_cases h1 : b = a
  · subst h1
    rw [hv_up_n (Ne.symm hea), hv_up_s, hv_op_a hea]
  · by_cases h2 : b = ed
    · subst h2
      rw [hv_up_s, hv_op_e]
    · rw [hv_up_n h2, hv_up_n h1, hv_up_n h2, hv_op_n h1 h2, hv_op_n h1 h2]
theorem hv_op_rem0 {w : hv_W} {Y : hv_H} {a ed n : Nat} {mc : Int32} {L L' : List Nat} (hea : ed ≠ a) : hv_up (hv_up (hv_op w Y a mc ed (some n) L) a (hv_lo mc ed L')) ed (hv_la w n L') = hv_op w Y a mc ed (some n) L' := by
  funext b
  by_cases h1 : b = a
  · subst h1
    rw [hv_up_n (Ne.symm hea), hv_up_s, hv_op_a hea]
  · by_cases h2 : b = ed
    · subst h2
      rw [hv_up_s, hv_op_e]
    · rw [hv_up_n h2, hv_up_n h1, hv_op_n h1 h2, hv_op_n h1 h2]
section HJ3
variable {p : Program} {l : Launch} {e : Env} {R : Room} {s : State} {m : MethodId} {args : Array Value} {below : List Frame} {meth : Method} {c : Code} {w : hv_W} {nL : Nat} {Q : State → Prop} {cells slots : Nat} {Y : hv_H} {lv : List (Nat × Value)} {pc : Nat} {st : List Value}
theorem hv_joinC {α : Type} {pcJ : Nat} (cJ sJ : α → Nat) (YJ : α → hv_H) (lvJ : α → List (Nat × Value)) (stJ : α → List Value) (Cn : α → Prop) (kJ : ∀ t : α, Cn t → hv_V p l e R s m args below meth c w nL Q (cJ t) (sJ t) (YJ t) (lvJ t) pcJ (stJ t)) (k : (∀ t : α, Cn t → hv_V p l e R s m args below meth c w nL Q (cJ t) (sJ t) (YJ t) (lvJ t) pcJ (stJ t)) → hv_V p l e R s m args below meth c w nL Q cells slots Y lv pc st) : hv_V p l e R s m args below meth c w nL Q cells slots Y lv pc st := k kJ
end HJ3
set_option maxRecDepth 100000 in
set_option maxHeartbeats 4000000 in
theorem c_J7_copyOf_6403c (l : Launch) (w : hv_W) (Y : hv_H) (ed n N ci : Nat) (L : List Nat) (hY : Y ed = some (hv_la w n L)) (hlen : L.length ≤ n) (hnN : n ≤ N) (hN : N ≤ 60) (hE : ci = 1 ∨ ci = 3) (hel : ∀ x ∈ L, ∃ fs : List Value, Y x = some (.inl (.inr (ci, fs)))) : hv_Mr l yJ7_copyOf_6403c wsJ7_copyOf_6403c ({ frames := 1, cells := 1, slots := N, locals := 40 }) w [.ref (ed), .int (nI N), .ref (hv_m w)] (Y) (fun r Y1 => ∃ q, r = .ref q ∧ Y q = none ∧ Y1 = hv_up Y q (hv_la w N L)) := by
  refine hv_ofV (cc := cJ7_copyOf_6403c) (own := RJ7) (by decide) rfl rfl (Nat.le_of_ble_eq_true rfl) rfl ?_
  intro p e s m below meth c C hret hnm
  refine hv_aload_n C dJ7_copyOf_6403c_0 rfl 2 rfl ?_
  refine hv_ldcM C (by decide +kernel) dJ7_copyOf_6403c_1 ?_
  refine hv_acmpR_ne (tgt := 13) C dJ7_copyOf_6403c_3 (by decide) (fun h1 => ?_) (fun h1 => ?_)
  · skip
    exact absurd rfl h1
  · skip
    refine hv_iload_n C dJ7_copyOf_6403c_6 rfl 1 rfl ?_
    refine hv_newq C 5 (show (hv_T w)[5]? = some (hv_c w 5, .object "java/lang/Object") from rfl) C.2.2.2.2.2.2.1.2.2.2.2.1.2.2 (by decide +kernel) (nI_pos (by omega)) (nI_clamp (by omega)) (by omega) (Nat.le_of_ble_eq_true rfl) (by simp) dJ7_copyOf_6403c_7 (fun q hq => ?_)
    have hqe : ed ≠ q := by intro z; rw [z, hq] at hY; cases hY
    refine hv_goto (tgt := 24) C dJ7_copyOf_6403c_10 (by decide) ?_
    refine hv_astore_n (lv1 := [(0, .ref (ed)), (1, .int (nI N)), (2, .ref (hv_m w)), (3, .ref (q))]) C dJ7_copyOf_6403c_24 rfl (by decide) [1, 2, 3, 0] rfl ?_
    refine hv_aload_n C dJ7_copyOf_6403c_25 rfl 0 rfl ?_
    refine hv_iconst (v := nI 0) C dJ7_copyOf_6403c_26 (by decide) ?_
    refine hv_aload_n C dJ7_copyOf_6403c_27 rfl 3 rfl ?_
    refine hv_iconst (v := nI 0) C dJ7_copyOf_6403c_28 (by decide) ?_
    refine hv_aload_n C dJ7_copyOf_6403c_29 rfl 0 rfl ?_
    refine hv_alen C 5 (show (hv_T w)[5]? = some (hv_c w 5, .object "java/lang/Object") from rfl) ((hv_up_n hqe).trans hY) (v := nI n) rfl dJ7_copyOf_6403c_30 ?_
    refine hv_iload_n C dJ7_copyOf_6403c_31 rfl 1 rfl ?_
    refine hv_min C (by decide +kernel) (by decide +kernel) (by decide +kernel) (by decide +kernel) (Nat.le_of_ble_eq_true rfl) (Nat.le_of_ble_eq_true rfl) (Nat.le_of_ble_eq_true rfl) (by simp) dJ7_copyOf_6403c_32 ?_
    refine hv_top (y := nI n) ((minN (by omega) (by omega)).trans (by rw [Nat.min_eq_left hnN])) ?_
    obtain ⟨Ev, T, N9, hci, hca⟩ := hv_E13 C hE
    refine hv_copyq (f := fun j => L[j]?) (g := fun _ => none) C ((hv_up_n hqe).trans hY) hv_up_s (by decide) (by decide) (nI_pos (by omega)) (by rw [nI_clamp (by omega), nI_clamp (by omega)]; omega) (by rw [nI_clamp (by omega), nI_clamp (by omega)]; omega) hci (fun i y hy => ?_) hca (by decide +kernel) (by decide +kernel) (by decide +kernel) (by decide +kernel) (Nat.le_of_ble_eq_true rfl) (Nat.le_of_ble_eq_true rfl) dJ7_copyOf_6403c_35 ?_
    · obtain ⟨fs, hfs⟩ := hel y (List.mem_of_getElem? hy)
      refine ⟨fs, (hv_up_n ?_).trans hfs⟩
      intro z
      rw [z, hq] at hfs
      cases hfs
    rw [nI_clamp (by omega), nI_clamp (by omega)]
    refine hv_fin (Y1 := hv_up Y q (hv_la w N L)) ?_ (by rw [hv_cpy0 hlen, hv_upup]; rfl) rfl
    refine hv_aload_n C dJ7_copyOf_6403c_38 rfl 3 rfl ?_
    exact hv_aret C hret (by first | exact Or.inl ⟨_, rfl⟩ | exact Or.inr ⟨_, rfl⟩) (by first | exact Or.inr ⟨_, rfl⟩ | exact Or.inl rfl) dJ7_copyOf_6403c_39 (by first | exact Nat.le_refl _ | decide | omega | (simp; done) | (simp; omega)) (by first | exact Nat.le_refl _ | decide | omega | (simp; done) | (simp; omega)) ⟨q, rfl, hq, rfl⟩
set_option maxRecDepth 100000 in
set_option maxHeartbeats 4000000 in
theorem c_J7_copyOf_1904c (l : Launch) (w : hv_W) (Y : hv_H) (ed n N ci : Nat) (L : List Nat) (hY : Y ed = some (hv_la w n L)) (hlen : L.length ≤ n) (hnN : n ≤ N) (hN : N ≤ 60) (hE : ci = 1 ∨ ci = 3) (hel : ∀ x ∈ L, ∃ fs : List Value, Y x = some (.inl (.inr (ci, fs)))) : hv_Mr l yJ7_copyOf_1904c wsJ7_copyOf_1904c ({ frames := 2, cells := 1, slots := N, locals := 63 }) w [.ref (ed), .int (nI N)] (Y) (fun r Y1 => ∃ q, r = .ref q ∧ Y q = none ∧ Y1 = hv_up Y q (hv_la w N L)) := by
  refine hv_ofV (cc := cJ7_copyOf_1904c) (own := RJ7) (by decide) rfl rfl (Nat.le_of_ble_eq_true rfl) rfl ?_
  intro p e s m below meth c C hret hnm
  refine hv_aload_n C dJ7_copyOf_1904c_0 rfl 0 rfl ?_
  refine hv_iload_n C dJ7_copyOf_1904c_1 rfl 1 rfl ?_
  refine hv_aload_n C dJ7_copyOf_1904c_2 rfl 0 rfl ?_
  refine hv_getC C hY (by decide +kernel) (by decide +kernel) (by decide +kernel) (by decide +kernel) (Nat.le_of_ble_eq_true rfl) (Nat.le_of_ble_eq_true rfl) dJ7_copyOf_1904c_3 ?_
  refine hv_callSr (As := [.ref (ed), .int (nI N), .ref (hv_m w)]) (rest := []) (n := 3) C (c_J7_copyOf_6403c l w Y ed n N ci L hY hlen hnN hN hE hel) gJ7_copyOf_1904c_J7_copyOf_6403c rfl (by decide +kernel) ⟨Nat.le_of_ble_eq_true rfl, Nat.le_of_ble_eq_true rfl⟩ rfl rfl (Nat.le_of_ble_eq_true rfl) dJ7_copyOf_1904c_6 ⟨by first | exact Nat.le_of_ble_eq_true rfl | omega | (simp; done) | (simp; omega), by first | exact Nat.le_of_ble_eq_true rfl | omega | (simp; done) | (simp; omega)⟩ (fun r1 Y1 hr => ?_)
  obtain ⟨q, rfl, hq, hr⟩ := hr
  subst hr
  exact hv_aret C hret (by first | exact Or.inl ⟨_, rfl⟩ | exact Or.inr ⟨_, rfl⟩) (by first | exact Or.inr ⟨_, rfl⟩ | exact Or.inl rfl) dJ7_copyOf_1904c_9 (by first | exact Nat.le_refl _ | decide | omega | (simp; done) | (simp; omega)) (by first | exact Nat.le_refl _ | decide | omega | (simp; done) | (simp; omega)) ⟨q, rfl, hq, rfl⟩
set_option maxRecDepth 100000 in
set_option maxHeartbeats 4000000 in
theorem c_Jx4a65c_grow_92f84 (l : Launch) (w : hv_W) (Y : hv_H) (a ed ci S : Nat) (mc : Int32) (o : Option Nat) (L : List Nat) (hY : Y a = some (.inr L)) (hea : ed ≠ a) (hed : Y ed = none) (hcap : hv_cap w o ed L) (hfull : ∀ n, o = some n → n = L.length) (hL : L.length ≤ 40) (hS : L.length < 10 ∧ 10 ≤ S ∨ 60 ≤ S) (hE : ci = 1 ∨ ci = 3) (hel : ∀ x ∈ L, ∃ fs : List Value, Y x = some (.inl (.inr (ci, fs)))) : hv_Mr l yJx4a65c_grow_92f84 wsJx4a65c_grow_92f84 ({ frames := 3, cells := 1, slots := S, locals := 84 }) w [.ref (a), .int (nI (L.length + 1))] (hv_op w Y a mc ed o L) (fun r Y1 => ∃ q n, r = .ref q ∧ q ≠ a ∧ Y q = none ∧ L.length < n ∧ hv_cap w (some n) q L ∧ Y1 = hv_op w Y a mc q (some n) L) := by
  refine hv_ofV (cc := cJx4a65c_grow_92f84) (own := RJx4a65c) (by decide) rfl rfl (Nat.le_of_ble_eq_true rfl) rfl ?_
  intro p e s m below meth c C hret hnm
  have hin : ∀ x ∈ wsJx4a65c0, x ∈ wsJx4a65c_grow_92f84 := by decide +kernel
  rcases o with _ | n
  · skip
    obtain ⟨rfl, rfl⟩ := hcap
    refine hv_aload_n C dJx4a65c_grow_92f84_0 rfl 0 rfl ?_
    refine hv_getf (k := 1) C hin (show vwCl[0]? = some (RJx4a65c, TJx4a65c, 3) from rfl) (hv_op_a hea) (by decide) (by decide +kernel) (fun _ h => h) rfl dJx4a65c_grow_92f84_1 ?_
    refine hv_tlen C dJx4a65c_grow_92f84_4 ?_
    refine hv_istore_n (lv1 := [(0, .ref (a)), (1, .int (nI (([] : List Nat).length + 1))), (2, .int (nI 0))]) C dJx4a65c_grow_92f84_5 rfl (by decide) [1, 2, 0] rfl ?_
    refine hv_iload_n C dJx4a65c_grow_92f84_6 rfl 2 rfl ?_
    refine hv_ifN_gt (tgt := 20) C dJx4a65c_grow_92f84_7 (by decide) (by omega) (fun h => absurd h (by decide)) (fun _ => ?_)
    refine hv_aload_n C dJx4a65c_grow_92f84_10 rfl 0 rfl ?_
    refine hv_getf (k := 1) C hin (show vwCl[0]? = some (RJx4a65c, TJx4a65c, 3) from rfl) (hv_op_a hea) (by decide) (by decide +kernel) (fun _ h => h) rfl dJx4a65c_grow_92f84_11 ?_
    refine hv_gets C (by decide +kernel) dJx4a65c_grow_92f84_14 ?_
    refine hv_acmpR_eq (tgt := 45) C dJx4a65c_grow_92f84_17 (by decide) (fun h2 => ?_) (fun h2 => ?_)
    · skip
      refine hv_aload_n C dJx4a65c_grow_92f84_45 rfl 0 rfl ?_
      refine hv_bipush (v := nI 10) C dJx4a65c_grow_92f84_46 (by decide) ?_
      refine hv_iload_n C dJx4a65c_grow_92f84_48 rfl 1 rfl ?_
      refine hv_max C (by decide +kernel) (by decide +kernel) (by decide +kernel) (by decide +kernel) (Nat.le_of_ble_eq_true rfl) (Nat.le_of_ble_eq_true rfl) (by first | decide | (simp; done)) (by first | decide | (simp; done)) dJx4a65c_grow_92f84_49 ?_
      refine hv_top (y := nI 10) (by decide) ?_
      refine hv_newq C 5 (show (hv_T w)[5]? = some (hv_c w 5, .object "java/lang/Object") from rfl) C.2.2.2.2.2.2.1.2.2.2.2.1.2.2 (by decide +kernel) (nI_pos (by omega)) (N := 10) (nI_clamp (by omega)) (by omega) (by first | exact Nat.le_of_ble_eq_true rfl | (simp; omega)) (by first | exact Nat.le_of_ble_eq_true rfl | (simp; omega) | (simp at hS ⊢; omega)) dJx4a65c_grow_92f84_52 (fun q hq => ?_)
      obtain ⟨hqa, hYq⟩ := hv_regrow hed hea hq
      refine hv_fin (Y1 := hv_up (hv_op w Y a mc (hv_t w) none []) q (hv_la w 10 [])) ?_ (by rfl) rfl
      refine hv_dup_x1 C dJx4a65c_grow_92f84_55 rfl rfl ?_
      refine hv_putf (k := 1) C hin tyJx4a65c tyJx4a65c_ok nmJx4a65c (show vwCl[0]? = some (RJx4a65c, TJx4a65c, 3) from rfl) ((hv_up_n (Ne.symm hqa)).trans (hv_op_a hea)) (by decide) (by decide +kernel) (fun _ h => h) rfl (ty := .array (.object "java/lang/Object")) (by decide +kernel) (by rfl) (by rfl) (by show 1 < 3; decide) dJx4a65c_grow_92f84_56 ?_
      refine hv_lessV (hv_regrow2 hed hqa) ?_
      exact hv_aret C hret (by first | exact Or.inl ⟨_, rfl⟩ | exact Or.inr ⟨_, rfl⟩) (by first | exact Or.inr ⟨_, rfl⟩ | exact Or.inl rfl) dJx4a65c_grow_92f84_59 (by first | exact Nat.le_refl _ | decide | omega | (simp; done) | (simp; omega)) (by first | exact Nat.le_refl _ | decide | omega | (simp; done) | (simp; omega)) ⟨q, 10, rfl, hqa, hYq, by simp, ⟨by simp, by decide, by decide⟩, rfl⟩
    · skip
      exact absurd rfl h2
  · skip
    obtain ⟨c1, c2, c3⟩ := hcap
    have hn := hfull n rfl
    refine hv_aload_n C dJx4a65c_grow_92f84_0 rfl 0 rfl ?_
    refine hv_getf (k := 1) C hin (show vwCl[0]? = some (RJx4a65c, TJx4a65c, 3) from rfl) (hv_op_a hea) (by decide) (by decide +kernel) (fun _ h => h) rfl dJx4a65c_grow_92f84_1 ?_
    refine hv_alen C 5 (show (hv_T w)[5]? = some (hv_c w 5, .object "java/lang/Object") from rfl) hv_op_e (v := nI n) rfl dJx4a65c_grow_92f84_4 ?_
    refine hv_istore_n (lv1 := [(0, .ref (a)), (1, .int (nI (L.length + 1))), (2, .int (nI n))]) C dJx4a65c_grow_92f84_5 rfl (by decide) [1, 2, 0] rfl ?_
    refine hv_iload_n C dJx4a65c_grow_92f84_6 rfl 2 rfl ?_
    refine hv_ifN_gt (tgt := 20) C dJx4a65c_grow_92f84_7 (by decide) (by omega) (fun h3 => ?_) (fun h3 => ?_)
    · skip
      refine hv_iload_n C dJx4a65c_grow_92f84_20 rfl 2 rfl ?_
      refine hv_iload_n C dJx4a65c_grow_92f84_21 rfl 1 rfl ?_
      refine hv_iload_n C dJx4a65c_grow_92f84_22 rfl 2 rfl ?_
      refine hv_isubN C dJx4a65c_grow_92f84_23 (by omega) ?_
      refine hv_iload_n C dJx4a65c_grow_92f84_24 rfl 2 rfl ?_
      refine hv_iconst (v := nI 1) C dJx4a65c_grow_92f84_25 (by decide) ?_
      refine hv_ishr C dJx4a65c_grow_92f84_26 ?_
      refine hv_top (nb_shr (by omega) (by omega)) ?_
      refine hv_callSr (As := [.int (nI n), .int (nI ((L.length + 1) - n)), .int (nI (n / 2 ^ 1))]) (rest := []) (n := 3) C (c_J8_newLength_cabcc l w (hv_op w Y a mc ed (some n) L) n (L.length + 1 - n) (n / 2 ^ 1) (by omega) (by omega) (by omega) (by omega)) gJx4a65c_grow_92f84_J8_newLength_cabcc rfl (by decide +kernel) ⟨Nat.le_of_ble_eq_true rfl, Nat.le_of_ble_eq_true rfl⟩ rfl rfl (Nat.le_of_ble_eq_true rfl) dJx4a65c_grow_92f84_27 ⟨by first | exact Nat.le_of_ble_eq_true rfl | omega | (simp; done) | (simp; omega), by first | exact Nat.le_of_ble_eq_true rfl | omega | (simp; done) | (simp; omega)⟩ (fun r4 Y1 hr => ?_)
      obtain ⟨rfl, hr⟩ := hr
      subst hr
      have h1 : max (L.length + 1 - n) (n / 2 ^ 1) ≤ 20 := Nat.max_le.mpr ⟨by omega, by omega⟩
      have h2 := Nat.le_max_left (L.length + 1 - n) (n / 2 ^ 1)
      obtain ⟨N9, hN9⟩ : ∃ N9, n + max (L.length + 1 - n) (n / 2 ^ 1) = N9 := ⟨_, rfl⟩
      rw [hN9]
      refine hv_istore_n (lv1 := [(0, .ref (a)), (1, .int (nI (L.length + 1))), (2, .int (nI n)), (3, .int (nI N9))]) C dJx4a65c_grow_92f84_30 rfl (by decide) [1, 2, 3, 0] rfl ?_
      refine hv_aload_n C dJx4a65c_grow_92f84_31 rfl 0 rfl ?_
      refine hv_aload_n C dJx4a65c_grow_92f84_32 rfl 0 rfl ?_
      refine hv_getf (k := 1) C hin (show vwCl[0]? = some (RJx4a65c, TJx4a65c, 3) from rfl) (hv_op_a hea) (by decide) (by decide +kernel) (fun _ h => h) rfl dJx4a65c_grow_92f84_33 ?_
      refine hv_iload_n C dJx4a65c_grow_92f84_36 rfl 3 rfl ?_
      refine hv_callSr (As := [.ref (ed), .int (nI N9)]) (rest := [.ref (a)]) (n := 2) C (c_J7_copyOf_1904c l w (hv_op w Y a mc ed (some n) L) ed n N9 ci L hv_op_e (by omega) (by omega) (by omega) hE (fun x hx => (hel x hx).imp (fun fs h => hv_op_y hY hed h))) gJx4a65c_grow_92f84_J7_copyOf_1904c rfl (by decide +kernel) ⟨Nat.le_of_ble_eq_true rfl, Nat.le_of_ble_eq_true rfl⟩ rfl rfl (Nat.le_of_ble_eq_true rfl) dJx4a65c_grow_92f84_37 ⟨by first | exact Nat.le_of_ble_eq_true rfl | omega | (simp; done) | (simp; omega), by first | exact Nat.le_of_ble_eq_true rfl | omega | (simp; done) | (simp; omega)⟩ (fun r5 Y1 hr => ?_)
      obtain ⟨q, rfl, hq, hr⟩ := hr
      subst hr
      obtain ⟨hqa, hYq⟩ := hv_regrow hed hea hq
      refine hv_dup_x1 C dJx4a65c_grow_92f84_40 rfl rfl ?_
      refine hv_putf (k := 1) C hin tyJx4a65c tyJx4a65c_ok nmJx4a65c (show vwCl[0]? = some (RJx4a65c, TJx4a65c, 3) from rfl) ((hv_up_n (Ne.symm hqa)).trans (hv_op_a hea)) (by decide) (by decide +kernel) (fun _ h => h) rfl (ty := .array (.object "java/lang/Object")) (by decide +kernel) (by rfl) (by rfl) (by show 1 < 3; decide) dJx4a65c_grow_92f84_41 ?_
      refine hv_lessV (hv_regrow2 hed hqa) ?_
      exact hv_aret C hret (by first | exact Or.inl ⟨_, rfl⟩ | exact Or.inr ⟨_, rfl⟩) (by first | exact Or.inr ⟨_, rfl⟩ | exact Or.inl rfl) dJx4a65c_grow_92f84_44 (by first | exact Nat.le_refl _ | decide | omega | (simp; done) | (simp; omega)) (by first | exact Nat.le_refl _ | decide | omega | (simp; done) | (simp; omega)) ⟨q, N9, rfl, hqa, hYq, by omega, ⟨by omega, by omega, by omega⟩, rfl⟩
    · skip
      exact absurd h3 (by omega)
set_option maxRecDepth 100000 in
set_option maxHeartbeats 4000000 in
theorem c_Jx4a65c_grow_d5877 (l : Launch) (w : hv_W) (Y : hv_H) (a ed ci S : Nat) (mc : Int32) (o : Option Nat) (L : List Nat) (hY : Y a = some (.inr L)) (hea : ed ≠ a) (hed : Y ed = none) (hcap : hv_cap w o ed L) (hfull : ∀ n, o = some n → n = L.length) (hL : L.length ≤ 40) (hS : L.length < 10 ∧ 10 ≤ S ∨ 60 ≤ S) (hE : ci = 1 ∨ ci = 3) (hel : ∀ x ∈ L, ∃ fs : List Value, Y x = some (.inl (.inr (ci, fs)))) : hv_Mr l yJx4a65c_grow_d5877 wsJx4a65c_grow_d5877 ({ frames := 4, cells := 1, slots := S, locals := 107 }) w [.ref (a)] (hv_op w Y a mc ed o L) (fun r Y1 => ∃ q n, r = .ref q ∧ q ≠ a ∧ Y q = none ∧ L.length < n ∧ hv_cap w (some n) q L ∧ Y1 = hv_op w Y a mc q (some n) L) := by
  refine hv_ofV (cc := cJx4a65c_grow_d5877) (own := RJx4a65c) (by decide) rfl rfl (Nat.le_of_ble_eq_true rfl) rfl ?_
  intro p e s m below meth c C hret hnm
  have hin : ∀ x ∈ wsJx4a65c0, x ∈ wsJx4a65c_grow_d5877 := by decide +kernel
  refine hv_aload_n C dJx4a65c_grow_d5877_0 rfl 0 rfl ?_
  refine hv_aload_n C dJx4a65c_grow_d5877_1 rfl 0 rfl ?_
  refine hv_getf (k := 2) C hin (show vwCl[0]? = some (RJx4a65c, TJx4a65c, 3) from rfl) (hv_op_a hea) (by decide) (by decide +kernel) (fun _ h => h) rfl dJx4a65c_grow_d5877_2 ?_
  refine hv_iconst (v := nI 1) C dJx4a65c_grow_d5877_5 (by decide) ?_
  refine hv_iaddN C dJx4a65c_grow_d5877_6 ?_
  refine hv_callVr (As := [.int (nI (L.length + 1))]) (rest := []) (n := 1) C (c_Jx4a65c_grow_92f84 l w Y a ed ci S mc o L hY hea hed hcap hfull hL hS hE hel) gJx4a65c_grow_d5877_Jx4a65c_grow_92f84 rfl (by decide +kernel) ⟨Nat.le_of_ble_eq_true rfl, Nat.le_of_ble_eq_true rfl⟩ (hv_rcO (hv_op_a hea) rfl) rfl rfl (Nat.le_of_ble_eq_true rfl) dJx4a65c_grow_d5877_7 ⟨by first | exact Nat.le_of_ble_eq_true rfl | omega | (simp; done) | (simp; omega), by first | exact Nat.le_of_ble_eq_true rfl | omega | (simp; done) | (simp; omega)⟩ (fun r1 Y1 hr => ?_)
  obtain ⟨q, n9, rfl, hqa, hYq, hn9, hcap9, hr⟩ := hr
  subst hr
  exact hv_aret C hret (by first | exact Or.inl ⟨_, rfl⟩ | exact Or.inr ⟨_, rfl⟩) (by first | exact Or.inr ⟨_, rfl⟩ | exact Or.inl rfl) dJx4a65c_grow_d5877_10 (by first | exact Nat.le_refl _ | decide | omega | (simp; done) | (simp; omega)) (by first | exact Nat.le_refl _ | decide | omega | (simp; done) | (simp; omega)) ⟨q, n9, rfl, hqa, hYq, hn9, hcap9, rfl⟩
set_option maxRecDepth 100000 in
set_option maxHeartbeats 4000000 in
theorem c_Jx4a65c_add_72be8 (l : Launch) (w : hv_W) (Y : hv_H) (a v ed ci S : Nat) (fsv : List Value) (mc : Int32) (o : Option Nat) (L : List Nat) (hY : Y a = some (.inr L)) (hv : Y v = some (.inl (.inr (ci, fsv)))) (hea : ed ≠ a) (hed : Y ed = none) (hcap : hv_cap w o ed L) (hL : L.length ≤ 40) (hS : L.length < 10 ∧ 10 ≤ S ∨ 60 ≤ S) (hE : ci = 1 ∨ ci = 3) (hel : ∀ x ∈ L, ∃ fs : List Value, Y x = some (.inl (.inr (ci, fs)))) : hv_Mv l yJx4a65c_add_72be8 wsJx4a65c_add_72be8 ({ frames := 5, cells := 1, slots := S, locals := 127 }) w [.ref (a), .ref (v), .ref (ed), .int (nI (L.length))] (hv_op w Y a mc ed o L) (fun Y1 => Y1 = hv_up Y a (.inr (L ++ [v]))) := by
  refine hv_ofV (cc := cJx4a65c_add_72be8) (own := RJx4a65c) (by decide) rfl rfl (Nat.le_of_ble_eq_true rfl) rfl ?_
  intro p e s m below meth c C hret hnm
  have hin : ∀ x ∈ wsJx4a65c0, x ∈ wsJx4a65c_add_72be8 := by decide +kernel
  obtain ⟨Ev, T, N9, hci, hca⟩ := hv_E13 C hE
  refine hv_joinC (α := Nat × Nat × Nat × Nat) (pcJ := 11) (fun t9 => t9.1) (fun t9 => t9.2.1) (fun t9 => hv_op w Y a mc t9.2.2.1 (some t9.2.2.2) L) (fun t9 => [(0, .ref a), (1, .ref v), (2, .ref t9.2.2.1), (3, .int (nI L.length))]) (fun _ => []) (fun t9 => t9.1 ≤ 1 ∧ t9.2.1 ≤ S ∧ t9.2.2.1 ≠ a ∧ Y t9.2.2.1 = none ∧ L.length < t9.2.2.2 ∧ hv_cap w (some t9.2.2.2) t9.2.2.1 L) ?_ ?_
  · rintro ⟨cs, ss, q, n⟩ ⟨j1, j2, j3, j4, j5, c1, c2, c3⟩
    dsimp only at j1 j2 j3 j4 j5 c1 c2 c3 ⊢
    refine hv_aload_n C dJx4a65c_add_72be8_11 rfl 2 rfl ?_
    refine hv_iload_n C dJx4a65c_add_72be8_12 rfl 3 rfl ?_
    refine hv_aload_n C dJx4a65c_add_72be8_13 rfl 1 rfl ?_
    refine hv_aast C 5 (show (hv_T w)[5]? = some (hv_c w 5, .object "java/lang/Object") from rfl) (Or.inl hca) (hv_op_y hY j4 hv) hci hv_op_e (vp_in_nI (by omega) (by omega)) dJx4a65c_add_72be8_14 ?_
    rw [nI_clamp (by omega), hv_app]
    refine hv_aload_n C dJx4a65c_add_72be8_15 rfl 0 rfl ?_
    refine hv_iload_n C dJx4a65c_add_72be8_16 rfl 3 rfl ?_
    refine hv_iconst (v := nI 1) C dJx4a65c_add_72be8_17 (by decide) ?_
    refine hv_iaddN C dJx4a65c_add_72be8_18 ?_
    refine hv_putf (k := 2) C hin tyJx4a65c tyJx4a65c_ok nmJx4a65c (show vwCl[0]? = some (RJx4a65c, TJx4a65c, 3) from rfl) ((hv_up_n (Ne.symm j3)).trans (hv_op_a j3)) (by decide) (by decide +kernel) (fun _ h => h) rfl (ty := .int) (by decide +kernel) (by rfl) (by rfl) (by show 2 < 3; decide) dJx4a65c_add_72be8_19 ?_
    have hlen : (L ++ [v]).length = L.length + 1 := by simp
    refine hv_fin (Y1 := hv_op w Y a mc q (some n) (L ++ [v])) ?_ ((congrArg (hv_up _ a) (show _ = hv_lo mc q (L ++ [v]) from by unfold hv_lo; rw [hlen]; rfl)).trans (hv_op_add j3)) rfl
    refine hv_shut j3 j4 ⟨by omega, c2, c3⟩ ?_
    exact hv_vret C hret dJx4a65c_add_72be8_22 (by first | exact Nat.le_refl _ | decide | omega | (simp; done) | (simp; omega)) (by first | exact Nat.le_refl _ | decide | omega | (simp; done) | (simp; omega)) rfl
  · intro kj
    rcases o with _ | n
    · skip
      obtain ⟨rfl, rfl⟩ := hcap
      refine hv_iload_n C dJx4a65c_add_72be8_0 rfl 3 rfl ?_
      refine hv_aload_n C dJx4a65c_add_72be8_1 rfl 2 rfl ?_
      refine hv_tlen C dJx4a65c_add_72be8_2 ?_
      refine hv_icmpN_ne (tgt := 11) C dJx4a65c_add_72be8_3 (by decide) (by omega) (by omega) (fun h1 => ?_) (fun h1 => ?_)
      · skip
        exact absurd rfl h1
      · skip
        refine hv_aload_n C dJx4a65c_add_72be8_6 rfl 0 rfl ?_
        refine hv_callVr (As := []) (rest := []) (n := 0) C (c_Jx4a65c_grow_d5877 l w Y a (hv_t w) ci S mc none [] hY hea hed ⟨rfl, rfl⟩ (fun n h => by cases h) hL hS hE hel) gJx4a65c_add_72be8_Jx4a65c_grow_d5877 rfl (by decide +kernel) ⟨Nat.le_of_ble_eq_true rfl, Nat.le_of_ble_eq_true rfl⟩ (hv_rcO (hv_op_a hea) rfl) rfl rfl (Nat.le_of_ble_eq_true rfl) dJx4a65c_add_72be8_7 ⟨by first | exact Nat.le_of_ble_eq_true rfl | omega | (simp; done) | (simp; omega), by first | exact Nat.le_of_ble_eq_true rfl | omega | (simp; done) | (simp; omega)⟩ (fun r2 Y1 hr => ?_)
        obtain ⟨q, n9, rfl, hqa, hYq, hn9, hcap9, hr⟩ := hr
        subst hr
        refine hv_astore_n (lv1 := [(0, .ref (a)), (1, .ref (v)), (2, .ref (q)), (3, .int (nI (([] : List Nat).length)))]) C dJx4a65c_add_72be8_10 rfl (by decide) [1, 2, 0, 3] rfl ?_
        exact kj (_, _, q, n9) ⟨by first | exact Nat.le_refl _ | simp, by first | exact Nat.le_refl _ | simp, hqa, hYq, hn9, hcap9⟩
    · skip
      have hcap0 := hcap
      obtain ⟨c1, c2, c3⟩ := hcap
      refine hv_iload_n C dJx4a65c_add_72be8_0 rfl 3 rfl ?_
      refine hv_aload_n C dJx4a65c_add_72be8_1 rfl 2 rfl ?_
      refine hv_alen C 5 (show (hv_T w)[5]? = some (hv_c w 5, .object "java/lang/Object") from rfl) hv_op_e (v := nI n) rfl dJx4a65c_add_72be8_2 ?_
      refine hv_icmpN_ne (tgt := 11) C dJx4a65c_add_72be8_3 (by decide) (by omega) (by omega) (fun h3 => ?_) (fun h3 => ?_)
      · skip
        exact kj (0, 0, ed, n) ⟨Nat.zero_le 1, Nat.zero_le S, hea, hed, (show L.length < n by omega), c1, c2, c3⟩
      · skip
        refine hv_aload_n C dJx4a65c_add_72be8_6 rfl 0 rfl ?_
        refine hv_callVr (As := []) (rest := []) (n := 0) C (c_Jx4a65c_grow_d5877 l w Y a ed ci S mc (some n) L hY hea hed hcap0 (fun n9 h => by cases h; omega) hL hS hE hel) gJx4a65c_add_72be8_Jx4a65c_grow_d5877 rfl (by decide +kernel) ⟨Nat.le_of_ble_eq_true rfl, Nat.le_of_ble_eq_true rfl⟩ (hv_rcO (hv_op_a hea) rfl) rfl rfl (Nat.le_of_ble_eq_true rfl) dJx4a65c_add_72be8_7 ⟨by first | exact Nat.le_of_ble_eq_true rfl | omega | (simp; done) | (simp; omega), by first | exact Nat.le_of_ble_eq_true rfl | omega | (simp; done) | (simp; omega)⟩ (fun r4 Y1 hr => ?_)
        obtain ⟨q, n9, rfl, hqa, hYq, hn9, hcap9, hr⟩ := hr
        subst hr
        refine hv_astore_n (lv1 := [(0, .ref (a)), (1, .ref (v)), (2, .ref (q)), (3, .int (nI (L.length)))]) C dJx4a65c_add_72be8_10 rfl (by decide) [1, 2, 0, 3] rfl ?_
        exact kj (_, _, q, n9) ⟨by first | exact Nat.le_refl _ | simp, by first | exact Nat.le_refl _ | simp, hqa, hYq, hn9, hcap9⟩
set_option maxRecDepth 100000 in
set_option maxHeartbeats 4000000 in
theorem c_Jx4a65c_add_9ea2d (l : Launch) (w : hv_W) (Y : hv_H) (a v ci S : Nat) (fsv : List Value) (L : List Nat) (hY : Y a = some (.inr L)) (hv : Y v = some (.inl (.inr (ci, fsv)))) (hL : L.length ≤ 40) (hS : L.length < 10 ∧ 10 ≤ S ∨ 60 ≤ S) (hE : ci = 1 ∨ ci = 3) (hel : ∀ x ∈ L, ∃ fs : List Value, Y x = some (.inl (.inr (ci, fs)))) : hv_Mr l yJx4a65c_add_9ea2d wsJx4a65c_add_9ea2d ({ frames := 6, cells := 1, slots := S, locals := 150 }) w [.ref (a), .ref (v)] (Y) (fun r Y1 => r = .int (nI 1) ∧ Y1 = hv_up Y a (.inr (L ++ [v]))) := by
  refine hv_ofV (cc := cJx4a65c_add_9ea2d) (own := RJx4a65c) (by decide) rfl rfl (Nat.le_of_ble_eq_true rfl) rfl ?_
  intro p e s m below meth c C hret hnm
  have hin : ∀ x ∈ wsJx4a65c0, x ∈ wsJx4a65c_add_9ea2d := by decide +kernel
  refine hv_opnV hY (fun ed mc o hea hed hcap => ?_)
  refine hv_aload_n C dJx4a65c_add_9ea2d_0 rfl 0 rfl ?_
  refine hv_dup C dJx4a65c_add_9ea2d_1 rfl ?_
  refine hv_getf (k := 0) C hin (show vwCl[0]? = some (RJx4a65c, TJx4a65c, 3) from rfl) (hv_op_a hea) (by decide) (by decide +kernel) (u_same (C.2.2.2.2.1 _ (show Cond.sameField "java/util/ArrayList" "java/util/AbstractList" "modCount" "I" ∈ wsJx4a65c_add_9ea2d from by decide +kernel))) rfl dJx4a65c_add_9ea2d_2 ?_
  refine hv_iconst (v := nI 1) C dJx4a65c_add_9ea2d_5 (by decide) ?_
  refine hv_iadd C dJx4a65c_add_9ea2d_6 ?_
  refine hv_putf (k := 0) C hin tyJx4a65c tyJx4a65c_ok nmJx4a65c (show vwCl[0]? = some (RJx4a65c, TJx4a65c, 3) from rfl) (hv_op_a hea) (by decide) (by decide +kernel) (u_same (C.2.2.2.2.1 _ (show Cond.sameField "java/util/ArrayList" "java/util/AbstractList" "modCount" "I" ∈ wsJx4a65c_add_9ea2d from by decide +kernel))) rfl (ty := .int) (by decide +kernel) (by rfl) (by rfl) (by show 0 < 3; decide) dJx4a65c_add_9ea2d_7 ?_
  refine hv_fin (Y1 := hv_op w Y a (mc + nI 1) ed o L) ?_ (hv_op_mc hea) rfl
  refine hv_aload_n C dJx4a65c_add_9ea2d_10 rfl 0 rfl ?_
  refine hv_aload_n C dJx4a65c_add_9ea2d_11 rfl 1 rfl ?_
  refine hv_aload_n C dJx4a65c_add_9ea2d_12 rfl 0 rfl ?_
  refine hv_getf (k := 1) C hin (show vwCl[0]? = some (RJx4a65c, TJx4a65c, 3) from rfl) (hv_op_a hea) (by decide) (by decide +kernel) (fun _ h => h) rfl dJx4a65c_add_9ea2d_13 ?_
  refine hv_aload_n C dJx4a65c_add_9ea2d_16 rfl 0 rfl ?_
  refine hv_getf (k := 2) C hin (show vwCl[0]? = some (RJx4a65c, TJx4a65c, 3) from rfl) (hv_op_a hea) (by decide) (by decide +kernel) (fun _ h => h) rfl dJx4a65c_add_9ea2d_17 ?_
  refine hv_callVv (As := [.ref (v), .ref (ed), .int (nI (L.length))]) (rest := []) (n := 3) C (c_Jx4a65c_add_72be8 l w Y a v ed ci S fsv (mc + nI 1) o L hY hv hea hed hcap hL hS hE hel) gJx4a65c_add_9ea2d_Jx4a65c_add_72be8 rfl (by decide +kernel) ⟨Nat.le_of_ble_eq_true rfl, Nat.le_of_ble_eq_true rfl⟩ (hv_rcO (hv_op_a hea) rfl) rfl rfl (Nat.le_of_ble_eq_true rfl) dJx4a65c_add_9ea2d_20 ⟨by first | exact Nat.le_of_ble_eq_true rfl | omega | (simp; done) | (simp; omega), by first | exact Nat.le_of_ble_eq_true rfl | omega | (simp; done) | (simp; omega)⟩ (fun Y1 hr => ?_)
  subst hr
  refine hv_iconst (v := nI 1) C dJx4a65c_add_9ea2d_23 (by decide) ?_
  exact hv_zret C hret (by decide) dJx4a65c_add_9ea2d_24 (by first | exact Nat.le_refl _ | decide | omega | (simp; done) | (simp; omega)) (by first | exact Nat.le_refl _ | decide | omega | (simp; done) | (simp; omega)) ⟨rfl, rfl⟩
set_option maxRecDepth 100000 in
set_option maxHeartbeats 4000000 in
theorem c_Jx4a65c_fastRemove_b59b0 (l : Launch) (w : hv_W) (Y : hv_H) (a ed n x ci : Nat) (mc : Int32) (L : List Nat) (hY : Y a = some (.inr (x :: L))) (hea : ed ≠ a) (hed : Y ed = none) (hcap : hv_cap w (some n) ed (x :: L)) (hE : ci = 1 ∨ ci = 3) (hel : ∀ y ∈ x :: L, ∃ fs : List Value, Y y = some (.inl (.inr (ci, fs)))) : hv_Mv l yJx4a65c_fastRemove_b59b0 wsJx4a65c_fastRemove_b59b0 ({ frames := 1, cells := 0, slots := 0, locals := 40 }) w [.ref (a), .ref (ed), .int (nI 0)] (hv_op w Y a mc ed (some n) (x :: L)) (fun Y1 => Y1 = hv_up Y a (.inr L)) := by
  refine hv_ofV (cc := cJx4a65c_fastRemove_b59b0) (own := RJx4a65c) (by decide) rfl rfl (Nat.le_of_ble_eq_true rfl) rfl ?_
  intro p e s m below meth c C hret hnm
  have hin : ∀ x ∈ wsJx4a65c0, x ∈ wsJx4a65c_fastRemove_b59b0 := by decide +kernel
  obtain ⟨c1, c2, c3⟩ := hcap
  rw [List.length_cons] at c1
  refine hv_aload_n C dJx4a65c_fastRemove_b59b0_0 rfl 0 rfl ?_
  refine hv_dup C dJx4a65c_fastRemove_b59b0_1 rfl ?_
  refine hv_getf (k := 0) C hin (show vwCl[0]? = some (RJx4a65c, TJx4a65c, 3) from rfl) (hv_op_a hea) (by decide) (by decide +kernel) (u_same (C.2.2.2.2.1 _ (show Cond.sameField "java/util/ArrayList" "java/util/AbstractList" "modCount" "I" ∈ wsJx4a65c_fastRemove_b59b0 from by decide +kernel))) rfl dJx4a65c_fastRemove_b59b0_2 ?_
  refine hv_iconst (v := nI 1) C dJx4a65c_fastRemove_b59b0_5 (by decide) ?_
  refine hv_iadd C dJx4a65c_fastRemove_b59b0_6 ?_
  refine hv_putf (k := 0) C hin tyJx4a65c tyJx4a65c_ok nmJx4a65c (show vwCl[0]? = some (RJx4a65c, TJx4a65c, 3) from rfl) (hv_op_a hea) (by decide) (by decide +kernel) (u_same (C.2.2.2.2.1 _ (show Cond.sameField "java/util/ArrayList" "java/util/AbstractList" "modCount" "I" ∈ wsJx4a65c_fastRemove_b59b0 from by decide +kernel))) rfl (ty := .int) (by decide +kernel) (by rfl) (by rfl) (by show 0 < 3; decide) dJx4a65c_fastRemove_b59b0_7 ?_
  refine hv_fin (Y1 := hv_op w Y a (mc + nI 1) ed (some n) (x :: L)) ?_ (hv_op_mc hea) rfl
  refine hv_aload_n C dJx4a65c_fastRemove_b59b0_10 rfl 0 rfl ?_
  refine hv_getf (k := 2) (v := .int (nI (L.length + 1))) C hin (show vwCl[0]? = some (RJx4a65c, TJx4a65c, 3) from rfl) (hv_op_a hea) (by decide) (by decide +kernel) (fun _ h => h) rfl dJx4a65c_fastRemove_b59b0_11 ?_
  refine hv_iconst (v := nI 1) C dJx4a65c_fastRemove_b59b0_14 (by decide) ?_
  refine hv_isubN C dJx4a65c_fastRemove_b59b0_15 (by omega) ?_
  refine hv_top (y := nI L.length) (by rw [Nat.add_sub_cancel]) ?_
  refine hv_dup C dJx4a65c_fastRemove_b59b0_16 rfl ?_
  refine hv_istore_n (lv1 := [(0, .ref (a)), (1, .ref (ed)), (2, .int (nI 0)), (3, .int (nI (L.length)))]) C dJx4a65c_fastRemove_b59b0_17 rfl (by decide) [1, 2, 3, 0] rfl ?_
  refine hv_iload_n C dJx4a65c_fastRemove_b59b0_18 rfl 2 rfl ?_
  refine hv_icmpN_le (tgt := 34) C dJx4a65c_fastRemove_b59b0_19 (by decide) (by omega) (by omega) (fun h1 => ?_) (fun h1 => ?_)
  · skip
    refine hv_aload_n C dJx4a65c_fastRemove_b59b0_34 rfl 1 rfl ?_
    refine hv_aload_n C dJx4a65c_fastRemove_b59b0_35 rfl 0 rfl ?_
    refine hv_iload_n C dJx4a65c_fastRemove_b59b0_36 rfl 3 rfl ?_
    refine hv_dup_x1 C dJx4a65c_fastRemove_b59b0_37 rfl rfl ?_
    refine hv_putf (k := 2) C hin tyJx4a65c tyJx4a65c_ok nmJx4a65c (show vwCl[0]? = some (RJx4a65c, TJx4a65c, 3) from rfl) (hv_op_a hea) (by decide) (by decide +kernel) (fun _ h => h) rfl (ty := .int) (by decide +kernel) (by rfl) (by rfl) (by show 2 < 3; decide) dJx4a65c_fastRemove_b59b0_38 ?_
    refine hv_null C dJx4a65c_fastRemove_b59b0_41 ?_
    refine hv_aastN C 5 (show (hv_T w)[5]? = some (hv_c w 5, .object "java/lang/Object") from rfl) ((hv_up_n hea).trans hv_op_e) (vp_in_nI (by omega) (by omega)) dJx4a65c_fastRemove_b59b0_42 ?_
    rw [nI_clamp (by omega), hv_cpy3 h1]
    refine hv_fin (Y1 := hv_op w Y a (mc + nI 1) ed (some n) L) ?_ (hv_op_rem0 hea) rfl
    refine hv_shut hea hed ⟨by omega, c2, c3⟩ ?_
    exact hv_vret C hret dJx4a65c_fastRemove_b59b0_43 (by first | exact Nat.le_refl _ | decide | omega | (simp; done) | (simp; omega)) (by first | exact Nat.le_refl _ | decide | omega | (simp; done) | (simp; omega)) rfl
  · skip
    refine hv_aload_n C dJx4a65c_fastRemove_b59b0_22 rfl 1 rfl ?_
    refine hv_iload_n C dJx4a65c_fastRemove_b59b0_23 rfl 2 rfl ?_
    refine hv_iconst (v := nI 1) C dJx4a65c_fastRemove_b59b0_24 (by decide) ?_
    refine hv_iaddN C dJx4a65c_fastRemove_b59b0_25 ?_
    refine hv_aload_n C dJx4a65c_fastRemove_b59b0_26 rfl 1 rfl ?_
    refine hv_iload_n C dJx4a65c_fastRemove_b59b0_27 rfl 2 rfl ?_
    refine hv_iload_n C dJx4a65c_fastRemove_b59b0_28 rfl 3 rfl ?_
    refine hv_iload_n C dJx4a65c_fastRemove_b59b0_29 rfl 2 rfl ?_
    refine hv_isubN C dJx4a65c_fastRemove_b59b0_30 (by omega) ?_
    obtain ⟨Ev, T, N9, hci, hca⟩ := hv_E13 C hE
    refine hv_copyq (f := fun j => (x :: L)[j]?) (g := fun j => (x :: L)[j]?) C hv_op_e hv_op_e (by decide) (by decide) (nI_pos (by omega)) (by rw [nI_clamp (by omega), nI_clamp (by omega)]; omega) (by rw [nI_clamp (by omega), nI_clamp (by omega)]; omega) hci (fun i y hy => ?_) hca (by decide +kernel) (by decide +kernel) (by decide +kernel) (by decide +kernel) (Nat.le_of_ble_eq_true rfl) (Nat.le_of_ble_eq_true rfl) dJx4a65c_fastRemove_b59b0_31 ?_
    · obtain ⟨fs, hfs⟩ := hel y (List.mem_of_getElem? hy)
      exact ⟨fs, hv_op_y hY hed hfs⟩
    rw [nI_clamp (by omega), nI_clamp (by omega), nI_clamp (by omega), Nat.sub_zero, Nat.zero_add]
    refine hv_aload_n C dJx4a65c_fastRemove_b59b0_34 rfl 1 rfl ?_
    refine hv_aload_n C dJx4a65c_fastRemove_b59b0_35 rfl 0 rfl ?_
    refine hv_iload_n C dJx4a65c_fastRemove_b59b0_36 rfl 3 rfl ?_
    refine hv_dup_x1 C dJx4a65c_fastRemove_b59b0_37 rfl rfl ?_
    refine hv_putf (k := 2) C hin tyJx4a65c tyJx4a65c_ok nmJx4a65c (show vwCl[0]? = some (RJx4a65c, TJx4a65c, 3) from rfl) ((hv_up_n (Ne.symm hea)).trans (hv_op_a hea)) (by decide) (by decide +kernel) (fun _ h => h) rfl (ty := .int) (by decide +kernel) (by rfl) (by rfl) (by show 2 < 3; decide) dJx4a65c_fastRemove_b59b0_38 ?_
    refine hv_null C dJx4a65c_fastRemove_b59b0_41 ?_
    refine hv_aastN C 5 (show (hv_T w)[5]? = some (hv_c w 5, .object "java/lang/Object") from rfl) ((hv_up_n hea).trans hv_up_s) (vp_in_nI (by omega) (by omega)) dJx4a65c_fastRemove_b59b0_42 ?_
    rw [nI_clamp (by omega), hv_cpy1]
    refine hv_fin (Y1 := hv_op w Y a (mc + nI 1) ed (some n) L) ?_ (hv_op_rem hea) rfl
    refine hv_shut hea hed ⟨by omega, c2, c3⟩ ?_
    exact hv_vret C hret dJx4a65c_fastRemove_b59b0_43 (by first | exact Nat.le_refl _ | decide | omega | (simp; done) | (simp; omega)) (by first | exact Nat.le_refl _ | decide | omega | (simp; done) | (simp; omega)) rfl
set_option maxRecDepth 100000 in
set_option maxHeartbeats 4000000 in
theorem c_Jx4a65c_remove_915e3 (l : Launch) (w : hv_W) (Y : hv_H) (a x ci : Nat) (L : List Nat) (hY : Y a = some (.inr (x :: L))) (hL : (x :: L).length < 2 ^ 31) (hE : ci = 1 ∨ ci = 3) (hel : ∀ y ∈ x :: L, ∃ fs : List Value, Y y = some (.inl (.inr (ci, fs)))) : hv_Mr l yJx4a65c_remove_915e3 wsJx4a65c_remove_915e3 ({ frames := 3, cells := 0, slots := 0, locals := 83 }) w [.ref (a), .int (nI 0)] (Y) (fun r Y1 => r = .ref x ∧ Y1 = hv_up Y a (.inr L)) := by
  refine hv_ofV (cc := cJx4a65c_remove_915e3) (own := RJx4a65c) (by decide) rfl rfl (Nat.le_of_ble_eq_true rfl) rfl ?_
  intro p e s m below meth c C hret hnm
  have hin : ∀ x ∈ wsJx4a65c0, x ∈ wsJx4a65c_remove_915e3 := by decide +kernel
  refine hv_iload_n C dJx4a65c_remove_915e3_0 rfl 1 rfl ?_
  refine hv_aload_n C dJx4a65c_remove_915e3_1 rfl 0 rfl ?_
  refine hv_lsize C hY hin (by decide +kernel) dJx4a65c_remove_915e3_2 ?_
  refine hv_callSr (As := [.int (nI 0), .int (nI ((x :: L).length))]) (rest := []) (n := 2) C (c_J15_checkIndex_7cf53 l w Y 0 (x :: L).length (by simp) hL) gJx4a65c_remove_915e3_J15_checkIndex_7cf53 rfl (by decide +kernel) ⟨Nat.le_of_ble_eq_true rfl, Nat.le_of_ble_eq_true rfl⟩ rfl rfl (Nat.le_of_ble_eq_true rfl) dJx4a65c_remove_915e3_5 ⟨by first | exact Nat.le_of_ble_eq_true rfl | omega | (simp; done) | (simp; omega), by first | exact Nat.le_of_ble_eq_true rfl | omega | (simp; done) | (simp; omega)⟩ (fun r1 Y1 hr => ?_)
  obtain ⟨rfl, hr⟩ := hr
  obtain rfl := hr.symm
  refine hv_pop C dJx4a65c_remove_915e3_8 rfl ?_
  refine hv_opnV hY (fun ed mc o hea hed hcap => ?_)
  rcases o with _ | n
  · exact absurd hcap.2 (by simp)
  have hcap0 := hcap
  obtain ⟨c1, c2, c3⟩ := hcap
  rw [List.length_cons] at c1
  refine hv_aload_n C dJx4a65c_remove_915e3_9 rfl 0 rfl ?_
  refine hv_getf (k := 1) C hin (show vwCl[0]? = some (RJx4a65c, TJx4a65c, 3) from rfl) (hv_op_a hea) (by decide) (by decide +kernel) (fun _ h => h) rfl dJx4a65c_remove_915e3_10 ?_
  refine hv_astore_n (lv1 := [(0, .ref (a)), (1, .int (nI 0)), (2, .ref (ed))]) C dJx4a65c_remove_915e3_13 rfl (by decide) [1, 2, 0] rfl ?_
  refine hv_aload_n C dJx4a65c_remove_915e3_14 rfl 2 rfl ?_
  refine hv_iload_n C dJx4a65c_remove_915e3_15 rfl 1 rfl ?_
  refine hv_aald C 5 rfl hv_op_e (vp_in_nI (n := 0) (by omega) (by omega)) dJx4a65c_remove_915e3_16 ?_
  rw [nI_clamp (by omega)]
  show hv_V _ _ _ _ _ _ _ _ _ _ _ _ _ _ _ _ _ _ (.ref x :: _)
  refine hv_astore_n (lv1 := [(0, .ref (a)), (1, .int (nI 0)), (2, .ref (ed)), (3, .ref (x))]) C dJx4a65c_remove_915e3_17 rfl (by decide) [1, 2, 3, 0] rfl ?_
  refine hv_aload_n C dJx4a65c_remove_915e3_18 rfl 0 rfl ?_
  refine hv_aload_n C dJx4a65c_remove_915e3_19 rfl 2 rfl ?_
  refine hv_iload_n C dJx4a65c_remove_915e3_20 rfl 1 rfl ?_
  refine hv_callVv (As := [.ref (ed), .int (nI 0)]) (rest := []) (n := 2) C (c_Jx4a65c_fastRemove_b59b0 l w Y a ed n x ci mc L hY hea hed hcap0 hE hel) gJx4a65c_remove_915e3_Jx4a65c_fastRemove_b59b0 rfl (by decide +kernel) ⟨Nat.le_of_ble_eq_true rfl, Nat.le_of_ble_eq_true rfl⟩ (hv_rcO (hv_op_a hea) rfl) rfl rfl (Nat.le_of_ble_eq_true rfl) dJx4a65c_remove_915e3_21 ⟨by first | exact Nat.le_of_ble_eq_true rfl | omega | (simp; done) | (simp; omega), by first | exact Nat.le_of_ble_eq_true rfl | omega | (simp; done) | (simp; omega)⟩ (fun Y1 hr => ?_)
  subst hr
  refine hv_aload_n C dJx4a65c_remove_915e3_24 rfl 3 rfl ?_
  exact hv_aret C hret (by first | exact Or.inl ⟨_, rfl⟩ | exact Or.inr ⟨_, rfl⟩) (by first | exact Or.inr ⟨_, rfl⟩ | exact Or.inl rfl) dJx4a65c_remove_915e3_25 (by first | exact Nat.le_refl _ | decide | omega | (simp; done) | (simp; omega)) (by first | exact Nat.le_refl _ | decide | omega | (simp; done) | (simp; omega)) ⟨rfl, rfl⟩
