section HIN
variable {p : Program} {l : Launch} {e : Env} {R : Room} {s : State} {m : MethodId} {args : Array Value} {below : List Frame} {meth : Method} {c : Code} {w : hv_W} {nL : Nat} {Q : State → Prop} {cells slots : Nat} {Y : hv_H} {lv : List (Nat × Value)} {pc : Nat} {rest : List Value} {cc : ByteArray} {Ts : List Cond}
/-- a table is made by a basin -/
theorem hv_callIN (C : hv_C RX1 cc nL Ts w p s m args meth c) {rm : Room} {b : Nat} {post : hv_H → Prop} (hM : hv_Mv l yX3_init wsX3_init rm w [.ref b] Y post) (hG : GoodIn Ts wsX3_init) (hini : Cond.initialized RX3 ∈ Ts) (him : Cond.instanceMethod yX3_init ∈ Ts) (hRm : rm.frames + 1 ≤ R.frames ∧ 8 + (1 + 11) + rm.locals ≤ R.locals) (hcat : (rest.map fun v => v.category).sum ≤ 8) (hdg : decode cc pc = .ok (.invokespecial 27, 3)) (hf : cells + rm.cells ≤ R.cells ∧ slots + rm.slots ≤ R.slots) (kk : ∀ (Y1 : hv_H), post Y1 → hv_V p l e R s m args below meth c w nL Q (cells + rm.cells) (slots + rm.slots) Y1 lv (pc + 3) rest) : hv_V p l e R s m args below meth c w nL Q cells slots Y lv pc (.ref b :: rest) := by
  intro H locs ls hR hS hl T hT X
  obtain ⟨v, st₀, t, T1, L, g0, X1, hL, e1, e2, ⟨⟨Y1, hv, hp, hb9⟩, hz, hk⟩, stp⟩ := va_runIN (As := []) (rest := rest) (index := 27) (g := F0 m pc ls _) ⟨C.1, C.2.1, C.2.2.1, C.2.2.2.1, C.2.2.2.2.1⟩ hM ⟨va_cnB 0 C.2.2.2.2.1 hG rfl rfl rfl C.2.2.2.2.2.2.1.2.2.2.2.2.2.1 (C.2.2.2.2.1 _ hini) (by decide +kernel) hRm, rfl, C.2.2.2.2.1 _ him⟩ ⟨hv_blind, hv_pre C hR hS⟩ rfl rfl hl.1 rfl (lv_room hcat) hdg hf T hT X
  cases hv
  rw [g0] at hz hk
  obtain ⟨t2, a1, b1⟩ := kk Y1 hp T1.heap (locs ++ L) ls (by rw [e1]; exact hb9) ⟨Nat.le_trans hS.1 (by rw [e1]; exact hz), fun q h1 h2 => by rw [e1, hk q (Nat.lt_of_lt_of_le h1 hS.1) h2]; exact hS.2.1 q h1 h2, fun q hq => by
      rcases List.mem_append.mp hq with h | h
      · exact hS.2.2 q h
      · exact hL q h⟩ hl T1 rfl X1
  exact ⟨t2, stp t2 a1, b1⟩
end HIN
/-! a pool: new objects by the order of their making -/
def pl_Y (iv : Nat → Option Nat) (ct : Nat → hv_E) (Y : hv_H) : hv_H := fun a => match iv a with
  | some k => some (ct k)
  | none => Y a
def pl_ok (ad : Nat → Nat) (iv : Nat → Option Nat) (n : Nat) (Y : hv_H) : Prop := (∀ k, k < n → iv (ad k) = some k) ∧ ∀ a k, iv a = some k → k < n ∧ a = ad k ∧ Y a = none
section PL
variable {ad : Nat → Nat} {iv : Nat → Option Nat} {n k q : Nat} {Y : hv_H} {ct ct' : Nat → hv_E} {e : hv_E}
theorem pl_at (h : pl_ok ad iv n Y) (hk : k < n) : pl_Y iv ct Y (ad k) = some (ct k) := by
  unfold pl_Y
  rw [h.1 k hk]
theorem pl_up (h : pl_ok ad iv n Y) (hk : k < n) (hct : ∀ j, j < n → ct' j = if j = k then e else ct j) : hv_up (pl_Y iv ct Y) (ad k) e = pl_Y iv ct' Y := by
  funext a
  unfold hv_up pl_Y
  by_cases ha : a = ad k
  · subst ha
    rw [if_pos rfl, h.1 k hk]
    show some e = some (ct' k)
    rw [hct k hk, if_pos rfl]
  · rw [if_neg ha]
    cases z : iv a with
    | none => rfl
    | some j =>
      obtain ⟨h1, h2, -⟩ := h.2 a j z
      show some _ = some _
      rw [hct j h1, if_neg (fun y => ha (by rw [h2, y]))]
theorem pl_new (h : pl_ok ad iv n Y) (hq : pl_Y iv ct Y q = none) : ∃ ad' iv', pl_ok ad' iv' (n + 1) Y ∧ ad' n = q ∧ (∀ j, j < n → ad' j = ad j) ∧ ∀ (ct' : Nat → hv_E) (e : hv_E), (∀ j, j < n → ct' j = ct j) → ct' n = e → hv_up (pl_Y iv ct Y) q e = pl_Y iv' ct' Y := by
  have hq1 : iv q = none ∧ Y q = none := by
    unfold pl_Y at hq
    cases z : iv q with
    | none => rw [z] at hq; exact ⟨rfl, hq⟩
    | some j => rw [z] at hq; cases hq
  refine ⟨fun j => if j = n then q else ad j, fun a => if a = q then some n else iv a, ⟨?_, ?_⟩, if_pos rfl, fun j hj => if_neg (by omega), ?_⟩
  · intro k hk
    by_cases z : k = n
    · simp [z]
    · have h1 := h.1 k (by omega)
      have h2 : ad k ≠ q := by
        intro y
        rw [y, hq1.1] at h1
        cases h1
      simp [z, h2, h1]
  · intro a k ha
    by_cases z : a = q
    · simp [z] at ha
      subst ha
      simp [z, hq1.2]
    · simp [z] at ha
      obtain ⟨h1, h2, h3⟩ := h.2 a k ha
      refine ⟨by omega, ?_, h3⟩
      show a = if k = n then q else ad k
      rw [if_neg (by omega)]
      exact h2
  · intro ct' e h1 h2
    funext a
    unfold hv_up pl_Y
    by_cases z : a = q
    · simp [z, h2]
    · simp only [if_neg z]
      cases y : iv a with
      | none => rfl
      | some j =>
        show some _ = some _
        rw [h1 j (h.2 a j y).1]
theorem pl_0 (hq : Y q = none) (ct : Nat → hv_E) : pl_ok (fun _ => q) (fun a => if a = q then some 0 else none) 1 Y ∧ hv_up Y q (ct 0) = pl_Y (fun a => if a = q then some 0 else none) ct Y := by
  refine ⟨⟨fun k hk => ?_, fun a k ha => ?_⟩, ?_⟩
  · simp [show k = 0 by omega]
  · by_cases z : a = q
    · simp [z] at ha
      subst ha
      exact ⟨by decide, z, by rw [z]; exact hq⟩
    · simp [z] at ha
  · funext a
    unfold hv_up pl_Y
    by_cases z : a = q
    · simp [z]
    · simp [z]
end PL
theorem tb_com {Y : hv_H} {t d q : Nat} {a b o o' : hv_E} (htd : t ≠ d) (htq : t ≠ q) : hv_up (hv_up (hv_up (hv_up Y d a) t o) q b) t o' = hv_up (hv_up (hv_up Y d a) q b) t o' := by
  funext x
  unfold hv_up
  by_cases h1 : x = t
  · rw [if_pos h1, if_pos h1]
  · simp only [if_neg h1]
set_option maxRecDepth 100000 in
set_option maxHeartbeats 400000 in
theorem c_X3_init (l : Launch) (w : hv_W) (Y : hv_H) (t : Nat) (hY : Y t = some (.inl (.inr (4, [.null, .null])))) : hv_Mv l yX3_init wsX3_init ({ frames := 1, cells := 2, slots := 16, locals := 40 }) w [.ref (t)] (Y) (fun Y1 => ∃ d q, Y d = none ∧ Y q = none ∧ t ≠ d ∧ t ≠ q ∧ d ≠ q ∧ Y1 = hv_up (hv_up (hv_up Y d (.inl (.inl (hv_c w 0, 8, .inl (fun _ => 0))))) q (.inl (.inl (hv_c w 4, 8, hv_ref (fun _ => none))))) t (.inl (.inr (4, [.ref d, .ref q])))) := by
  refine hv_ofV (cc := cX3_init) (own := RX3) (by decide) rfl rfl (Nat.le_of_ble_eq_true rfl) rfl ?_
  intro p e s m below meth c C hret hnm
  have hinX3 : ∀ x ∈ wsX30, x ∈ wsX3_init := by decide +kernel
  refine hv_aload_n C dX3_init_0 rfl 0 rfl ?_
  refine hv_objInit C (by decide +kernel) (by decide +kernel) (by decide +kernel) (Nat.le_of_ble_eq_true rfl) (Nat.le_of_ble_eq_true rfl) dX3_init_1 ?_
  refine hv_aload_n C dX3_init_4 rfl 0 rfl ?_
  refine hv_bipush (v := nI 8) C dX3_init_5 (by decide) ?_
  refine hv_newi (N := 8) C (by decide +kernel) (by decide) (by decide) (by decide) (Nat.le_of_ble_eq_true rfl) (Nat.le_of_ble_eq_true rfl) dX3_init_7 (fun d hd => ?_)
  have htd : t ≠ d := by intro z; rw [← z, hY] at hd; cases hd
  refine hv_putfF (k := 0) C hinX3 tyX3 tyX3_ok nmX3 (show vwCl[4]? = some (RX3, TX3, 2) from rfl) ((hv_up_n htd).trans hY) (by decide) (by decide +kernel) (fun _ h => h) rfl hnm rfl (ty := .array .int) (by decide +kernel) (by rfl) (by rfl) (by show 0 < 2; decide) dX3_init_9 ?_
  refine hv_aload_n C dX3_init_12 rfl 0 rfl ?_
  refine hv_bipush (v := nI 8) C dX3_init_13 (by decide) ?_
  refine hv_newq C 4 (show (hv_T w)[4]? = some (hv_c w 4, .object RX2) from rfl) C.2.2.2.2.2.2.1.2.2.2.2.1.2.1 (by decide +kernel) (by decide) (N := 8) (by decide) (by decide) (Nat.le_of_ble_eq_true rfl) (Nat.le_of_ble_eq_true rfl) dX3_init_15 (fun q hq => ?_)
  have htq : t ≠ q := by intro z; rw [← z, hv_up_s] at hq; cases hq
  have hdq : d ≠ q := by intro z; rw [← z, hv_up_n (Ne.symm htd), hv_up_s] at hq; cases hq
  rw [hv_up_n (Ne.symm htq), hv_up_n (Ne.symm hdq)] at hq
  refine hv_putfF (k := 1) C hinX3 tyX3 tyX3_ok nmX3 (show vwCl[4]? = some (RX3, TX3, 2) from rfl) ((hv_up_n htq).trans hv_up_s) (by decide) (by decide +kernel) (fun _ h => h) rfl hnm rfl (ty := .array (.object "LockgateRouter$Canal")) (by decide +kernel) (by rfl) (by rfl) (by show 1 < 2; decide) dX3_init_18 ?_
  refine hv_fin (Y1 := hv_up (hv_up (hv_up Y d (.inl (.inl (hv_c w 0, 8, .inl (fun _ => 0))))) q (.inl (.inl (hv_c w 4, 8, hv_ref (fun _ => none))))) t (.inl (.inr (4, [.ref d, .ref q])))) ?_ (tb_com htd htq) rfl
  exact hv_vret C hret dX3_init_21 (by first | exact Nat.le_refl _ | decide | omega | (simp; done) | (simp; omega)) (by first | exact Nat.le_refl _ | decide | omega | (simp; done) | (simp; omega)) ⟨d, q, (by first | exact hd), hq, htd, htq, hdq, rfl⟩
def bs (w : hv_W) (i s : Nat) (ad : Nat → Nat) : Nat → hv_E := fun j => match j with
  | 0 => .inl (.inr (2, [if 9 ≤ s then .int (nI i) else .int (nI 0), if 2 ≤ s then .ref (ad 1) else .null, if 3 ≤ s then .int (nI 60) else .int (nI 0), if 4 ≤ s then .int (nI 4) else .int (nI 0), if 6 ≤ s then .ref (ad 2) else .null, if 8 ≤ s then .ref (ad 5) else .null]))
  | 1 => if 1 ≤ s then .inr [] else .inl (.inr (0, [.int (nI 0), .null, .int (nI 0)]))
  | 2 => .inl (.inr (4, if 5 ≤ s then [.ref (ad 3), .ref (ad 4)] else [.null, .null]))
  | 3 => .inl (.inl (hv_c w 0, 8, .inl (if 10 ≤ s then (fun j => if j < 8 then nI (if j = i then 1 else 0) + (-1) else 0) else (fun _ => 0))))
  | 4 => .inl (.inl (hv_c w 4, 8, hv_ref (fun _ => none)))
  | 5 => .inl (.inr (4, if 7 ≤ s then [.ref (ad 6), .ref (ad 7)] else [.null, .null]))
  | 6 => .inl (.inl (hv_c w 0, 8, .inl (fun _ => 0)))
  | 7 => .inl (.inl (hv_c w 4, 8, hv_ref (fun _ => none)))
  | _ => .inr []
theorem bs_clr {w : hv_W} {i : Nat} {ad : Nat → Nat} {iv : Nat → Option Nat} {Y : hv_H} (ok : pl_ok ad iv 8 Y) : tb_Y w (pl_Y iv (bs w i 9 ad) Y) (ad 3) (ad 4) (fun _ => 0) (fun _ => none) i 8 = pl_Y iv (bs w i 10 ad) Y := by
  unfold tb_Y
  have e2 : (fun j => if j < 8 then (none : Option Nat) else none) = fun _ => none := by funext j; split <;> rfl
  rw [e2, pl_up (ct := bs w i 9 ad) (ct' := bs w i 10 ad) ok (k := 3) (by decide) (fun j hj => by rcases (show j = 0 ∨ j = 1 ∨ j = 2 ∨ j = 3 ∨ j = 4 ∨ j = 5 ∨ j = 6 ∨ j = 7 from by omega) with rfl | rfl | rfl | rfl | rfl | rfl | rfl | rfl <;> simp [bs])]
  exact pl_up ok (k := 4) (by decide) (fun j hj => by rcases (show j = 0 ∨ j = 1 ∨ j = 2 ∨ j = 3 ∨ j = 4 ∨ j = 5 ∨ j = 6 ∨ j = 7 from by omega) with rfl | rfl | rfl | rfl | rfl | rfl | rfl | rfl <;> simp [bs])
set_option maxRecDepth 100000 in
set_option maxHeartbeats 400000 in
theorem c_X1_init (l : Launch) (w : hv_W) (Y : hv_H) (q0 i : Nat) (hY : Y q0 = none) (hi : i < 8) : hv_Mv l yX1_init wsX1_init ({ frames := 4, cells := 7, slots := 39, locals := 100 }) w [.ref (q0), .int (nI i)] (hv_up Y q0 (bs w i 0 (fun _ => q0) 0)) (fun Y1 => ∃ ad iv, pl_ok ad iv 8 Y ∧ ad 0 = q0 ∧ Y1 = pl_Y iv (bs w i 10 ad) Y) := by
  refine hv_ofV (cc := cX1_init) (own := RX1) (by decide) rfl rfl (Nat.le_of_ble_eq_true rfl) rfl ?_
  intro p e s m below meth c C hret hnm
  have hinX1 : ∀ x ∈ wsX10, x ∈ wsX1_init := by decide +kernel
  have hinX3 : ∀ x ∈ wsX30, x ∈ wsX1_init := by decide +kernel
  have hinL : ∀ x ∈ wsJx4a65c0, x ∈ wsX1_init := by decide +kernel
  obtain ⟨ok0, eq0⟩ := pl_0 hY (bs w i 0 (fun _ => q0))
  refine hv_fin ?_ eq0 rfl
  have a00 : (fun _ : Nat => q0) 0 = q0 := rfl
  generalize (fun _ : Nat => q0) = ad0 at ok0 a00 ⊢
  generalize (fun a : Nat => if a = q0 then some 0 else none) = iv0 at ok0 ⊢
  refine hv_aload_n C dX1_init_0 rfl 0 rfl ?_
  refine hv_objInit C (by decide +kernel) (by decide +kernel) (by decide +kernel) (Nat.le_of_ble_eq_true rfl) (Nat.le_of_ble_eq_true rfl) dX1_init_1 ?_
  refine hv_aload_n C dX1_init_4 rfl 0 rfl ?_
  refine hv_new (fs := [.int (nI 0), .null, .int (nI 0)]) C hinL tyJx4a65c tyJx4a65c_ok (by decide +kernel) (by decide +kernel) (by decide +kernel) (show vwCl[0]? = some (RJx4a65c, TJx4a65c, 3) from rfl) (fun j hj => by rcases (show j = 0 ∨ j = 1 ∨ j = 2 from by omega) with rfl | rfl | rfl <;> rfl) (Nat.le_of_ble_eq_true rfl) (Nat.le_of_ble_eq_true rfl) dX1_init_5 (fun q hq => ?_)
  obtain ⟨ad1, iv1, ok1, hn1, ag1, up1⟩ := pl_new ok0 hq
  obtain rfl := hn1
  have ag1_0 := ag1 0 (by decide)
  have a01 : ad1 0 = q0 := ag1_0.trans a00
  have eq1 := up1 (bs w i 0 ad1) (.inl (.inr (0, [.int (nI 0), .null, .int (nI 0)]))) (fun j hj => by rcases (show j = 0 from by omega) with rfl <;> simp [bs, ag1_0]) rfl
  refine hv_fin (Y1 := pl_Y iv1 (bs w i 0 ad1) Y) ?_ eq1 rfl
  refine hv_dup C dX1_init_8 rfl ?_
  refine hv_callIv (As := []) (rest := [.ref (ad1 1), .ref (q0)]) (n := 0) C (c_Jx4a65c_init_da8c8 l w (pl_Y iv1 (bs w i 0 ad1) Y) (ad1 1) (show pl_Y iv1 (bs w i 0 ad1) Y (ad1 1) = some (.inl (.inr (0, [.int (nI 0), .null, .int (nI 0)]))) from pl_at ok1 (by decide))) gX1_init_Jx4a65c_init_da8c8 rfl (by decide +kernel) (by decide +kernel) (by decide +kernel) rfl (by decide +kernel) ⟨Nat.le_of_ble_eq_true rfl, Nat.le_of_ble_eq_true rfl⟩ rfl rfl (Nat.le_of_ble_eq_true rfl) dX1_init_9 ⟨by first | exact Nat.le_of_ble_eq_true rfl | omega | (simp; done) | (simp; omega), by first | exact Nat.le_of_ble_eq_true rfl | omega | (simp; done) | (simp; omega)⟩ (fun Y1 hr => ?_)
  subst hr
  refine hv_fin (Y1 := pl_Y iv1 (bs w i 1 ad1) Y) ?_ (pl_up (ct := bs w i 0 ad1) (ct' := bs w i 1 ad1) (e := (.inr [])) ok1 (k := 1) (by decide) (fun j hj => by rcases (show j = 0 ∨ j = 1 from by omega) with rfl | rfl <;> simp [bs])) rfl
  refine hv_putfF (k := 1) C hinX1 tyX1 tyX1_ok nmX1 (show vwCl[2]? = some (RX1, TX1, 6) from rfl) (show pl_Y iv1 (bs w i 1 ad1) Y q0 = some (.inl (.inr (2, _))) from (congrArg _ a01.symm).trans (pl_at ok1 (by decide))) (by decide) (by decide +kernel) (fun _ h => h) rfl hnm rfl (ty := .object "java/util/ArrayList") (by decide +kernel) (by rfl) (by rfl) (by show 1 < 6; decide) dX1_init_12 ?_
  refine hv_fin (Y1 := pl_Y iv1 (bs w i 2 ad1) Y) ?_ ((congrArg (fun z => hv_up _ z _) a01.symm).trans (pl_up (ct := bs w i 1 ad1) (ct' := bs w i 2 ad1) ok1 (k := 0) (by decide) (fun j hj => by rcases (show j = 0 ∨ j = 1 from by omega) with rfl | rfl <;> simp [bs]))) rfl
  refine hv_aload_n C dX1_init_15 rfl 0 rfl ?_
  refine hv_bipush (v := nI 60) C dX1_init_16 (by decide) ?_
  refine hv_putf (k := 2) C hinX1 tyX1 tyX1_ok nmX1 (show vwCl[2]? = some (RX1, TX1, 6) from rfl) (show pl_Y iv1 (bs w i 2 ad1) Y q0 = some (.inl (.inr (2, _))) from (congrArg _ a01.symm).trans (pl_at ok1 (by decide))) (by decide) (by decide +kernel) (fun _ h => h) rfl (ty := .int) (by decide +kernel) (by rfl) (by rfl) (by show 2 < 6; decide) dX1_init_18 ?_
  refine hv_fin (Y1 := pl_Y iv1 (bs w i 3 ad1) Y) ?_ ((congrArg (fun z => hv_up _ z _) a01.symm).trans (pl_up (ct := bs w i 2 ad1) (ct' := bs w i 3 ad1) ok1 (k := 0) (by decide) (fun j hj => by rcases (show j = 0 ∨ j = 1 from by omega) with rfl | rfl <;> simp [bs]))) rfl
  refine hv_aload_n C dX1_init_21 rfl 0 rfl ?_
  refine hv_iconst (v := nI 4) C dX1_init_22 (by decide) ?_
  refine hv_putf (k := 3) C hinX1 tyX1 tyX1_ok nmX1 (show vwCl[2]? = some (RX1, TX1, 6) from rfl) (show pl_Y iv1 (bs w i 3 ad1) Y q0 = some (.inl (.inr (2, _))) from (congrArg _ a01.symm).trans (pl_at ok1 (by decide))) (by decide) (by decide +kernel) (fun _ h => h) rfl (ty := .int) (by decide +kernel) (by rfl) (by rfl) (by show 3 < 6; decide) dX1_init_23 ?_
  refine hv_fin (Y1 := pl_Y iv1 (bs w i 4 ad1) Y) ?_ ((congrArg (fun z => hv_up _ z _) a01.symm).trans (pl_up (ct := bs w i 3 ad1) (ct' := bs w i 4 ad1) ok1 (k := 0) (by decide) (fun j hj => by rcases (show j = 0 ∨ j = 1 from by omega) with rfl | rfl <;> simp [bs]))) rfl
  refine hv_aload_n C dX1_init_26 rfl 0 rfl ?_
  refine hv_new (fs := [.null, .null]) C hinX3 tyX3 tyX3_ok (by decide +kernel) (by decide +kernel) (by decide +kernel) (show vwCl[4]? = some (RX3, TX3, 2) from rfl) (fun j hj => by rcases (show j = 0 ∨ j = 1 from by omega) with rfl | rfl <;> rfl) (Nat.le_of_ble_eq_true rfl) (Nat.le_of_ble_eq_true rfl) dX1_init_27 (fun q hq => ?_)
  obtain ⟨ad2, iv2, ok2, hn2, ag2, up2⟩ := pl_new ok1 hq
  obtain rfl := hn2
  have ag2_0 := ag2 0 (by decide)
  have ag2_1 := ag2 1 (by decide)
  have a02 : ad2 0 = q0 := ag2_0.trans a01
  have eq2 := up2 (bs w i 4 ad2) (.inl (.inr (4, [.null, .null]))) (fun j hj => by rcases (show j = 0 ∨ j = 1 from by omega) with rfl | rfl <;> simp [bs, ag2_0, ag2_1]) rfl
  refine hv_fin (Y1 := pl_Y iv2 (bs w i 4 ad2) Y) ?_ eq2 rfl
  refine hv_dup C dX1_init_30 rfl ?_
  refine hv_callIN (rest := [.ref (ad2 2), .ref (q0)]) C (c_X3_init l w (pl_Y iv2 (bs w i 4 ad2) Y) (ad2 2) (show pl_Y iv2 (bs w i 4 ad2) Y (ad2 2) = some (.inl (.inr (4, [.null, .null]))) from pl_at ok2 (by decide))) gX1_init_X3_init_n27 (by decide +kernel) (by decide +kernel) ⟨Nat.le_of_ble_eq_true rfl, Nat.le_of_ble_eq_true rfl⟩ (Nat.le_of_ble_eq_true rfl) dX1_init_31 ⟨Nat.le_of_ble_eq_true rfl, Nat.le_of_ble_eq_true rfl⟩ (fun Y1 hr => ?_)
  obtain ⟨d, q, hd, hq, htd, htq, hdq, hr⟩ := hr
  subst hr
  obtain ⟨ad3, iv3, ok3, hn3, ag3, up3⟩ := pl_new ok2 hd
  obtain rfl := hn3
  have ag3_0 := ag3 0 (by decide)
  have ag3_1 := ag3 1 (by decide)
  have ag3_2 := ag3 2 (by decide)
  have a03 : ad3 0 = q0 := ag3_0.trans a02
  have eq3 := up3 (bs w i 4 ad3) (.inl (.inl (hv_c w 0, 8, .inl (fun _ => 0)))) (fun j hj => by rcases (show j = 0 ∨ j = 1 ∨ j = 2 from by omega) with rfl | rfl | rfl <;> simp [bs, ag3_0, ag3_1, ag3_2]) rfl
  rw [eq3]
  have hq2 : pl_Y iv3 (bs w i 4 ad3) Y q = none := by rw [← eq3, hv_up_n (Ne.symm hdq)]; exact hq
  obtain ⟨ad4, iv4, ok4, hn4, ag4, up4⟩ := pl_new ok3 hq2
  obtain rfl := hn4
  have ag4_0 := ag4 0 (by decide)
  have ag4_1 := ag4 1 (by decide)
  have ag4_2 := ag4 2 (by decide)
  have ag4_3 := ag4 3 (by decide)
  have a04 : ad4 0 = q0 := ag4_0.trans a03
  have eq4 := up4 (bs w i 4 ad4) (.inl (.inl (hv_c w 4, 8, hv_ref (fun _ => none)))) (fun j hj => by rcases (show j = 0 ∨ j = 1 ∨ j = 2 ∨ j = 3 from by omega) with rfl | rfl | rfl | rfl <;> simp [bs, ag4_0, ag4_1, ag4_2, ag4_3]) rfl
  rw [eq4]
  refine hv_fin (Y1 := pl_Y iv4 (bs w i 5 ad4) Y) ?_ (show hv_up _ (ad2 2) (.inl (.inr (4, [.ref (ad3 3), .ref (ad4 4)]))) = _ from by rw [← ag4_3, ← ag3_2, ← ag4_2]; exact pl_up (ct := bs w i 4 ad4) (ct' := bs w i 5 ad4) (e := (.inl (.inr (4, [.ref (ad4 3), .ref (ad4 4)])))) ok4 (k := 2) (by decide) (fun j hj => by rcases (show j = 0 ∨ j = 1 ∨ j = 2 ∨ j = 3 ∨ j = 4 from by omega) with rfl | rfl | rfl | rfl | rfl <;> simp [bs])) rfl
  rw [← ag3_2, ← ag4_2]
  refine hv_putf (k := 4) C hinX1 tyX1 tyX1_ok nmX1 (show vwCl[2]? = some (RX1, TX1, 6) from rfl) (show pl_Y iv4 (bs w i 5 ad4) Y q0 = some (.inl (.inr (2, _))) from (congrArg _ a04.symm).trans (pl_at ok4 (by decide))) (by decide) (by decide +kernel) (fun _ h => h) rfl (ty := .object "LockgateRouter$Table") (by decide +kernel) (by rfl) (by rfl) (by show 4 < 6; decide) dX1_init_34 ?_
  refine hv_fin (Y1 := pl_Y iv4 (bs w i 6 ad4) Y) ?_ ((congrArg (fun z => hv_up _ z _) a04.symm).trans (pl_up (ct := bs w i 5 ad4) (ct' := bs w i 6 ad4) ok4 (k := 0) (by decide) (fun j hj => by rcases (show j = 0 ∨ j = 1 ∨ j = 2 ∨ j = 3 ∨ j = 4 from by omega) with rfl | rfl | rfl | rfl | rfl <;> simp [bs]))) rfl
  refine hv_aload_n C dX1_init_37 rfl 0 rfl ?_
  refine hv_new (fs := [.null, .null]) C hinX3 tyX3 tyX3_ok (by decide +kernel) (by decide +kernel) (by decide +kernel) (show vwCl[4]? = some (RX3, TX3, 2) from rfl) (fun j hj => by rcases (show j = 0 ∨ j = 1 from by omega) with rfl | rfl <;> rfl) (Nat.le_of_ble_eq_true rfl) (Nat.le_of_ble_eq_true rfl) dX1_init_38 (fun q hq => ?_)
  obtain ⟨ad5, iv5, ok5, hn5, ag5, up5⟩ := pl_new ok4 hq
  obtain rfl := hn5
  have ag5_0 := ag5 0 (by decide)
  have ag5_1 := ag5 1 (by decide)
  have ag5_2 := ag5 2 (by decide)
  have ag5_3 := ag5 3 (by decide)
  have ag5_4 := ag5 4 (by decide)
  have a05 : ad5 0 = q0 := ag5_0.trans a04
  have eq5 := up5 (bs w i 6 ad5) (.inl (.inr (4, [.null, .null]))) (fun j hj => by rcases (show j = 0 ∨ j = 1 ∨ j = 2 ∨ j = 3 ∨ j = 4 from by omega) with rfl | rfl | rfl | rfl | rfl <;> simp [bs, ag5_0, ag5_1, ag5_2, ag5_3, ag5_4]) rfl
  refine hv_fin (Y1 := pl_Y iv5 (bs w i 6 ad5) Y) ?_ eq5 rfl
  refine hv_dup C dX1_init_41 rfl ?_
  refine hv_callIN (rest := [.ref (ad5 5), .ref (q0)]) C (c_X3_init l w (pl_Y iv5 (bs w i 6 ad5) Y) (ad5 5) (show pl_Y iv5 (bs w i 6 ad5) Y (ad5 5) = some (.inl (.inr (4, [.null, .null]))) from pl_at ok5 (by decide))) gX1_init_X3_init_n27 (by decide +kernel) (by decide +kernel) ⟨Nat.le_of_ble_eq_true rfl, Nat.le_of_ble_eq_true rfl⟩ (Nat.le_of_ble_eq_true rfl) dX1_init_42 ⟨Nat.le_of_ble_eq_true rfl, Nat.le_of_ble_eq_true rfl⟩ (fun Y1 hr => ?_)
  obtain ⟨d, q, hd, hq, htd, htq, hdq, hr⟩ := hr
  subst hr
  obtain ⟨ad6, iv6, ok6, hn6, ag6, up6⟩ := pl_new ok5 hd
  obtain rfl := hn6
  have ag6_0 := ag6 0 (by decide)
  have ag6_1 := ag6 1 (by decide)
  have ag6_2 := ag6 2 (by decide)
  have ag6_3 := ag6 3 (by decide)
  have ag6_4 := ag6 4 (by decide)
  have ag6_5 := ag6 5 (by decide)
  have a06 : ad6 0 = q0 := ag6_0.trans a05
  have eq6 := up6 (bs w i 6 ad6) (.inl (.inl (hv_c w 0, 8, .inl (fun _ => 0)))) (fun j hj => by rcases (show j = 0 ∨ j = 1 ∨ j = 2 ∨ j = 3 ∨ j = 4 ∨ j = 5 from by omega) with rfl | rfl | rfl | rfl | rfl | rfl <;> simp [bs, ag6_0, ag6_1, ag6_2, ag6_3, ag6_4, ag6_5]) rfl
  rw [eq6]
  have hq2 : pl_Y iv6 (bs w i 6 ad6) Y q = none := by rw [← eq6, hv_up_n (Ne.symm hdq)]; exact hq
  obtain ⟨ad7, iv7, ok7, hn7, ag7, up7⟩ := pl_new ok6 hq2
  obtain rfl := hn7
  have ag7_0 := ag7 0 (by decide)
  have ag7_1 := ag7 1 (by decide)
  have ag7_2 := ag7 2 (by decide)
  have ag7_3 := ag7 3 (by decide)
  have ag7_4 := ag7 4 (by decide)
  have ag7_5 := ag7 5 (by decide)
  have ag7_6 := ag7 6 (by decide)
  have a07 : ad7 0 = q0 := ag7_0.trans a06
  have eq7 := up7 (bs w i 6 ad7) (.inl (.inl (hv_c w 4, 8, hv_ref (fun _ => none)))) (fun j hj => by rcases (show j = 0 ∨ j = 1 ∨ j = 2 ∨ j = 3 ∨ j = 4 ∨ j = 5 ∨ j = 6 from by omega) with rfl | rfl | rfl | rfl | rfl | rfl | rfl <;> simp [bs, ag7_0, ag7_1, ag7_2, ag7_3, ag7_4, ag7_5, ag7_6]) rfl
  rw [eq7]
  refine hv_fin (Y1 := pl_Y iv7 (bs w i 7 ad7) Y) ?_ (show hv_up _ (ad5 5) (.inl (.inr (4, [.ref (ad6 6), .ref (ad7 7)]))) = _ from by rw [← ag7_6, ← ag6_5, ← ag7_5]; exact pl_up (ct := bs w i 6 ad7) (ct' := bs w i 7 ad7) (e := (.inl (.inr (4, [.ref (ad7 6), .ref (ad7 7)])))) ok7 (k := 5) (by decide) (fun j hj => by rcases (show j = 0 ∨ j = 1 ∨ j = 2 ∨ j = 3 ∨ j = 4 ∨ j = 5 ∨ j = 6 ∨ j = 7 from by omega) with rfl | rfl | rfl | rfl | rfl | rfl | rfl | rfl <;> simp [bs])) rfl
  rw [← ag6_5, ← ag7_5]
  refine hv_putf (k := 5) C hinX1 tyX1 tyX1_ok nmX1 (show vwCl[2]? = some (RX1, TX1, 6) from rfl) (show pl_Y iv7 (bs w i 7 ad7) Y q0 = some (.inl (.inr (2, _))) from (congrArg _ a07.symm).trans (pl_at ok7 (by decide))) (by decide) (by decide +kernel) (fun _ h => h) rfl (ty := .object "LockgateRouter$Table") (by decide +kernel) (by rfl) (by rfl) (by show 5 < 6; decide) dX1_init_45 ?_
  refine hv_fin (Y1 := pl_Y iv7 (bs w i 8 ad7) Y) ?_ ((congrArg (fun z => hv_up _ z _) a07.symm).trans (pl_up (ct := bs w i 7 ad7) (ct' := bs w i 8 ad7) ok7 (k := 0) (by decide) (fun j hj => by rcases (show j = 0 ∨ j = 1 ∨ j = 2 ∨ j = 3 ∨ j = 4 ∨ j = 5 ∨ j = 6 ∨ j = 7 from by omega) with rfl | rfl | rfl | rfl | rfl | rfl | rfl | rfl <;> simp [bs]))) rfl
  refine hv_aload_n C dX1_init_48 rfl 0 rfl ?_
  refine hv_iload_n C dX1_init_49 rfl 1 rfl ?_
  refine hv_putfF (k := 0) C hinX1 tyX1 tyX1_ok nmX1 (show vwCl[2]? = some (RX1, TX1, 6) from rfl) (show pl_Y iv7 (bs w i 8 ad7) Y q0 = some (.inl (.inr (2, _))) from (congrArg _ a07.symm).trans (pl_at ok7 (by decide))) (by decide) (by decide +kernel) (fun _ h => h) rfl hnm rfl (ty := .int) (by decide +kernel) (by rfl) (by rfl) (by show 0 < 6; decide) dX1_init_50 ?_
  refine hv_fin (Y1 := pl_Y iv7 (bs w i 9 ad7) Y) ?_ ((congrArg (fun z => hv_up _ z _) a07.symm).trans (pl_up (ct := bs w i 8 ad7) (ct' := bs w i 9 ad7) ok7 (k := 0) (by decide) (fun j hj => by rcases (show j = 0 ∨ j = 1 ∨ j = 2 ∨ j = 3 ∨ j = 4 ∨ j = 5 ∨ j = 6 ∨ j = 7 from by omega) with rfl | rfl | rfl | rfl | rfl | rfl | rfl | rfl <;> simp [bs]))) rfl
  refine hv_aload_n C dX1_init_53 rfl 0 rfl ?_
  refine hv_getf (k := 4) C hinX1 (show vwCl[2]? = some (RX1, TX1, 6) from rfl) (show pl_Y iv7 (bs w i 9 ad7) Y q0 = some (.inl (.inr (2, _))) from (congrArg _ a07.symm).trans (pl_at ok7 (by decide))) (by decide) (by decide +kernel) (fun _ h => h) (v := .ref (ad7 2)) rfl dX1_init_54 ?_
  refine hv_iload_n C dX1_init_57 rfl 1 rfl ?_
  refine hv_callVv (As := [.int (nI i)]) (rest := []) (n := 1) C (c_X3_clearFor l w (pl_Y iv7 (bs w i 9 ad7) Y) (ad7 2) (ad7 3) (ad7 4) i (fun _ => 0) (fun _ => none) (pl_at ok7 (by decide)) (pl_at ok7 (by decide)) (pl_at ok7 (by decide)) hi) gX1_init_X3_clearFor rfl (by decide +kernel) ⟨Nat.le_of_ble_eq_true rfl, Nat.le_of_ble_eq_true rfl⟩ (hv_rcO (show pl_Y iv7 (bs w i 9 ad7) Y _ = some (.inl (.inr (4, _))) from pl_at ok7 (by decide)) rfl) rfl rfl (Nat.le_of_ble_eq_true rfl) dX1_init_58 ⟨by first | exact Nat.le_of_ble_eq_true rfl | omega | (simp; done) | (simp; omega), by first | exact Nat.le_of_ble_eq_true rfl | omega | (simp; done) | (simp; omega)⟩ (fun Y1 hr => ?_)
  subst hr
  refine hv_fin (Y1 := pl_Y iv7 (bs w i 10 ad7) Y) ?_ (bs_clr ok7) rfl
  exact hv_vret C hret dX1_init_61 (by first | exact Nat.le_refl _ | decide | omega | (simp; done) | (simp; omega)) (by first | exact Nat.le_refl _ | decide | omega | (simp; done) | (simp; omega)) ⟨ad7, iv7, ok7, a07, rfl⟩
