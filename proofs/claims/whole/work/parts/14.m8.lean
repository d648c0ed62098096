/-! THE REFERENCE IS MADE -/
def ab_z : ab_A := fun k _ => if md_neg k = true then 1 else 0
theorem ab_z_S (k : Nat) : md_S ab_z k = fun _ => 0 := by
  funext i
  unfold md_S md_e ab_z
  cases md_neg k <;> rfl
def cn_fs (am : Nat → Nat) (n : Nat) : List Value := [if 0 < n then .ref (am 0) else .null, if 1 < n then .ref (am 1) else .null, if 2 < n then .ref (am 2) else .null, if 3 < n then .ref (am 3) else .null, .int (nI 0), if 5 < n then .ref (am 5) else .null, if 6 < n then .ref (am 6) else .null, if 7 < n then .ref (am 7) else .null, if 8 < n then .ref (am 8) else .null, if 9 < n then .ref (am 9) else .null, .int (nI 0), if 11 < n then .ref (am 11) else .null, if 12 < n then .ref (am 12) else .null, if 13 < n then .ref (am 13) else .null, if 14 < n then .ref (am 14) else .null, .int (nI 0), .int (nI 0), if 17 < n then .ref (am 17) else .null, if 18 < n then .ref (am 18) else .null, if 19 < n then .ref (am 19) else .null, if 20 < n then .ref (am 20) else .null, if 21 < n then .ref (am 21) else .null, if 22 < n then .ref (am 22) else .null, if 23 < n then .ref (am 23) else .null, if 24 < n then .ref (am 24) else .null, .int (nI 0)]
def cn (w : hv_W) (o : Nat) (am : Nat → Nat) (pm : Nat → Option Nat) (n : Nat) (Y0 : hv_H) : hv_H := fun a => if a = o then some (.inl (.inr (6, cn_fs am n))) else match pm a with
  | some k => some (md_cell w ab_z k)
  | none => Y0 a
def cn_ok (o : Nat) (am : Nat → Nat) (pm : Nat → Option Nat) (n : Nat) (Y0 : hv_H) : Prop := (∀ k, md_isA k = true → k < n → pm (am k) = some k ∧ am k ≠ o) ∧ ∀ a k, pm a = some k → md_isA k = true ∧ k < n ∧ a = am k ∧ Y0 a = none
theorem cn_o {w : hv_W} {o : Nat} {am : Nat → Nat} {pm : Nat → Option Nat} {n : Nat} {Y0 : hv_H} : cn w o am pm n Y0 o = some (.inl (.inr (6, cn_fs am n))) := if_pos rfl
theorem cn_0 {w : hv_W} {o : Nat} {Y : hv_H} (h : Y o = some (.inl (.inr (6, cn_fs (fun _ => 0) 0)))) : Y = cn w o (fun _ => 0) (fun _ => none) 0 Y := by
  funext a
  unfold cn
  by_cases q : a = o
  · rw [if_pos q, q, h]
  · rw [if_neg q]
theorem cn_ok0 (o : Nat) (Y : hv_H) : cn_ok o (fun _ => 0) (fun _ => none) 0 Y := ⟨fun k _ h => absurd h (Nat.not_lt_zero k), fun a k h => by cases h⟩
theorem cn_upP {w : hv_W} {o : Nat} {am : Nat → Nat} {pm : Nat → Option Nat} {n : Nat} {Y0 : hv_H} (fs : List Value) (n' : Nat) (h : fs = cn_fs am n') : hv_up (cn w o am pm n Y0) o (.inl (.inr (6, fs))) = cn w o am pm n' Y0 := by
  subst h
  funext a
  unfold hv_up cn
  by_cases q : a = o
  · rw [if_pos q, if_pos q]
  · rw [if_neg q, if_neg q, if_neg q]
theorem cn_upN {w : hv_W} {o : Nat} {am am' : Nat → Nat} {pm : Nat → Option Nat} {n k q : Nat} {Y0 : hv_H} {c : hv_E} (hq : q ≠ o) (hc : c = md_cell w ab_z k) (hfs : cn_fs am' n = cn_fs am n) : hv_up (cn w o am pm n Y0) q c = cn w o am' (fun a => if a = q then some k else pm a) n Y0 := by
  subst hc
  funext a
  unfold hv_up cn
  by_cases h : a = q
  · subst h
    simp only [if_true]
    rw [if_neg hq]
  · simp only [if_neg h]
    rw [hfs]
theorem cn_okN {w : hv_W} {o : Nat} {am : Nat → Nat} {pm : Nat → Option Nat} {n n0 k q : Nat} {Y0 : hv_H} (hok : cn_ok o am pm n0 Y0) (hk : md_isA k = true) (hn : n0 ≤ k) (hgap : ∀ j, j < k → n0 ≤ j → md_isA j = false) (hq : cn w o am pm n Y0 q = none) : q ≠ o ∧ cn_ok o (fun j => if j = k then q else am j) (fun a => if a = q then some k else pm a) (k + 1) Y0 := by
  unfold cn at hq
  split at hq
  · cases hq
  · rename_i hqo
    have hpm : pm q = none := by
      cases h : pm q with
      | none => rfl
      | some k' => rw [h] at hq; cases hq
    rw [hpm] at hq
    refine ⟨hqo, ?_, ?_⟩
    · intro j hj hjk
      dsimp only
      by_cases h : j = k
      · subst h
        rw [if_pos rfl, if_pos rfl]
        exact ⟨rfl, hqo⟩
      · rw [if_neg h]
        have hjn : j < n0 := by
          apply Decidable.byContradiction
          intro q9
          have := hgap j (by omega) (by omega)
          rw [hj] at this
          cases this
        obtain ⟨h1, h2⟩ := hok.1 j hj hjn
        refine ⟨?_, h2⟩
        rw [if_neg, h1]
        intro q9
        rw [q9, hpm] at h1
        cases h1
    · intro a j ha
      dsimp only at ha ⊢
      by_cases h : a = q
      · rw [if_pos h] at ha
        cases ha
        rw [if_pos rfl]
        exact ⟨hk, Nat.lt_succ_self k, h, by rw [h]; exact hq⟩
      · rw [if_neg h] at ha
        obtain ⟨h1, h2, h3, h4⟩ := hok.2 a j ha
        rw [if_neg (by omega)]
        exact ⟨h1, by omega, h3, h4⟩
section CN
variable {p : Program} {l : Launch} {e : Env} {R : Room} {s : State} {m : MethodId} {args : Array Value} {below : List Frame} {meth : Method} {c : Code} {w : hv_W} {nL : Nat} {Q : State → Prop} {cells slots : Nat} {Y : hv_H} {lv : List (Nat × Value)} {pc : Nat} {rest : List Value} {own : String} {cc : ByteArray} {Ts : List Cond} {o : Nat} {am : Nat → Nat} {pm : Nat → Option Nat} {n n0 : Nat} {Y0 : hv_H}
theorem cn_put (C : hv_C RX5 cc nL Ts w p s m args meth c) {k n' index : Nat} {ty : FieldType} (hin2 : meth.name = "<init>") (hk : k < 26) (hin : ∀ x ∈ wsX50, x ∈ Ts) (hlink : Cond.fieldLink RX5 index RX5 (TX5 k).2.1 (TX5 k).2.2.1 ∈ Ts) (hfin : (TX5 k).2.2.2 = true) (href : (TX5 k).1 = RX5) (hd : parseFieldDescriptor (TX5 k).2.2.1 = some (.array ty)) (hset : ∀ am : Nat → Nat, (cn_fs am n).set k (.ref (am k)) = cn_fs am n') (hdg : decode cc pc = .ok (.putfield index, 3)) (kk : hv_V p l e R s m args below meth c w nL Q cells slots (cn w o am pm n' Y0) lv (pc + 3) rest) : hv_V p l e R s m args below meth c w nL Q cells slots (cn w o am pm n Y0) lv pc (.ref (am k) :: .ref o :: rest) :=
  hv_putfF C hin tyX5 tyX5_ok nmX5 (show vwCl[6]? = some (RX5, TX5, 26) from rfl) cn_o hk hlink (fun x h => by rw [href] at h; exact h) hfin hin2 href hd (by rfl) (by rfl) (by rw [show (cn_fs am n).length = 26 from rfl]; exact hk) hdg (by rw [cn_upP _ n' (hset am)]; exact kk)
theorem cn_newi (C : hv_C own cc nL Ts w p s m args meth c) {k N : Nat} (hok : cn_ok o am pm n0 Y0) (harr : Cond.arrayClass .int ∈ Ts) (hk : md_isA k = true) (h9 : k ≠ 9) (hN : md_len k = N) (hn : n0 ≤ k) (hgap : ∀ j, j < k → n0 ≤ j → md_isA j = false) (hfs : ∀ (f g : Nat → Nat), (∀ j, j ≠ k → f j = g j) → cn_fs f n = cn_fs g n) (h0 : ¬ nI N < 0) (hN2 : (nI N).toNatClampNeg = N) (hb : N * componentBytes .int ≤ 536870912) (hcells : cells + 1 ≤ R.cells) (hslots : slots + N ≤ R.slots) (hdg : decode cc pc = .ok (.newarray .int, 2))
    (kk : ∀ (am' : Nat → Nat) (pm' : Nat → Option Nat), cn_ok o am' pm' (k + 1) Y0 → hv_V p l e R s m args below meth c w nL Q (cells + 1) (slots + N) (cn w o am' pm' n Y0) lv (pc + 2) (.ref (am' k) :: rest)) : hv_V p l e R s m args below meth c w nL Q cells slots (cn w o am pm n Y0) lv pc (.int (nI N) :: rest) := by
  refine hv_newi C harr h0 hN2 hb hcells hslots hdg (fun q hq => ?_)
  obtain ⟨h1, h2⟩ := cn_okN hok hk hn hgap hq
  have h3 := kk _ _ h2
  rw [if_pos rfl] at h3
  refine hv_eqY (cn_upN h1 ?_ (hfs _ _ (fun j hj => if_neg hj))) h3
  unfold md_cell
  rw [if_neg h9, hN, ab_z_S]
theorem cn_newz (C : hv_C own cc nL Ts w p s m args meth c) {N : Nat} (hok : cn_ok o am pm n0 Y0) (harr : Cond.arrayClass .boolean ∈ Ts) (hN : md_len 9 = N) (hn : n0 ≤ 9) (hgap : ∀ j, j < 9 → n0 ≤ j → md_isA j = false) (hfs : ∀ (f g : Nat → Nat), (∀ j, j ≠ 9 → f j = g j) → cn_fs f n = cn_fs g n) (h0 : ¬ nI N < 0) (hN2 : (nI N).toNatClampNeg = N) (hb : N * componentBytes .boolean ≤ 536870912) (hcells : cells + 1 ≤ R.cells) (hslots : slots + N ≤ R.slots) (hdg : decode cc pc = .ok (.newarray .boolean, 2))
    (kk : ∀ (am' : Nat → Nat) (pm' : Nat → Option Nat), cn_ok o am' pm' (9 + 1) Y0 → hv_V p l e R s m args below meth c w nL Q (cells + 1) (slots + N) (cn w o am' pm' n Y0) lv (pc + 2) (.ref (am' 9) :: rest)) : hv_V p l e R s m args below meth c w nL Q cells slots (cn w o am pm n Y0) lv pc (.int (nI N) :: rest) := by
  refine hv_newz C harr h0 hN2 hb hcells hslots hdg (fun q hq => ?_)
  obtain ⟨h1, h2⟩ := cn_okN hok (k := 9) (by decide) hn hgap hq
  have h3 := kk _ _ h2
  rw [if_pos rfl] at h3
  refine hv_eqY (cn_upN h1 ?_ (hfs _ _ (fun j hj => if_neg hj))) h3
  unfold md_cell
  rw [if_pos rfl, hN, ab_z_S]
end CN
theorem cn_end {w : hv_W} {o : Nat} {am : Nat → Nat} {pm : Nat → Option Nat} {Y0 : hv_H} : cn w o am pm 25 Y0 = md_Y w (o, am, pm) ab_z 0 Y0 := rfl
theorem cn_md {o : Nat} {am : Nat → Nat} {pm : Nat → Option Nat} {Y0 : hv_H} (h : cn_ok o am pm 25 Y0) : md_ok (o, am, pm) := ⟨fun k hk => h.1 k hk (by simp [md_isA] at hk; omega), fun a k ha => ⟨(h.2 a k ha).1, (h.2 a k ha).2.2.1⟩⟩
def f_i1 (n : Nat) : ab_A := fun k i => if i < n ∧ k = 11 then (if i / 8 = i % 8 then 1 else 0) else if i < n ∧ k = 12 then 0 else ab_z k i
def f_i2 (n : Nat) : ab_A := fun k i => if i < n ∧ k = 0 then 60 else if i < n ∧ k = 1 then 4 else f_i1 64 k i
def ab_0 : ab_A := f_i2 8
theorem f_i1_0 : f_i1 0 = ab_z := by
  funext k i
  simp [f_i1]
theorem f_i1_s (n : Nat) : au (au (f_i1 n) 11 n (if n / 8 = n % 8 then 1 else 0)) 12 n 0 = f_i1 (n + 1) := by
  funext k i
  simp only [au, f_i1]
  (repeat' split) <;> first | rfl | omega | (exfalso; omega) | (subst_vars; first | rfl | omega)
theorem f_i2_0 : f_i2 0 = f_i1 64 := by
  funext k i
  simp [f_i2]
theorem f_i2_s (n : Nat) : au (au (f_i2 n) 0 n 60) 1 n 4 = f_i2 (n + 1) := by
  funext k i
  simp only [au, f_i2]
  (repeat' split) <;> first | rfl | omega | (exfalso; omega) | (subst_vars; first | rfl | omega)
theorem I_0 : ab_I ab_0 := by
  refine ⟨?_, ?_, ?_, by decide, ?_, ?_, by decide, by decide, ?_, ?_⟩
  · intro b hb
    show 5 ≤ (if b < 8 ∧ 0 = 0 then 60 else _) ∧ (if b < 8 ∧ 0 = 0 then 60 else _) ≤ 200 ∧ 1 ≤ (if b < 8 ∧ 1 = 0 then 60 else if b < 8 ∧ 1 = 1 then 4 else _) ∧ (if b < 8 ∧ 1 = 0 then 60 else if b < 8 ∧ 1 = 1 then 4 else _) ≤ 6 ∧ _
    rw [if_pos ⟨hb, rfl⟩, if_neg (fun q => absurd q.2 (by decide)), if_pos ⟨hb, rfl⟩]
    refine ⟨by decide, by decide, by decide, by decide, ?_⟩
    show (if b < 8 ∧ 2 = 0 then 60 else if b < 8 ∧ 2 = 1 then 4 else if b < 64 ∧ 2 = 11 then _ else if b < 64 ∧ 2 = 12 then 0 else 0) ≤ 6
    simp
  · intro b i hb hi
    have h2 : ab_0 2 b = 0 := by simp [ab_0, f_i2, f_i1, ab_z, md_neg]
    omega
  · intro b i i' hb hi
    have h2 : ab_0 2 b = 0 := by simp [ab_0, f_i2, f_i1, ab_z, md_neg]
    omega
  · intro j hj
    have h2 : ab_0 4 0 = 0 := by simp [ab_0, f_i2, f_i1, ab_z, md_neg]
    omega
  · intro b o hb ho
    have e1 : ab_0 11 (8 * b + o) = if (8 * b + o) / 8 = (8 * b + o) % 8 then 1 else 0 := by
      have : 8 * b + o < 64 := by omega
      simp [ab_0, f_i2, f_i1, this]
    have e2 : ab_0 12 (8 * b + o) = 0 := by
      have : 8 * b + o < 64 := by omega
      simp [ab_0, f_i2, f_i1, this]
    rw [e1, e2]
    refine ⟨by split <;> omega, Nat.zero_le _, fun h => absurd rfl h⟩
  · intro j hj
    have h2 : ab_0 15 0 = 0 := by simp [ab_0, f_i2, f_i1, ab_z, md_neg]
    omega
  · intro j _
    constructor <;> simp [ab_0, f_i2, f_i1, ab_z, md_neg]
set_option maxRecDepth 100000 in
set_option maxHeartbeats 4000000 in
theorem c_X5_init (l : Launch) (w : hv_W) (Y : hv_H) (o : Nat) (hY : Y o = some (.inl (.inr (6, cn_fs (fun _ => 0) 0)))) : hv_Mv l yX5_init wsX5_init ({ frames := 1, cells := 21, slots := 718, locals := 12 }) w [.ref o] Y (fun Y1 => ∃ g : md_g, md_ok g ∧ g.1 = o ∧ (∀ a k, g.2.2 a = some k → Y a = none) ∧ Y1 = md_Y w g ab_0 0 Y) := by
  refine hv_ofV (cc := cX5_init) (own := RX5) (by decide) rfl rfl (Nat.le_of_ble_eq_true rfl) rfl ?_
  intro p e s m below meth c C hret hin2
  have hin : ∀ x ∈ wsX50, x ∈ wsX5_init := by decide +kernel
  refine hv_aload_n C dX5_init_0 rfl 0 rfl ?_
  refine hv_objInit C (by decide +kernel) (by decide +kernel) (by decide +kernel) (Nat.le_of_ble_eq_true rfl) (Nat.le_of_ble_eq_true rfl) dX5_init_1 ?_
  refine hv_fin ?_ (cn_0 (w := w) hY) rfl
  refine hv_aload_n C dX5_init_4 rfl 0 rfl ?_
  refine hv_bipush (v := nI 8) C dX5_init_5 (by decide) ?_
  refine cn_newi (k := 0) C (cn_ok0 o Y) (by decide +kernel) (by decide) (by decide) rfl (by decide) (by decide) (fun f g h => by have h0 := fun j (hj : j < 0) => h j (Nat.ne_of_lt hj); simp [cn_fs, h0]) (by decide) (by decide) (by decide) (Nat.le_of_ble_eq_true rfl) (Nat.le_of_ble_eq_true rfl) dX5_init_7 (fun am0 pm0 h0 => ?_)
  refine cn_put (k := 0) (n' := 1) C hin2 (by decide) hin (by decide +kernel) rfl rfl (ty := .int) (by decide +kernel) (fun _ => rfl) dX5_init_9 ?_
  refine hv_aload_n C dX5_init_12 rfl 0 rfl ?_
  refine hv_bipush (v := nI 8) C dX5_init_13 (by decide) ?_
  refine cn_newi (k := 1) C h0 (by decide +kernel) (by decide) (by decide) rfl (by decide) (by decide) (fun f g h => by have h0 := fun j (hj : j < 1) => h j (Nat.ne_of_lt hj); simp [cn_fs, h0]) (by decide) (by decide) (by decide) (Nat.le_of_ble_eq_true rfl) (Nat.le_of_ble_eq_true rfl) dX5_init_15 (fun am1 pm1 h1 => ?_)
  refine cn_put (k := 1) (n' := 2) C hin2 (by decide) hin (by decide +kernel) rfl rfl (ty := .int) (by decide +kernel) (fun _ => rfl) dX5_init_17 ?_
  refine hv_aload_n C dX5_init_20 rfl 0 rfl ?_
  refine hv_bipush (v := nI 8) C dX5_init_21 (by decide) ?_
  refine cn_newi (k := 2) C h1 (by decide +kernel) (by decide) (by decide) rfl (by decide) (by decide) (fun f g h => by have h0 := fun j (hj : j < 2) => h j (Nat.ne_of_lt hj); simp [cn_fs, h0]) (by decide) (by decide) (by decide) (Nat.le_of_ble_eq_true rfl) (Nat.le_of_ble_eq_true rfl) dX5_init_23 (fun am2 pm2 h2 => ?_)
  refine cn_put (k := 2) (n' := 3) C hin2 (by decide) hin (by decide +kernel) rfl rfl (ty := .int) (by decide +kernel) (fun _ => rfl) dX5_init_25 ?_
  refine hv_aload_n C dX5_init_28 rfl 0 rfl ?_
  refine hv_bipush (v := nI 48) C dX5_init_29 (by decide) ?_
  refine cn_newi (k := 3) C h2 (by decide +kernel) (by decide) (by decide) rfl (by decide) (by decide) (fun f g h => by have h0 := fun j (hj : j < 3) => h j (Nat.ne_of_lt hj); simp [cn_fs, h0]) (by decide) (by decide) (by decide) (Nat.le_of_ble_eq_true rfl) (Nat.le_of_ble_eq_true rfl) dX5_init_31 (fun am3 pm3 h3 => ?_)
  refine cn_put (k := 3) (n' := 4) C hin2 (by decide) hin (by decide +kernel) rfl rfl (ty := .int) (by decide +kernel) (fun _ => rfl) dX5_init_33 ?_
  refine hv_aload_n C dX5_init_36 rfl 0 rfl ?_
  refine hv_bipush (v := nI 14) C dX5_init_37 (by decide) ?_
  refine cn_newi (k := 5) C h3 (by decide +kernel) (by decide) (by decide) rfl (by decide) (by decide) (fun f g h => by have h0 := fun j (hj : j < 5) => h j (Nat.ne_of_lt hj); simp [cn_fs, h0]) (by decide) (by decide) (by decide) (Nat.le_of_ble_eq_true rfl) (Nat.le_of_ble_eq_true rfl) dX5_init_39 (fun am5 pm5 h5 => ?_)
  refine cn_put (k := 5) (n' := 6) C hin2 (by decide) hin (by decide +kernel) rfl rfl (ty := .int) (by decide +kernel) (fun _ => rfl) dX5_init_41 ?_
  refine hv_aload_n C dX5_init_44 rfl 0 rfl ?_
  refine hv_bipush (v := nI 14) C dX5_init_45 (by decide) ?_
  refine cn_newi (k := 6) C h5 (by decide +kernel) (by decide) (by decide) rfl (by decide) (by decide) (fun f g h => by have h0 := fun j (hj : j < 6) => h j (Nat.ne_of_lt hj); simp [cn_fs, h0]) (by decide) (by decide) (by decide) (Nat.le_of_ble_eq_true rfl) (Nat.le_of_ble_eq_true rfl) dX5_init_47 (fun am6 pm6 h6 => ?_)
  refine cn_put (k := 6) (n' := 7) C hin2 (by decide) hin (by decide +kernel) rfl rfl (ty := .int) (by decide +kernel) (fun _ => rfl) dX5_init_49 ?_
  refine hv_aload_n C dX5_init_52 rfl 0 rfl ?_
  refine hv_bipush (v := nI 14) C dX5_init_53 (by decide) ?_
  refine cn_newi (k := 7) C h6 (by decide +kernel) (by decide) (by decide) rfl (by decide) (by decide) (fun f g h => by have h0 := fun j (hj : j < 7) => h j (Nat.ne_of_lt hj); simp [cn_fs, h0]) (by decide) (by decide) (by decide) (Nat.le_of_ble_eq_true rfl) (Nat.le_of_ble_eq_true rfl) dX5_init_55 (fun am7 pm7 h7 => ?_)
  refine cn_put (k := 7) (n' := 8) C hin2 (by decide) hin (by decide +kernel) rfl rfl (ty := .int) (by decide +kernel) (fun _ => rfl) dX5_init_57 ?_
  refine hv_aload_n C dX5_init_60 rfl 0 rfl ?_
  refine hv_bipush (v := nI 14) C dX5_init_61 (by decide) ?_
  refine cn_newi (k := 8) C h7 (by decide +kernel) (by decide) (by decide) rfl (by decide) (by decide) (fun f g h => by have h0 := fun j (hj : j < 8) => h j (Nat.ne_of_lt hj); simp [cn_fs, h0]) (by decide) (by decide) (by decide) (Nat.le_of_ble_eq_true rfl) (Nat.le_of_ble_eq_true rfl) dX5_init_63 (fun am8 pm8 h8 => ?_)
  refine cn_put (k := 8) (n' := 9) C hin2 (by decide) hin (by decide +kernel) rfl rfl (ty := .int) (by decide +kernel) (fun _ => rfl) dX5_init_65 ?_
  refine hv_aload_n C dX5_init_68 rfl 0 rfl ?_
  refine hv_bipush (v := nI 14) C dX5_init_69 (by decide) ?_
  refine cn_newz C h8 (by decide +kernel) rfl (by decide) (by decide) (fun f g h => by have h0 := fun j (hj : j < 9) => h j (Nat.ne_of_lt hj); simp [cn_fs, h0]) (by decide) (by decide) (by decide) (Nat.le_of_ble_eq_true rfl) (Nat.le_of_ble_eq_true rfl) dX5_init_71 (fun am9 pm9 h9 => ?_)
  refine cn_put (k := 9) (n' := 10) C hin2 (by decide) hin (by decide +kernel) rfl rfl (ty := .boolean) (by decide +kernel) (fun _ => rfl) dX5_init_73 ?_
  refine hv_aload_n C dX5_init_76 rfl 0 rfl ?_
  refine hv_bipush (v := nI 64) C dX5_init_77 (by decide) ?_
  refine cn_newi (k := 11) C h9 (by decide +kernel) (by decide) (by decide) rfl (by decide) (by decide) (fun f g h => by have h0 := fun j (hj : j < 11) => h j (Nat.ne_of_lt hj); simp [cn_fs, h0]) (by decide) (by decide) (by decide) (Nat.le_of_ble_eq_true rfl) (Nat.le_of_ble_eq_true rfl) dX5_init_79 (fun am11 pm11 h11 => ?_)
  refine cn_put (k := 11) (n' := 12) C hin2 (by decide) hin (by decide +kernel) rfl rfl (ty := .int) (by decide +kernel) (fun _ => rfl) dX5_init_81 ?_
  refine hv_aload_n C dX5_init_84 rfl 0 rfl ?_
  refine hv_bipush (v := nI 64) C dX5_init_85 (by decide) ?_
  refine cn_newi (k := 12) C h11 (by decide +kernel) (by decide) (by decide) rfl (by decide) (by decide) (fun f g h => by have h0 := fun j (hj : j < 12) => h j (Nat.ne_of_lt hj); simp [cn_fs, h0]) (by decide) (by decide) (by decide) (Nat.le_of_ble_eq_true rfl) (Nat.le_of_ble_eq_true rfl) dX5_init_87 (fun am12 pm12 h12 => ?_)
  refine cn_put (k := 12) (n' := 13) C hin2 (by decide) hin (by decide +kernel) rfl rfl (ty := .int) (by decide +kernel) (fun _ => rfl) dX5_init_89 ?_
  refine hv_aload_n C dX5_init_92 rfl 0 rfl ?_
  refine hv_bipush (v := nI 64) C dX5_init_93 (by decide) ?_
  refine cn_newi (k := 13) C h12 (by decide +kernel) (by decide) (by decide) rfl (by decide) (by decide) (fun f g h => by have h0 := fun j (hj : j < 13) => h j (Nat.ne_of_lt hj); simp [cn_fs, h0]) (by decide) (by decide) (by decide) (Nat.le_of_ble_eq_true rfl) (Nat.le_of_ble_eq_true rfl) dX5_init_95 (fun am13 pm13 h13 => ?_)
  refine cn_put (k := 13) (n' := 14) C hin2 (by decide) hin (by decide +kernel) rfl rfl (ty := .int) (by decide +kernel) (fun _ => rfl) dX5_init_97 ?_
  refine hv_aload_n C dX5_init_100 rfl 0 rfl ?_
  refine hv_bipush (v := nI 64) C dX5_init_101 (by decide) ?_
  refine cn_newi (k := 14) C h13 (by decide +kernel) (by decide) (by decide) rfl (by decide) (by decide) (fun f g h => by have h0 := fun j (hj : j < 14) => h j (Nat.ne_of_lt hj); simp [cn_fs, h0]) (by decide) (by decide) (by decide) (Nat.le_of_ble_eq_true rfl) (Nat.le_of_ble_eq_true rfl) dX5_init_103 (fun am14 pm14 h14 => ?_)
  refine cn_put (k := 14) (n' := 15) C hin2 (by decide) hin (by decide +kernel) rfl rfl (ty := .int) (by decide +kernel) (fun _ => rfl) dX5_init_105 ?_
  refine hv_aload_n C dX5_init_108 rfl 0 rfl ?_
  refine hv_bipush (v := nI 40) C dX5_init_109 (by decide) ?_
  refine cn_newi (k := 17) C h14 (by decide +kernel) (by decide) (by decide) rfl (by decide) (by decide) (fun f g h => by have h0 := fun j (hj : j < 17) => h j (Nat.ne_of_lt hj); simp [cn_fs, h0]) (by decide) (by decide) (by decide) (Nat.le_of_ble_eq_true rfl) (Nat.le_of_ble_eq_true rfl) dX5_init_111 (fun am17 pm17 h17 => ?_)
  refine cn_put (k := 17) (n' := 18) C hin2 (by decide) hin (by decide +kernel) rfl rfl (ty := .int) (by decide +kernel) (fun _ => rfl) dX5_init_113 ?_
  refine hv_aload_n C dX5_init_116 rfl 0 rfl ?_
  refine hv_bipush (v := nI 40) C dX5_init_117 (by decide) ?_
  refine cn_newi (k := 18) C h17 (by decide +kernel) (by decide) (by decide) rfl (by decide) (by decide) (fun f g h => by have h0 := fun j (hj : j < 18) => h j (Nat.ne_of_lt hj); simp [cn_fs, h0]) (by decide) (by decide) (by decide) (Nat.le_of_ble_eq_true rfl) (Nat.le_of_ble_eq_true rfl) dX5_init_119 (fun am18 pm18 h18 => ?_)
  refine cn_put (k := 18) (n' := 19) C hin2 (by decide) hin (by decide +kernel) rfl rfl (ty := .int) (by decide +kernel) (fun _ => rfl) dX5_init_121 ?_
  refine hv_aload_n C dX5_init_124 rfl 0 rfl ?_
  refine hv_bipush (v := nI 40) C dX5_init_125 (by decide) ?_
  refine cn_newi (k := 19) C h18 (by decide +kernel) (by decide) (by decide) rfl (by decide) (by decide) (fun f g h => by have h0 := fun j (hj : j < 19) => h j (Nat.ne_of_lt hj); simp [cn_fs, h0]) (by decide) (by decide) (by decide) (Nat.le_of_ble_eq_true rfl) (Nat.le_of_ble_eq_true rfl) dX5_init_127 (fun am19 pm19 h19 => ?_)
  refine cn_put (k := 19) (n' := 20) C hin2 (by decide) hin (by decide +kernel) rfl rfl (ty := .int) (by decide +kernel) (fun _ => rfl) dX5_init_129 ?_
  refine hv_aload_n C dX5_init_132 rfl 0 rfl ?_
  refine hv_bipush (v := nI 40) C dX5_init_133 (by decide) ?_
  refine cn_newi (k := 20) C h19 (by decide +kernel) (by decide) (by decide) rfl (by decide) (by decide) (fun f g h => by have h0 := fun j (hj : j < 20) => h j (Nat.ne_of_lt hj); simp [cn_fs, h0]) (by decide) (by decide) (by decide) (Nat.le_of_ble_eq_true rfl) (Nat.le_of_ble_eq_true rfl) dX5_init_135 (fun am20 pm20 h20 => ?_)
  refine cn_put (k := 20) (n' := 21) C hin2 (by decide) hin (by decide +kernel) rfl rfl (ty := .int) (by decide +kernel) (fun _ => rfl) dX5_init_137 ?_
  refine hv_aload_n C dX5_init_140 rfl 0 rfl ?_
  refine hv_bipush (v := nI 40) C dX5_init_141 (by decide) ?_
  refine cn_newi (k := 21) C h20 (by decide +kernel) (by decide) (by decide) rfl (by decide) (by decide) (fun f g h => by have h0 := fun j (hj : j < 21) => h j (Nat.ne_of_lt hj); simp [cn_fs, h0]) (by decide) (by decide) (by decide) (Nat.le_of_ble_eq_true rfl) (Nat.le_of_ble_eq_true rfl) dX5_init_143 (fun am21 pm21 h21 => ?_)
  refine cn_put (k := 21) (n' := 22) C hin2 (by decide) hin (by decide +kernel) rfl rfl (ty := .int) (by decide +kernel) (fun _ => rfl) dX5_init_145 ?_
  refine hv_aload_n C dX5_init_148 rfl 0 rfl ?_
  refine hv_bipush (v := nI 40) C dX5_init_149 (by decide) ?_
  refine cn_newi (k := 22) C h21 (by decide +kernel) (by decide) (by decide) rfl (by decide) (by decide) (fun f g h => by have h0 := fun j (hj : j < 22) => h j (Nat.ne_of_lt hj); simp [cn_fs, h0]) (by decide) (by decide) (by decide) (Nat.le_of_ble_eq_true rfl) (Nat.le_of_ble_eq_true rfl) dX5_init_151 (fun am22 pm22 h22 => ?_)
  refine cn_put (k := 22) (n' := 23) C hin2 (by decide) hin (by decide +kernel) rfl rfl (ty := .int) (by decide +kernel) (fun _ => rfl) dX5_init_153 ?_
  refine hv_aload_n C dX5_init_156 rfl 0 rfl ?_
  refine hv_bipush (v := nI 40) C dX5_init_157 (by decide) ?_
  refine cn_newi (k := 23) C h22 (by decide +kernel) (by decide) (by decide) rfl (by decide) (by decide) (fun f g h => by have h0 := fun j (hj : j < 23) => h j (Nat.ne_of_lt hj); simp [cn_fs, h0]) (by decide) (by decide) (by decide) (Nat.le_of_ble_eq_true rfl) (Nat.le_of_ble_eq_true rfl) dX5_init_159 (fun am23 pm23 h23 => ?_)
  refine cn_put (k := 23) (n' := 24) C hin2 (by decide) hin (by decide +kernel) rfl rfl (ty := .int) (by decide +kernel) (fun _ => rfl) dX5_init_161 ?_
  refine hv_aload_n C dX5_init_164 rfl 0 rfl ?_
  refine hv_bipush (v := nI 40) C dX5_init_165 (by decide) ?_
  refine cn_newi (k := 24) C h23 (by decide +kernel) (by decide) (by decide) rfl (by decide) (by decide) (fun f g h => by have h0 := fun j (hj : j < 24) => h j (Nat.ne_of_lt hj); simp [cn_fs, h0]) (by decide) (by decide) (by decide) (Nat.le_of_ble_eq_true rfl) (Nat.le_of_ble_eq_true rfl) dX5_init_167 (fun am24 pm24 h24 => ?_)
  refine cn_put (k := 24) (n' := 25) C hin2 (by decide) hin (by decide +kernel) rfl rfl (ty := .int) (by decide +kernel) (fun _ => rfl) dX5_init_169 ?_
  refine hv_fin ?_ cn_end rfl
  have hg := cn_md h24
  refine hv_fin (lv1 := [(0, .ref (((o, am24, pm24) : md_g).1))]) ?_ rfl rfl
  refine hv_iconst (v := nI 0) C dX5_init_172 (by decide) ?_
  refine hv_istore_n (lv1 := [(0, .ref (((o, am24, pm24) : md_g).1)), (1, .int (nI 0))]) C dX5_init_173 rfl (by decide) [1, 0] rfl ?_
  refine hv_fin ?_ (md_eq f_i1_0.symm) rfl
  refine hv_loop 64 (fun i => md_Y w (o, am24, pm24) (f_i1 i) 0 Y) (fun i => [(0, .ref (((o, am24, pm24) : md_g).1)), (1, .int (nI i))]) ?_ ?_
  · skip
    refine hv_iload_n C dX5_init_174 rfl 1 rfl ?_
    refine hv_bipush (v := nI 64) C dX5_init_175 (by decide) ?_
    refine hv_icmpN_ge (tgt := 215) C dX5_init_177 (by decide) (by omega) (by omega) (fun _ => ?_) (fun h => absurd h (by decide))
    refine hv_iconst (v := nI 0) C dX5_init_215 (by decide) ?_
    refine hv_istore_n (lv1 := [(0, .ref (((o, am24, pm24) : md_g).1)), (1, .int (nI 0))]) C dX5_init_216 rfl (by decide) [1, 0] rfl ?_
    refine hv_fin ?_ (md_eq f_i2_0.symm) rfl
    refine hv_loop 8 (fun i => md_Y w (o, am24, pm24) (f_i2 i) 0 Y) (fun i => [(0, .ref (((o, am24, pm24) : md_g).1)), (1, .int (nI i))]) ?_ ?_
    · skip
      refine hv_iload_n C dX5_init_217 rfl 1 rfl ?_
      refine hv_bipush (v := nI 8) C dX5_init_218 (by decide) ?_
      refine hv_icmpN_ge (tgt := 244) C dX5_init_220 (by decide) (by omega) (by omega) (fun _ => ?_) (fun h => absurd h (by decide))
      exact hv_vret C hret dX5_init_244 (by first | exact Nat.le_refl _ | decide) (by first | exact Nat.le_refl _ | decide) ⟨(o, am24, pm24), hg, rfl, fun a k ha => (h24.2 a k ha).2.2.2, rfl⟩
    · intro i hi ih
      refine hv_iload_n C dX5_init_217 rfl 1 rfl ?_
      refine hv_bipush (v := nI 8) C dX5_init_218 (by decide) ?_
      refine hv_icmpN_ge (tgt := 244) C dX5_init_220 (by decide) (by omega) (by omega) (fun h3 => ?_) (fun h3 => ?_)
      · skip
        exact absurd h3 (by omega)
      · skip
        refine hv_aload_n C dX5_init_223 rfl 0 rfl ?_
        refine hm_get (k := 0) (v := .ref (((o, am24, pm24) : md_g).2.1 0)) C hin (by decide) (by decide +kernel) rfl rfl dX5_init_224 ?_
        refine hv_iload_n C dX5_init_227 rfl 1 rfl ?_
        refine hv_bipush (v := nI 60) C dX5_init_228 (by decide) ?_
        refine hm_iast (k := 0) (n := i) (v := 60) C hg (by decide) (by decide) (show i < 8 from by omega) rfl dX5_init_230 ?_
        refine hv_aload_n C dX5_init_231 rfl 0 rfl ?_
        refine hm_get (k := 1) (v := .ref (((o, am24, pm24) : md_g).2.1 1)) C hin (by decide) (by decide +kernel) rfl rfl dX5_init_232 ?_
        refine hv_iload_n C dX5_init_235 rfl 1 rfl ?_
        refine hv_iconst (v := nI 4) C dX5_init_236 (by decide) ?_
        refine hm_iast (k := 1) (n := i) (v := 4) C hg (by decide) (by decide) (show i < 8 from by omega) rfl dX5_init_237 ?_
        refine hv_iinc (v := nI (i + 1)) (lv1 := [(0, .ref (((o, am24, pm24) : md_g).1)), (1, .int (nI (i + 1)))]) C dX5_init_238 (k := 1) rfl (nI_1 _) (by decide) [1, 0] rfl ?_
        refine hv_goto (tgt := 217) C dX5_init_241 (by decide) ?_
        exact hv_fin ih (md_eq (f_i2_s i)) rfl
  · intro i hi ih
    refine hv_iload_n C dX5_init_174 rfl 1 rfl ?_
    refine hv_bipush (v := nI 64) C dX5_init_175 (by decide) ?_
    refine hv_icmpN_ge (tgt := 215) C dX5_init_177 (by decide) (by omega) (by omega) (fun h4 => ?_) (fun h4 => ?_)
    · skip
      exact absurd h4 (by omega)
    · skip
      refine hv_aload_n C dX5_init_180 rfl 0 rfl ?_
      refine hm_get (k := 11) (v := .ref (((o, am24, pm24) : md_g).2.1 11)) C hin (by decide) (by decide +kernel) rfl rfl dX5_init_181 ?_
      refine hv_iload_n C dX5_init_184 rfl 1 rfl ?_
      refine hv_join (α := Nat) (pcJ := 201) (fun _ => md_Y w (o, am24, pm24) (f_i1 i) 0 Y) (fun _ => [(0, .ref (((o, am24, pm24) : md_g).1)), (1, .int (nI i))]) (fun t9 => .int (nI t9 + (-1)) :: [.int (nI i), .ref (((o, am24, pm24) : md_g).2.1 11)]) (fun t9 => t9 = if i / 8 = i % 8 then 1 else 0) ?_ ?_
      · rintro _ rfl
        refine hm_iast (k := 11) (n := i) (v := if i / 8 = i % 8 then 1 else 0) C hg (by decide) (by decide) (show i < 64 from by omega) rfl dX5_init_201 ?_
        refine hv_aload_n C dX5_init_202 rfl 0 rfl ?_
        refine hm_get (k := 12) (v := .ref (((o, am24, pm24) : md_g).2.1 12)) C hin (by decide) (by decide +kernel) rfl rfl dX5_init_203 ?_
        refine hv_iload_n C dX5_init_206 rfl 1 rfl ?_
        refine hv_iconst (v := nI 0 + (-1)) C dX5_init_207 (by decide) ?_
        refine hm_iast (k := 12) (n := i) (v := 0) C hg (by decide) (by decide) (show i < 64 from by omega) rfl dX5_init_208 ?_
        refine hv_iinc (v := nI (i + 1)) (lv1 := [(0, .ref (((o, am24, pm24) : md_g).1)), (1, .int (nI (i + 1)))]) C dX5_init_209 (k := 1) rfl (nI_1 _) (by decide) [1, 0] rfl ?_
        refine hv_goto (tgt := 174) C dX5_init_212 (by decide) ?_
        exact hv_fin ih (md_eq (f_i1_s i)) rfl
      · intro kt
        refine hv_iload_n C dX5_init_185 rfl 1 rfl ?_
        refine hv_bipush (v := nI 8) C dX5_init_186 (by decide) ?_
        refine hv_idivN C dX5_init_188 (by omega) (by omega) (by omega) ?_
        refine hv_iload_n C dX5_init_189 rfl 1 rfl ?_
        refine hv_bipush (v := nI 8) C dX5_init_190 (by decide) ?_
        refine hv_iremN C dX5_init_192 (by omega) (by omega) (by omega) ?_
        refine hv_icmpN_ne (tgt := 200) C dX5_init_193 (by decide) (by omega) (by omega) (fun h5 => ?_) (fun h5 => ?_)
        · skip
          refine hv_iconst (v := nI 0 + (-1)) C dX5_init_200 (by decide) ?_
          exact kt _ (by first | rw [if_pos h5] | rw [if_neg h5])
        · skip
          refine hv_iconst (v := nI 0) C dX5_init_196 (by decide) ?_
          refine hv_goto (tgt := 201) C dX5_init_197 (by decide) ?_
          refine hv_top (nI_eS 0).symm ?_
          exact kt _ (by first | rw [if_pos h5] | rw [if_neg h5])
