/-! THE LAW'S LAYER: handlers, the script, longs; its five rows of ints beside the class's cells -/
section HL
variable {p : Program} {l : Launch} {e : Env} {R : Room} {s : State} {m : MethodId} {args : Array Value} {below : List Frame} {meth : Method} {c : Code} {w : hv_W} {nL : Nat} {Q : State → Prop} {cells slots : Nat} {Y : hv_H} {lv : List (Nat × Value)} {pc : Nat} {rest : List Value} {own : String} {cc : ByteArray} {Ts : List Cond}
theorem hv_ofVH {y : MethodName} {ws ws1 : List Cond} {rm : Room} {Qc : Array Value → State → Outcome → State → Prop} {maxL : Nat} {ret : Option FieldType} {hh : List (Nat × Nat × Nat × Nat)} {As : List Value} {lv0 : List (Nat × Value)} (hy : plainName y.cls = true) (hw : ws = Cond.codeWith y cc maxL ret hh :: ws1) (hown : y.cls = own) (hlen : (lg_sl As).length ≤ maxL) (hlv : lv_args 0 As = lv0)
    (body : ∀ (p : Program) (e : Env) (s : State) (m : MethodId) (below : List Frame) (meth : Method) (c : Code), hv_C own cc maxL ws w p s m As.toArray meth c → meth.sig.returnType = ret → c.exceptionTable.toList = tableOf hh → hv_V p l e rm s m As.toArray below meth c w maxL (MQ below Qc As.toArray s rm.cells rm.slots (hv_A w)) 0 0 Y lv0 0 []) : Met l y ws rm (hv_Pc w As Y) Qc rm.cells rm.slots (hv_A w) := by
  refine MetFree.of_bodyS (code := cc) (maxLocals := maxL) (ret := ret) hy ?_ ?_
  · intro args s m h hn
    obtain ⟨m9, meth, c, hn9, h1, h2, h3, h4, -, h5, h6, -⟩ := Cond.codeWith_spec (atoms_spec (ws := ws) h _ (by rw [hw]; exact List.mem_cons_self))
    cases hn.symm.trans hn9
    exact ⟨meth, c, h1, h2, h3, h4, h5, h6⟩
  · intro p e s m args below meth c s₁ B hml hP _
    have hh0 : s₁.heap = s.heap := by rw [B.state]; rfl
    obtain ⟨rfl, hWD, hR⟩ := hP
    have hts := atoms_spec (ws := ws) B.pre
    have hown9 : s.vm.findClass own = some m.cls := by rw [← hown]; exact findClass_of_methodNamed B.named
    have htab := vx_table (x := y) B (hts _ (by rw [hw]; exact List.mem_cons_self))
    have hl := lv_entry As (n := maxL) hlen
    rw [hlv] at hl
    have K := body p e s m below meth c ⟨B.exec, B.bytes, hml, hown9, hts, B.notSynchronized, hWD, hR.1.2⟩ B.returns htab s.heap [] _ hR va_S.rf hl
    rw [← lg_entry_eq] at K
    obtain ⟨t, a1, o, b1, b2, b3⟩ := K s₁ hh0 (Stand.of_body B)
    exact ⟨t, o, a1, b1, b2, ⟨b3.1, b3.2⟩⟩
theorem hv_callSrH (C : hv_C own cc nL Ts w p s m args meth c) {y : MethodName} {bytes : ByteArray} {maxL n index : Nat} {ws ws1 : List Cond} {rm : Room} {As : List Value} {st : List Value} {ret : Option FieldType} {hh : List (Nat × Nat × Nat × Nat)} {post : Value → hv_H → Prop} (hM : hv_Mr l y ws rm w As Y post) (hG : GoodIn Ts (va_wsS own index y ws)) (hw : ws = Cond.codeWith y bytes maxL ret hh :: ws1) (hd : y.cls ≠ "java/lang/invoke/MethodHandle" ∧ y.cls ≠ "java/lang/invoke/VarHandle" ∧ (parseMethodDescriptor y.desc).map (fun d => d.parameters.length) = some n) (hRm : rm.frames + 1 ≤ R.frames ∧ 8 + (maxL + 11) + rm.locals ≤ R.locals) (hn : As.length = n) (hst : st = As.reverse ++ rest) (hcat : (rest.map fun v => v.category).sum ≤ 8) (hdg : decode cc pc = .ok (.invokestatic index, 3)) (hf : cells + rm.cells ≤ R.cells ∧ slots + rm.slots ≤ R.slots) (kk : ∀ (r : Value) (Y1 : hv_H), post r Y1 → hv_V p l e R s m args below meth c w nL Q (cells + rm.cells) (slots + rm.slots) Y1 lv (pc + 3) (r :: rest)) : hv_V p l e R s m args below meth c w nL Q cells slots Y lv pc st := by
  subst hst
  intro H locs ls hR hS hl T hT X
  obtain ⟨v, st₀, t, T1, L, g0, X1, hL, e1, e2, ⟨⟨r, Y1, hv, hp, hb9⟩, hz, hk⟩, stp⟩ := vx_runSW (As := As) (rest := rest) (index := index) (g := F0 m pc ls _) ⟨C.1, C.2.1, C.2.2.1, C.2.2.2.1, C.2.2.2.2.1⟩ hM (vx_cwSW n C.2.2.2.2.1 hG hw rfl rfl hd hRm) ⟨hv_blind, hv_pre C hR hS⟩ rfl hn hl.1 rfl (lv_room hcat) hdg hf T hT X
  cases hv
  rw [g0] at hz hk
  obtain ⟨t2, a1, b1⟩ := kk r Y1 hp T1.heap (locs ++ L) ls (by rw [e1]; exact hb9) ⟨Nat.le_trans hS.1 (by rw [e1]; exact hz), fun q h1 h2 => by rw [e1, hk q (Nat.lt_of_lt_of_le h1 hS.1) h2]; exact hS.2.1 q h1 h2, fun q hq => by
      rcases List.mem_append.mp hq with h | h
      · exact hS.2.2 q h
      · exact hL q h⟩ hl T1 rfl X1
  exact ⟨t2, stp t2 a1, b1⟩
/-- a call whose exceptions are caught here -/
theorem hv_callVrh (C : hv_C own cc nL Ts w p s m args meth c) {y : MethodName} {bytes : ByteArray} {maxL n index : Nat} {ws ws1 : List Cond} {rm : Room} {As : List Value} {st : List Value} {ret : Option FieldType} {b : Nat} {Cn : String} {post : Value → hv_H → Prop} {px : String → hv_H → Prop} (hM : hv_Nr l y ws rm w (.ref b :: As) Y post px) (hG : GoodIn Ts (wsV own index Cn y ws)) (hw : ws = Cond.code y bytes maxL ret :: ws1) (hd : y.cls = Cn ∧ y.cls ≠ "java/lang/invoke/MethodHandle" ∧ y.cls ≠ "java/lang/invoke/VarHandle" ∧ (parseMethodDescriptor y.desc).map (fun d => d.parameters.length) = some n) (hRm : rm.frames + 1 ≤ R.frames ∧ 8 + (maxL + 11) + rm.locals ≤ R.locals) (hb : hv_rc Y b Cn) (hn : As.length = n) (hst : st = As.reverse ++ .ref b :: rest) (hcat : (rest.map fun v => v.category).sum ≤ 8) (hdg : decode cc pc = .ok (.invokevirtual index, 3)) (hf : cells + rm.cells ≤ R.cells ∧ slots + rm.slots ≤ R.slots)
    (kx : ∀ (E : String) (Y1 : hv_H), px E Y1 → ∃ (pre : List ExceptionTableEntry) (x : ExceptionTableEntry) (suf : List ExceptionTableEntry) (name : String), c.exceptionTable.toList = pre ++ x :: suf ∧ (∀ z ∈ pre, covers z pc = false ∨ (z.catchType ≠ 0 ∧ ∃ nm : String, (Cond.classLink own z.catchType nm) ∈ Ts ∧ va_Nc E nm s)) ∧ covers x pc = true ∧ x.catchType ≠ 0 ∧ Cond.classLink own x.catchType name ∈ Ts ∧ (Cond.castable E name).before args s = true ∧ ∀ q9 : Nat, hv_V p l e R s m args below meth c w nL Q (cells + rm.cells) (slots + rm.slots) Y1 lv x.handlerPc [.ref q9])
    (kk : ∀ (r : Value) (Y1 : hv_H), post r Y1 → hv_V p l e R s m args below meth c w nL Q (cells + rm.cells) (slots + rm.slots) Y1 lv (pc + 3) (r :: rest)) : hv_V p l e R s m args below meth c w nL Q cells slots Y lv pc st := by
  subst hst
  intro H locs ls hR hS hl T hT X
  have hz9 : ∀ (st₀ t T1 : State) (L : List Loc), st₀.heap = H → T1.heap = t.heap → (∀ q ∈ L, hv_A w q.base) → va_F (hv_A w) st₀ t → va_S (hv_A w) s.heap T1.heap (locs ++ L) := by
    intro st₀ t T1 L g0 e1 hL hF
    obtain ⟨hz, hk⟩ := hF
    rw [g0] at hz hk
    exact ⟨Nat.le_trans hS.1 (by rw [e1]; exact hz), fun q h1 h2 => by rw [e1, hk q (Nat.lt_of_lt_of_le h1 hS.1) h2]; exact hS.2.1 q h1 h2, fun q hq => by
      rcases List.mem_append.mp hq with h | h
      · exact hS.2.2 q h
      · exact hL q h⟩
  rcases vx_runV (As := As) (rest := rest) (index := index) (g := F0 m pc ls _) ⟨C.1, C.2.1, C.2.2.1, C.2.2.2.1, C.2.2.2.2.1⟩ hM (cwV n C.2.2.2.2.1 hG hw rfl rfl hd hRm) ⟨hv_blind, hv_recv C hb hR, hv_pre C hR hS⟩ rfl hn hl.1 rfl (lv_room hcat) hdg hf T hT X with ⟨v, st₀, t, T1, L, g0, X1, hL, e1, e2, ⟨⟨r, Y1, hv, hp, hb9⟩, hF⟩, stp⟩ | ⟨q, st₀, t, T1, L, E, ce, g0, X1, hL, e1, e2, ⟨⟨Y1, hp, hb9⟩, hF⟩, hce, hcv, hcl, stp⟩
  · cases hv
    obtain ⟨t2, a1, b1⟩ := kk r Y1 hp T1.heap (locs ++ L) ls (by rw [e1]; exact hb9) (hz9 st₀ t T1 L g0 e1 hL hF) hl T1 rfl X1
    exact ⟨t2, stp t2 a1, b1⟩
  · have hS1 := hz9 st₀ t T1 L g0 e1 hL hF
    obtain ⟨pre, x, suf, name, k1, k2, k3, k4, k5, k6, k7⟩ := kx E Y1 hp
    obtain ⟨t2, a1, b1⟩ := vx_catch (own := own) (name := name) (E := E) (pc := pc) (ls := ls) (rest := rest) (H := T1.heap) (locs := locs ++ L) (Q := Q) C.2.2.2.1 pre x suf k1 (fun z hz => by
        rcases k2 z hz with h | ⟨h1, nm, h2, h3⟩
        · exact Or.inl h
        · exact Or.inr ⟨h1, nm, C.2.2.2.2.1 _ h2, h3⟩) k3 k4 (C.2.2.2.2.1 _ k5) k6 (by rw [e1]; exact hce) hcv hcl (k7 q T1.heap (locs ++ L) ls (by rw [e1]; exact hb9) hS1 hl) T1 rfl X1
    exact ⟨t2, stp.trans a1, b1⟩
theorem hv_ncA (C : hv_C own cc nL Ts w p s m args meth c) : va_Nc hv_IA hv_IO s := C.2.2.2.2.2.2.1.2.2.2.2.2.2.2.2.2.1
theorem hv_ncB (C : hv_C own cc nL Ts w p s m args meth c) : va_Nc hv_IS hv_IO s := C.2.2.2.2.2.2.1.2.2.2.2.2.2.2.2.2.2.1
theorem hv_cE {E : String} (C : hv_C own cc nL Ts w p s m args meth c) (h : Cond.castable E E ∈ hv_N) : (Cond.castable E E).before args s = true := va_any rfl (C.2.2.2.2.2.2.1.2.2.2.2.2.2.2.1 _ h)
theorem hv_nIA : Cond.castable hv_IA hv_IA ∈ hv_N := by decide +kernel
theorem hv_nIS : Cond.castable hv_IS hv_IS ∈ hv_N := by decide +kernel
theorem hv_nIO : Cond.castable hv_IO hv_IO ∈ hv_N := by decide +kernel
theorem hv_lcmpE (C : hv_C own cc nL Ts w p s m args meth c) {x y : Int64} (h : x = y) (hdg : decode cc pc = .ok (.lcmp, 1)) (kk : hv_V p l e R s m args below meth c w nL Q cells slots Y lv (pc + 1) (.int 0 :: rest)) : hv_V p l e R s m args below meth c w nL Q cells slots Y lv pc (.long y :: .long x :: rest) := by
  intro H locs ls hR hS hl
  refine W.lcmp C.1 C.2.1 hdg ?_
  have e0 : lg_cmp x y = 0 := by
    subst h
    unfold lg_cmp
    rw [if_neg (Int64.lt_irrefl), if_pos rfl]
  rw [e0]
  exact kk H locs ls hR hS hl
theorem hv_sX (C : hv_C own cc nL Ts w p s m args meth c) : hv_sb w < hv_b w ∧ va_X (hv_sb w) (hv_sL w) (hv_sx w) s s.heap := C.2.2.2.2.2.2.1.2.2.2.2.2.2.2.2.2.2.2.2
theorem hv_sld (C : hv_C own cc nL Ts w p s m args meth c) {i : Nat} (hi : i < hv_sL w) (hL : hv_sL w < 2 ^ 31) (hdg : decode cc pc = .ok (.iaload, 1)) (kk : hv_V p l e R s m args below meth c w nL Q cells slots Y lv (pc + 1) (.int (hv_sx w i) :: rest)) : hv_V p l e R s m args below meth c w nL Q cells slots Y lv pc (.int (nI i) :: .ref (hv_sb w) :: rest) := by
  intro H locs ls hR hS hl
  obtain ⟨h1, h2⟩ := hv_sX C
  refine va_sld C.1 C.2.1 h2 (by obtain ⟨scr, k1, -⟩ := h2; exact (Array.getElem?_eq_some_iff.mp k1).1) (by unfold hv_A; omega) hS (vp_in_nI hi hL) hdg ?_
  rw [nI_clamp (Nat.lt_trans hi hL)]
  exact kk H locs ls hR hS hl
theorem hv_slen (C : hv_C own cc nL Ts w p s m args meth c) (hdg : decode cc pc = .ok (.arraylength, 1)) (kk : hv_V p l e R s m args below meth c w nL Q cells slots Y lv (pc + 1) (.int (nI (hv_sL w)) :: rest)) : hv_V p l e R s m args below meth c w nL Q cells slots Y lv pc (.ref (hv_sb w) :: rest) := by
  intro H locs ls hR hS hl
  obtain ⟨h1, h2⟩ := hv_sX C
  exact va_slen C.1 C.2.1 h2 (by obtain ⟨scr, k1, -⟩ := h2; exact (Array.getElem?_eq_some_iff.mp k1).1) (by unfold hv_A; omega) hS hdg (kk H locs ls hR hS hl)
theorem hv_lload_n (C : hv_C own cc nL Ts w p s m args meth c) {k : Fin 4} {i : Nat} {x : Int64} (hdg : decode cc pc = .ok (.lload_n k, 1)) (hi : (k : Nat) = i) (j : Nat) (hj : lv[j]? = some (i, .long x)) (kk : hv_V p l e R s m args below meth c w nL Q cells slots Y lv (pc + 1) (.long x :: rest)) : hv_V p l e R s m args below meth c w nL Q cells slots Y lv pc rest := fun H locs ls hR hS hl => lv_lload_n C.1 C.2.1 hdg hi (lv_at hl j hj) (kk H locs ls hR hS hl)
theorem hv_lstore_n (C : hv_C own cc nL Ts w p s m args meth c) {k : Fin 4} {i : Nat} {x : Int64} {lv1 : List (Nat × Value)} (hdg : decode cc pc = .ok (.lstore_n k, 1)) (hi : (k : Nat) = i) (hn : i + 1 < nL) (ks : List Nat) (hlv : lv_pick ((i, Value.long x) :: lv.filter (fun q => !(q.1 == i) && (!(q.1 == i + 1) && !(q.1 + 1 == i && q.2.category == 2)))) ks = lv1) (kk : hv_V p l e R s m args below meth c w nL Q cells slots Y lv1 (pc + 1) rest) : hv_V p l e R s m args below meth c w nL Q cells slots Y lv pc (Value.long x :: rest) := fun H locs ls hR hS hl => lv_lstore_n C.1 C.2.1 hdg hi hl hn rfl (fun ls1 hl1 => kk H locs ls1 hR hS (lv_sub hl1 ks hlv))
theorem hv_land (C : hv_C own cc nL Ts w p s m args meth c) {x y : Int64} (hdg : decode cc pc = .ok (.land, 1)) (kk : hv_V p l e R s m args below meth c w nL Q cells slots Y lv (pc + 1) (.long (x &&& y) :: rest)) : hv_V p l e R s m args below meth c w nL Q cells slots Y lv pc (.long y :: .long x :: rest) := fun H locs ls hR hS hl => lv_land C.1 C.2.1 hdg (kk H locs ls hR hS hl)
theorem hv_lor (C : hv_C own cc nL Ts w p s m args meth c) {x y : Int64} (hdg : decode cc pc = .ok (.lor, 1)) (kk : hv_V p l e R s m args below meth c w nL Q cells slots Y lv (pc + 1) (.long (x ||| y) :: rest)) : hv_V p l e R s m args below meth c w nL Q cells slots Y lv pc (.long y :: .long x :: rest) := fun H locs ls hR hS hl => lv_lor C.1 C.2.1 hdg (kk H locs ls hR hS hl)
theorem hv_lshl (C : hv_C own cc nL Ts w p s m args meth c) {x : Int64} {y : Int32} (hdg : decode cc pc = .ok (.lshl, 1)) (kk : hv_V p l e R s m args below meth c w nL Q cells slots Y lv (pc + 1) (.long (x <<< (y.toInt64 &&& 63)) :: rest)) : hv_V p l e R s m args below meth c w nL Q cells slots Y lv pc (.int y :: .long x :: rest) := fun H locs ls hR hS hl => lv_lshl C.1 C.2.1 hdg rfl (kk H locs ls hR hS hl)
theorem hv_lshr (C : hv_C own cc nL Ts w p s m args meth c) {x : Int64} {y : Int32} (hdg : decode cc pc = .ok (.lshr, 1)) (kk : hv_V p l e R s m args below meth c w nL Q cells slots Y lv (pc + 1) (.long (x >>> (y.toInt64 &&& 63)) :: rest)) : hv_V p l e R s m args below meth c w nL Q cells slots Y lv pc (.int y :: .long x :: rest) := fun H locs ls hR hS hl => lv_lshr C.1 C.2.1 hdg rfl (kk H locs ls hR hS hl)
/-- x = y, as an int -/
theorem hv_eqN (C : hv_C own cc nL Ts w p s m args meth c) {x y : Nat} {p1 p2 p3 p4 : Nat} (hx : x < 2 ^ 31) (hy : y < 2 ^ 31) (e1 : p1 = pc + 3) (e2 : p2 = pc + 4) (e3 : p3 = pc + 7) (e4 : p4 = pc + 8) (d0 : decode cc pc = .ok (.if_icmp .ne 7, 3)) (d1 : decode cc p1 = .ok (.iconst 1, 1)) (d2 : decode cc p2 = .ok (.goto 4, 3)) (d3 : decode cc p3 = .ok (.iconst 0, 1)) (kk : hv_V p l e R s m args below meth c w nL Q cells slots Y lv p4 (.int (nI (b2 (x = y))) :: rest)) : hv_V p l e R s m args below meth c w nL Q cells slots Y lv pc (.int (nI y) :: .int (nI x) :: rest) := by
  subst e1; subst e2; subst e3; subst e4
  refine hv_icmpN_ne (tgt := pc + 7) C d0 (by omega) hx hy (fun h => ?_) (fun h => ?_)
  · refine hv_iconst (v := nI 0) C d3 (by decide) ?_
    rw [b2_f h] at kk
    exact kk
  · refine hv_iconst (v := nI 1) C d1 (by decide) ?_
    refine hv_goto (tgt := pc + 8) C d2 (by omega) ?_
    rw [b2_t h] at kk
    exact kk
end HL
theorem cl_out {w : hv_W} {g : cl_g} {A Z : ab_A} {Y0 : hv_H} {o : Nat} {e0 : hv_E} (hF : cl_F g Y0) (h : Y0 o = some e0) : g.2 o = none := by
  cases z : g.2 o with
  | none => rfl
  | some q => rw [hF o q z] at h; cases h
theorem cl_oat {w : hv_W} {g : cl_g} {A Z : ab_A} {Y0 : hv_H} {o : Nat} (h : g.2 o = none) : cl_Y w g A Z Y0 o = Y0 o := by
  unfold cl_Y
  rw [h]
theorem cl_oup {w : hv_W} {g : cl_g} {A Z : ab_A} {Y0 : hv_H} {o : Nat} {e1 : hv_E} (h : g.2 o = none) : hv_up (cl_Y w g A Z Y0) o e1 = cl_Y w g A Z (hv_up Y0 o e1) := by
  funext a
  unfold hv_up cl_Y
  by_cases ha : a = o
  · subst ha
    rw [if_pos rfl, h]
    show _ = if a = a then some e1 else Y0 a
    rw [if_pos rfl]
  · rw [if_neg ha]
    cases z : g.2 a with
    | none =>
      show Y0 a = if a = o then some e1 else Y0 a
      rw [if_neg ha]
    | some q => rfl
/-! the rows: canals' codes, barges' codes, three counts, distances, canals by which -/
def ln (k : Nat) : Nat := if k = 0 then 14 else if k = 1 then 40 else if k = 2 then 3 else 64
theorem ln_lt (k : Nat) : ln k < 2 ^ 31 := by unfold ln; (repeat' split) <;> decide
def lc (w : hv_W) (F : Nat → Nat → Int32) (k : Nat) : hv_E := .inl (.inl (hv_c w 0, ln k, .inl (F k)))
def lY (w : hv_W) (iv : Nat → Option Nat) (F : Nat → Nat → Int32) : hv_H := fun a => match iv a with
  | some k => some (lc w F k)
  | none => none
def lok (q : Nat → Nat) (iv : Nat → Option Nat) : Prop := (∀ k, k < 5 → iv (q k) = some k) ∧ ∀ a k, iv a = some k → k < 5 ∧ a = q k
def Fu (F : Nat → Nat → Int32) (k i : Nat) (v : Int32) : Nat → Nat → Int32 := fun k' => if k' = k then upd (F k) i v else F k'
theorem Fu_s (F : Nat → Nat → Int32) (k i : Nat) (v : Int32) : Fu F k i v k i = v := by
  unfold Fu; rw [if_pos rfl]; exact if_pos rfl
theorem Fu_i (F : Nat → Nat → Int32) {k i j : Nat} (v : Int32) (h : j ≠ i) : Fu F k i v k j = F k j := by
  unfold Fu; rw [if_pos rfl]; exact if_neg h
theorem Fu_k (F : Nat → Nat → Int32) {k k' : Nat} (i : Nat) (v : Int32) (h : k' ≠ k) : Fu F k i v k' = F k' := if_neg h
/-- the class's state is A, its object at o, the law's rows hold F -/
def zLS (w : hv_W) (o : Nat) (iv : Nat → Option Nat) (F : Nat → Nat → Int32) (A : ab_A) (Y : hv_H) : Prop := cl_S w o (lY w iv F) A Y
theorem lY_n {w : hv_W} {iv : Nat → Option Nat} {F F' : Nat → Nat → Int32} {a : Nat} (h : lY w iv F a = none) : lY w iv F' a = none := by
  unfold lY at h ⊢
  cases z : iv a with
  | none => rfl
  | some k => rw [z] at h; cases h
theorem lY_at {w : hv_W} {q : Nat → Nat} {iv : Nat → Option Nat} {F : Nat → Nat → Int32} {k : Nat} (hq : lok q iv) (hk : k < 5) : lY w iv F (q k) = some (lc w F k) := by
  unfold lY
  rw [hq.1 k hk]
theorem zLS_at {w : hv_W} {o : Nat} {q : Nat → Nat} {iv : Nat → Option Nat} {F : Nat → Nat → Int32} {A : ab_A} {Y : hv_H} {k : Nat} (h : zLS w o iv F A Y) (hq : lok q iv) (hk : k < 5) : Y (q k) = some (lc w F k) := by
  obtain ⟨g, Z, hg, hZ, hF, ho, rfl⟩ := h
  exact (cl_oat (cl_out (w := w) (A := A) (Z := Z) hF (lY_at hq hk))).trans (lY_at hq hk)
theorem zLS_up {w : hv_W} {o : Nat} {q : Nat → Nat} {iv : Nat → Option Nat} {F : Nat → Nat → Int32} {A : ab_A} {Y : hv_H} {k i : Nat} {v : Int32} (h : zLS w o iv F A Y) (hq : lok q iv) (hk : k < 5) : zLS w o iv (Fu F k i v) A (hv_up Y (q k) (.inl (.inl (hv_c w 0, ln k, .inl (upd (F k) i v))))) := by
  obtain ⟨g, Z, hg, hZ, hF, ho, rfl⟩ := h
  refine ⟨g, Z, hg, hZ, fun a x hx => lY_n (hF a x hx), ho, ?_⟩
  rw [cl_oup (cl_out (w := w) (A := A) (Z := Z) hF (lY_at hq hk))]
  congr 1
  funext a
  unfold hv_up
  by_cases ha : a = q k
  · rw [if_pos ha, ha, lY_at hq hk]
    unfold lc
    rw [show Fu F k i v k = upd (F k) i v from if_pos rfl]
  · rw [if_neg ha]
    unfold lY
    cases z : iv a with
    | none => rfl
    | some k' =>
      have hne : k' ≠ k := fun e => ha (by rw [(hq.2 a k' z).2, e])
      show some (lc w F k') = some (lc w (Fu F k i v) k')
      unfold lc
      rw [Fu_k F i v hne]
theorem zLS_rc {w : hv_W} {o : Nat} {iv : Nat → Option Nat} {F : Nat → Nat → Int32} {A : ab_A} {Y : hv_H} (h : zLS w o iv F A Y) : hv_rc Y o RX4 := by
  obtain ⟨g, Z, hg, hZ, hF, rfl, rfl⟩ := h
  exact cl_rc hg (Or.inl ⟨by decide, rfl⟩) rfl rfl
section LR
variable {p : Program} {l : Launch} {e : Env} {R : Room} {s : State} {m : MethodId} {args : Array Value} {below : List Frame} {meth : Method} {c : Code} {w : hv_W} {nL : Nat} {Q : State → Prop} {cells slots : Nat} {Y : hv_H} {lv : List (Nat × Value)} {pc : Nat} {rest : List Value} {own : String} {cc : ByteArray} {Ts : List Cond} {o : Nat} {q : Nat → Nat} {iv : Nat → Option Nat} {F : Nat → Nat → Int32} {A : ab_A}
theorem hl_ald (C : hv_C own cc nL Ts w p s m args meth c) {k i : Nat} {x : Int32} (hS : zLS w o iv F A Y) (hq : lok q iv) (hk : k < 5) (hi : i < ln k) (hx : F k i = x) (hdg : decode cc pc = .ok (.iaload, 1)) (kk : hv_V p l e R s m args below meth c w nL Q cells slots Y lv (pc + 1) (.int x :: rest)) : hv_V p l e R s m args below meth c w nL Q cells slots Y lv pc (.int (nI i) :: .ref (q k) :: rest) := by
  refine hv_iald C (zLS_at hS hq hk) (vp_in_nI hi (ln_lt k)) hdg ?_
  rw [nI_clamp (Nat.lt_trans hi (ln_lt k)), hx]
  exact kk
theorem hl_ast (C : hv_C own cc nL Ts w p s m args meth c) {k i : Nat} {v : Int32} (hS : zLS w o iv F A Y) (hq : lok q iv) (hk : k < 5) (hi : i < ln k) (hdg : decode cc pc = .ok (.iastore, 1)) (kk : ∀ Y1 : hv_H, zLS w o iv (Fu F k i v) A Y1 → hv_V p l e R s m args below meth c w nL Q cells slots Y1 lv (pc + 1) rest) : hv_V p l e R s m args below meth c w nL Q cells slots Y lv pc (.int v :: .int (nI i) :: .ref (q k) :: rest) := by
  refine hv_iast C (zLS_at hS hq hk) (vp_in_nI hi (ln_lt k)) hdg ?_
  rw [nI_clamp (Nat.lt_trans hi (ln_lt k))]
  exact kk _ (zLS_up hS hq hk)
end LR
/-- what holds between the calls -/
def f_code (A : ab_A) (j : Nat) : Nat := A 5 j + 8 * A 6 j + 64 * A 7 j + 1024 * A 8 j + 16384 * A 9 j
def zLI (A : ab_A) (F : Nat → Nat → Int32) (M : Nat) : Prop := ab_I A ∧ ab_J A ∧ (sm (A 0) 8 + A 10 0 ≤ M ∧ M ≤ 1000000) ∧ (∀ j, j < A 4 0 → F 0 j = nI (f_code A j)) ∧ (∀ k, k < A 15 0 → F 1 k = nI (A 17 k + 8 * (A 18 k + A 19 k)) ∧ A 18 k + A 19 k ≤ 20) ∧ F 2 0 = nI (A 4 0) ∧ F 2 1 = nI (A 15 0) ∧ F 2 2 = nI (A 16 0)
theorem code_p {A : ab_A} (hI : ab_I A) {j : Nat} (hj : j < A 4 0) : f_code A j < 32768 ∧ f_code A j % 8 = A 5 j ∧ f_code A j / 8 % 8 = A 6 j ∧ f_code A j / 64 % 16 = A 7 j ∧ f_code A j / 1024 % 16 = A 8 j ∧ f_code A j / 16384 % 2 = A 9 j := by
  obtain ⟨g1, g2, g3, g4, g5, g6, g7⟩ := hI.2.2.2.2.1 j hj
  unfold f_code
  omega
