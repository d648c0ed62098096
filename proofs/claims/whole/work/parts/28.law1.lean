/-! THE LAW: its words of start and end are the printed skeleton's -/
def R_law : String := "LockgateRouterLaw"
def lw_P (b : Addr) (xs : List Int32) (args : Array Value) (s : State) : Prop := args = #[.ref b] ∧ s.IntsAt b xs ∧ xs.length ≤ 2560 ∧ (Jvm.Cond.and given_1 narrow_1).before args s = true
def lw_Q (_ : Array Value) (s : State) (o : Outcome) (t : State) : Prop := o = .returned (some (.int 1)) ∧ Framed s o t [] 627379 7213967
def lw_Z (below : List Frame) (a : Array Value) (s : State) : State → Prop := fun t => ∃ o, t.status = .running ∧ Ended t below o ∧ lw_Q a s o t
/-- the law's own end, with 1 on the stack, nothing written that was there before, its room as the claim has it -/
theorem lw_ret {p : Program} {l : Launch} {e : Env} {s : State} {m : MethodId} {below : List Frame} {meth : Method} {c : Code} {b : Nat} (hx : p.tables.exec = Jvm.exec) (hb : c.code = code) (hr : meth.sig.returnType = ret) (hlocks : meth.locks = false) {pc : Nat} {H : Heap} {ls : Array Slot} (hdg : decode code pc = .ok (.ireturn, 1)) : W p l e room_1 s m #[Value.ref b] below meth c H [] 627379 7213967 (lw_Z below #[Value.ref b] s) (F0 m pc ls [.int 1]) := by
  intro T hT X
  obtain ⟨fs, hret, hrun, hended, hW, hframe⟩ := X.leave (v := some (.int 1)) (hlocks := hlocks) (fun h => by rw [hr] at h; cases h)
  have hmeth' : T.vm.method? m = some meth := X.method'
  refine ⟨T.setFrames fs, ?_, .returned (some (.int 1)), hrun, hended, rfl, ⟨_, rfl⟩, hW, hframe⟩
  jvm_step X.here [X.here.top, hx, hb, hdg, hmeth', hr, ret, narrow_b1]
  (try refine ⟨rfl, ?_⟩); (try refine ⟨rfl, ?_⟩)
  first | (intro acts; rw [hret _ acts rfl rfl rfl]) | rw [hret _ _ rfl rfl rfl]
  exact Steps.refl _
/-- what holds at the law's entry: the machine, the code, the tables' words (any of lw_tbl by 'hts w (by decide +kernel)'), the script of L ints xs at the cell b, what the Statement gives of the start (any of its parts by flat_of_before) -/
def lw_At (p : Program) (s : State) (m : MethodId) (meth : Method) (c : Code) (b L : Nat) (xs : Nat → Int32) : Prop :=
  p.tables.exec = Jvm.exec ∧ c.code = code ∧ meth.sig.returnType = ret ∧ c.maxLocals = 7 ∧ s.vm.findClass R_law = some m.cls ∧ (∀ w ∈ lw_tbl, w.before #[Value.ref b] s = true) ∧ va_X b L xs s s.heap ∧ b < s.heap.size ∧ meth.locks = false ∧ (Jvm.Cond.and given_1 narrow_1).before #[Value.ref b] s = true
/-! laws that the law's own methods need: handlers, calls of methods with handlers, the script, longs -/
section HL
variable {p : Program} {l : Launch} {e : Env} {R : Room} {s : State} {m : MethodId} {args : Array Value} {below : List Frame} {meth : Method} {c : Code} {w : hv_W} {nL : Nat} {Q : State → Prop} {cells slots : Nat} {Y : hv_H} {lv : List (Nat × Value)} {pc : Nat} {rest : List Value} {own : String} {cc : ByteArray} {Ts : List Cond}
theorem hv_ofVH {y : MethodName} {ws ws1 : List Cond} {rm : Room} {Qc : Array Value → State → Outcome → State → Prop} {maxL : Nat} {ret : Option FieldType} {hh : List (Nat × Nat × Nat × Nat)} {As : List Value} {lv0 : List (Nat × Value)} (hy : plainName y.cls = true) (hw : ws = Cond.codeWith y cc maxL ret hh :: ws1) (hown : y.cls = own) (hlen : (lg_sl As).length ≤ maxL) (hlv : lv_args 0 As = lv0)
    (body : ∀ (p : Program) (e : Env) (s : State) (m : MethodId) (below : List Frame) (meth : Method) (c : Code), hv_C own cc maxL ws w p s m As.toArray meth c → meth.sig.returnType = ret → c.exceptionTable.toList = tableOf hh → hv_V p l e rm s m As.toArray below meth c w maxL (MQ below Qc As.toArray s rm.cells rm.slots (hv_A w)) 0 0 Y lv0 0 []) : Met l y ws rm (hv_Pc w As Y) Qc rm.cells rm.slots (hv_A w) := by
  refine MetFree.of_bodyS (code := cc) (maxLocals := maxL) (ret := ret) hy ?_ ?_
  · intro args s m h hn
    obtain ⟨m9, meth, c, hn9, h1, h2, h3, h4, -, h5, h6, -⟩ := Cond.codeWith_spec (atoms_spec (ws := ws) h _ (by rw [hw]; exact List.mem_cons_self))
    cases hn.symm.trans hn9
    exact ⟨meth, c, h1, h2, h3, h4, h5, h6⟩
  · intro p e s m args below meth c s₁ B hml hP _
    have hh0 : s₁.heap = s.heap := by rw [B.state]; rfl
    obtain ⟨rfl, hWD, hR⟩ := hP
    have hts := atoms_spec (ws := ws) B.pre
    have hown9 : s.vm.findClass own = some m.cls := by rw [← hown]; exact findClass_of_methodNamed B.named
    have htab := vx_table (x := y) B (hts _ (by rw [hw]; exact List.mem_cons_self))
    have hl := lv_entry As (n := maxL) hlen
    rw [hlv] at hl
    have K := body p e s m below meth c ⟨B.exec, B.bytes, hml, hown9, hts, B.notSynchronized, hWD, hR.1.2⟩ B.returns htab s.heap [] _ hR va_S.rf hl
    rw [← lg_entry_eq] at K
    obtain ⟨t, a1, o, b1, b2, b3⟩ := K s₁ hh0 (Stand.of_body B)
    exact ⟨t, o, a1, b1, b2, ⟨b3.1, b3.2⟩⟩
theorem hv_callSrH (C : hv_C own cc nL Ts w p s m args meth c) {y : MethodName} {bytes : ByteArray} {maxL n index : Nat} {ws ws1 : List Cond} {rm : Room} {As : List Value} {st : List Value} {ret : Option FieldType} {hh : List (Nat × Nat × Nat × Nat)} {post : Value → hv_H → Prop} (hM : hv_Mr l y ws rm w As Y post) (hG : GoodIn Ts (va_wsS own index y ws)) (hw : ws = Cond.codeWith y bytes maxL ret hh :: ws1) (hd : y.cls ≠ "java/lang/invoke/MethodHandle" ∧ y.cls ≠ "java/lang/invoke/VarHandle" ∧ (parseMethodDescriptor y.desc).map (fun d => d.parameters.length) = some n) (hRm : rm.frames + 1 ≤ R.frames ∧ 8 + (maxL + 11) + rm.locals ≤ R.locals) (hn : As.length = n) (hst : st = As.reverse ++ rest) (hcat : (rest.map fun v => v.category).sum ≤ 8) (hdg : decode cc pc = .ok (.invokestatic index, 3)) (hf : cells + rm.cells ≤ R.cells ∧ slots + rm.slots ≤ R.slots) (kk : ∀ (r : Value) (Y1 : hv_H), post r Y1 → hv_V p l e R s m args below meth c w nL Q (cells + rm.cells) (slots + rm.slots) Y1 lv (pc + 3) (r :: rest)) : hv_V p l e R s m args below meth c w nL Q cells slots Y lv pc st := by
  subst hst
  intro H locs ls hR hS hl T hT X
  obtain ⟨v, st₀, t, T1, L, g0, X1, hL, e1, e2, ⟨⟨r, Y1, hv, hp, hb9⟩, hz, hk⟩, stp⟩ := vx_runSW (As := As) (rest := rest) (index := index) (g := F0 m pc ls _) ⟨C.1, C.2.1, C.2.2.1, C.2.2.2.1, C.2.2.2.2.1⟩ hM (vx_cwSW n C.2.2.2.2.1 hG hw rfl rfl hd hRm) ⟨hv_blind, hv_pre C hR hS⟩ rfl hn hl.1 rfl (lv_room hcat) hdg hf T hT X
  cases hv
  rw [g0] at hz hk
  obtain ⟨t2, a1, b1⟩ := kk r Y1 hp T1.heap (locs ++ L) ls (by rw [e1]; exact hb9) ⟨Nat.le_trans hS.1 (by rw [e1]; exact hz), fun q h1 h2 => by rw [e1, hk q (Nat.lt_of_lt_of_le h1 hS.1) h2]; exact hS.2.1 q h1 h2, fun q hq => by
      rcases List.mem_append.mp hq with h | h
      · exact hS.2.2 q h
      · exact hL q h⟩ hl T1 rfl X1
  exact ⟨t2, stp t2 a1, b1⟩
/-- a call whose exceptions are caught here -/
theorem hv_callVrh (C : hv_C own cc nL Ts w p s m args meth c) {y : MethodName} {bytes : ByteArray} {maxL n index : Nat} {ws ws1 : List Cond} {rm : Room} {As : List Value} {st : List Value} {ret : Option FieldType} {b : Nat} {Cn : String} {post : Value → hv_H → Prop} {px : String → hv_H → Prop} (hM : hv_Nr l y ws rm w (.ref b :: As) Y post px) (hG : GoodIn Ts (wsV own index Cn y ws)) (hw : ws = Cond.code y bytes maxL ret :: ws1) (hd : y.cls = Cn ∧ y.cls ≠ "java/lang/invoke/MethodHandle" ∧ y.cls ≠ "java/lang/invoke/VarHandle" ∧ (parseMethodDescriptor y.desc).map (fun d => d.parameters.length) = some n) (hRm : rm.frames + 1 ≤ R.frames ∧ 8 + (maxL + 11) + rm.locals ≤ R.locals) (hb : hv_rc Y b Cn) (hn : As.length = n) (hst : st = As.reverse ++ .ref b :: rest) (hcat : (rest.map fun v => v.category).sum ≤ 8) (hdg : decode cc pc = .ok (.invokevirtual index, 3)) (hf : cells + rm.cells ≤ R.cells ∧ slots + rm.slots ≤ R.slots)
    (kx : ∀ (E : String) (Y1 : hv_H), px E Y1 → ∃ (pre : List ExceptionTableEntry) (x : ExceptionTableEntry) (suf : List ExceptionTableEntry) (name : String), c.exceptionTable.toList = pre ++ x :: suf ∧ (∀ z ∈ pre, covers z pc = false ∨ (z.catchType ≠ 0 ∧ ∃ nm : String, (Cond.classLink own z.catchType nm) ∈ Ts ∧ va_Nc E nm s)) ∧ covers x pc = true ∧ x.catchType ≠ 0 ∧ Cond.classLink own x.catchType name ∈ Ts ∧ (Cond.castable E name).before args s = true ∧ ∀ q9 : Nat, hv_V p l e R s m args below meth c w nL Q (cells + rm.cells) (slots + rm.slots) Y1 lv x.handlerPc [.ref q9])
    (kk : ∀ (r : Value) (Y1 : hv_H), post r Y1 → hv_V p l e R s m args below meth c w nL Q (cells + rm.cells) (slots + rm.slots) Y1 lv (pc + 3) (r :: rest)) : hv_V p l e R s m args below meth c w nL Q cells slots Y lv pc st := by
  subst hst
  intro H locs ls hR hS hl T hT X
  have hz9 : ∀ (st₀ t T1 : State) (L : List Loc), st₀.heap = H → T1.heap = t.heap → (∀ q ∈ L, hv_A w q.base) → va_F (hv_A w) st₀ t → va_S (hv_A w) s.heap T1.heap (locs ++ L) := by
    intro st₀ t T1 L g0 e1 hL hF
    obtain ⟨hz, hk⟩ := hF
    rw [g0] at hz hk
    exact ⟨Nat.le_trans hS.1 (by rw [e1]; exact hz), fun q h1 h2 => by rw [e1, hk q (Nat.lt_of_lt_of_le h1 hS.1) h2]; exact hS.2.1 q h1 h2, fun q hq => by
      rcases List.mem_append.mp hq with h | h
      · exact hS.2.2 q h
      · exact hL q h⟩
  rcases vx_runV (As := As) (rest := rest) (index := index) (g := F0 m pc ls _) ⟨C.1, C.2.1, C.2.2.1, C.2.2.2.1, C.2.2.2.2.1⟩ hM (cwV n C.2.2.2.2.1 hG hw rfl rfl hd hRm) ⟨hv_blind, hv_recv C hb hR, hv_pre C hR hS⟩ rfl hn hl.1 rfl (lv_room hcat) hdg hf T hT X with ⟨v, st₀, t, T1, L, g0, X1, hL, e1, e2, ⟨⟨r, Y1, hv, hp, hb9⟩, hF⟩, stp⟩ | ⟨q, st₀, t, T1, L, E, ce, g0, X1, hL, e1, e2, ⟨⟨Y1, hp, hb9⟩, hF⟩, hce, hcv, hcl, stp⟩
  · cases hv
    obtain ⟨t2, a1, b1⟩ := kk r Y1 hp T1.heap (locs ++ L) ls (by rw [e1]; exact hb9) (hz9 st₀ t T1 L g0 e1 hL hF) hl T1 rfl X1
    exact ⟨t2, stp t2 a1, b1⟩
  · have hS1 := hz9 st₀ t T1 L g0 e1 hL hF
    obtain ⟨pre, x, suf, name, k1, k2, k3, k4, k5, k6, k7⟩ := kx E Y1 hp
    obtain ⟨t2, a1, b1⟩ := vx_catch (own := own) (name := name) (E := E) (pc := pc) (ls := ls) (rest := rest) (H := T1.heap) (locs := locs ++ L) (Q := Q) C.2.2.2.1 pre x suf k1 (fun z hz => by
        rcases k2 z hz with h | ⟨h1, nm, h2, h3⟩
        · exact Or.inl h
        · exact Or.inr ⟨h1, nm, C.2.2.2.2.1 _ h2, h3⟩) k3 k4 (C.2.2.2.2.1 _ k5) k6 (by rw [e1]; exact hce) hcv hcl (k7 q T1.heap (locs ++ L) ls (by rw [e1]; exact hb9) hS1 hl) T1 rfl X1
    exact ⟨t2, stp.trans a1, b1⟩
theorem hv_ncA (C : hv_C own cc nL Ts w p s m args meth c) : va_Nc hv_IA hv_IO s := C.2.2.2.2.2.2.1.2.2.2.2.2.2.2.2.2.1
theorem hv_ncB (C : hv_C own cc nL Ts w p s m args meth c) : va_Nc hv_IS hv_IO s := C.2.2.2.2.2.2.1.2.2.2.2.2.2.2.2.2.2.1
theorem hv_ncC (C : hv_C own cc nL Ts w p s m args meth c) : va_Nc hv_IS hv_IA s := C.2.2.2.2.2.2.1.2.2.2.2.2.2.2.2.2.2.2
theorem hv_cE {E : String} (C : hv_C own cc nL Ts w p s m args meth c) (h : Cond.castable E E ∈ hv_N) : (Cond.castable E E).before args s = true := va_any rfl (C.2.2.2.2.2.2.1.2.2.2.2.2.2.2.1 _ h)
theorem hv_nIA : Cond.castable hv_IA hv_IA ∈ hv_N := by decide +kernel
theorem hv_nIS : Cond.castable hv_IS hv_IS ∈ hv_N := by decide +kernel
theorem hv_nIO : Cond.castable hv_IO hv_IO ∈ hv_N := by decide +kernel
theorem hv_lcmpE (C : hv_C own cc nL Ts w p s m args meth c) {x y : Int64} (h : x = y) (hdg : decode cc pc = .ok (.lcmp, 1)) (kk : hv_V p l e R s m args below meth c w nL Q cells slots Y lv (pc + 1) (.int 0 :: rest)) : hv_V p l e R s m args below meth c w nL Q cells slots Y lv pc (.long y :: .long x :: rest) := by
  intro H locs ls hR hS hl
  refine W.lcmp C.1 C.2.1 hdg ?_
  have e0 : lg_cmp x y = 0 := by
    subst h
    unfold lg_cmp
    rw [if_neg (Int64.lt_irrefl), if_pos rfl]
  rw [e0]
  exact kk H locs ls hR hS hl
theorem hv_sld (C : hv_C own cc nL Ts w p s m args meth c) {b L i : Nat} {xs : Nat → Int32} (hX : va_X b L xs s s.heap) (hbl : b < s.heap.size) (hbw : hv_b w = s.heap.size) (hi : i < L) (hL : L < 2 ^ 31) (hdg : decode cc pc = .ok (.iaload, 1)) (kk : hv_V p l e R s m args below meth c w nL Q cells slots Y lv (pc + 1) (.int (xs i) :: rest)) : hv_V p l e R s m args below meth c w nL Q cells slots Y lv pc (.int (nI i) :: .ref b :: rest) := by
  intro H locs ls hR hS hl
  refine va_sld C.1 C.2.1 hX hbl (by unfold hv_A; rw [hbw]; omega) hS (vp_in_nI hi hL) hdg ?_
  rw [nI_clamp (Nat.lt_trans hi hL)]
  exact kk H locs ls hR hS hl
theorem hv_slen (C : hv_C own cc nL Ts w p s m args meth c) {b L : Nat} {xs : Nat → Int32} (hX : va_X b L xs s s.heap) (hbl : b < s.heap.size) (hbw : hv_b w = s.heap.size) (hdg : decode cc pc = .ok (.arraylength, 1)) (kk : hv_V p l e R s m args below meth c w nL Q cells slots Y lv (pc + 1) (.int (nI L) :: rest)) : hv_V p l e R s m args below meth c w nL Q cells slots Y lv pc (.ref b :: rest) := fun H locs ls hR hS hl =>
  va_slen C.1 C.2.1 hX hbl (by unfold hv_A; rw [hbw]; omega) hS hdg (kk H locs ls hR hS hl)
theorem hv_tableIn (C : hv_C own cc nL Ts w p s m args meth c) {dflt lo hi : Int} {offs : Array Int} {len : Nat} {x : Int32} {off : Int} {tgt : Nat} (hdg : decode cc pc = .ok (.tableswitch dflt lo hi offs, len)) (h1 : ¬ x.toInt < lo) (h2 : ¬ hi < x.toInt) (ho : offs[(x.toInt - lo).toNat]? = some off) (ht : (pc : Int) + off = (tgt : Int)) (kk : hv_V p l e R s m args below meth c w nL Q cells slots Y lv tgt rest) : hv_V p l e R s m args below meth c w nL Q cells slots Y lv pc (.int x :: rest) := fun H locs ls hR hS hl => lv_tableIn C.1 C.2.1 hdg h1 h2 ho ht (kk H locs ls hR hS hl)
theorem hv_tableOut (C : hv_C own cc nL Ts w p s m args meth c) {dflt lo hi : Int} {offs : Array Int} {len : Nat} {x : Int32} {tgt : Nat} (hdg : decode cc pc = .ok (.tableswitch dflt lo hi offs, len)) (h : x.toInt < lo ∨ hi < x.toInt) (ht : (pc : Int) + dflt = (tgt : Int)) (kk : hv_V p l e R s m args below meth c w nL Q cells slots Y lv tgt rest) : hv_V p l e R s m args below meth c w nL Q cells slots Y lv pc (.int x :: rest) := fun H locs ls hR hS hl => lv_tableOut C.1 C.2.1 hdg h ht (kk H locs ls hR hS hl)
/-- x != 0, as an int -/
theorem hv_bit (C : hv_C own cc nL Ts w p s m args meth c) {x : Int32} {p1 p2 p3 p4 : Nat} (e1 : p1 = pc + 3) (e2 : p2 = pc + 4) (e3 : p3 = pc + 7) (e4 : p4 = pc + 8) (d0 : decode cc pc = .ok (.ifCond .eq 7, 3)) (d1 : decode cc p1 = .ok (.iconst 1, 1)) (d2 : decode cc p2 = .ok (.goto 4, 3)) (d3 : decode cc p3 = .ok (.iconst 0, 1)) (kk : hv_V p l e R s m args below meth c w nL Q cells slots Y lv p4 (.int (nI (if x = 0 then 0 else 1)) :: rest)) : hv_V p l e R s m args below meth c w nL Q cells slots Y lv pc (.int x :: rest) := by
  subst e1; subst e2; subst e3; subst e4
  refine hv_if_eq (tgt := pc + 7) C d0 (by omega) (fun h => ?_) (fun h => ?_)
  · refine hv_iconst (v := nI 0) C d3 (by decide) ?_
    rw [if_pos h] at kk
    exact kk
  · refine hv_iconst (v := nI 1) C d1 (by decide) ?_
    refine hv_goto (tgt := pc + 8) C d2 (by omega) ?_
    rw [if_neg h] at kk
    exact kk
/-- .. as a long -/
theorem hv_bitL (C : hv_C own cc nL Ts w p s m args meth c) {x : Int32} {p1 p2 p3 p4 : Nat} (e1 : p1 = pc + 3) (e2 : p2 = pc + 4) (e3 : p3 = pc + 7) (e4 : p4 = pc + 8) (d0 : decode cc pc = .ok (.ifCond .eq 7, 3)) (d1 : decode cc p1 = .ok (.lconst 1, 1)) (d2 : decode cc p2 = .ok (.goto 4, 3)) (d3 : decode cc p3 = .ok (.lconst 0, 1)) (kk : hv_V p l e R s m args below meth c w nL Q cells slots Y lv p4 (.long (if x = 0 then 0 else 1) :: rest)) : hv_V p l e R s m args below meth c w nL Q cells slots Y lv pc (.int x :: rest) := by
  subst e1; subst e2; subst e3; subst e4
  refine hv_if_eq (tgt := pc + 7) C d0 (by omega) (fun h => ?_) (fun h => ?_)
  · refine hv_lconst (v := 0) C d3 (by decide) ?_
    rw [if_pos h] at kk
    exact kk
  · refine hv_lconst (v := 1) C d1 (by decide) ?_
    refine hv_goto (tgt := pc + 8) C d2 (by omega) ?_
    rw [if_neg h] at kk
    exact kk
end HL
/-! the worlds of the law: the class's cells, the reference's, the row of one long -/
def ob_c (w : hv_W) (f : Nat → Int64) : hv_E := .inl (.inl (hv_c w 2, 1, .inr (.inl f)))
theorem cl_out {w : hv_W} {g : cl_g} {A Z : ab_A} {Y0 : hv_H} {o : Nat} {e0 : hv_E} (hF : cl_F g Y0) (h : Y0 o = some e0) : g.2 o = none := by
  cases z : g.2 o with
  | none => rfl
  | some q => rw [hF o q z] at h; cases h
theorem cl_oat {w : hv_W} {g : cl_g} {A Z : ab_A} {Y0 : hv_H} {o : Nat} (h : g.2 o = none) : cl_Y w g A Z Y0 o = Y0 o := by
  unfold cl_Y
  rw [h]
theorem cl_oup {w : hv_W} {g : cl_g} {A Z : ab_A} {Y0 : hv_H} {o : Nat} {e1 : hv_E} (h : g.2 o = none) : hv_up (cl_Y w g A Z Y0) o e1 = cl_Y w g A Z (hv_up Y0 o e1) := by
  funext a
  unfold hv_up cl_Y
  by_cases ha : a = o
  · subst ha
    rw [if_pos rfl, h]
    show _ = if a = a then some e1 else Y0 a
    rw [if_pos rfl]
  · rw [if_neg ha]
    cases z : g.2 a with
    | none =>
      show Y0 a = if a = o then some e1 else Y0 a
      rw [if_neg ha]
    | some q => rfl
theorem cl_Fup {g : cl_g} {Y0 : hv_H} {o : Nat} {e0 e1 : hv_E} (hF : cl_F g Y0) (h : Y0 o = some e0) : cl_F g (hv_up Y0 o e1) := by
  intro a q ha
  have h1 : a ≠ o := by
    intro y
    rw [y] at ha
    rw [hF o q ha] at h
    cases h
  rw [hv_up_n h1]
  exact hF a q ha
theorem hv_upsame {Y : hv_H} {o : Nat} {e0 : hv_E} (h : Y o = some e0) : hv_up Y o e0 = Y := by
  funext a
  unfold hv_up
  by_cases ha : a = o
  · rw [if_pos ha, ha, h]
  · rw [if_neg ha]
/-- what a wrapper leaves: the code, the answer in the row's long, the class's state -/
def lw_post (w : hv_W) (o o9 : Nat) (Y0 : hv_H) (q : sp_R) (an : Int64) : Value → hv_H → Prop := fun r Y1 => r = .int (nI q.1) ∧ q.1 ≤ 3 ∧ ∃ f : Nat → Int64, (q.1 = 0 → f 0 = an) ∧ cl_S w o (hv_up Y0 o9 (ob_c w f)) q.2.2 Y1
theorem lw_postE {w : hv_W} {g : cl_g} {A Z : ab_A} {Y0 : hv_H} {o9 : Nat} {f : Nat → Int64} {q : sp_R} {an : Int64} {n : Nat} (hg : cl_ok g (A 4 0) (A 15 0)) (hZ : cl_Z A Z) (hF : cl_F g Y0) (ho : Y0 o9 = some (ob_c w f)) (hq : q.1 = n) (h0 : n ≠ 0) (h3 : n ≤ 3) (hk : q.1 ≠ 0 → q.2.2 = A) : lw_post w (g.1 0 0) o9 Y0 q an (.int (nI n)) (cl_Y w g A Z Y0) := by
  subst hq
  refine ⟨rfl, h3, f, fun h => absurd h h0, ?_⟩
  rw [hv_upsame ho, hk h0]
  exact ⟨g, Z, hg, hZ, hF, rfl, rfl⟩
theorem lw_postR {w : hv_W} {g : cl_g} {A Z : ab_A} {Y0 : hv_H} {o9 o : Nat} {f f' : Nat → Int64} {q : sp_R} {an : Int64} (hg : cl_ok g (A 4 0) (A 15 0)) (hZ : cl_Z A Z) (hF : cl_F g Y0) (ho : Y0 o9 = some (ob_c w f)) (ho1 : g.1 0 0 = o) (hq : q.1 = 0) (hA : q.2.2 = A) (hf : f' 0 = an) : lw_post w o o9 Y0 q an (.int (nI 0)) (hv_up (cl_Y w g A Z Y0) o9 (ob_c w f')) := by
  refine ⟨by rw [hq], by omega, f', fun _ => hf, ?_⟩
  rw [cl_oup (cl_out (w := w) (A := A) (Z := Z) hF ho), hA]
  exact ⟨g, Z, hg, hZ, cl_Fup hF ho, ho1, rfl⟩
