/-! THE LAW: its words of start and end are the printed skeleton's -/
def R_law : String := "LockgateRouterLaw"
def lw_P (b : Addr) (xs : List Int32) (args : Array Value) (s : State) : Prop := args = #[.ref b] ∧ s.IntsAt b xs ∧ xs.length ≤ 260 ∧ (Jvm.Cond.and given_1 narrow_1).before args s = true
def lw_Q (_ : Array Value) (s : State) (o : Outcome) (t : State) : Prop := o = .returned (some (.int 1)) ∧ Framed s o t [] 600104 7301314
def lw_Z (below : List Frame) (a : Array Value) (s : State) : State → Prop := fun t => ∃ o, t.status = .running ∧ Ended t below o ∧ lw_Q a s o t
/-- the law's own end, with 1 on the stack, nothing written that was there before, its room as the claim has it -/
theorem lw_ret {p : Program} {l : Launch} {e : Env} {s : State} {m : MethodId} {below : List Frame} {meth : Method} {c : Code} {b : Nat} (hx : p.tables.exec = Jvm.exec) (hb : c.code = code) (hr : meth.sig.returnType = ret) (hlocks : meth.locks = false) {pc : Nat} {H : Heap} {ls : Array Slot} (hdg : decode code pc = .ok (.ireturn, 1)) : W p l e room_1 s m #[Value.ref b] below meth c H [] 600104 7301314 (lw_Z below #[Value.ref b] s) (F0 m pc ls [.int 1]) := by
  intro T hT X
  obtain ⟨fs, hret, hrun, hended, hW, hframe⟩ := X.leave (v := some (.int 1)) (hlocks := hlocks) (fun h => by rw [hr] at h; cases h)
  have hmeth' : T.vm.method? m = some meth := X.method'
  refine ⟨T.setFrames fs, ?_, .returned (some (.int 1)), hrun, hended, rfl, ⟨_, rfl⟩, hW, hframe⟩
  jvm_step X.here [X.here.top, hx, hb, hdg, hmeth', hr, ret, narrow_b1]
  (try refine ⟨rfl, ?_⟩); (try refine ⟨rfl, ?_⟩)
  first | (intro acts; rw [hret _ acts rfl rfl rfl]) | rw [hret _ _ rfl rfl rfl]
  exact Steps.refl _
/-- what holds at the law's entry: the machine, the code, the tables' words (any of lw_tbl by 'hts w (by decide +kernel)'), the script of L ints xs at the cell b, what the Statement gives of the start (any of its parts by flat_of_before) -/
def lw_At (p : Program) (s : State) (m : MethodId) (meth : Method) (c : Code) (b L : Nat) (xs : Nat → Int32) : Prop :=
  p.tables.exec = Jvm.exec ∧ c.code = code ∧ meth.sig.returnType = ret ∧ c.maxLocals = 1 ∧ s.vm.findClass R_law = some m.cls ∧ (∀ w ∈ lw_tbl, w.before #[Value.ref b] s = true) ∧ va_X b L xs s s.heap ∧ b < s.heap.size ∧ meth.locks = false ∧ (Jvm.Cond.and given_1 narrow_1).before #[Value.ref b] s = true
theorem lw_arrP {args : Array Value} {s : State} {ty : FieldType} (h : (Cond.arrayClass ty).before args s = true) : ∃ cA : ClassId, ArrOfT s cA ty ∧ s.vm.findClass ("[" ++ ty.toString) = some cA := by
  obtain ⟨c, k, comp, h1, h2, h3⟩ := Cond.arrayClass_spec h
  exact ⟨c, fun n z => ⟨fun k9 h9 => (by cases h9), k, h2, comp, h3⟩, h1⟩
theorem lw_arrO {args : Array Value} {s : State} {C : String} (h : (Cond.arrayOver (.object C)).before args s = true) : ∃ cA : ClassId, ArrOfT s cA (.object C) ∧ va_RA s cA (.object C) := by
  obtain ⟨comp, c, k, h1, h2, h3, h4, h5⟩ := Cond.arrayOver_spec h
  exact ⟨c, fun n z => ⟨fun k9 h9 => (by cases h9), k, h3, comp, h4⟩, k, comp, h3, h4, h1, h5⟩
theorem lw_nT : ∀ x ∈ hv_N, x ∈ lw_tbl := by decide +kernel
theorem lw_sT : ∀ q ∈ hv_St, Cond.stringRef RX4 q.1 q.2 ∈ lw_tbl := by decide +kernel
theorem lw_sE : ∀ q ∈ hv_St, Cond.exactly (Term.string RX4 q.1) "java/lang/String" ∈ flatC (Jvm.Cond.and given_1 narrow_1) := by decide +kernel
set_option maxRecDepth 100000 in
theorem lw_WD {s : State} {b L : Nat} {xs : Nat → Int32} (hts : ∀ w ∈ lw_tbl, w.before #[Value.ref b] s = true) (hgv : (Jvm.Cond.and given_1 narrow_1).before #[Value.ref b] s = true) (hX : va_X b L xs s s.heap) (hbl : b < s.heap.size) : ∃ w : hv_W, hv_b w = s.heap.size ∧ hv_WD w s ∧ hv_t w < s.heap.size ∧ hv_sb w = b ∧ hv_sL w = L := by
  have hs := flat_of_before _ hgv
  have hA : ∀ a : Nat, a < s.heap.size → ¬ (fun q : Nat => s.heap.size ≤ q) a := fun a h => Nat.not_le.mpr h
  obtain ⟨k0, i0, u0⟩ := u_known (C := RJx4a65c) (T := TJx4a65c) (N := 3) (n := 3) hts inJx4a65c (hts (.instantiable RJx4a65c 3) (by decide +kernel))
  obtain ⟨k1, i1, u1⟩ := u_known (C := RX0) (T := TX0) (N := 9) (n := 9) hts inX0 (hts (.instantiable RX0 9) (by decide +kernel))
  obtain ⟨k2, i2, u2⟩ := u_known (C := RX1) (T := TX1) (N := 6) (n := 6) hts inX1 (hts (.instantiable RX1 6) (by decide +kernel))
  obtain ⟨k3, i3, u3⟩ := u_known (C := RX2) (T := TX2) (N := 6) (n := 6) hts inX2 (hts (.instantiable RX2 6) (by decide +kernel))
  obtain ⟨k4, i4, u4⟩ := u_known (C := RX3) (T := TX3) (N := 2) (n := 2) hts inX3 (hts (.instantiable RX3 2) (by decide +kernel))
  obtain ⟨k5, i5, u5⟩ := u_known (C := RX4) (T := TX4) (N := 6) (n := 6) hts inX4 (hts (.instantiable RX4 6) (by decide +kernel))
  obtain ⟨dC, dI, hKc⟩ : ∃ (dC : Nat → ClassId) (dI : Nat → Nat → Nat), ∀ (k : Nat) (q : vw_C), vwCl[k]? = some q → u_Kn s q.1 q.2.1 q.2.2 (dC k) (dI k) := by
    refine ⟨fun k => match k with | 0 => k0 | 1 => k1 | 2 => k2 | 3 => k3 | 4 => k4 | _ => k5, fun k => match k with | 0 => i0 | 1 => i1 | 2 => i2 | 3 => i3 | 4 => i4 | _ => i5, ?_⟩
    intro k q hq
    match k, hq with
    | 0, hq => cases hq; exact u0
    | 1, hq => cases hq; exact u1
    | 2, hq => cases hq; exact u2
    | 3, hq => cases hq; exact u3
    | 4, hq => cases hq; exact u4
    | 5, hq => cases hq; exact u5
    | k + 6, hq => simp [vwCl] at hq
  obtain ⟨a0, p0, n0⟩ := lw_arrP (hts (.arrayClass .int) (by decide +kernel))
  obtain ⟨a1, p1, n1⟩ := lw_arrP (hts (.arrayClass .boolean) (by decide +kernel))
  obtain ⟨a2, p2, n2⟩ := lw_arrP (hts (.arrayClass .int) (by decide +kernel))
  obtain ⟨a3, p3, n3⟩ := lw_arrO (C := RX1) (hts (.arrayOver (.object RX1)) (by decide +kernel))
  obtain ⟨a4, p4, n4⟩ := lw_arrO (C := RX2) (hts (.arrayOver (.object RX2)) (by decide +kernel))
  obtain ⟨a5, p5, n5⟩ := lw_arrO (C := "java/lang/Object") (hts (.arrayOver (.object "java/lang/Object")) (by decide +kernel))
  obtain ⟨t, ht, hT⟩ := va_Tof (s := s) (args := #[Value.ref b]) (tm := Term.static "java/util/ArrayList" "DEFAULTCAPACITY_EMPTY_ELEMENTDATA" "[Ljava/lang/Object;") (ty := .object "java/lang/Object") (N := 0) (f := fun _ => Value.null) (A := fun q : Nat => s.heap.size ≤ q) (by decide) (hs _ (by decide +kernel)) (va_eqt (hs (Cond.eq (.length (Term.static "java/util/ArrayList" "DEFAULTCAPACITY_EMPTY_ELEMENTDATA" "[Ljava/lang/Object;")) (.int 0)) (by decide +kernel))) (fun j hj => absurd hj (Nat.not_lt_zero j)) hA
  obtain ⟨mi, hmi⟩ := va_Mi.of (C := "[Ljava/lang/Object;") (hs (Cond.isRef (.mirror "[Ljava/lang/Object;")) (by decide +kernel))
  have htb : t < s.heap.size := by
    obtain ⟨cell, h1, -⟩ := hT
    exact (Array.getElem?_eq_some_iff.mp h1).1
  refine ⟨((dC, dI), fun k => match k with | 0 => a0 | 1 => a1 | 2 => a2 | 3 => a3 | 4 => a4 | _ => a5, s.heap.size, t, mi, b, L, xs), rfl, ⟨⟨hKc, ?_⟩, ?_, hT, ⟨?_, ?_⟩, ⟨va_AO.of (hts (.arrayOver (.object RX1)) (by decide +kernel)), va_AO.of (hts (.arrayOver (.object RX2)) (by decide +kernel)), va_AO.of (hts (.arrayOver (.object "java/lang/Object")) (by decide +kernel))⟩, ⟨hmi, va_Dc.of (hts _ (by decide +kernel))⟩, va_Nw.of rfl (hts (.methodLinkNest RX1 27 yX3_init RX4) (by decide +kernel)), ?_, ?_, va_Nc.of (hs (Cond.not (.castable hv_IA hv_IO)) (by decide +kernel)), va_Nc.of (hs (Cond.not (.castable hv_IS hv_IO)) (by decide +kernel)), va_Nc.of (hs (Cond.not (.castable hv_IA hv_IS)) (by decide +kernel)), hbl, hX⟩, htb, rfl, rfl⟩
  · intro k q hq
    match k, hq with
    | 0, hq => cases hq; exact ⟨p0, n0⟩
    | 1, hq => cases hq; exact ⟨p1, n1⟩
    | 2, hq => cases hq; exact ⟨p2, n2⟩
    | 3, hq => cases hq; exact ⟨p3, n3⟩
    | 4, hq => cases hq; exact ⟨p4, n4⟩
    | 5, hq => cases hq; exact ⟨p5, n5⟩
    | k + 6, hq => simp [hv_T] at hq
  · exact va_Zref (hts (.laysStatic "java/util/ArrayList" "DEFAULTCAPACITY_EMPTY_ELEMENTDATA" "[Ljava/lang/Object;") (by decide +kernel)) (hts (.initialized "java/util/ArrayList") (by decide +kernel)) ht hA
  · exact vx_Zqof (hts (.laysStatic Bundle.tN "UNASSIGNED_STACK" Bundle.steD) (by decide +kernel)) (hts (.initialized Bundle.tN) (by decide +kernel)) (hs (Cond.isRef (.static Bundle.tN "UNASSIGNED_STACK" Bundle.steD)) (by decide +kernel)) hA
  · exact vx_Zqof (hts (.laysStatic Bundle.tN "SUPPRESSED_SENTINEL" Bundle.listD) (by decide +kernel)) (hts (.initialized Bundle.tN) (by decide +kernel)) (hs (Cond.isRef (.static Bundle.tN "SUPPRESSED_SENTINEL" Bundle.listD)) (by decide +kernel)) hA
  · intro x hx
    have h1 := hv_N_face x hx
    simp only [Bool.and_eq_true] at h1
    exact va_any h1.1 (hts x (lw_nT x hx))
  · intro q hq
    obtain ⟨a, -, -, -, ha, -⟩ := Cond.exactly_spec (hs _ (lw_sE q hq))
    exact ⟨a, vk_R.of (A := #[Value.ref b]) (hts _ (lw_sT q hq)) ha⟩
/-! THE LAW'S BODY -/
section LE
variable {p : Program} {l : Launch} {e : Env} {s : State} {m : MethodId} {below : List Frame} {meth : Method} {c : Code} {w : hv_W} {cells slots : Nat} {Y : hv_H} {lv : List (Nat × Value)} {pc : Nat} {b : Nat}
theorem hv_lwret (C : hv_C RL code 1 wsL_law w p s m #[Value.ref b] meth c) (hr : meth.sig.returnType = ret) (hbw : hv_b w = s.heap.size) (hcs : cells ≤ 600104) (hss : slots ≤ 7301314) (hdg : decode code pc = .ok (.ireturn, 1)) : hv_V p l e room_1 s m #[Value.ref b] below meth c w 1 (lw_Z below #[Value.ref b] s) cells slots Y lv pc [.int 1] := fun H locs ls hR hS hl =>
  va_forget (fun q hq => by rw [← hbw]; exact hS.2.2 q hq) (W.widen hcs hss (lw_ret C.1 C.2.1 hr C.2.2.2.2.2.1 hdg))
set_option maxRecDepth 100000 in
set_option maxHeartbeats 4000000 in
theorem lw_body (C : hv_C RL code 1 wsL_law w p s m #[Value.ref b] meth c) (hr : meth.sig.returnType = ret) (hlt : l.stackTraces = false) (hbw : hv_b w = s.heap.size) (hLs : hv_sL w < 2 ^ 31) : hv_V p l e room_1 s m #[Value.ref b] below meth c w 1 (lw_Z below #[Value.ref b] s) 0 0 (fun _ => none) [(0, .ref (hv_sb w))] 0 [] := by
  refine hv_aload_n C dL_law_0 rfl 0 rfl ?_
  refine hv_iconst (v := nI 0) C dL_law_1 (by decide) ?_
  refine hv_callSr (As := [.ref (hv_sb w), .int (nI 0)]) (rest := []) (n := 2) C (c_L_net l w (fun _ => none) 0 hlt hLs (by decide)) gL_law_L_net rfl (by decide +kernel) ⟨(Nat.le_of_ble_eq_true rfl), (Nat.le_of_ble_eq_true rfl)⟩ rfl rfl (Nat.le_of_ble_eq_true rfl) dL_law_2 ⟨(Nat.le_of_ble_eq_true rfl), (Nat.le_of_ble_eq_true rfl)⟩ (fun r1 Y1 hr1 => ?_)
  subst hr1
  refine hv_ifN_eq (tgt := 32) C dL_law_5 (by decide) (by decide) (fun h => absurd h (by decide)) (fun _ => ?_)
  refine hv_aload_n C dL_law_8 rfl 0 rfl ?_
  refine hv_sipush (v := nI 230) C dL_law_9 (by decide) ?_
  refine hv_callSr (As := [.ref (hv_sb w), .int (nI 230)]) (rest := []) (n := 2) C (c_L_net l w Y1 230 hlt hLs (by decide)) gL_law_L_net rfl (by decide +kernel) ⟨(Nat.le_of_ble_eq_true rfl), (Nat.le_of_ble_eq_true rfl)⟩ rfl rfl (Nat.le_of_ble_eq_true rfl) dL_law_12 ⟨(Nat.le_of_ble_eq_true rfl), (Nat.le_of_ble_eq_true rfl)⟩ (fun r1 Y2 hr1 => ?_)
  subst hr1
  refine hv_ifN_eq (tgt := 32) C dL_law_15 (by decide) (by decide) (fun h => absurd h (by decide)) (fun _ => ?_)
  refine hv_aload_n C dL_law_18 rfl 0 rfl ?_
  refine hv_sipush (v := nI 460) C dL_law_19 (by decide) ?_
  refine hv_callSr (As := [.ref (hv_sb w), .int (nI 460)]) (rest := []) (n := 2) C (c_L_net l w Y2 460 hlt hLs (by decide)) gL_law_L_net rfl (by decide +kernel) ⟨(Nat.le_of_ble_eq_true rfl), (Nat.le_of_ble_eq_true rfl)⟩ rfl rfl (Nat.le_of_ble_eq_true rfl) dL_law_22 ⟨(Nat.le_of_ble_eq_true rfl), (Nat.le_of_ble_eq_true rfl)⟩ (fun r1 Y3 hr1 => ?_)
  subst hr1
  refine hv_ifN_eq (tgt := 32) C dL_law_25 (by decide) (by decide) (fun h => absurd h (by decide)) (fun _ => ?_)
  refine hv_iconst (v := 1) C dL_law_28 (by decide) ?_
  refine hv_goto (tgt := 33) C dL_law_29 (by decide) ?_
  exact hv_lwret C hr hbw (Nat.le_of_ble_eq_true rfl) (Nat.le_of_ble_eq_true rfl) dL_law_33
end LE
/-- from the entry, for every script of at most 260 ints, the law comes to its end with true -/
theorem whole_start {p : Program} {e : Env} {s : State} {m : MethodId} {below : List Frame} {meth : Method} {c : Code} (l : Launch) (hflags : l.flags = flags0) {b L : Nat} {xs : Nat → Int32} (hL : L ≤ 260) (C0 : lw_At p s m meth c b L xs) : W p l e room_1 s m #[Value.ref b] below meth c s.heap [] 0 0 (lw_Z below #[Value.ref b] s) (entryFrame m ([Value.ref b] : List Value).toArray 1) := by
  obtain ⟨hx, hb, hr, hml, hown, hts, hX, hbl, hlocks, hgv⟩ := id C0
  obtain ⟨w, hbw, hWD, htb, hsb, hsL⟩ := lw_WD hts hgv hX hbl
  have hlt : l.stackTraces = false := by
    unfold Launch.stackTraces
    rw [hflags]
    decide +kernel
  have C : hv_C RL code 1 wsL_law w p s m #[Value.ref b] meth c := ⟨hx, hb, hml, hown, fun t ht => hts t (wsL_law_in t ht), hlocks, hWD, by rw [hbw]; exact Nat.le_refl _⟩
  have hl := lv_entry ([.ref b]) (n := 1) (Nat.le_of_ble_eq_true rfl)
  rw [lg_entry_eq]
  have hR : hv_R w (fun _ => none) s.heap := ⟨⟨by rw [hbw]; exact htb, by rw [hbw]; exact Nat.le_refl _⟩, fun _ => none, fun _ => 0, fun a e h => (by cases h), fun a e h => (by cases h), fun a L h => (by cases h)⟩
  have K := lw_body (e := e) (below := below) C hr hlt hbw (by rw [hsL]; omega)
  rw [hsb] at K
  exact K s.heap [] _ hR va_S.rf hl
