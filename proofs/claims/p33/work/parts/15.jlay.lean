/-! LISTS: opened, shut; arrays of references copied; the class of an array -/
theorem hv_R.less {w : hv_W} {Y Y' : hv_H} {H : Heap} (hY : ∀ (b : Nat) (e : hv_E), Y' b = some e → Y b = some e) (h : hv_R w Y H) : hv_R w Y' H := by
  obtain ⟨h0, X, ow, h1, h2, h3⟩ := h
  refine ⟨h0, X, ow, h1, fun a e ha => h2 a e (hY a _ ha), fun a L ha => ?_⟩
  obtain ⟨ed, mc, g1, g2⟩ := h3 a L (hY a _ ha)
  refine ⟨ed, mc, g1, g2.imp id ?_⟩
  rintro ⟨n, k1, k2, k3, k4⟩
  refine ⟨n, k1, k2, ?_, k4⟩
  cases q : Y' ed with
  | none => rfl
  | some e =>
    rw [hY ed e q] at k3
    cases k3
def hv_op (w : hv_W) (Y : hv_H) (a : Nat) (mc : Int32) (ed : Nat) (o : Option Nat) (L : List Nat) : hv_H := match o with
  | none => hv_up Y a (hv_lo mc ed L)
  | some n => hv_up (hv_up Y a (hv_lo mc ed L)) ed (hv_la w n L)
def hv_cap (w : hv_W) (o : Option Nat) (ed : Nat) (L : List Nat) : Prop := match o with
  | none => ed = hv_t w ∧ L = []
  | some n => L.length ≤ n ∧ 10 ≤ n ∧ n ≤ 60
theorem hv_op_a {w : hv_W} {Y : hv_H} {a : Nat} {mc : Int32} {ed : Nat} {o : Option Nat} {L : List Nat} (h : ed ≠ a) : hv_op w Y a mc ed o L a = some (hv_lo mc ed L) := by
  cases o with
  | none => exact hv_up_s
  | some n => exact (hv_up_n (Ne.symm h)).trans hv_up_s
theorem hv_op_e {w : hv_W} {Y : hv_H} {a : Nat} {mc : Int32} {ed n : Nat} {L : List Nat} : hv_op w Y a mc ed (some n) L ed = some (hv_la w n L) := hv_up_s
theorem hv_op_n {w : hv_W} {Y : hv_H} {a : Nat} {mc : Int32} {ed b : Nat} {o : Option Nat} {L : List Nat} (h1 : b ≠ a) (h2 : b ≠ ed) : hv_op w Y a mc ed o L b = Y b := by
  cases o with
  | none => exact hv_up_n h1
  | some n => exact (hv_up_n h2).trans (hv_up_n h1)
/-- what is an object in Y is one in the opened heap -/
theorem hv_op_y {w : hv_W} {Y : hv_H} {a : Nat} {mc : Int32} {ed b : Nat} {o : Option Nat} {L L0 : List Nat} (hY : Y a = some (.inr L0)) (hed : Y ed = none) {e : va_E} (hb : Y b = some (.inl e)) : hv_op w Y a mc ed o L b = some (.inl e) := by
  rw [hv_op_n, hb]
  · intro q
    rw [q, hY] at hb
    cases hb
  · intro q
    rw [q, hed] at hb
    cases hb
theorem hv_op_mc {w : hv_W} {Y : hv_H} {a : Nat} {mc mc' : Int32} {ed : Nat} {o : Option Nat} {L : List Nat} (h : ed ≠ a) : hv_up (hv_op w Y a mc ed o L) a (hv_lo mc' ed L) = hv_op w Y a mc' ed o L := by
  funext b
  cases o with
  | none =>
    simp only [hv_op, hv_up]
    split <;> rfl
  | some n =>
    simp only [hv_op, hv_up]
    by_cases q : b = a
    · subst q
      rw [if_pos rfl, if_neg (Ne.symm h), if_pos rfl]
    · rw [if_neg q, if_neg q, if_neg q]
section HJ
variable {p : Program} {l : Launch} {e : Env} {R : Room} {s : State} {m : MethodId} {args : Array Value} {below : List Frame} {meth : Method} {c : Code} {w : hv_W} {nL : Nat} {Q : State → Prop} {cells slots : Nat} {Y : hv_H} {lv : List (Nat × Value)} {pc : Nat} {rest : List Value} {own : String} {cc : ByteArray} {Ts : List Cond}
theorem hv_lessV {Y' : hv_H} {st : List Value} (hY : ∀ (b : Nat) (e : hv_E), Y' b = some e → Y b = some e) (kk : hv_V p l e R s m args below meth c w nL Q cells slots Y' lv pc st) : hv_V p l e R s m args below meth c w nL Q cells slots Y lv pc st := fun H locs ls hR hS hl => kk H locs ls (hR.less hY) hS hl
theorem hv_opnV {a : Nat} {L : List Nat} {st : List Value} (hY : Y a = some (.inr L)) (kk : ∀ (ed : Nat) (mc : Int32) (o : Option Nat), ed ≠ a → Y ed = none → hv_cap w o ed L → hv_V p l e R s m args below meth c w nL Q cells slots (hv_op w Y a mc ed o L) lv pc st) : hv_V p l e R s m args below meth c w nL Q cells slots Y lv pc st := by
  intro H locs ls hR hS hl
  obtain ⟨ed, mc, h1, h2, h3⟩ := hR.opn hY
  rcases h3 with ⟨g1, g2, g3⟩ | ⟨n, g1, g2, g3, g4⟩
  · exact kk ed mc none h1 h2 ⟨g1, g2⟩ H locs ls g3 hS hl
  · exact kk ed mc (some n) h1 h2 ⟨g1, g2, g3⟩ H locs ls g4 hS hl
theorem hv_shut {a ed : Nat} {mc : Int32} {o : Option Nat} {L : List Nat} {st : List Value} (h1 : ed ≠ a) (h2 : Y ed = none) (h3 : hv_cap w o ed L) (kk : hv_V p l e R s m args below meth c w nL Q cells slots (hv_up Y a (.inr L)) lv pc st) : hv_V p l e R s m args below meth c w nL Q cells slots (hv_op w Y a mc ed o L) lv pc st := by
  intro H locs ls hR hS hl
  have hL : (ed = hv_t w ∧ L = []) ∨ ∃ n : Nat, hv_op w Y a mc ed o L ed = some (hv_la w n L) ∧ L.length ≤ n ∧ 10 ≤ n ∧ n ≤ 60 := by
    cases o with
    | none => exact Or.inl h3
    | some n => exact Or.inr ⟨n, hv_op_e, h3⟩
  have h4 := hR.cls (hv_op_a h1) hL h1
  refine kk H locs ls ?_ hS hl
  refine h4.less ?_
  intro b e hb
  by_cases q : b = a
  · subst q
    rw [hv_up_s] at hb
    rw [if_pos rfl]
    exact hb
  · rw [hv_up_n q] at hb
    have q2 : b ≠ ed := by
      intro z
      rw [z, h2] at hb
      cases hb
    rw [if_neg q, if_neg q2, hv_op_n q q2]
    exact hb
/-! getClass of an array of objects, a class as a constant, a cast to arrays -/
theorem hv_nm5 (C : hv_C own cc nL Ts w p s m args meth c) : s.vm.findClass "[Ljava/lang/Object;" = some (hv_c w 5) := va_nmO ((C.2.2.2.2.2.2.1.1.2 5 _ (show (hv_T w)[5]? = some (hv_c w 5, .object "java/lang/Object") from rfl)).2) (by decide)
theorem hv_arrC (C : hv_C own cc nL Ts w p s m args meth c) {a : Nat} {x : vp_A} {H : Heap} (hR : hv_R w Y H) (hY : Y a = some (.inl (.inl (hv_c w 5, x)))) : ∃ cell : Cell, H[a]? = some cell ∧ cell.vm.isStatics = false ∧ s.vm.findClass "[Ljava/lang/Object;" = some cell.cls := by
  refine ⟨vp_cell (hv_c w 5) x, hR.at hY 0 _ rfl, ?_, ?_⟩
  · obtain ⟨n, f | f | f | f | f⟩ := x <;> rfl
  · rw [hv_nm5 C]
    obtain ⟨n, f | f | f | f | f⟩ := x <;> rfl
theorem hv_getC (C : hv_C own cc nL Ts w p s m args meth c) {index a : Nat} {x : vp_A} (hY : Y a = some (.inl (.inl (hv_c w 5, x)))) (h1 : Cond.methodLink own index ⟨"java/lang/Object", "getClass", "()Ljava/lang/Class;"⟩ ∈ Ts) (h2 : Cond.selects "[Ljava/lang/Object;" ⟨"java/lang/Object", "getClass", "()Ljava/lang/Class;"⟩ ⟨"java/lang/Object", "getClass", "()Ljava/lang/Class;"⟩ ∈ Ts) (h3 : Cond.instanceMethod ⟨"java/lang/Object", "getClass", "()Ljava/lang/Class;"⟩ ∈ Ts) (h4 : Cond.native ⟨"java/lang/Object", "getClass", "()Ljava/lang/Class;"⟩ ∈ Ts) (hfr : 1 ≤ R.frames) (hlo : (rest.map fun v => v.category).sum + 14 ≤ R.locals) (hdg : decode cc pc = .ok (.invokevirtual index, 3)) (kk : hv_V p l e R s m args below meth c w nL Q cells slots Y lv (pc + 3) (.ref (hv_m w) :: rest)) : hv_V p l e R s m args below meth c w nL Q cells slots Y lv pc (.ref a :: rest) := fun H locs ls hR hS hl =>
  va_getC C.1 C.2.1 (C.2.2.1.trans hl.1.symm) C.2.2.2.1 (C.2.2.2.2.1 _ h1) (va_Dc.use C.2.2.2.2.2.2.1.2.2.2.2.2.1.2) (C.2.2.2.2.1 _ h2) (C.2.2.2.2.1 _ h3) (C.2.2.2.2.1 _ h4) C.2.2.2.2.2.2.1.2.2.2.2.2.1.1 (hv_arrC C hR hY) hfr hlo hdg (kk H locs ls hR hS hl)
theorem hv_ldcM (C : hv_C own cc nL Ts w p s m args meth c) {index : Nat} (h1 : Cond.classLink own index "[Ljava/lang/Object;" ∈ Ts) (hdg : decode cc pc = .ok (.ldc index, 2)) (kk : hv_V p l e R s m args below meth c w nL Q cells slots Y lv (pc + 2) (.ref (hv_m w) :: rest)) : hv_V p l e R s m args below meth c w nL Q cells slots Y lv pc rest := fun H locs ls hR hS hl =>
  va_ldcM C.1 C.2.1 C.2.2.2.1 (C.2.2.2.2.1 _ h1) C.2.2.2.2.2.2.1.2.2.2.2.2.1.1 hdg (kk H locs ls hR hS hl)
theorem hv_castA (C : hv_C own cc nL Ts w p s m args meth c) {index a : Nat} {x : vp_A} (hY : Y a = some (.inl (.inl (hv_c w 5, x)))) (h1 : Cond.classLink own index "[Ljava/lang/Object;" ∈ Ts) (hdg : decode cc pc = .ok (.checkcast index, 3)) (kk : hv_V p l e R s m args below meth c w nL Q cells slots Y lv (pc + 3) (.ref a :: rest)) : hv_V p l e R s m args below meth c w nL Q cells slots Y lv pc (.ref a :: rest) := fun H locs ls hR hS hl =>
  va_castA C.1 C.2.1 C.2.2.2.1 (C.2.2.2.2.1 _ h1) (hR.at hY) 0 rfl (hv_nm5 C) hdg (kk H locs ls hR hS hl)
end HJ
/-! all that is known of a heap, as one list -/
def hv_ws (X : Nat → Option va_E) (N : Nat) : List (Nat × va_E) := (List.range N).filterMap (fun b => (X b).map (fun e => (b, e)))
theorem hv_ws_mem {X : Nat → Option va_E} {N b : Nat} {e : va_E} : (b, e) ∈ hv_ws X N ↔ b < N ∧ X b = some e := by
  unfold hv_ws
  rw [List.mem_filterMap]
  constructor
  · rintro ⟨b', h1, h2⟩
    rw [List.mem_range] at h1
    cases hx : X b' with
    | none => rw [hx] at h2; cases h2
    | some e' =>
      rw [hx] at h2
      cases h2
      exact ⟨h1, hx⟩
  · rintro ⟨h1, h2⟩
    exact ⟨b, List.mem_range.mpr h1, by rw [h2]; rfl⟩
theorem hv_ws_lt (X : Nat → Option va_E) (N : Nat) : (hv_ws X N).Pairwise (fun p q => p.1 < q.1) := by
  unfold hv_ws
  rw [List.pairwise_filterMap]
  refine List.Pairwise.imp ?_ (List.pairwise_lt_range (n := N))
  intro a b hab x hx y hy
  have h1 : x.1 = a := by
    cases ha : X a with
    | none => rw [ha] at hx; cases hx
    | some e' => rw [ha] at hx; cases hx; rfl
  have h2 : y.1 = b := by
    cases ha : X b with
    | none => rw [ha] at hy; cases hy
    | some e' => rw [ha] at hy; cases hy; rfl
  rw [h1, h2]
  exact hab
theorem hv_ws_inj {X : Nat → Option va_E} {N i j : Nat} {x y : Nat × va_E} (hi : (hv_ws X N)[i]? = some x) (hj : (hv_ws X N)[j]? = some y) (h : x.1 = y.1) : i = j := by
  have hp := List.pairwise_iff_getElem.mp (hv_ws_lt X N)
  obtain ⟨hi1, hi2⟩ := List.getElem?_eq_some_iff.mp hi
  obtain ⟨hj1, hj2⟩ := List.getElem?_eq_some_iff.mp hj
  rcases Nat.lt_trichotomy i j with q | q | q
  · have := hp i j hi1 hj1 q
    rw [hi2, hj2] at this
    omega
  · exact q
  · have := hp j i hj1 hi1 q
    rw [hi2, hj2] at this
    omega
section HJ2
variable {p : Program} {l : Launch} {e : Env} {R : Room} {s : State} {m : MethodId} {args : Array Value} {below : List Frame} {meth : Method} {c : Code} {w : hv_W} {nL : Nat} {Q : State → Prop} {cells slots : Nat} {Y : hv_H} {lv : List (Nat × Value)} {pc : Nat} {rest : List Value} {own : String} {cc : ByteArray} {Ts : List Cond}
theorem hv_copyq (C : hv_C own cc nL Ts w p s m args meth c) {index a0 a n0 n1 ci N : Nat} {T : u_T} {Ev : String} {f g : Nat → Option Nat} (hY0 : Y a0 = some (.inl (.inl (hv_c w 5, n0, hv_ref f)))) (hY1 : Y a = some (.inl (.inl (hv_c w 5, n1, hv_ref g)))) {sp dp n : Int32} (g1 : ¬ sp < 0) (g2 : ¬ dp < 0) (g3 : ¬ n < 0) (g4 : sp.toNatClampNeg + n.toNatClampNeg ≤ n0) (g5 : dp.toNatClampNeg + n.toNatClampNeg ≤ n1) (hci : vwCl[ci]? = some (Ev, T, N)) (hel : ∀ (i y : Nat), f i = some y → ∃ fs : List Value, Y y = some (.inl (.inr (ci, fs)))) (hca : (Cond.castable Ev "java/lang/Object").before args s = true)
    (h1 : Cond.methodLink own index arraycopyName ∈ Ts) (h2 : Cond.native arraycopyName ∈ Ts) (h3 : Cond.static arraycopyName ∈ Ts) (h4 : Cond.initialized "java/lang/System" ∈ Ts) (hfr : 1 ≤ R.frames) (hlo : (rest.map fun v => v.category).sum + (nativeFrameWords "java/lang/System" "arraycopy" 5 + 11) ≤ R.locals) (hdg : decode cc pc = .ok (.invokestatic index, 3))
    (kk : hv_V p l e R s m args below meth c w nL Q cells slots (hv_up Y a (.inl (.inl (hv_c w 5, n1, hv_ref (va_cpy f g sp.toNatClampNeg dp.toNatClampNeg n.toNatClampNeg))))) lv (pc + 3) rest) : hv_V p l e R s m args below meth c w nL Q cells slots Y lv pc (.int n :: .int dp :: .ref a :: .int sp :: .ref a0 :: rest) := by
  intro H locs ls hR hS hl
  have hRR := hR
  obtain ⟨h0, X, ow, k1, k2, k3⟩ := hR
  have hK := C.2.2.2.2.2.2.1.1
  have hP : va_P (hv_D w) vwCl (hv_ws X H.size) H := by
    intro k q hk
    obtain ⟨b, eb⟩ := q
    exact (k1 b eb (hv_ws_mem.mp (List.mem_of_getElem? hk)).2).2
  have hD : va_D (hv_A w) (hv_ws X H.size) := by
    refine ⟨fun i j x y hi hj h => hv_ws_inj hi hj h, fun k q hk => ?_⟩
    obtain ⟨b, eb⟩ := q
    exact (k1 b eb (hv_ws_mem.mp (List.mem_of_getElem? hk)).2).1
  have hx0 := k2 _ _ hY0
  have hx1 := k2 _ _ hY1
  obtain ⟨q0, hq0⟩ := List.mem_iff_getElem?.mp (hv_ws_mem.mpr ⟨(k1 _ _ hx0).2.lt, hx0⟩)
  obtain ⟨q1, hq1⟩ := List.mem_iff_getElem?.mp (hv_ws_mem.mpr ⟨(k1 _ _ hx1).2.lt, hx1⟩)
  refine va_copyq (A := hv_A w) (H0 := s.heap) (C := Ev) C.1 C.2.1 (C.2.2.1.trans hl.1.symm) C.2.2.2.1 (C.2.2.2.2.1 _ h1) (C.2.2.2.2.1 _ h2) (C.2.2.2.2.1 _ h3) (C.2.2.2.2.1 _ h4) hK hP hD hS q0 q1 5 5 hq0 hq1 (show (hv_T w)[5]? = some (hv_c w 5, .object "java/lang/Object") from rfl) (show (hv_T w)[5]? = some (hv_c w 5, .object "java/lang/Object") from rfl) g1 g2 g3 g4 g5 ?_ ?_ hfr hlo hdg ?_
  · intro i _ y hy
    obtain ⟨fs, hfs⟩ := hel _ y hy
    exact hv_recv C (hv_rcO hfs hci) hRR
  · intro comp c0 f2 f1
    obtain ⟨c1, t1, f3, f4, f5⟩ := Cond.castable_spec hca
    cases f1.symm.trans f3
    cases f2.symm.trans f4
    exact f5
  · intro H1 locs1 hP1 hD1 hS1
    have hat : ∀ (b : Nat) (eb : va_E), b ≠ a → X b = some eb → hv_b w ≤ b ∧ va_at (hv_D w) vwCl (b, eb) H1 := by
      intro b eb hb hX
      obtain ⟨i, hi⟩ := List.mem_iff_getElem?.mp (hv_ws_mem.mpr ⟨(k1 _ _ hX).2.lt, hX⟩)
      have hne : q1 ≠ i := by
        intro z
        subst z
        rw [hi] at hq1
        cases hq1
        exact hb rfl
      exact ⟨(k1 b eb hX).1, hP1 i (b, eb) (by rw [List.getElem?_set_ne hne]; exact hi)⟩
    have hlen : q1 < (hv_ws X H.size).length := (List.getElem?_eq_some_iff.mp hq1).1
    have hata := hP1 q1 _ (List.getElem?_set_self hlen)
    refine kk H1 locs1 ls ⟨⟨h0.1, Nat.le_trans C.2.2.2.2.2.2.2 hS1.1⟩, fun b => if b = a then some (.inl (hv_c w 5, n1, hv_ref (va_cpy f g sp.toNatClampNeg dp.toNatClampNeg n.toNatClampNeg))) else X b, ow, fun b eb hb => ?_, fun b eb hb => ?_, fun b L hb => ?_⟩ hS1 hl
    · dsimp only at hb
      by_cases q : b = a
      · subst q
        rw [if_pos rfl] at hb
        cases hb
        exact ⟨(k1 _ _ hx1).1, hata⟩
      · rw [if_neg q] at hb
        exact hat b eb q hb
    · dsimp only
      by_cases q : b = a
      · subst q
        rw [hv_up_s] at hb
        cases hb
        rw [if_pos rfl]
      · rw [hv_up_n q] at hb
        rw [if_neg q]
        exact k2 b eb hb
    · have q : b ≠ a := by
        intro z
        subst z
        rw [hv_up_s] at hb
        cases hb
      rw [hv_up_n q] at hb
      obtain ⟨ed, mc, m1, m2⟩ := k3 b L hb
      refine ⟨ed, mc, by dsimp only; rw [if_neg q]; exact m1, m2.imp id ?_⟩
      rintro ⟨n9, j1, j2, j3, j4⟩
      have hea : ed ≠ a := by
        intro z
        subst z
        rw [hY1] at j3
        cases j3
      exact ⟨n9, by dsimp only; rw [if_neg hea]; exact j1, j2, by rw [hv_up_n hea]; exact j3, j4⟩
end HJ2
