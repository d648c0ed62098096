/-! THE LAYER: the heap as a function from addresses to cells (a cell of the kit, or a list whole), and a law an instruction over it -/
abbrev hv_E : Type := va_E ⊕ List Nat
abbrev hv_H : Type := Nat → Option hv_E
/-- the world's constants: the tables' numbers, the array kinds, the first address of ours, the empty static array, the mirror of Object[] -/
abbrev hv_W : Type := va_G × (Nat → ClassId) × Nat × Nat × Nat × Nat × Nat × (Nat → Int32)
abbrev hv_D (w : hv_W) : va_G := w.1
abbrev hv_c (w : hv_W) : Nat → ClassId := w.2.1
abbrev hv_b (w : hv_W) : Nat := w.2.2.1
abbrev hv_t (w : hv_W) : Nat := w.2.2.2.1
abbrev hv_m (w : hv_W) : Nat := w.2.2.2.2.1
/-- the script: its place, its length, its ints -/
abbrev hv_sb (w : hv_W) : Nat := w.2.2.2.2.2.1
abbrev hv_sL (w : hv_W) : Nat := w.2.2.2.2.2.2.1
abbrev hv_sx (w : hv_W) : Nat → Int32 := w.2.2.2.2.2.2.2
def hv_A (w : hv_W) : Nat → Prop := fun q => hv_b w ≤ q
def hv_T (w : hv_W) : List (ClassId × FieldType) := [(hv_c w 0, .int), (hv_c w 1, .boolean), (hv_c w 2, .int), (hv_c w 3, .object RX1), (hv_c w 4, .object RX2), (hv_c w 5, .object "java/lang/Object")]
def hv_up (Y : hv_H) (a : Nat) (e : hv_E) : hv_H := fun b => if b = a then some e else Y b
theorem hv_up_s {Y : hv_H} {a : Nat} {e : hv_E} : hv_up Y a e a = some e := by simp [hv_up]
theorem hv_up_n {Y : hv_H} {a b : Nat} {e : hv_E} (h : b ≠ a) : hv_up Y a e b = Y b := by simp [hv_up, h]
def hv_ref (f : Nat → Option Nat) : (Nat → Int32) ⊕ (Nat → Int64) ⊕ (Nat → UInt32) ⊕ (Nat → UInt64) ⊕ (Nat → Option Nat) := .inr (.inr (.inr (.inr f)))
/-- an ArrayList with the elements L -/
def hv_L (w : hv_W) (X : Nat → Option va_E) (Y : hv_H) (ow : Nat → Nat) (a : Nat) (L : List Nat) : Prop :=
  ∃ (ed : Nat) (mc : Int32), X a = some (.inr (0, [.int mc, .ref ed, .int (nI L.length)])) ∧ ((ed = hv_t w ∧ L = []) ∨ ∃ n : Nat, X ed = some (.inl (hv_c w 5, n, hv_ref (fun j => L[j]?))) ∧ ow ed = a ∧ Y ed = none ∧ L.length ≤ n ∧ 10 ≤ n ∧ n ≤ 60)
/-- the heap H has what Y says -/
def hv_R (w : hv_W) (Y : hv_H) (H : Heap) : Prop :=
  (hv_t w < hv_b w ∧ hv_b w ≤ H.size) ∧ ∃ (X : Nat → Option va_E) (ow : Nat → Nat), (∀ (a : Nat) (e : va_E), X a = some e → hv_b w ≤ a ∧ va_at (hv_D w) vwCl (a, e) H) ∧ (∀ (a : Nat) (e : va_E), Y a = some (.inl e) → X a = some e) ∧ ∀ (a : Nat) (L : List Nat), Y a = some (.inr L) → hv_L w X Y ow a L
theorem hv_R.at {w : hv_W} {Y : hv_H} {H : Heap} (h : hv_R w Y H) {a : Nat} {e : va_E} (hY : Y a = some (.inl e)) : va_P (hv_D w) vwCl [(a, e)] H := by
  obtain ⟨-, X, ow, h1, h2, h3⟩ := h
  intro k q hk
  have hz : k < 1 := (List.getElem?_eq_some_iff.mp hk).1
  rw [show k = 0 by omega] at hk
  cases hk
  exact (h1 a e (h2 a e hY)).2
theorem hv_R.own {w : hv_W} {Y : hv_H} {H : Heap} (h : hv_R w Y H) {a : Nat} {e : hv_E} (hY : Y a = some e) : hv_b w ≤ a ∧ a < H.size := by
  obtain ⟨-, X, ow, h1, h2, h3⟩ := h
  cases e with
  | inl e => exact ⟨(h1 a e (h2 a e hY)).1, (h1 a e (h2 a e hY)).2.lt⟩
  | inr L =>
    obtain ⟨ed, mc, g1, -⟩ := h3 a L hY
    exact ⟨(h1 _ _ g1).1, (h1 _ _ g1).2.lt⟩
theorem hv_R.put {w : hv_W} {Y : hv_H} {H H1 : Heap} {a : Nat} {e0 e1 : va_E} (h : hv_R w Y H) (hY : Y a = some (.inl e0)) (he : va_at (hv_D w) vwCl (a, e1) H1) (z : H1.size = H.size) (oq : ∀ q : Nat, q ≠ a → H1[q]? = H[q]?) : hv_R w (hv_up Y a (.inl e1)) H1 := by
  have hb := (h.own hY).1
  obtain ⟨h0, X, ow, h1, h2, h3⟩ := h
  refine ⟨by rw [z]; exact h0, fun b => if b = a then some e1 else X b, ow, fun b e hb1 => ?_, fun b e hb1 => ?_, fun b L hb1 => ?_⟩
  · by_cases hba : b = a
    · subst hba
      simp at hb1
      subst hb1
      exact ⟨hb, he⟩
    · simp [hba] at hb1
      exact ⟨(h1 b e hb1).1, (h1 b e hb1).2.kept (oq b hba)⟩
  · by_cases hba : b = a
    · subst hba
      simp [hv_up] at hb1
      simp [hb1]
    · simp [hv_up, hba] at hb1
      simp [hba, h2 b e hb1]
  · have hba : b ≠ a := by
      intro q
      subst q
      simp [hv_up] at hb1
    simp [hv_up, hba] at hb1
    obtain ⟨ed, mc, g1, g2⟩ := h3 b L hb1
    refine ⟨ed, mc, by simp [hba, g1], ?_⟩
    rcases g2 with g2 | ⟨n, k1, k2, k3, k4⟩
    · exact Or.inl g2
    · have hea : ed ≠ a := by
        intro q
        subst q
        rw [hY] at k3
        cases k3
      exact Or.inr ⟨n, by simp [hea, k1], k2, by simp [hv_up, hea, k3], k4⟩
theorem hv_R.fresh {w : hv_W} {Y : hv_H} {H : Heap} (h : hv_R w Y H) : Y H.size = none := by
  cases hy : Y H.size with
  | none => rfl
  | some e => exact absurd (h.own hy).2 (Nat.lt_irrefl _)
theorem hv_R.new {w : hv_W} {Y : hv_H} {H H1 : Heap} {e1 : va_E} (h : hv_R w Y H) (he : va_at (hv_D w) vwCl (H.size, e1) H1) (z : H1.size = H.size + 1) (oq : ∀ q : Nat, q < H.size → H1[q]? = H[q]?) : hv_R w (hv_up Y H.size (.inl e1)) H1 := by
  obtain ⟨h0, X, ow, h1, h2, h3⟩ := h
  have hx : ∀ (b : Nat) (e : va_E), X b = some e → b ≠ H.size := fun b e hb q => by
    have h9 : b < H.size := (h1 b e hb).2.lt
    omega
  refine ⟨⟨h0.1, by have := h0.2; omega⟩, fun b => if b = H.size then some e1 else X b, ow, fun b e hb1 => ?_, fun b e hb1 => ?_, fun b L hb1 => ?_⟩
  · by_cases hba : b = H.size
    · subst hba
      simp at hb1
      subst hb1
      exact ⟨h0.2, he⟩
    · simp [hba] at hb1
      exact ⟨(h1 b e hb1).1, (h1 b e hb1).2.kept (oq b (h1 b e hb1).2.lt)⟩
  · by_cases hba : b = H.size
    · subst hba
      simp [hv_up] at hb1
      simp [hb1]
    · simp [hv_up, hba] at hb1
      simp [hba, h2 b e hb1]
  · have hba : b ≠ H.size := by
      intro q
      rw [q] at hb1
      simp [hv_up] at hb1
    simp [hv_up, hba] at hb1
    obtain ⟨ed, mc, g1, g2⟩ := h3 b L hb1
    refine ⟨ed, mc, by simp [hba, g1], ?_⟩
    rcases g2 with g2 | ⟨n, k1, k2, k3, k4⟩
    · exact Or.inl g2
    · have hea := hx ed _ k1
      exact Or.inr ⟨n, by simp [hea, k1], k2, by simp [hv_up, hea, k3], k4⟩
/-- a list's cells, the array behind it -/
def hv_lo (mc : Int32) (ed : Nat) (L : List Nat) : hv_E := .inl (.inr (0, [.int mc, .ref ed, .int (nI L.length)]))
def hv_la (w : hv_W) (n : Nat) (L : List Nat) : hv_E := .inl (.inl (hv_c w 5, n, hv_ref (fun j => L[j]?)))
theorem hv_R.opn {w : hv_W} {Y : hv_H} {H : Heap} (h : hv_R w Y H) {a : Nat} {L : List Nat} (hY : Y a = some (.inr L)) : ∃ (ed : Nat) (mc : Int32), ed ≠ a ∧ Y ed = none ∧ ((ed = hv_t w ∧ L = [] ∧ hv_R w (hv_up Y a (hv_lo mc ed L)) H) ∨ ∃ n : Nat, L.length ≤ n ∧ 10 ≤ n ∧ n ≤ 60 ∧ hv_R w (hv_up (hv_up Y a (hv_lo mc ed L)) ed (hv_la w n L)) H) := by
  have hown := h
  obtain ⟨h0, X, ow, h1, h2, h3⟩ := h
  obtain ⟨ed, mc, g1, g2⟩ := h3 a L hY
  have hYed : Y ed = none := by
    rcases g2 with ⟨g2, -⟩ | ⟨n, k1, k2, k3, -⟩
    · cases hy : Y ed with
      | none => rfl
      | some e =>
        have := (hown.own hy).1
        have := h0.1
        omega
    · exact k3
  have hea : ed ≠ a := by
    intro q
    subst q
    rw [hY] at hYed
    cases hYed
  refine ⟨ed, mc, hea, hYed, ?_⟩
  rcases g2 with ⟨g2, g3⟩ | ⟨n, k1, k2, k3, k4, k5, k6⟩
  · refine Or.inl ⟨g2, g3, h0, X, ow, h1, fun b e hb => ?_, fun b L' hb => ?_⟩
    · by_cases hba : b = a
      · subst hba
        simp [hv_up, hv_lo] at hb
        rw [← hb]; exact g1
      · simp [hv_up, hba] at hb
        exact h2 b e hb
    · have hba : b ≠ a := by
        intro q
        subst q
        simp [hv_up, hv_lo] at hb
      simp [hv_up, hba] at hb
      obtain ⟨ed', mc', f1, f2⟩ := h3 b L' hb
      refine ⟨ed', mc', f1, ?_⟩
      rcases f2 with f2 | ⟨n', j1, j2, j3, j4⟩
      · exact Or.inl f2
      · have hea : ed' ≠ a := by
          intro q
          subst q
          rw [hY] at j3
          cases j3
        exact Or.inr ⟨n', j1, j2, by simp [hv_up, hea, j3], j4⟩
  · refine Or.inr ⟨n, k4, k5, k6, h0, X, ow, h1, fun b e hb => ?_, fun b L' hb => ?_⟩
    · by_cases hbe : b = ed
      · subst hbe
        simp [hv_up, hv_la] at hb
        rw [← hb]; exact k1
      · by_cases hba : b = a
        · subst hba
          simp [hv_up, hbe, hv_lo] at hb
          rw [← hb]; exact g1
        · simp [hv_up, hba, hbe] at hb
          exact h2 b e hb
    · have hbe : b ≠ ed := by
        intro q
        subst q
        simp [hv_up, hv_la] at hb
      have hba : b ≠ a := by
        intro q
        subst q
        simp [hv_up, hbe, hv_lo] at hb
      simp [hv_up, hba, hbe] at hb
      obtain ⟨ed', mc', f1, f2⟩ := h3 b L' hb
      refine ⟨ed', mc', f1, ?_⟩
      rcases f2 with f2 | ⟨n', j1, j2, j3, j4⟩
      · exact Or.inl f2
      · have he1 : ed' ≠ a := by
          intro q
          subst q
          rw [hY] at j3
          cases j3
        have he2 : ed' ≠ ed := by
          intro q
          subst q
          exact hba (j2.symm.trans k2)
        exact Or.inr ⟨n', j1, j2, by simp [hv_up, he1, he2, j3], j4⟩
theorem hv_R.cls {w : hv_W} {Z : hv_H} {H : Heap} (h : hv_R w Z H) {a ed : Nat} {mc : Int32} {L : List Nat} (ha : Z a = some (hv_lo mc ed L)) (hL : (ed = hv_t w ∧ L = []) ∨ ∃ n : Nat, Z ed = some (hv_la w n L) ∧ L.length ≤ n ∧ 10 ≤ n ∧ n ≤ 60) (hne : ed ≠ a) :
    hv_R w (fun b => if b = a then some (.inr L) else if b = ed then none else Z b) H := by
  obtain ⟨h0, X, ow, h1, h2, h3⟩ := h
  refine ⟨h0, X, fun b => if b = ed then a else ow b, h1, fun b e hb => ?_, fun b L' hb => ?_⟩
  · by_cases hba : b = a
    · simp [hba] at hb
    · by_cases hbe : b = ed
      · subst hbe
        simp [hne] at hb
      · simp [hba, hbe] at hb
        exact h2 b e hb
  · by_cases hba : b = a
    · subst hba
      simp at hb
      subst hb
      refine ⟨ed, mc, h2 _ _ ha, ?_⟩
      rcases hL with hL | ⟨n, k1, k2⟩
      · exact Or.inl hL
      · exact Or.inr ⟨n, h2 _ _ k1, by simp, by simp [hne], k2⟩
    · by_cases hbe : b = ed
      · subst hbe
        simp [hne] at hb
      · simp [hba, hbe] at hb
        obtain ⟨ed', mc', f1, f2⟩ := h3 b L' hb
        refine ⟨ed', mc', f1, ?_⟩
        rcases f2 with f2 | ⟨n', j1, j2, j3, j4⟩
        · exact Or.inl f2
        · have he1 : ed' ≠ a := by
            intro q
            subst q
            rw [ha] at j3
            cases j3
          have he2 : ed' ≠ ed := by
            intro q
            subst q
            rcases hL with ⟨hL, -⟩ | ⟨n, k1, -⟩
            · have := (h1 _ _ j1).1
              have := h0.1
              omega
            · rw [k1] at j3
              cases j3
          exact Or.inr ⟨n', j1, by simp [he2, j2], by simp [he1, he2, j3], j4⟩
theorem hv_R.mono {w : hv_W} {Y : hv_H} {H H1 : Heap} (h : hv_R w Y H) (hz : H.size ≤ H1.size) (ho : ∀ q : Nat, q < H.size → H1[q]? = H[q]?) : hv_R w Y H1 := by
  obtain ⟨h0, X, ow, h1, h2, h3⟩ := h
  exact ⟨⟨h0.1, Nat.le_trans h0.2 hz⟩, X, ow, fun a e ha => ⟨(h1 a e ha).1, (h1 a e ha).2.kept (ho a (h1 a e ha).2.lt)⟩, h2, h3⟩
/-! the world's premises, carried from state to state -/
/-- words that the tables alone decide and that stay, though not of the plain kind -/
theorem hv_face {x : Cond} {s U : State} {A : Array Value} (hx : (x.onTables && x.keepsFace) = true) (hW : s.WarmedH U.vm) (h : x.before #[] s = true) : x.before A U = true := by
  simp only [Bool.and_eq_true] at hx
  have h1 : x.before #[] (s.setVm U.vm) = true := Cond.before_shiftedFace (State.Shifted.of_warmed hW) x hx.2 h
  exact va_tabs hx.1 (rfl : (s.setVm U.vm).vm = U.vm) h1
abbrev hv_IA : String := "java/lang/IllegalArgumentException"
abbrev hv_IS : String := "java/lang/IllegalStateException"
abbrev hv_IO : String := "java/lang/IndexOutOfBoundsException"
abbrev hv_RE : List String := ["java/lang/RuntimeException", "java/lang/Exception"]
def hv_N : List Cond := (vx_atS RX4 40 hv_IA hv_RE).filter (fun x => !goodWord x) ++ (vx_atS RX4 55 hv_IS hv_RE).filter (fun x => !goodWord x) ++ (vx_atS RX4 186 hv_IO hv_RE).filter (fun x => !goodWord x) ++ [.castable RX0 "java/lang/Object", .castable RX2 "java/lang/Object", .castable hv_IA hv_IA, .castable hv_IS hv_IS, .castable hv_IO hv_IO]
theorem hv_N_face : ∀ x ∈ hv_N, (x.onTables && x.keepsFace) = true := by decide +kernel
def hv_St : List (Nat × String) := [(106, "no more barges can set out here"), (122, "too many ticks"), (175, "places begin at 0"), (184, "no such basin"), (187, "no such canal"), (189, "no such barge"), (191, "a number is out of range"), (38, "a canal goes between two basins"), (53, "no more canals can be dug")]
def hv_WD (w : hv_W) (U : State) : Prop :=
  va_K (hv_D w) vwCl (hv_T w) U ∧ va_Z "java/util/ArrayList" "DEFAULTCAPACITY_EMPTY_ELEMENTDATA" "[Ljava/lang/Object;" (.ref (hv_t w)) (hv_A w) U U.heap ∧ va_T (.object "java/lang/Object") (hv_t w) 0 (fun _ => .null) (hv_A w) U U.heap ∧
  (vx_Zq Bundle.tN "UNASSIGNED_STACK" Bundle.steD (hv_A w) U U.heap ∧ vx_Zq Bundle.tN "SUPPRESSED_SENTINEL" Bundle.listD (hv_A w) U U.heap) ∧
  (va_AO RX1 U ∧ va_AO RX2 U ∧ va_AO "java/lang/Object" U) ∧ (va_Mi "[Ljava/lang/Object;" (hv_m w) U ∧ va_Dc U) ∧ va_Nw (.methodLinkNest RX1 27 yX3_init RX4) U ∧ (∀ x ∈ hv_N, x.before #[] U = true) ∧ (∀ q ∈ hv_St, ∃ a : Nat, vk_R RX4 q.1 q.2 a U) ∧
  (va_Nc hv_IA hv_IO U ∧ va_Nc hv_IS hv_IO U ∧ va_Nc hv_IA hv_IS U ∧ hv_sb w < hv_b w ∧ va_X (hv_sb w) (hv_sL w) (hv_sx w) U U.heap)
theorem hv_WD.go {w : hv_W} {s U : State} (h : hv_WD w s) (hW : s.WarmedH U.vm) (hq : ∀ a : Nat, a < s.heap.size → ¬ hv_A w a → U.heap[a]? = s.heap[a]?) : hv_WD w U := by
  obtain ⟨h1, h2, h3, ⟨h4, h5⟩, ⟨h6, h7, h8⟩, ⟨h9, h10⟩, h11, h12, h13, h14, h15, h16, h17, h18⟩ := h
  have hv := hW.alike
  refine ⟨va_K.moved hv h1, (va_Z.moved hv h2).kept hq, (va_T.moved hv h3).kept hq, ⟨(vx_Zq.moved hv h4).kept hq, (vx_Zq.moved hv h5).kept hq⟩, ⟨va_AO.moved hv h6, va_AO.moved hv h7, va_AO.moved hv h8⟩, ⟨va_Mi.moved hv h9, va_Dc.moved hv h10⟩, va_Nw.warmM hW h11, fun x hx => hv_face (hv_N_face x hx) hW (h12 x hx), fun q hq9 => ?_, ?_⟩
  · obtain ⟨a, ha⟩ := h13 q hq9
    exact ⟨a, vk_R.warm hW ha⟩
  · exact ⟨va_Nc.moved hv h14, va_Nc.moved hv h15, va_Nc.moved hv h16, h17, (va_X.moved hv h18).kept (hq _ (by obtain ⟨scr, k1, -⟩ := h18; exact (Array.getElem?_eq_some_iff.mp k1).1) (by unfold hv_A; omega))⟩
/-- what a method's body has at hand -/
def hv_C (own : String) (cc : ByteArray) (nL : Nat) (Ts : List Cond) (w : hv_W) (p : Program) (s : State) (m : MethodId) (args : Array Value) (meth : Method) (c : Code) : Prop :=
  p.tables.exec = Jvm.exec ∧ c.code = cc ∧ c.maxLocals = nL ∧ s.vm.findClass own = some m.cls ∧ (∀ t ∈ Ts, t.before args s = true) ∧ meth.locks = false ∧ hv_WD w s ∧ hv_b w ≤ s.heap.size
/-- THE JUDGEMENT: from every heap that has what Y says, the frame at pc comes to Q -/
def hv_V (p : Program) (l : Launch) (e : Env) (R : Room) (s : State) (m : MethodId) (args : Array Value) (below : List Frame) (meth : Method) (c : Code) (w : hv_W) (nL : Nat) (Q : State → Prop) (cells slots : Nat) (Y : hv_H) (lv : List (Nat × Value)) (pc : Nat) (st : List Value) : Prop :=
  ∀ (H : Heap) (locs : List Loc) (ls : Array Slot), hv_R w Y H → va_S (hv_A w) s.heap H locs → lv_has ls nL lv → W p l e R s m args below meth c H locs cells slots Q (F0 m pc ls st)
/-! contracts -/
def hv_Pc (w : hv_W) (As : List Value) (Y : hv_H) : Array Value → State → Prop := va_Pc As (fun U => hv_WD w U ∧ hv_R w Y U.heap)
def hv_Qr (w : hv_W) (post : Value → hv_H → Prop) : Array Value → State → Outcome → State → Prop := fun _ st oc t => (∃ (r : Value) (Y1 : hv_H), oc = .returned (some r) ∧ post r Y1 ∧ hv_R w Y1 t.heap) ∧ va_F (hv_A w) st t
def hv_Qv (w : hv_W) (post : hv_H → Prop) : Array Value → State → Outcome → State → Prop := fun _ st oc t => (∃ Y1 : hv_H, oc = .returned none ∧ post Y1 ∧ hv_R w Y1 t.heap) ∧ va_F (hv_A w) st t
def hv_Xc (w : hv_W) (px : String → hv_H → Prop) : String → State → State → Prop := fun E st t => (∃ Y1 : hv_H, px E Y1 ∧ hv_R w Y1 t.heap) ∧ va_F (hv_A w) st t
theorem hv_blind {w : hv_W} {As : List Value} {Y : hv_H} : FrameBlind (hv_Pc w As Y) := by
  intro a U g mk h
  obtain ⟨h1, h2, h3⟩ := h
  exact ⟨h1, h2.go (U := U.calling g mk a) (State.WarmedH.refl U) (fun _ _ _ => rfl), h3⟩
def hv_Mr (l : Launch) (y : MethodName) (ws : List Cond) (rm : Room) (w : hv_W) (As : List Value) (Y : hv_H) (post : Value → hv_H → Prop) : Prop := Met l y ws rm (hv_Pc w As Y) (hv_Qr w post) rm.cells rm.slots (hv_A w)
def hv_Mv (l : Launch) (y : MethodName) (ws : List Cond) (rm : Room) (w : hv_W) (As : List Value) (Y : hv_H) (post : hv_H → Prop) : Prop := Met l y ws rm (hv_Pc w As Y) (hv_Qv w post) rm.cells rm.slots (hv_A w)
/-- .. that may throw -/
def hv_Nr (l : Launch) (y : MethodName) (ws : List Cond) (rm : Room) (w : hv_W) (As : List Value) (Y : hv_H) (post : Value → hv_H → Prop) (px : String → hv_H → Prop) : Prop := vx_Met l y ws rm (hv_Pc w As Y) (hv_Qr w post) (hv_Xc w px) rm.cells rm.slots (hv_A w)
def hv_Nv (l : Launch) (y : MethodName) (ws : List Cond) (rm : Room) (w : hv_W) (As : List Value) (Y : hv_H) (post : hv_H → Prop) (px : String → hv_H → Prop) : Prop := vx_Met l y ws rm (hv_Pc w As Y) (hv_Qv w post) (hv_Xc w px) rm.cells rm.slots (hv_A w)

section HV
variable {p : Program} {l : Launch} {e : Env} {R : Room} {s : State} {m : MethodId} {args : Array Value} {below : List Frame} {meth : Method} {c : Code} {w : hv_W} {nL : Nat} {Q : State → Prop} {cells slots : Nat} {Y : hv_H} {lv : List (Nat × Value)} {pc : Nat} {rest : List Value} {own : String} {cc : ByteArray} {Ts : List Cond}
theorem hv_iconst (C : hv_C own cc nL Ts w p s m args meth c) {n : Int} {v : Int32} (hdg : decode cc pc = .ok (.iconst n, 1)) (hv : Int32.ofInt n = v) (kk : hv_V p l e R s m args below meth c w nL Q cells slots Y lv (pc + 1) (.int v :: rest)) : hv_V p l e R s m args below meth c w nL Q cells slots Y lv pc rest := fun H locs ls hR hS hl => lv_iconst C.1 C.2.1 hdg hv (kk H locs ls hR hS hl)
theorem hv_bipush (C : hv_C own cc nL Ts w p s m args meth c) {n : Int} {v : Int32} (hdg : decode cc pc = .ok (.bipush n, 2)) (hv : (Int8.ofInt n).toInt32 = v) (kk : hv_V p l e R s m args below meth c w nL Q cells slots Y lv (pc + 2) (.int v :: rest)) : hv_V p l e R s m args below meth c w nL Q cells slots Y lv pc rest := fun H locs ls hR hS hl => lv_bipush C.1 C.2.1 hdg hv (kk H locs ls hR hS hl)
theorem hv_sipush (C : hv_C own cc nL Ts w p s m args meth c) {n : Int} {v : Int32} (hdg : decode cc pc = .ok (.sipush n, 3)) (hv : (Int16.ofInt n).toInt32 = v) (kk : hv_V p l e R s m args below meth c w nL Q cells slots Y lv (pc + 3) (.int v :: rest)) : hv_V p l e R s m args below meth c w nL Q cells slots Y lv pc rest := fun H locs ls hR hS hl => lv_sipush C.1 C.2.1 hdg hv (kk H locs ls hR hS hl)
theorem hv_lconst (C : hv_C own cc nL Ts w p s m args meth c) {n : Fin 2} {v : Int64} (hdg : decode cc pc = .ok (.lconst n, 1)) (hv : Int64.ofNat (n : Nat) = v) (kk : hv_V p l e R s m args below meth c w nL Q cells slots Y lv (pc + 1) (.long v :: rest)) : hv_V p l e R s m args below meth c w nL Q cells slots Y lv pc rest := fun H locs ls hR hS hl => lv_lconst C.1 C.2.1 hdg hv (kk H locs ls hR hS hl)
theorem hv_null (C : hv_C own cc nL Ts w p s m args meth c)  (hdg : decode cc pc = .ok (.aconst_null, 1)) (kk : hv_V p l e R s m args below meth c w nL Q cells slots Y lv (pc + 1) (.null :: rest)) : hv_V p l e R s m args below meth c w nL Q cells slots Y lv pc rest := fun H locs ls hR hS hl => lv_null C.1 C.2.1 hdg (kk H locs ls hR hS hl)
theorem hv_ldc (C : hv_C own cc nL Ts w p s m args meth c) {index : Nat} {v : Int32} (hk : Cond.constant own index v ∈ Ts) (hdg : decode cc pc = .ok (.ldc index, 2)) (kk : hv_V p l e R s m args below meth c w nL Q cells slots Y lv (pc + 2) (.int v :: rest)) : hv_V p l e R s m args below meth c w nL Q cells slots Y lv pc rest := fun H locs ls hR hS hl => lv_ldc C.1 C.2.1 C.2.2.2.1 (C.2.2.2.2.1 _ hk) hdg (kk H locs ls hR hS hl)
theorem hv_iload_n (C : hv_C own cc nL Ts w p s m args meth c) {k : Fin 4} {i : Nat} {x : Int32} (hdg : decode cc pc = .ok (.iload_n k, 1)) (hi : (k : Nat) = i) (j : Nat) (hj : lv[j]? = some (i, .int x)) (kk : hv_V p l e R s m args below meth c w nL Q cells slots Y lv (pc + 1) (.int x :: rest)) : hv_V p l e R s m args below meth c w nL Q cells slots Y lv pc rest := fun H locs ls hR hS hl => lv_iload_n C.1 C.2.1 hdg hi (lv_at hl j hj) (kk H locs ls hR hS hl)
theorem hv_iload (C : hv_C own cc nL Ts w p s m args meth c) {i : Nat} {x : Int32} (hdg : decode cc pc = .ok (.iload i, 2)) (j : Nat) (hj : lv[j]? = some (i, .int x)) (kk : hv_V p l e R s m args below meth c w nL Q cells slots Y lv (pc + 2) (.int x :: rest)) : hv_V p l e R s m args below meth c w nL Q cells slots Y lv pc rest := fun H locs ls hR hS hl => lv_iload C.1 C.2.1 hdg (lv_at hl j hj) (kk H locs ls hR hS hl)
theorem hv_aload_n (C : hv_C own cc nL Ts w p s m args meth c) {k : Fin 4} {i : Nat} {x : Nat} (hdg : decode cc pc = .ok (.aload_n k, 1)) (hi : (k : Nat) = i) (j : Nat) (hj : lv[j]? = some (i, .ref x)) (kk : hv_V p l e R s m args below meth c w nL Q cells slots Y lv (pc + 1) (.ref x :: rest)) : hv_V p l e R s m args below meth c w nL Q cells slots Y lv pc rest := fun H locs ls hR hS hl => lv_aload_n C.1 C.2.1 hdg hi (lv_at hl j hj) (kk H locs ls hR hS hl)
theorem hv_aload (C : hv_C own cc nL Ts w p s m args meth c) {i : Nat} {x : Nat} (hdg : decode cc pc = .ok (.aload i, 2)) (j : Nat) (hj : lv[j]? = some (i, .ref x)) (kk : hv_V p l e R s m args below meth c w nL Q cells slots Y lv (pc + 2) (.ref x :: rest)) : hv_V p l e R s m args below meth c w nL Q cells slots Y lv pc rest := fun H locs ls hR hS hl => lv_aload C.1 C.2.1 hdg (lv_at hl j hj) (kk H locs ls hR hS hl)
theorem hv_istore_n (C : hv_C own cc nL Ts w p s m args meth c) {k : Fin 4} {i : Nat} {x : Int32} {lv1 : List (Nat × Value)} (hdg : decode cc pc = .ok (.istore_n k, 1)) (hi : (k : Nat) = i) (hn : i < nL) (ks : List Nat) (hlv : lv_pick ((i, Value.int x) :: lv.filter (fun q => !(q.1 == i) && !(q.1 + 1 == i && q.2.category == 2))) ks = lv1) (kk : hv_V p l e R s m args below meth c w nL Q cells slots Y lv1 (pc + 1) rest) : hv_V p l e R s m args below meth c w nL Q cells slots Y lv pc (Value.int x :: rest) := fun H locs ls hR hS hl => lv_istore_n C.1 C.2.1 hdg hi hl hn rfl (fun ls1 hl1 => kk H locs ls1 hR hS (lv_sub hl1 ks hlv))
theorem hv_istore (C : hv_C own cc nL Ts w p s m args meth c) {i : Nat} {x : Int32} {lv1 : List (Nat × Value)} (hdg : decode cc pc = .ok (.istore i, 2))  (hn : i < nL) (ks : List Nat) (hlv : lv_pick ((i, Value.int x) :: lv.filter (fun q => !(q.1 == i) && !(q.1 + 1 == i && q.2.category == 2))) ks = lv1) (kk : hv_V p l e R s m args below meth c w nL Q cells slots Y lv1 (pc + 2) rest) : hv_V p l e R s m args below meth c w nL Q cells slots Y lv pc (Value.int x :: rest) := fun H locs ls hR hS hl => lv_istore C.1 C.2.1 hdg hl hn rfl (fun ls1 hl1 => kk H locs ls1 hR hS (lv_sub hl1 ks hlv))
theorem hv_astore_n (C : hv_C own cc nL Ts w p s m args meth c) {k : Fin 4} {i : Nat} {x : Nat} {lv1 : List (Nat × Value)} (hdg : decode cc pc = .ok (.astore_n k, 1)) (hi : (k : Nat) = i) (hn : i < nL) (ks : List Nat) (hlv : lv_pick ((i, Value.ref x) :: lv.filter (fun q => !(q.1 == i) && !(q.1 + 1 == i && q.2.category == 2))) ks = lv1) (kk : hv_V p l e R s m args below meth c w nL Q cells slots Y lv1 (pc + 1) rest) : hv_V p l e R s m args below meth c w nL Q cells slots Y lv pc (Value.ref x :: rest) := fun H locs ls hR hS hl => lv_astore_n C.1 C.2.1 hdg hi hl hn rfl (fun ls1 hl1 => kk H locs ls1 hR hS (lv_sub hl1 ks hlv))
theorem hv_astore (C : hv_C own cc nL Ts w p s m args meth c) {i : Nat} {x : Nat} {lv1 : List (Nat × Value)} (hdg : decode cc pc = .ok (.astore i, 2))  (hn : i < nL) (ks : List Nat) (hlv : lv_pick ((i, Value.ref x) :: lv.filter (fun q => !(q.1 == i) && !(q.1 + 1 == i && q.2.category == 2))) ks = lv1) (kk : hv_V p l e R s m args below meth c w nL Q cells slots Y lv1 (pc + 2) rest) : hv_V p l e R s m args below meth c w nL Q cells slots Y lv pc (Value.ref x :: rest) := fun H locs ls hR hS hl => lv_astore C.1 C.2.1 hdg hl hn rfl (fun ls1 hl1 => kk H locs ls1 hR hS (lv_sub hl1 ks hlv))
theorem hv_iinc (C : hv_C own cc nL Ts w p s m args meth c) {i k : Nat} {n : Int} {x v : Int32} {lv1 : List (Nat × Value)} (hdg : decode cc pc = .ok (.iinc i n, 3)) (hk : lv[k]? = some (i, .int x)) (hv : x + Int32.ofInt n = v) (hn : i < nL) (ks : List Nat) (hlv : lv_pick ((i, Value.int v) :: lv.filter (fun q => !(q.1 == i) && !(q.1 + 1 == i && q.2.category == 2))) ks = lv1) (kk : hv_V p l e R s m args below meth c w nL Q cells slots Y lv1 (pc + 3) rest) : hv_V p l e R s m args below meth c w nL Q cells slots Y lv pc rest := fun H locs ls hR hS hl => lv_iinc C.1 C.2.1 hdg hl hk hv hn rfl (fun ls1 hl1 => kk H locs ls1 hR hS (lv_sub hl1 ks hlv))
theorem hv_sub {lv1 : List (Nat × Value)} {st : List Value} (ks : List Nat) (hlv : lv_pick lv ks = lv1) (kk : hv_V p l e R s m args below meth c w nL Q cells slots Y lv1 pc st) : hv_V p l e R s m args below meth c w nL Q cells slots Y lv pc st := fun H locs ls hR hS hl => kk H locs ls hR hS (lv_sub hl ks hlv)
theorem hv_iadd (C : hv_C own cc nL Ts w p s m args meth c) {x y : Int32} (hdg : decode cc pc = .ok (.iadd, 1)) (kk : hv_V p l e R s m args below meth c w nL Q cells slots Y lv (pc + 1) (.int (x + y) :: rest)) : hv_V p l e R s m args below meth c w nL Q cells slots Y lv pc (.int y :: .int x :: rest) := fun H locs ls hR hS hl => lv_iadd C.1 C.2.1 hdg (kk H locs ls hR hS hl)
theorem hv_isub (C : hv_C own cc nL Ts w p s m args meth c) {x y : Int32} (hdg : decode cc pc = .ok (.isub, 1)) (kk : hv_V p l e R s m args below meth c w nL Q cells slots Y lv (pc + 1) (.int (x - y) :: rest)) : hv_V p l e R s m args below meth c w nL Q cells slots Y lv pc (.int y :: .int x :: rest) := fun H locs ls hR hS hl => lv_isub C.1 C.2.1 hdg (kk H locs ls hR hS hl)
theorem hv_imul (C : hv_C own cc nL Ts w p s m args meth c) {x y : Int32} (hdg : decode cc pc = .ok (.imul, 1)) (kk : hv_V p l e R s m args below meth c w nL Q cells slots Y lv (pc + 1) (.int (x * y) :: rest)) : hv_V p l e R s m args below meth c w nL Q cells slots Y lv pc (.int y :: .int x :: rest) := fun H locs ls hR hS hl => lv_imul C.1 C.2.1 hdg (kk H locs ls hR hS hl)
theorem hv_iand (C : hv_C own cc nL Ts w p s m args meth c) {x y : Int32} (hdg : decode cc pc = .ok (.iand, 1)) (kk : hv_V p l e R s m args below meth c w nL Q cells slots Y lv (pc + 1) (.int (x &&& y) :: rest)) : hv_V p l e R s m args below meth c w nL Q cells slots Y lv pc (.int y :: .int x :: rest) := fun H locs ls hR hS hl => lv_iand C.1 C.2.1 hdg (kk H locs ls hR hS hl)
theorem hv_ior (C : hv_C own cc nL Ts w p s m args meth c) {x y : Int32} (hdg : decode cc pc = .ok (.ior, 1)) (kk : hv_V p l e R s m args below meth c w nL Q cells slots Y lv (pc + 1) (.int (x ||| y) :: rest)) : hv_V p l e R s m args below meth c w nL Q cells slots Y lv pc (.int y :: .int x :: rest) := fun H locs ls hR hS hl => lv_ior C.1 C.2.1 hdg (kk H locs ls hR hS hl)
theorem hv_idiv (C : hv_C own cc nL Ts w p s m args meth c) {x y : Int32} (hdg : decode cc pc = .ok (.idiv, 1)) (hne : ¬ y = 0) (kk : hv_V p l e R s m args below meth c w nL Q cells slots Y lv (pc + 1) (.int (x / y) :: rest)) : hv_V p l e R s m args below meth c w nL Q cells slots Y lv pc (.int y :: .int x :: rest) := fun H locs ls hR hS hl => lv_idiv C.1 C.2.1 hdg hne (kk H locs ls hR hS hl)
theorem hv_irem (C : hv_C own cc nL Ts w p s m args meth c) {x y : Int32} (hdg : decode cc pc = .ok (.irem, 1)) (hne : ¬ y = 0) (kk : hv_V p l e R s m args below meth c w nL Q cells slots Y lv (pc + 1) (.int (x - x / y * y) :: rest)) : hv_V p l e R s m args below meth c w nL Q cells slots Y lv pc (.int y :: .int x :: rest) := fun H locs ls hR hS hl => lv_irem C.1 C.2.1 hdg hne (kk H locs ls hR hS hl)
theorem hv_ishl (C : hv_C own cc nL Ts w p s m args meth c) {x y : Int32} (hdg : decode cc pc = .ok (.ishl, 1)) (kk : hv_V p l e R s m args below meth c w nL Q cells slots Y lv (pc + 1) (.int (x <<< (y &&& 31)) :: rest)) : hv_V p l e R s m args below meth c w nL Q cells slots Y lv pc (.int y :: .int x :: rest) := fun H locs ls hR hS hl => lv_ishl C.1 C.2.1 hdg (kk H locs ls hR hS hl)
theorem hv_ishr (C : hv_C own cc nL Ts w p s m args meth c) {x y : Int32} (hdg : decode cc pc = .ok (.ishr, 1)) (kk : hv_V p l e R s m args below meth c w nL Q cells slots Y lv (pc + 1) (.int (x >>> (y &&& 31)) :: rest)) : hv_V p l e R s m args below meth c w nL Q cells slots Y lv pc (.int y :: .int x :: rest) := fun H locs ls hR hS hl => lv_ishr C.1 C.2.1 hdg (kk H locs ls hR hS hl)
theorem hv_i2l (C : hv_C own cc nL Ts w p s m args meth c) {x : Int32} {v : Int64} (hdg : decode cc pc = .ok (.i2l, 1)) (hv : x.toInt64 = v) (kk : hv_V p l e R s m args below meth c w nL Q cells slots Y lv (pc + 1) (.long v :: rest)) : hv_V p l e R s m args below meth c w nL Q cells slots Y lv pc (.int x :: rest) := fun H locs ls hR hS hl => lv_i2l C.1 C.2.1 hdg hv (kk H locs ls hR hS hl)
theorem hv_dup (C : hv_C own cc nL Ts w p s m args meth c) {va : Value} (hdg : decode cc pc = .ok (.dup, 1)) (hva : va.category = 1) (kk : hv_V p l e R s m args below meth c w nL Q cells slots Y lv (pc + 1) (va :: va :: rest)) : hv_V p l e R s m args below meth c w nL Q cells slots Y lv pc (va :: rest) := fun H locs ls hR hS hl => lv_dup C.1 C.2.1 hdg hva (kk H locs ls hR hS hl)
theorem hv_dup_x1 (C : hv_C own cc nL Ts w p s m args meth c) {va vb : Value} (hdg : decode cc pc = .ok (.dup_x1, 1)) (hva : va.category = 1) (hvb : vb.category = 1) (kk : hv_V p l e R s m args below meth c w nL Q cells slots Y lv (pc + 1) (va :: vb :: va :: rest)) : hv_V p l e R s m args below meth c w nL Q cells slots Y lv pc (va :: vb :: rest) := fun H locs ls hR hS hl => lv_dup_x1 C.1 C.2.1 hdg hva hvb (kk H locs ls hR hS hl)
theorem hv_dup2 (C : hv_C own cc nL Ts w p s m args meth c) {va vb : Value} (hdg : decode cc pc = .ok (.dup2, 1)) (hva : va.category = 1) (hvb : vb.category = 1) (kk : hv_V p l e R s m args below meth c w nL Q cells slots Y lv (pc + 1) (va :: vb :: va :: vb :: rest)) : hv_V p l e R s m args below meth c w nL Q cells slots Y lv pc (va :: vb :: rest) := fun H locs ls hR hS hl => lv_dup2_11 C.1 C.2.1 hdg hva hvb (kk H locs ls hR hS hl)
theorem hv_pop (C : hv_C own cc nL Ts w p s m args meth c) {va : Value} (hdg : decode cc pc = .ok (.pop, 1)) (hva : va.category = 1) (kk : hv_V p l e R s m args below meth c w nL Q cells slots Y lv (pc + 1) rest) : hv_V p l e R s m args below meth c w nL Q cells slots Y lv pc (va :: rest) := fun H locs ls hR hS hl => lv_pop C.1 C.2.1 hdg hva (kk H locs ls hR hS hl)
theorem hv_if_eq (C : hv_C own cc nL Ts w p s m args meth c) {x : Int32} {off : Int} {tgt : Nat} (hdg : decode cc pc = .ok (.ifCond .eq off, 3)) (ht : (pc : Int) + off = (tgt : Int)) (kt : x = 0 → hv_V p l e R s m args below meth c w nL Q cells slots Y lv tgt rest) (kf : ¬ x = 0 → hv_V p l e R s m args below meth c w nL Q cells slots Y lv (pc + 3) rest) : hv_V p l e R s m args below meth c w nL Q cells slots Y lv pc (.int x :: rest) := fun H locs ls hR hS hl => lv_if_eq C.1 C.2.1 hdg ht (fun h => kt h H locs ls hR hS hl) (fun h => kf h H locs ls hR hS hl)
theorem hv_if_ne (C : hv_C own cc nL Ts w p s m args meth c) {x : Int32} {off : Int} {tgt : Nat} (hdg : decode cc pc = .ok (.ifCond .ne off, 3)) (ht : (pc : Int) + off = (tgt : Int)) (kt : ¬ x = 0 → hv_V p l e R s m args below meth c w nL Q cells slots Y lv tgt rest) (kf : x = 0 → hv_V p l e R s m args below meth c w nL Q cells slots Y lv (pc + 3) rest) : hv_V p l e R s m args below meth c w nL Q cells slots Y lv pc (.int x :: rest) := fun H locs ls hR hS hl => lv_if_ne C.1 C.2.1 hdg ht (fun h => kt h H locs ls hR hS hl) (fun h => kf h H locs ls hR hS hl)
theorem hv_if_lt (C : hv_C own cc nL Ts w p s m args meth c) {x : Int32} {off : Int} {tgt : Nat} (hdg : decode cc pc = .ok (.ifCond .lt off, 3)) (ht : (pc : Int) + off = (tgt : Int)) (kt : x < 0 → hv_V p l e R s m args below meth c w nL Q cells slots Y lv tgt rest) (kf : ¬ x < 0 → hv_V p l e R s m args below meth c w nL Q cells slots Y lv (pc + 3) rest) : hv_V p l e R s m args below meth c w nL Q cells slots Y lv pc (.int x :: rest) := fun H locs ls hR hS hl => lv_if_lt C.1 C.2.1 hdg ht (fun h => kt h H locs ls hR hS hl) (fun h => kf h H locs ls hR hS hl)
theorem hv_if_ge (C : hv_C own cc nL Ts w p s m args meth c) {x : Int32} {off : Int} {tgt : Nat} (hdg : decode cc pc = .ok (.ifCond .ge off, 3)) (ht : (pc : Int) + off = (tgt : Int)) (kt : 0 ≤ x → hv_V p l e R s m args below meth c w nL Q cells slots Y lv tgt rest) (kf : ¬ 0 ≤ x → hv_V p l e R s m args below meth c w nL Q cells slots Y lv (pc + 3) rest) : hv_V p l e R s m args below meth c w nL Q cells slots Y lv pc (.int x :: rest) := fun H locs ls hR hS hl => lv_if_ge C.1 C.2.1 hdg ht (fun h => kt h H locs ls hR hS hl) (fun h => kf h H locs ls hR hS hl)
theorem hv_if_gt (C : hv_C own cc nL Ts w p s m args meth c) {x : Int32} {off : Int} {tgt : Nat} (hdg : decode cc pc = .ok (.ifCond .gt off, 3)) (ht : (pc : Int) + off = (tgt : Int)) (kt : 0 < x → hv_V p l e R s m args below meth c w nL Q cells slots Y lv tgt rest) (kf : ¬ 0 < x → hv_V p l e R s m args below meth c w nL Q cells slots Y lv (pc + 3) rest) : hv_V p l e R s m args below meth c w nL Q cells slots Y lv pc (.int x :: rest) := fun H locs ls hR hS hl => lv_if_gt C.1 C.2.1 hdg ht (fun h => kt h H locs ls hR hS hl) (fun h => kf h H locs ls hR hS hl)
theorem hv_if_le (C : hv_C own cc nL Ts w p s m args meth c) {x : Int32} {off : Int} {tgt : Nat} (hdg : decode cc pc = .ok (.ifCond .le off, 3)) (ht : (pc : Int) + off = (tgt : Int)) (kt : x ≤ 0 → hv_V p l e R s m args below meth c w nL Q cells slots Y lv tgt rest) (kf : ¬ x ≤ 0 → hv_V p l e R s m args below meth c w nL Q cells slots Y lv (pc + 3) rest) : hv_V p l e R s m args below meth c w nL Q cells slots Y lv pc (.int x :: rest) := fun H locs ls hR hS hl => lv_if_le C.1 C.2.1 hdg ht (fun h => kt h H locs ls hR hS hl) (fun h => kf h H locs ls hR hS hl)
theorem hv_icmp_eq (C : hv_C own cc nL Ts w p s m args meth c) {x y : Int32} {off : Int} {tgt : Nat} (hdg : decode cc pc = .ok (.if_icmp .eq off, 3)) (ht : (pc : Int) + off = (tgt : Int)) (kt : x = y → hv_V p l e R s m args below meth c w nL Q cells slots Y lv tgt rest) (kf : ¬ x = y → hv_V p l e R s m args below meth c w nL Q cells slots Y lv (pc + 3) rest) : hv_V p l e R s m args below meth c w nL Q cells slots Y lv pc (.int y :: .int x :: rest) := fun H locs ls hR hS hl => lv_icmp_eq C.1 C.2.1 hdg ht (fun h => kt h H locs ls hR hS hl) (fun h => kf h H locs ls hR hS hl)
theorem hv_icmp_ne (C : hv_C own cc nL Ts w p s m args meth c) {x y : Int32} {off : Int} {tgt : Nat} (hdg : decode cc pc = .ok (.if_icmp .ne off, 3)) (ht : (pc : Int) + off = (tgt : Int)) (kt : ¬ x = y → hv_V p l e R s m args below meth c w nL Q cells slots Y lv tgt rest) (kf : x = y → hv_V p l e R s m args below meth c w nL Q cells slots Y lv (pc + 3) rest) : hv_V p l e R s m args below meth c w nL Q cells slots Y lv pc (.int y :: .int x :: rest) := fun H locs ls hR hS hl => lv_icmp_ne C.1 C.2.1 hdg ht (fun h => kt h H locs ls hR hS hl) (fun h => kf h H locs ls hR hS hl)
theorem hv_icmp_lt (C : hv_C own cc nL Ts w p s m args meth c) {x y : Int32} {off : Int} {tgt : Nat} (hdg : decode cc pc = .ok (.if_icmp .lt off, 3)) (ht : (pc : Int) + off = (tgt : Int)) (kt : x < y → hv_V p l e R s m args below meth c w nL Q cells slots Y lv tgt rest) (kf : ¬ x < y → hv_V p l e R s m args below meth c w nL Q cells slots Y lv (pc + 3) rest) : hv_V p l e R s m args below meth c w nL Q cells slots Y lv pc (.int y :: .int x :: rest) := fun H locs ls hR hS hl => lv_icmp_lt C.1 C.2.1 hdg ht (fun h => kt h H locs ls hR hS hl) (fun h => kf h H locs ls hR hS hl)
theorem hv_icmp_ge (C : hv_C own cc nL Ts w p s m args meth c) {x y : Int32} {off : Int} {tgt : Nat} (hdg : decode cc pc = .ok (.if_icmp .ge off, 3)) (ht : (pc : Int) + off = (tgt : Int)) (kt : y ≤ x → hv_V p l e R s m args below meth c w nL Q cells slots Y lv tgt rest) (kf : ¬ y ≤ x → hv_V p l e R s m args below meth c w nL Q cells slots Y lv (pc + 3) rest) : hv_V p l e R s m args below meth c w nL Q cells slots Y lv pc (.int y :: .int x :: rest) := fun H locs ls hR hS hl => lv_icmp_ge C.1 C.2.1 hdg ht (fun h => kt h H locs ls hR hS hl) (fun h => kf h H locs ls hR hS hl)
theorem hv_icmp_gt (C : hv_C own cc nL Ts w p s m args meth c) {x y : Int32} {off : Int} {tgt : Nat} (hdg : decode cc pc = .ok (.if_icmp .gt off, 3)) (ht : (pc : Int) + off = (tgt : Int)) (kt : y < x → hv_V p l e R s m args below meth c w nL Q cells slots Y lv tgt rest) (kf : ¬ y < x → hv_V p l e R s m args below meth c w nL Q cells slots Y lv (pc + 3) rest) : hv_V p l e R s m args below meth c w nL Q cells slots Y lv pc (.int y :: .int x :: rest) := fun H locs ls hR hS hl => lv_icmp_gt C.1 C.2.1 hdg ht (fun h => kt h H locs ls hR hS hl) (fun h => kf h H locs ls hR hS hl)
theorem hv_icmp_le (C : hv_C own cc nL Ts w p s m args meth c) {x y : Int32} {off : Int} {tgt : Nat} (hdg : decode cc pc = .ok (.if_icmp .le off, 3)) (ht : (pc : Int) + off = (tgt : Int)) (kt : x ≤ y → hv_V p l e R s m args below meth c w nL Q cells slots Y lv tgt rest) (kf : ¬ x ≤ y → hv_V p l e R s m args below meth c w nL Q cells slots Y lv (pc + 3) rest) : hv_V p l e R s m args below meth c w nL Q cells slots Y lv pc (.int y :: .int x :: rest) := fun H locs ls hR hS hl => lv_icmp_le C.1 C.2.1 hdg ht (fun h => kt h H locs ls hR hS hl) (fun h => kf h H locs ls hR hS hl)
theorem hv_acmp_eq (C : hv_C own cc nL Ts w p s m args meth c) {rx ry : Option Nat} {off : Int} {tgt : Nat} (hdg : decode cc pc = .ok (.if_acmp .eq off, 3)) (ht : (pc : Int) + off = (tgt : Int)) (kt : rx = ry → hv_V p l e R s m args below meth c w nL Q cells slots Y lv tgt rest) (kf : ¬ rx = ry → hv_V p l e R s m args below meth c w nL Q cells slots Y lv (pc + 3) rest) : hv_V p l e R s m args below meth c w nL Q cells slots Y lv pc (va_rf ry :: va_rf rx :: rest) := fun H locs ls hR hS hl => lv_acmp_eq C.1 C.2.1 hdg ht (fun h => kt h H locs ls hR hS hl) (fun h => kf h H locs ls hR hS hl)
theorem hv_acmpR_eq (C : hv_C own cc nL Ts w p s m args meth c) {x y : Nat} {off : Int} {tgt : Nat} (hdg : decode cc pc = .ok (.if_acmp .eq off, 3)) (ht : (pc : Int) + off = (tgt : Int)) (kt : x = y → hv_V p l e R s m args below meth c w nL Q cells slots Y lv tgt rest) (kf : ¬ x = y → hv_V p l e R s m args below meth c w nL Q cells slots Y lv (pc + 3) rest) : hv_V p l e R s m args below meth c w nL Q cells slots Y lv pc (.ref y :: .ref x :: rest) := hv_acmp_eq C (rx := some x) (ry := some y) hdg ht (fun h => kt (by first | exact Option.some.inj h | exact fun q => h (congrArg some q))) (fun h => kf (by first | exact Option.some.inj h | exact fun q => h (congrArg some q)))
theorem hv_acmp_ne (C : hv_C own cc nL Ts w p s m args meth c) {rx ry : Option Nat} {off : Int} {tgt : Nat} (hdg : decode cc pc = .ok (.if_acmp .ne off, 3)) (ht : (pc : Int) + off = (tgt : Int)) (kt : ¬ rx = ry → hv_V p l e R s m args below meth c w nL Q cells slots Y lv tgt rest) (kf : rx = ry → hv_V p l e R s m args below meth c w nL Q cells slots Y lv (pc + 3) rest) : hv_V p l e R s m args below meth c w nL Q cells slots Y lv pc (va_rf ry :: va_rf rx :: rest) := fun H locs ls hR hS hl => lv_acmp_ne C.1 C.2.1 hdg ht (fun h => kt h H locs ls hR hS hl) (fun h => kf h H locs ls hR hS hl)
theorem hv_acmpR_ne (C : hv_C own cc nL Ts w p s m args meth c) {x y : Nat} {off : Int} {tgt : Nat} (hdg : decode cc pc = .ok (.if_acmp .ne off, 3)) (ht : (pc : Int) + off = (tgt : Int)) (kt : ¬ x = y → hv_V p l e R s m args below meth c w nL Q cells slots Y lv tgt rest) (kf : x = y → hv_V p l e R s m args below meth c w nL Q cells slots Y lv (pc + 3) rest) : hv_V p l e R s m args below meth c w nL Q cells slots Y lv pc (.ref y :: .ref x :: rest) := hv_acmp_ne C (rx := some x) (ry := some y) hdg ht (fun h => kt (by first | exact Option.some.inj h | exact fun q => h (congrArg some q))) (fun h => kf (by first | exact Option.some.inj h | exact fun q => h (congrArg some q)))
theorem hv_goto (C : hv_C own cc nL Ts w p s m args meth c) {off : Int} {tgt : Nat} (hdg : decode cc pc = .ok (.goto off, 3)) (ht : (pc : Int) + off = (tgt : Int)) (kk : hv_V p l e R s m args below meth c w nL Q cells slots Y lv tgt rest) : hv_V p l e R s m args below meth c w nL Q cells slots Y lv pc rest := fun H locs ls hR hS hl => lv_goto C.1 C.2.1 hdg ht (kk H locs ls hR hS hl)
theorem hv_ifnullN (C : hv_C own cc nL Ts w p s m args meth c) {off : Int} {tgt : Nat} (hdg : decode cc pc = .ok (.ifnull off, 3)) (ht : (pc : Int) + off = (tgt : Int)) (kk : hv_V p l e R s m args below meth c w nL Q cells slots Y lv tgt rest) : hv_V p l e R s m args below meth c w nL Q cells slots Y lv pc (.null :: rest) := fun H locs ls hR hS hl => lv_ifnullN C.1 C.2.1 hdg ht (kk H locs ls hR hS hl)
theorem hv_ifnullR (C : hv_C own cc nL Ts w p s m args meth c) {off : Int} {x : Nat} (hdg : decode cc pc = .ok (.ifnull off, 3)) (kk : hv_V p l e R s m args below meth c w nL Q cells slots Y lv (pc + 3) rest) : hv_V p l e R s m args below meth c w nL Q cells slots Y lv pc (.ref x :: rest) := fun H locs ls hR hS hl => lv_ifnull C.1 C.2.1 hdg (kk H locs ls hR hS hl)
theorem hv_ifnonnullR (C : hv_C own cc nL Ts w p s m args meth c) {off : Int} {x tgt : Nat} (hdg : decode cc pc = .ok (.ifnonnull off, 3)) (ht : (pc : Int) + off = (tgt : Int)) (kk : hv_V p l e R s m args below meth c w nL Q cells slots Y lv tgt rest) : hv_V p l e R s m args below meth c w nL Q cells slots Y lv pc (.ref x :: rest) := fun H locs ls hR hS hl => lv_ifnonnull C.1 C.2.1 hdg ht (kk H locs ls hR hS hl)
theorem hv_ifnonnullN (C : hv_C own cc nL Ts w p s m args meth c) {off : Int} (hdg : decode cc pc = .ok (.ifnonnull off, 3)) (kk : hv_V p l e R s m args below meth c w nL Q cells slots Y lv (pc + 3) rest) : hv_V p l e R s m args below meth c w nL Q cells slots Y lv pc (.null :: rest) := fun H locs ls hR hS hl => lv_ifnonnullN C.1 C.2.1 hdg (kk H locs ls hR hS hl)
theorem hv_aload_nN (C : hv_C own cc nL Ts w p s m args meth c) {k : Fin 4} {i : Nat} (hdg : decode cc pc = .ok (.aload_n k, 1)) (hi : (k : Nat) = i) (j : Nat) (hj : lv[j]? = some (i, .null)) (kk : hv_V p l e R s m args below meth c w nL Q cells slots Y lv (pc + 1) (.null :: rest)) : hv_V p l e R s m args below meth c w nL Q cells slots Y lv pc rest := fun H locs ls hR hS hl => lv_aload_nN C.1 C.2.1 hdg hi (lv_at hl j hj) (kk H locs ls hR hS hl)
theorem hv_aloadN (C : hv_C own cc nL Ts w p s m args meth c) {i : Nat} (hdg : decode cc pc = .ok (.aload i, 2)) (j : Nat) (hj : lv[j]? = some (i, .null)) (kk : hv_V p l e R s m args below meth c w nL Q cells slots Y lv (pc + 2) (.null :: rest)) : hv_V p l e R s m args below meth c w nL Q cells slots Y lv pc rest := fun H locs ls hR hS hl => lv_aloadN C.1 C.2.1 hdg (lv_at hl j hj) (kk H locs ls hR hS hl)
theorem hv_astore_nN (C : hv_C own cc nL Ts w p s m args meth c) {k : Fin 4} {i : Nat} {lv1 : List (Nat × Value)} (hdg : decode cc pc = .ok (.astore_n k, 1)) (hi : (k : Nat) = i) (hn : i < nL) (ks : List Nat) (hlv : lv_pick ((i, Value.null) :: lv.filter (fun q => !(q.1 == i) && !(q.1 + 1 == i && q.2.category == 2))) ks = lv1) (kk : hv_V p l e R s m args below meth c w nL Q cells slots Y lv1 (pc + 1) rest) : hv_V p l e R s m args below meth c w nL Q cells slots Y lv pc (Value.null :: rest) := fun H locs ls hR hS hl => lv_astore_nN C.1 C.2.1 hdg hi hl hn rfl (fun ls1 hl1 => kk H locs ls1 hR hS (lv_sub hl1 ks hlv))
theorem hv_astoreN (C : hv_C own cc nL Ts w p s m args meth c) {i : Nat} {lv1 : List (Nat × Value)} (hdg : decode cc pc = .ok (.astore i, 2))  (hn : i < nL) (ks : List Nat) (hlv : lv_pick ((i, Value.null) :: lv.filter (fun q => !(q.1 == i) && !(q.1 + 1 == i && q.2.category == 2))) ks = lv1) (kk : hv_V p l e R s m args below meth c w nL Q cells slots Y lv1 (pc + 2) rest) : hv_V p l e R s m args below meth c w nL Q cells slots Y lv pc (Value.null :: rest) := fun H locs ls hR hS hl => lv_astoreN C.1 C.2.1 hdg hl hn rfl (fun ls1 hl1 => kk H locs ls1 hR hS (lv_sub hl1 ks hlv))
theorem hv_getf (C : hv_C own cc nL Ts w p s m args meth c) {ref Cn : String} {T : u_T} {N ci k index a : Nat} {fs : List Value} {v : Value} (hin : ∀ x ∈ u_ws Cn T N, x ∈ Ts) (hc : vwCl[ci]? = some (Cn, T, N)) (hY : Y a = some (.inl (.inr (ci, fs)))) (hk : k < N) (hlink : Cond.fieldLink own index ref (T k).2.1 (T k).2.2.1 ∈ Ts) (hsame : ∀ x, s.fieldFound? (T k).1 (T k).2.1 (T k).2.2.1 = some x → s.fieldFound? ref (T k).2.1 (T k).2.2.1 = some x) (hv : fs[k]? = some v) (hdg : decode cc pc = .ok (.getfield index, 3))
    (kk : hv_V p l e R s m args below meth c w nL Q cells slots Y lv (pc + 3) (v :: rest)) : hv_V p l e R s m args below meth c w nL Q cells slots Y lv pc (.ref a :: rest) := fun H locs ls hR hS hl =>
  va_get C.1 C.2.1 C.2.2.2.2.1 hin C.2.2.2.1 C.2.2.2.2.2.2.1.1 (hR.at hY) 0 rfl hc k hk (C.2.2.2.2.1 _ hlink) hsame hv hdg (kk H locs ls hR hS hl)
theorem hv_putf (C : hv_C own cc nL Ts w p s m args meth c) {ref Cn : String} {T : u_T} {N ci k index a : Nat} {fs : List Value} {v : Value} {ty : FieldType} (hin : ∀ x ∈ u_ws Cn T N, x ∈ Ts) (ty0 : Nat → FieldType) (hty : ∀ k, k < N → parseFieldDescriptor (T k).2.2.1 = some (ty0 k)) (hnm : ∀ a, a < N → ∀ b, b < N → a ≠ b → (T a).2.1 ≠ (T b).2.1) (hc : vwCl[ci]? = some (Cn, T, N)) (hY : Y a = some (.inl (.inr (ci, fs)))) (hk : k < N) (hlink : Cond.fieldLink own index ref (T k).2.1 (T k).2.2.1 ∈ Ts) (hsame : ∀ x, s.fieldFound? (T k).1 (T k).2.1 (T k).2.2.1 = some x → s.fieldFound? ref (T k).2.1 (T k).2.2.1 = some x) (hfin : (T k).2.2.2 = false) (hd : parseFieldDescriptor (T k).2.2.1 = some ty) (hn : narrow ty v = v) (hfit : fits ty v = true) (hl9 : k < fs.length) (hdg : decode cc pc = .ok (.putfield index, 3))
    (kk : hv_V p l e R s m args below meth c w nL Q cells slots (hv_up Y a (.inl (.inr (ci, fs.set k v)))) lv (pc + 3) rest) : hv_V p l e R s m args below meth c w nL Q cells slots Y lv pc (v :: .ref a :: rest) := by
  intro H locs ls hR hS hl
  have hts := C.2.2.2.2.1
  have hown := C.2.2.2.1
  have hK := C.2.2.2.2.2.2.1.1
  have hap := va_apart (own := own) hts hin ty0 hty hnm hK hc
  obtain ⟨r, h1, cell, q1, q2, q3, q4⟩ := hR.at hY 0 _ rfl
  have hr : r = (Cn, T, N) := Option.some.inj (h1.symm.trans hc)
  subst hr
  obtain ⟨hS9, hfc, kC, hkC, hkind⟩ := hK.1 ci _ hc
  obtain ⟨cf, kf, fi, f, hi, hsl⟩ := hS9 k hk
  have hlay := hts _ (hin _ (u_in_lay hk))
  unfold u_lay at hlay
  rw [if_neg (by rw [hfin]; decide)] at hlay
  have hst := (u_facts hfc hkC (u_lays hts hin hk) hi).1
  have h6 := u_store hfc hkC hkind hlay hi hd hn hfit
  refine W.putK C.1 C.2.1 (f := f) ⟨hown, hts _ hlink, ⟨_, _, _, hsame _ hi⟩, hst⟩ (by rw [q2]; exact h6) q1 q3 (by rw [hsl]; exact k2_hasslot (q4 k hk)) rfl rfl hdg fun H1 e1 e2 e3 => ?_
  rw [hsl] at e1 ⊢
  exact kk H1 _ ls (hR.put hY ⟨_, hc, t_OB.to (V := updV (vp_V fs) k v) ⟨_, e1, q2, q3, t_set q4 hap hk v⟩ (fun j _ => vp_updV_set hl9 v j)⟩ e2 e3) (hS.put e2 e3 (hR.own hY).1) hl
theorem hv_putfF (C : hv_C own cc nL Ts w p s m args meth c) {ref Cn : String} {T : u_T} {N ci k index a : Nat} {fs : List Value} {v : Value} {ty : FieldType} (hin : ∀ x ∈ u_ws Cn T N, x ∈ Ts) (ty0 : Nat → FieldType) (hty : ∀ k, k < N → parseFieldDescriptor (T k).2.2.1 = some (ty0 k)) (hnm : ∀ a, a < N → ∀ b, b < N → a ≠ b → (T a).2.1 ≠ (T b).2.1) (hc : vwCl[ci]? = some (Cn, T, N)) (hY : Y a = some (.inl (.inr (ci, fs)))) (hk : k < N) (hlink : Cond.fieldLink own index ref (T k).2.1 (T k).2.2.1 ∈ Ts) (hsame : ∀ x, s.fieldFound? (T k).1 (T k).2.1 (T k).2.2.1 = some x → s.fieldFound? ref (T k).2.1 (T k).2.2.1 = some x) (hfin : (T k).2.2.2 = true) (hin2 : meth.name = "<init>") (hdecl : (T k).1 = own) (hd : parseFieldDescriptor (T k).2.2.1 = some ty) (hn : narrow ty v = v) (hfit : fits ty v = true) (hl9 : k < fs.length) (hdg : decode cc pc = .ok (.putfield index, 3))
    (kk : hv_V p l e R s m args below meth c w nL Q cells slots (hv_up Y a (.inl (.inr (ci, fs.set k v)))) lv (pc + 3) rest) : hv_V p l e R s m args below meth c w nL Q cells slots Y lv pc (v :: .ref a :: rest) := by
  intro H locs ls hR hS hl
  have hts := C.2.2.2.2.1
  have hown := C.2.2.2.1
  have hK := C.2.2.2.2.2.2.1.1
  have hap := va_apart (own := own) hts hin ty0 hty hnm hK hc
  obtain ⟨r, h1, cell, q1, q2, q3, q4⟩ := hR.at hY 0 _ rfl
  have hr : r = (Cn, T, N) := Option.some.inj (h1.symm.trans hc)
  subst hr
  obtain ⟨hS9, hfc, kC, hkC, hkind⟩ := hK.1 ci _ hc
  obtain ⟨cf, kf, fi, f, hi, hsl⟩ := hS9 k hk
  have hlay := hts _ (hin _ (u_in_lay hk))
  unfold u_lay at hlay
  rw [if_pos hfin] at hlay
  have hst := (u_facts hfc hkC (u_lays hts hin hk) hi).1
  have hcf : m.cls = cf := by
    obtain ⟨_, _, c', _, _, _, -, -, hf', -, -, -, hown2, -⟩ := Cond.laysFinal_spec hlay
    have e1 : c' = cf := by have := hi.symm.trans hf'; simp at this; exact this.1.symm
    rw [hdecl] at hown2
    rw [← e1]; exact Option.some.inj (hown.symm.trans hown2)
  have h6 := u_fits hfc hkC hkind (Or.inr hlay) hi hd hn hfit
  refine W.putFinK C.1 C.2.1 hown (hts _ hlink) (hsame _ hi) hst hcf hin2 (by rw [q2]; exact h6) q1 q3 (by rw [hsl]; exact k2_hasslot (q4 k hk)) rfl rfl hdg fun H1 e1 e2 e3 => ?_
  rw [hsl] at e1 ⊢
  exact kk H1 _ ls (hR.put hY ⟨_, hc, t_OB.to (V := updV (vp_V fs) k v) ⟨_, e1, q2, q3, t_set q4 hap hk v⟩ (fun j _ => vp_updV_set hl9 v j)⟩ e2 e3) (hS.put e2 e3 (hR.own hY).1) hl
/-- a static that nobody writes -/
theorem hv_gets (C : hv_C own cc nL Ts w p s m args meth c) {index : Nat} (hlink : Cond.fieldLink own index "java/util/ArrayList" "DEFAULTCAPACITY_EMPTY_ELEMENTDATA" "[Ljava/lang/Object;" ∈ Ts) (hdg : decode cc pc = .ok (.getstatic index, 3)) (kk : hv_V p l e R s m args below meth c w nL Q cells slots Y lv (pc + 3) (.ref (hv_t w) :: rest)) : hv_V p l e R s m args below meth c w nL Q cells slots Y lv pc rest := fun H locs ls hR hS hl =>
  va_gets C.1 C.2.1 C.2.2.2.2.2.2.1.2.1 hS C.2.2.2.1 (C.2.2.2.2.1 _ hlink) (fun _ h => h) hdg (kk H locs ls hR hS hl)
/-! arrays -/
theorem hv_iald (C : hv_C own cc nL Ts w p s m args meth c) {a n : Nat} {f : Nat → Int32} {i : Int32} (hY : Y a = some (.inl (.inl (hv_c w 0, n, .inl f)))) (hin : vp_in i n) (hdg : decode cc pc = .ok (.iaload, 1)) (kk : hv_V p l e R s m args below meth c w nL Q cells slots Y lv (pc + 1) (.int (f i.toNatClampNeg) :: rest)) : hv_V p l e R s m args below meth c w nL Q cells slots Y lv pc (.int i :: .ref a :: rest) := fun H locs ls hR hS hl =>
  va_iald C.1 C.2.1 C.2.2.2.2.2.2.1.1 (hR.at hY) 0 0 rfl rfl hin hdg (kk H locs ls hR hS hl)
theorem hv_zald (C : hv_C own cc nL Ts w p s m args meth c) {a n : Nat} {f : Nat → Int32} {i : Int32} (hY : Y a = some (.inl (.inl (hv_c w 1, n, .inl f)))) (hin : vp_in i n) (hdg : decode cc pc = .ok (.baload, 1)) (kk : hv_V p l e R s m args below meth c w nL Q cells slots Y lv (pc + 1) (.int (f i.toNatClampNeg) :: rest)) : hv_V p l e R s m args below meth c w nL Q cells slots Y lv pc (.int i :: .ref a :: rest) := fun H locs ls hR hS hl =>
  va_zald C.1 C.2.1 C.2.2.2.2.2.2.1.1 (hR.at hY) 0 1 rfl rfl hin hdg (kk H locs ls hR hS hl)
theorem hv_aald (C : hv_C own cc nL Ts w p s m args meth c) {a n : Nat} {f : Nat → Option Nat} {i : Int32} (t0 : Nat) {Cn : String} {cA : ClassId} (ht : (hv_T w)[t0]? = some (cA, .object Cn)) (hY : Y a = some (.inl (.inl (cA, n, hv_ref f)))) (hin : vp_in i n) (hdg : decode cc pc = .ok (.aaload, 1)) (kk : hv_V p l e R s m args below meth c w nL Q cells slots Y lv (pc + 1) (va_rf (f i.toNatClampNeg) :: rest)) : hv_V p l e R s m args below meth c w nL Q cells slots Y lv pc (.int i :: .ref a :: rest) := fun H locs ls hR hS hl =>
  va_aldq C.1 C.2.1 C.2.2.2.2.2.2.1.1 (hR.at hY) 0 t0 rfl ht hin hdg (kk H locs ls hR hS hl)
theorem hv_iast (C : hv_C own cc nL Ts w p s m args meth c) {a n : Nat} {f : Nat → Int32} {i x : Int32} (hY : Y a = some (.inl (.inl (hv_c w 0, n, .inl f)))) (hin : vp_in i n) (hdg : decode cc pc = .ok (.iastore, 1)) (kk : hv_V p l e R s m args below meth c w nL Q cells slots (hv_up Y a (.inl (.inl (hv_c w 0, n, .inl (upd f i.toNatClampNeg x))))) lv (pc + 1) rest) : hv_V p l e R s m args below meth c w nL Q cells slots Y lv pc (.int x :: .int i :: .ref a :: rest) := by
  intro H locs ls hR hS hl
  refine W.iast C.1 C.2.1 (hR.at hY 0 _ rfl) ((C.2.2.2.2.2.2.1.1.2 0 _ rfl).1 n (fun j => .int (f j))) (fun q => by cases q) (by show ¬ (i < 0 ∨ (arrV _ _ _).slots.size ≤ _); rw [arrV_size]; exact hin) rfl rfl hdg fun H1 e z oq => ?_
  refine kk H1 _ ls (hR.put hY ?_ z oq) (hS.put z oq (hR.own hY).1) hl
  show H1[a]? = some (vp_cell _ _)
  rw [e]
  rw [vp_cell_i, vp_cell_i, arrV_store]
  congr 2
  funext q
  by_cases hq : q = i.toNatClampNeg
  · subst hq
    simp [updV, upd]
  · simp [updV, upd, hq]
theorem hv_zast (C : hv_C own cc nL Ts w p s m args meth c) {a n : Nat} {f : Nat → Int32} {i x : Int32} (hY : Y a = some (.inl (.inl (hv_c w 1, n, .inl f)))) (hx : vp_nar .boolean x = x) (hin : vp_in i n) (hdg : decode cc pc = .ok (.bastore, 1)) (kk : hv_V p l e R s m args below meth c w nL Q cells slots (hv_up Y a (.inl (.inl (hv_c w 1, n, .inl (upd f i.toNatClampNeg x))))) lv (pc + 1) rest) : hv_V p l e R s m args below meth c w nL Q cells slots Y lv pc (.int x :: .int i :: .ref a :: rest) := by
  intro H locs ls hR hS hl
  refine W.zast C.1 C.2.1 (hR.at hY 0 _ rfl) ((C.2.2.2.2.2.2.1.1.2 1 _ rfl).1 n (fun j => .int (f j))) (fun q => by cases q) (by show ¬ (i < 0 ∨ (arrV _ _ _).slots.size ≤ _); rw [arrV_size]; exact hin) rfl rfl hdg fun H1 e z oq => ?_
  refine kk H1 _ ls (hR.put hY ?_ z oq) (hS.put z oq (hR.own hY).1) hl
  show H1[a]? = some (vp_cell _ _)
  rw [e]
  rw [vp_cell_i, vp_cell_i, arrV_store]
  congr 2
  funext q
  by_cases hq : q = i.toNatClampNeg
  · subst hq
    have e9 : narrow .boolean (.int x) = .int (vp_nar .boolean x) := by
      simp [vp_nar]
      try rfl
    simp [updV, upd, e9, hx]
    try (rw [e9, hx])
  · simp [updV, upd, hq]
theorem hv_aastN (C : hv_C own cc nL Ts w p s m args meth c) {a n : Nat} {f : Nat → Option Nat} {i : Int32} (t0 : Nat) {Cn : String} {cA : ClassId} (ht : (hv_T w)[t0]? = some (cA, .object Cn)) (hY : Y a = some (.inl (.inl (cA, n, hv_ref f)))) (hin : vp_in i n) (hdg : decode cc pc = .ok (.aastore, 1)) (kk : hv_V p l e R s m args below meth c w nL Q cells slots (hv_up Y a (.inl (.inl (cA, n, hv_ref (va_up f i.toNatClampNeg none))))) lv (pc + 1) rest) : hv_V p l e R s m args below meth c w nL Q cells slots Y lv pc (.null :: .int i :: .ref a :: rest) := by
  intro H locs ls hR hS hl
  refine va_WaastN (C := Cn) C.1 C.2.1 (hR.at hY 0 _ rfl) ((C.2.2.2.2.2.2.1.1.2 t0 _ ht).1 n (fun j => va_rf (f j))) (fun h => by cases h) (by show ¬ (i < 0 ∨ (arrV _ _ _).slots.size ≤ _); rw [arrV_size]; exact hin) rfl rfl hdg fun H1 e z oq => ?_
  refine kk H1 _ ls (hR.put hY ?_ z oq) (hS.put z oq (hR.own hY).1) hl
  show H1[a]? = some (vp_cell _ _)
  rw [e]
  unfold hv_ref
  rw [vp_cell_q, vp_cell_q, arrV_store]
  congr 2
  funext q
  by_cases hq : q = i.toNatClampNeg
  · subst hq
    simp [updV, va_up, va_rf]
  · simp [updV, va_up, hq]
theorem hv_aast (C : hv_C own cc nL Ts w p s m args meth c) {a n v ci N : Nat} {T : u_T} {vs : List Value} {f : Nat → Option Nat} {i : Int32} (t0 : Nat) {Cn Ev : String} {cA : ClassId} (ht : (hv_T w)[t0]? = some (cA, .object Cn)) (hca : (Cond.castable Ev Cn).before args s = true ∨ Ev = Cn) (hv : Y v = some (.inl (.inr (ci, vs)))) (hc : vwCl[ci]? = some (Ev, T, N)) (hY : Y a = some (.inl (.inl (cA, n, hv_ref f)))) (hin : vp_in i n) (hdg : decode cc pc = .ok (.aastore, 1)) (kk : hv_V p l e R s m args below meth c w nL Q cells slots (hv_up Y a (.inl (.inl (cA, n, hv_ref (va_up f i.toNatClampNeg (some v)))))) lv (pc + 1) rest) : hv_V p l e R s m args below meth c w nL Q cells slots Y lv pc (.ref v :: .int i :: .ref a :: rest) := by
  intro H locs ls hR hS hl
  have hK := C.2.2.2.2.2.2.1.1
  have hlt : i.toNatClampNeg < n := Nat.not_le.mp fun q => hin (Or.inr q)
  have h0 : ¬ i < 0 := fun q => hin (Or.inl q)
  obtain ⟨r', hr', cellV, g1, g2, g3, -⟩ := hR.at hv 0 _ rfl
  have hcls := (hK.1 ci _ hc).2
  obtain ⟨kA, comp, k1, k2, k3, -⟩ := (hK.2 t0 _ ht).2
  obtain ⟨kE, hkE, -⟩ := Vm.findClass_spec k3
  obtain ⟨kC, hkC, -⟩ := hcls.2
  have hass : s.vm.assignable ((hv_D w).1 ci) comp = true := by
    rcases hca with hca | hca
    · obtain ⟨c0, t1, f1, f2, f3⟩ := Cond.castable_spec hca
      cases hcls.1.symm.trans f1
      cases k3.symm.trans f2
      exact f3
    · subst hca
      have hcomp : comp = (hv_D w).1 ci := Option.some.inj (k3.symm.trans hcls.1)
      rw [hcomp]
      exact va_assign hcls
  refine W.aast C.1 C.2.1 (hR.at hY 0 _ rfl) (fun q h => by cases h) (fun h => by cases h) k1 k2 rfl hkE ⟨h0, by show _ < (arrV _ _ _).slots.size; rw [arrV_size]; exact hlt⟩ g1 (fun q h => by rw [g3] at h; cases h) (by rw [g2]; exact hkC) (by rw [g2]; exact hass) rfl rfl hdg fun H1 e z oq => ?_
  refine kk H1 _ ls (hR.put hY ?_ z oq) (hS.put z oq (hR.own hY).1) hl
  show H1[a]? = some (vp_cell _ _)
  rw [e]
  unfold hv_ref
  rw [vp_cell_q, vp_cell_q, arrV_store]
  congr 2
  funext q
  by_cases hq : q = i.toNatClampNeg
  · subst hq
    simp [updV, va_up, va_rf]
  · simp [updV, va_up, hq]
theorem hv_alen (C : hv_C own cc nL Ts w p s m args meth c) {a : Nat} {cA : ClassId} {x : vp_A} (t0 : Nat) {ty : FieldType} (ht : (hv_T w)[t0]? = some (cA, ty)) (hY : Y a = some (.inl (.inl (cA, x)))) {v : Int32} (hv : Int32.ofNat x.1 = v) (hdg : decode cc pc = .ok (.arraylength, 1)) (kk : hv_V p l e R s m args below meth c w nL Q cells slots Y lv (pc + 1) (.int v :: rest)) : hv_V p l e R s m args below meth c w nL Q cells slots Y lv pc (.ref a :: rest) := fun H locs ls hR hS hl =>
  va_alen C.1 C.2.1 C.2.2.2.2.2.2.1.1 (hR.at hY) 0 t0 rfl ht hv hdg (kk H locs ls hR hS hl)
theorem hv_tlen (C : hv_C own cc nL Ts w p s m args meth c) (hdg : decode cc pc = .ok (.arraylength, 1)) (kk : hv_V p l e R s m args below meth c w nL Q cells slots Y lv (pc + 1) (.int (nI 0) :: rest)) : hv_V p l e R s m args below meth c w nL Q cells slots Y lv pc (.ref (hv_t w) :: rest) := fun H locs ls hR hS hl =>
  va_tlen C.1 C.2.1 C.2.2.2.2.2.2.1.2.2.1 hS rfl hdg (kk H locs ls hR hS hl)
/-! what is made -/
theorem hv_new (C : hv_C own cc nL Ts w p s m args meth c) {Cn : String} {T : u_T} {N ci index : Nat} {fs : List Value} (hin : ∀ x ∈ u_ws Cn T N, x ∈ Ts) (ty : Nat → FieldType) (hty : ∀ k, k < N → parseFieldDescriptor (T k).2.2.1 = some (ty k)) (hcl : Cond.classLink own index Cn ∈ Ts) (hinst : Cond.instantiable Cn N ∈ Ts) (hini : Cond.initialized Cn ∈ Ts) (hc : vwCl[ci]? = some (Cn, T, N)) (hfs : ∀ j, j < N → defaultValue (ty j) = vp_V fs j) (hcells : cells + 1 ≤ R.cells) (hslots : slots + N ≤ R.slots) (hdg : decode cc pc = .ok (.new index, 3))
    (kk : ∀ q : Nat, Y q = none → hv_V p l e R s m args below meth c w nL Q (cells + 1) (slots + N) (hv_up Y q (.inl (.inr (ci, fs)))) lv (pc + 3) (.ref q :: rest)) : hv_V p l e R s m args below meth c w nL Q cells slots Y lv pc rest := by
  intro H locs ls hR hS hl
  have hts := C.2.2.2.2.1
  have hKn := C.2.2.2.2.2.2.1.1.1 ci _ hc
  refine W.newcK C.1 C.2.1 C.2.2.2.1 (hts _ hcl) (hts _ hinst) (hts _ hini) rfl hdg hcells hslots hKn.2.1 rfl fun H1 kC hkC e1 z1 o1 => ?_
  exact kk H.size hR.fresh H1 locs ls (hR.new ⟨_, hc, (u_born ty hts hin hKn hkC e1 hty).to hfs⟩ z1 o1) ⟨Nat.le_trans hS.1 (by omega), fun x h1 h2 => (o1 x (Nat.lt_of_lt_of_le h1 hS.1)).trans (hS.2.1 x h1 h2), hS.2.2⟩ hl
theorem hv_newi (C : hv_C own cc nL Ts w p s m args meth c) {n : Int32} {N : Nat} (harr : Cond.arrayClass .int ∈ Ts) (hn : ¬ n < 0) (hN : n.toNatClampNeg = N) (hbytes : N * componentBytes .int ≤ 536870912) (hcells : cells + 1 ≤ R.cells) (hslots : slots + N ≤ R.slots) (hdg : decode cc pc = .ok (.newarray .int, 2))
    (kk : ∀ q : Nat, Y q = none → hv_V p l e R s m args below meth c w nL Q (cells + 1) (slots + N) (hv_up Y q (.inl (.inl (hv_c w 0, N, .inl (fun _ => 0))))) lv (pc + 2) (.ref q :: rest)) : hv_V p l e R s m args below meth c w nL Q cells slots Y lv pc (.int n :: rest) := by
  intro H locs ls hR hS hl
  refine va_newaK (atype := .int) C.1 C.2.1 (C.2.2.2.2.1 _ harr) rfl hdg rfl hn hN hbytes hcells hslots rfl fun H1 cA e1 z1 o1 hAr hNm => ?_
  have hc0 : cA = hv_c w 0 := Option.some.inj (hNm.symm.trans (C.2.2.2.2.2.2.1.1.2 0 _ rfl).2)
  subst hc0
  exact kk H.size hR.fresh H1 locs ls (hR.new e1 z1 o1) ⟨Nat.le_trans hS.1 (by omega), fun x h1 h2 => (o1 x (Nat.lt_of_lt_of_le h1 hS.1)).trans (hS.2.1 x h1 h2), hS.2.2⟩ hl
theorem hv_newz (C : hv_C own cc nL Ts w p s m args meth c) {n : Int32} {N : Nat} (harr : Cond.arrayClass .boolean ∈ Ts) (hn : ¬ n < 0) (hN : n.toNatClampNeg = N) (hbytes : N * componentBytes .boolean ≤ 536870912) (hcells : cells + 1 ≤ R.cells) (hslots : slots + N ≤ R.slots) (hdg : decode cc pc = .ok (.newarray .boolean, 2))
    (kk : ∀ q : Nat, Y q = none → hv_V p l e R s m args below meth c w nL Q (cells + 1) (slots + N) (hv_up Y q (.inl (.inl (hv_c w 1, N, .inl (fun _ => 0))))) lv (pc + 2) (.ref q :: rest)) : hv_V p l e R s m args below meth c w nL Q cells slots Y lv pc (.int n :: rest) := by
  intro H locs ls hR hS hl
  refine va_newaK (atype := .boolean) C.1 C.2.1 (C.2.2.2.2.1 _ harr) rfl hdg rfl hn hN hbytes hcells hslots rfl fun H1 cA e1 z1 o1 hAr hNm => ?_
  have hc0 : cA = hv_c w 1 := Option.some.inj (hNm.symm.trans (C.2.2.2.2.2.2.1.1.2 1 _ rfl).2)
  subst hc0
  exact kk H.size hR.fresh H1 locs ls (hR.new e1 z1 o1) ⟨Nat.le_trans hS.1 (by omega), fun x h1 h2 => (o1 x (Nat.lt_of_lt_of_le h1 hS.1)).trans (hS.2.1 x h1 h2), hS.2.2⟩ hl
theorem hv_newq (C : hv_C own cc nL Ts w p s m args meth c) {index : Nat} {n : Int32} {N : Nat} (t0 : Nat) {Cn : String} {cA : ClassId} (ht : (hv_T w)[t0]? = some (cA, .object Cn)) (hover : va_AO Cn s) (hcl : Cond.classLink own index Cn ∈ Ts) (hn : ¬ n < 0) (hN : n.toNatClampNeg = N) (hbytes : N * 4 ≤ 536870912) (hcells : cells + 1 ≤ R.cells) (hslots : slots + N ≤ R.slots) (hdg : decode cc pc = .ok (.anewarray index, 3))
    (kk : ∀ q : Nat, Y q = none → hv_V p l e R s m args below meth c w nL Q (cells + 1) (slots + N) (hv_up Y q (.inl (.inl (cA, N, hv_ref (fun _ => none))))) lv (pc + 3) (.ref q :: rest)) : hv_V p l e R s m args below meth c w nL Q cells slots Y lv pc (.int n :: rest) := by
  intro H locs ls hR hS hl
  subst hN
  obtain ⟨kA9, comp9, -, -, -, hnm9⟩ := (C.2.2.2.2.2.2.1.1.2 t0 _ ht).2
  refine W.anew C.1 C.2.1 C.2.2.2.1 (C.2.2.2.2.1 _ hcl) (va_AO.use hover) rfl hdg rfl hn hbytes hcells hslots fun cB kA comp f1 f2 f3 f4 => ?_
  have hcc : cB = cA := Option.some.inj (f1.symm.trans hnm9)
  subst hcc
  generalize hH1 : H.push ({ cls := cB, slots := Array.replicate n.toNatClampNeg .null, vm := .none } : Cell) = H1
  have z1 : H1.size = H.size + 1 := by rw [← hH1, Array.size_push]
  have e1 : H1[H.size]? = some (arrV cB n.toNatClampNeg (fun _ => .null)) := by rw [← hH1, Array.getElem?_push_size, ← arrV_new]
  have o1 : ∀ q : Nat, q < H.size → H1[q]? = H[q]? := fun q hq => by rw [← hH1, Array.getElem?_push, if_neg (Nat.ne_of_lt hq)]
  exact kk H.size hR.fresh H1 locs ls (hR.new e1 z1 o1) ⟨Nat.le_trans hS.1 (by omega), fun x h1 h2 => (o1 x (Nat.lt_of_lt_of_le h1 hS.1)).trans (hS.2.1 x h1 h2), hS.2.2⟩ hl
theorem hv_widen {k n : Nat} {st : List Value} (h1 : cells ≤ k) (h2 : slots ≤ n) (kk : hv_V p l e R s m args below meth c w nL Q k n Y lv pc st) : hv_V p l e R s m args below meth c w nL Q cells slots Y lv pc st := fun H locs ls hR hS hl => W.widen h1 h2 (kk H locs ls hR hS hl)
theorem hv_eqY {Y1 : hv_H} {st : List Value} (h : Y = Y1) (kk : hv_V p l e R s m args below meth c w nL Q cells slots Y1 lv pc st) : hv_V p l e R s m args below meth c w nL Q cells slots Y lv pc st := by
  subst h
  exact kk
/-! checkcast to the object's own kind; max and min -/
theorem hv_cast (C : hv_C own cc nL Ts w p s m args meth c) {Cn : String} {T : u_T} {N ci index a : Nat} {fs : List Value} (hc : vwCl[ci]? = some (Cn, T, N)) (hY : Y a = some (.inl (.inr (ci, fs)))) (hcl : Cond.classLink own index Cn ∈ Ts) (hdg : decode cc pc = .ok (.checkcast index, 3)) (kk : hv_V p l e R s m args below meth c w nL Q cells slots Y lv (pc + 3) (.ref a :: rest)) : hv_V p l e R s m args below meth c w nL Q cells slots Y lv pc (.ref a :: rest) := fun H locs ls hR hS hl =>
  va_castS C.1 C.2.1 C.2.2.2.1 (C.2.2.2.2.1 _ hcl) (C.2.2.2.2.2.2.1.1.1 ci _ hc).2 (va_recv C.2.2.2.2.2.2.1.1 (hR.at hY) hc (q0 := 0) rfl) hdg (kk H locs ls hR hS hl)
theorem hv_max (C : hv_C own cc nL Ts w p s m args meth c) {index : Nat} {x y : Int32} (h1 : Cond.methodLink own index Lib.Math.max.name ∈ Ts) (h2 : Cond.static Lib.Math.max.name ∈ Ts) (h3 : Cond.initialized "java/lang/Math" ∈ Ts) (h4 : Cond.code Lib.Math.max.name Lib.Math.max.code 2 (some .int) ∈ Ts) (hfr : 1 ≤ R.frames) (hlo : (rest.map fun v => v.category).sum + 13 ≤ R.locals) (hce : cells ≤ R.cells) (hsl : slots ≤ R.slots) (hdg : decode cc pc = .ok (.invokestatic index, 3)) (kk : hv_V p l e R s m args below meth c w nL Q cells slots Y lv (pc + 3) (.int (if x < y then y else x) :: rest)) : hv_V p l e R s m args below meth c w nL Q cells slots Y lv pc (.int y :: .int x :: rest) := fun H locs ls hR hS hl =>
  va_mmax C.1 C.2.1 (C.2.2.1.trans hl.1.symm) C.2.2.2.1 (C.2.2.2.2.1 _ h1) (C.2.2.2.2.1 _ h2) (C.2.2.2.2.1 _ h3) (C.2.2.2.2.1 _ h4) hfr hlo hce hsl hdg (kk H locs ls hR hS hl)
theorem hv_min (C : hv_C own cc nL Ts w p s m args meth c) {index : Nat} {x y : Int32} (h1 : Cond.methodLink own index Lib.Math.min.name ∈ Ts) (h2 : Cond.static Lib.Math.min.name ∈ Ts) (h3 : Cond.initialized "java/lang/Math" ∈ Ts) (h4 : Cond.code Lib.Math.min.name Lib.Math.min.code 2 (some .int) ∈ Ts) (hfr : 1 ≤ R.frames) (hlo : (rest.map fun v => v.category).sum + 13 ≤ R.locals) (hce : cells ≤ R.cells) (hsl : slots ≤ R.slots) (hdg : decode cc pc = .ok (.invokestatic index, 3)) (kk : hv_V p l e R s m args below meth c w nL Q cells slots Y lv (pc + 3) (.int (if y < x then y else x) :: rest)) : hv_V p l e R s m args below meth c w nL Q cells slots Y lv pc (.int y :: .int x :: rest) := fun H locs ls hR hS hl =>
  va_mmin C.1 C.2.1 (C.2.2.1.trans hl.1.symm) C.2.2.2.1 (C.2.2.2.2.1 _ h1) (C.2.2.2.2.1 _ h2) (C.2.2.2.2.1 _ h3) (C.2.2.2.2.1 _ h4) hfr hlo hce hsl hdg (kk H locs ls hR hS hl)
theorem hv_objInit (C : hv_C own cc nL Ts w p s m args meth c) {index a : Nat} (h1 : Cond.methodLink own index objectInit ∈ Ts) (h2 : Cond.instanceMethod objectInit ∈ Ts) (h3 : Cond.code objectInit ⟨#[0xb1]⟩ 1 none ∈ Ts) (hfr : 1 ≤ R.frames) (hlo : (rest.map fun v => v.category).sum + 12 ≤ R.locals) (hdg : decode cc pc = .ok (.invokespecial index, 3)) (kk : hv_V p l e R s m args below meth c w nL Q cells slots Y lv (pc + 3) rest) : hv_V p l e R s m args below meth c w nL Q cells slots Y lv pc (.ref a :: rest) := fun H locs ls hR hS hl =>
  W.objInit C.1 C.2.1 C.2.2.2.1 (C.2.2.2.2.1 _ h1) (C.2.2.2.2.1 _ h2) (C.2.2.2.2.1 _ h3) rfl (by rw [C.2.2.1]; exact hl.1) rfl hdg hfr (by show 2 * 0 + _ + 12 ≤ _; omega) (W.eq (g2 := F0 m (pc + 3) ls rest) rfl (kk H locs ls hR hS hl))
/-! calls -/
theorem hv_pre (C : hv_C own cc nL Ts w p s m args meth c) {As : List Value} {H : Heap} {locs : List Loc} (hR : hv_R w Y H) (hS : va_S (hv_A w) s.heap H locs) : ∀ U : State, U.heap = H → s.WarmedH U.vm → hv_Pc w As Y As.toArray U := fun U hU hW =>
  ⟨rfl, C.2.2.2.2.2.2.1.go hW (fun a h1 h2 => by rw [hU]; exact hS.2.1 a h1 h2), by rw [hU]; exact hR⟩
/-- which kind of object a receiver is -/
def hv_rc (Y : hv_H) (a : Nat) (Cn : String) : Prop := (∃ (ci : Nat) (T : u_T) (N : Nat) (fs : List Value), Y a = some (.inl (.inr (ci, fs))) ∧ vwCl[ci]? = some (Cn, T, N)) ∨ ((∃ L : List Nat, Y a = some (.inr L)) ∧ Cn = RJx4a65c)
theorem hv_rcO {a ci N : Nat} {T : u_T} {Cn : String} {fs : List Value} (h : Y a = some (.inl (.inr (ci, fs)))) (hc : vwCl[ci]? = some (Cn, T, N)) : hv_rc Y a Cn := Or.inl ⟨ci, T, N, fs, h, hc⟩
theorem hv_rcL {a : Nat} {L : List Nat} (h : Y a = some (.inr L)) : hv_rc Y a RJx4a65c := Or.inr ⟨⟨L, h⟩, rfl⟩
theorem hv_recv (C : hv_C own cc nL Ts w p s m args meth c) {a : Nat} {Cn : String} {H : Heap} (h : hv_rc Y a Cn) (hR : hv_R w Y H) : ∃ cell : Cell, H[a]? = some cell ∧ cell.vm.isStatics = false ∧ s.vm.findClass Cn = some cell.cls := by
  have hK := C.2.2.2.2.2.2.1.1
  rcases h with ⟨ci, T, N, fs, h1, h2⟩ | ⟨⟨L, h1⟩, h2⟩
  · exact va_recv (q := (Cn, T, N)) hK (hR.at h1) h2 (q0 := 0) rfl
  · subst h2
    obtain ⟨-, X, ow, g1, g2, g3⟩ := hR
    obtain ⟨ed, mc, k1, -⟩ := g3 a L h1
    have hP : va_P (hv_D w) vwCl [(a, .inr (0, [.int mc, .ref ed, .int (nI L.length)]))] H := by
      intro k q hk
      have hz : k < 1 := (List.getElem?_eq_some_iff.mp hk).1
      rw [show k = 0 by omega] at hk
      cases hk
      exact (g1 _ _ k1).2
    exact va_recv (q := (RJx4a65c, TJx4a65c, 3)) hK hP (ci := 0) rfl (q0 := 0) rfl

theorem hv_callVr (C : hv_C own cc nL Ts w p s m args meth c) {y : MethodName} {bytes : ByteArray} {maxL n index : Nat} {ws ws1 : List Cond} {rm : Room} {As : List Value} {st : List Value} {ret : Option FieldType} {b : Nat} {Cn : String} {post : Value → hv_H → Prop}  (hM : hv_Mr l y ws rm w (.ref b :: As) Y post) (hG : GoodIn Ts (wsV own index Cn y ws)) (hw : ws = Cond.code y bytes maxL ret :: ws1) (hd : y.cls = Cn ∧ y.cls ≠ "java/lang/invoke/MethodHandle" ∧ y.cls ≠ "java/lang/invoke/VarHandle" ∧ (parseMethodDescriptor y.desc).map (fun d => d.parameters.length) = some n) (hRm : rm.frames + 1 ≤ R.frames ∧ 8 + (maxL + 11) + rm.locals ≤ R.locals) (hb : hv_rc Y b Cn) (hn : As.length = n) (hst : st = As.reverse ++ .ref b :: rest) (hcat : (rest.map fun v => v.category).sum ≤ 8) (hdg : decode cc pc = .ok (.invokevirtual index, 3)) (hf : cells + rm.cells ≤ R.cells ∧ slots + rm.slots ≤ R.slots) (kk : ∀ (r : Value) (Y1 : hv_H), post r Y1 → hv_V p l e R s m args below meth c w nL Q (cells + rm.cells) (slots + rm.slots) Y1 lv (pc + 3) (r :: rest)) : hv_V p l e R s m args below meth c w nL Q cells slots Y lv pc st := by
  subst hst
  intro H locs ls hR hS hl T hT X
  obtain ⟨v, st₀, t, T1, L, g0, X1, hL, e1, e2, ⟨⟨r, Y1, hv, hp, hb9⟩, hz, hk⟩, stp⟩ := va_runV (As := As) (rest := rest) (index := index) (g := F0 m pc ls _) ⟨C.1, C.2.1, C.2.2.1, C.2.2.2.1, C.2.2.2.2.1⟩ hM (cwV n C.2.2.2.2.1 hG hw rfl rfl hd hRm) ⟨hv_blind, hv_recv C hb hR, hv_pre C hR hS⟩ rfl hn hl.1 rfl (lv_room hcat) hdg hf T hT X
  cases hv
  rw [g0] at hz hk
  obtain ⟨t2, a1, b1⟩ := kk r Y1 hp T1.heap (locs ++ L) ls (by rw [e1]; exact hb9) ⟨Nat.le_trans hS.1 (by rw [e1]; exact hz), fun q h1 h2 => by rw [e1, hk q (Nat.lt_of_lt_of_le h1 hS.1) h2]; exact hS.2.1 q h1 h2, fun q hq => by
      rcases List.mem_append.mp hq with h | h
      · exact hS.2.2 q h
      · exact hL q h⟩ hl T1 rfl X1
  exact ⟨t2, stp t2 a1, b1⟩
theorem hv_callVrx (C : hv_C own cc nL Ts w p s m args meth c) {y : MethodName} {bytes : ByteArray} {maxL n index : Nat} {ws ws1 : List Cond} {rm : Room} {As : List Value} {st : List Value} {ret : Option FieldType} {b : Nat} {Cn : String} {post : Value → hv_H → Prop} {px : String → hv_H → Prop} {px1 : String → hv_H → Prop} {mc ms : Nat} {Qc : Array Value → State → Outcome → State → Prop} (hM : hv_Nr l y ws rm w (.ref b :: As) Y post px) (hG : GoodIn Ts (wsV own index Cn y ws)) (hw : ws = Cond.code y bytes maxL ret :: ws1) (hd : y.cls = Cn ∧ y.cls ≠ "java/lang/invoke/MethodHandle" ∧ y.cls ≠ "java/lang/invoke/VarHandle" ∧ (parseMethodDescriptor y.desc).map (fun d => d.parameters.length) = some n) (hRm : rm.frames + 1 ≤ R.frames ∧ 8 + (maxL + 11) + rm.locals ≤ R.locals) (hb : hv_rc Y b Cn) (hn : As.length = n) (hst : st = As.reverse ++ .ref b :: rest) (hcat : (rest.map fun v => v.category).sum ≤ 8) (hdg : decode cc pc = .ok (.invokevirtual index, 3)) (hf : cells + rm.cells ≤ R.cells ∧ slots + rm.slots ≤ R.slots) (hx9 : ∀ (E : String) (Y1 : hv_H), px E Y1 → px1 E Y1) (hout : ∀ x ∈ c.exceptionTable.toList, False) (hc9 : cells + rm.cells ≤ mc) (hs9 : slots + rm.slots ≤ ms) (kk : ∀ (r : Value) (Y1 : hv_H), post r Y1 → hv_V p l e R s m args below meth c w nL (vx_MQ below Qc (hv_Xc w px1) args s mc ms (hv_A w)) (cells + rm.cells) (slots + rm.slots) Y1 lv (pc + 3) (r :: rest)) : hv_V p l e R s m args below meth c w nL (vx_MQ below Qc (hv_Xc w px1) args s mc ms (hv_A w)) cells slots Y lv pc st := by
  subst hst
  intro H locs ls hR hS hl T hT X
  have hz9 : ∀ (st₀ t T1 : State) (L : List Loc), st₀.heap = H → T1.heap = t.heap → (∀ q ∈ L, hv_A w q.base) → va_F (hv_A w) st₀ t → va_S (hv_A w) s.heap T1.heap (locs ++ L) := by
    intro st₀ t T1 L g0 e1 hL hF
    obtain ⟨hz, hk⟩ := hF
    rw [g0] at hz hk
    exact ⟨Nat.le_trans hS.1 (by rw [e1]; exact hz), fun q h1 h2 => by rw [e1, hk q (Nat.lt_of_lt_of_le h1 hS.1) h2]; exact hS.2.1 q h1 h2, fun q hq => by
      rcases List.mem_append.mp hq with h | h
      · exact hS.2.2 q h
      · exact hL q h⟩
  rcases vx_runV (As := As) (rest := rest) (index := index) (g := F0 m pc ls _) ⟨C.1, C.2.1, C.2.2.1, C.2.2.2.1, C.2.2.2.2.1⟩ hM (cwV n C.2.2.2.2.1 hG hw rfl rfl hd hRm) ⟨hv_blind, hv_recv C hb hR, hv_pre C hR hS⟩ rfl hn hl.1 rfl (lv_room hcat) hdg hf T hT X with ⟨v, st₀, t, T1, L, g0, X1, hL, e1, e2, ⟨⟨r, Y1, hv, hp, hb9⟩, hF⟩, stp⟩ | ⟨q, st₀, t, T1, L, E, ce, g0, X1, hL, e1, e2, ⟨⟨Y1, hp, hb9⟩, hF⟩, hce, hcv, hcl, stp⟩
  · cases hv
    obtain ⟨t2, a1, b1⟩ := kk r Y1 hp T1.heap (locs ++ L) ls (by rw [e1]; exact hb9) (hz9 st₀ t T1 L g0 e1 hL hF) hl T1 rfl X1
    exact ⟨t2, stp t2 a1, b1⟩
  · have hS1 := hz9 st₀ t T1 L g0 e1 hL hF
    obtain ⟨t2, a1, b1⟩ := vx_out (XC := hv_Xc w px1) (Qc := Qc) (free := hv_A w) (pc := pc) (ls := ls) (rest := rest) (fun x hx => absurd (hout x hx) id) C.2.2.2.2.2.1 (H := T1.heap) (by rw [e1]; exact hce) hcv hcl (fun t9 h9 _ => ⟨⟨Y1, hx9 E Y1 hp, by rw [h9, e1]; exact hb9⟩, hS1.F h9⟩) hS1.2.2 hc9 hs9 T1 rfl X1
    exact ⟨t2, stp.trans a1, b1⟩
theorem hv_callVv (C : hv_C own cc nL Ts w p s m args meth c) {y : MethodName} {bytes : ByteArray} {maxL n index : Nat} {ws ws1 : List Cond} {rm : Room} {As : List Value} {st : List Value} {ret : Option FieldType} {b : Nat} {Cn : String} {post : hv_H → Prop}  (hM : hv_Mv l y ws rm w (.ref b :: As) Y post) (hG : GoodIn Ts (wsV own index Cn y ws)) (hw : ws = Cond.code y bytes maxL ret :: ws1) (hd : y.cls = Cn ∧ y.cls ≠ "java/lang/invoke/MethodHandle" ∧ y.cls ≠ "java/lang/invoke/VarHandle" ∧ (parseMethodDescriptor y.desc).map (fun d => d.parameters.length) = some n) (hRm : rm.frames + 1 ≤ R.frames ∧ 8 + (maxL + 11) + rm.locals ≤ R.locals) (hb : hv_rc Y b Cn) (hn : As.length = n) (hst : st = As.reverse ++ .ref b :: rest) (hcat : (rest.map fun v => v.category).sum ≤ 8) (hdg : decode cc pc = .ok (.invokevirtual index, 3)) (hf : cells + rm.cells ≤ R.cells ∧ slots + rm.slots ≤ R.slots) (kk : ∀ (Y1 : hv_H), post Y1 → hv_V p l e R s m args below meth c w nL Q (cells + rm.cells) (slots + rm.slots) Y1 lv (pc + 3) rest) : hv_V p l e R s m args below meth c w nL Q cells slots Y lv pc st := by
  subst hst
  intro H locs ls hR hS hl T hT X
  obtain ⟨v, st₀, t, T1, L, g0, X1, hL, e1, e2, ⟨⟨Y1, hv, hp, hb9⟩, hz, hk⟩, stp⟩ := va_runV (As := As) (rest := rest) (index := index) (g := F0 m pc ls _) ⟨C.1, C.2.1, C.2.2.1, C.2.2.2.1, C.2.2.2.2.1⟩ hM (cwV n C.2.2.2.2.1 hG hw rfl rfl hd hRm) ⟨hv_blind, hv_recv C hb hR, hv_pre C hR hS⟩ rfl hn hl.1 rfl (lv_room hcat) hdg hf T hT X
  cases hv
  rw [g0] at hz hk
  obtain ⟨t2, a1, b1⟩ := kk Y1 hp T1.heap (locs ++ L) ls (by rw [e1]; exact hb9) ⟨Nat.le_trans hS.1 (by rw [e1]; exact hz), fun q h1 h2 => by rw [e1, hk q (Nat.lt_of_lt_of_le h1 hS.1) h2]; exact hS.2.1 q h1 h2, fun q hq => by
      rcases List.mem_append.mp hq with h | h
      · exact hS.2.2 q h
      · exact hL q h⟩ hl T1 rfl X1
  exact ⟨t2, stp t2 a1, b1⟩
theorem hv_callVvx (C : hv_C own cc nL Ts w p s m args meth c) {y : MethodName} {bytes : ByteArray} {maxL n index : Nat} {ws ws1 : List Cond} {rm : Room} {As : List Value} {st : List Value} {ret : Option FieldType} {b : Nat} {Cn : String} {post : hv_H → Prop} {px : String → hv_H → Prop} {px1 : String → hv_H → Prop} {mc ms : Nat} {Qc : Array Value → State → Outcome → State → Prop} (hM : hv_Nv l y ws rm w (.ref b :: As) Y post px) (hG : GoodIn Ts (wsV own index Cn y ws)) (hw : ws = Cond.code y bytes maxL ret :: ws1) (hd : y.cls = Cn ∧ y.cls ≠ "java/lang/invoke/MethodHandle" ∧ y.cls ≠ "java/lang/invoke/VarHandle" ∧ (parseMethodDescriptor y.desc).map (fun d => d.parameters.length) = some n) (hRm : rm.frames + 1 ≤ R.frames ∧ 8 + (maxL + 11) + rm.locals ≤ R.locals) (hb : hv_rc Y b Cn) (hn : As.length = n) (hst : st = As.reverse ++ .ref b :: rest) (hcat : (rest.map fun v => v.category).sum ≤ 8) (hdg : decode cc pc = .ok (.invokevirtual index, 3)) (hf : cells + rm.cells ≤ R.cells ∧ slots + rm.slots ≤ R.slots) (hx9 : ∀ (E : String) (Y1 : hv_H), px E Y1 → px1 E Y1) (hout : ∀ x ∈ c.exceptionTable.toList, False) (hc9 : cells + rm.cells ≤ mc) (hs9 : slots + rm.slots ≤ ms) (kk : ∀ (Y1 : hv_H), post Y1 → hv_V p l e R s m args below meth c w nL (vx_MQ below Qc (hv_Xc w px1) args s mc ms (hv_A w)) (cells + rm.cells) (slots + rm.slots) Y1 lv (pc + 3) rest) : hv_V p l e R s m args below meth c w nL (vx_MQ below Qc (hv_Xc w px1) args s mc ms (hv_A w)) cells slots Y lv pc st := by
  subst hst
  intro H locs ls hR hS hl T hT X
  have hz9 : ∀ (st₀ t T1 : State) (L : List Loc), st₀.heap = H → T1.heap = t.heap → (∀ q ∈ L, hv_A w q.base) → va_F (hv_A w) st₀ t → va_S (hv_A w) s.heap T1.heap (locs ++ L) := by
    intro st₀ t T1 L g0 e1 hL hF
    obtain ⟨hz, hk⟩ := hF
    rw [g0] at hz hk
    exact ⟨Nat.le_trans hS.1 (by rw [e1]; exact hz), fun q h1 h2 => by rw [e1, hk q (Nat.lt_of_lt_of_le h1 hS.1) h2]; exact hS.2.1 q h1 h2, fun q hq => by
      rcases List.mem_append.mp hq with h | h
      · exact hS.2.2 q h
      · exact hL q h⟩
  rcases vx_runV (As := As) (rest := rest) (index := index) (g := F0 m pc ls _) ⟨C.1, C.2.1, C.2.2.1, C.2.2.2.1, C.2.2.2.2.1⟩ hM (cwV n C.2.2.2.2.1 hG hw rfl rfl hd hRm) ⟨hv_blind, hv_recv C hb hR, hv_pre C hR hS⟩ rfl hn hl.1 rfl (lv_room hcat) hdg hf T hT X with ⟨v, st₀, t, T1, L, g0, X1, hL, e1, e2, ⟨⟨Y1, hv, hp, hb9⟩, hF⟩, stp⟩ | ⟨q, st₀, t, T1, L, E, ce, g0, X1, hL, e1, e2, ⟨⟨Y1, hp, hb9⟩, hF⟩, hce, hcv, hcl, stp⟩
  · cases hv
    obtain ⟨t2, a1, b1⟩ := kk Y1 hp T1.heap (locs ++ L) ls (by rw [e1]; exact hb9) (hz9 st₀ t T1 L g0 e1 hL hF) hl T1 rfl X1
    exact ⟨t2, stp t2 a1, b1⟩
  · have hS1 := hz9 st₀ t T1 L g0 e1 hL hF
    obtain ⟨t2, a1, b1⟩ := vx_out (XC := hv_Xc w px1) (Qc := Qc) (free := hv_A w) (pc := pc) (ls := ls) (rest := rest) (fun x hx => absurd (hout x hx) id) C.2.2.2.2.2.1 (H := T1.heap) (by rw [e1]; exact hce) hcv hcl (fun t9 h9 _ => ⟨⟨Y1, hx9 E Y1 hp, by rw [h9, e1]; exact hb9⟩, hS1.F h9⟩) hS1.2.2 hc9 hs9 T1 rfl X1
    exact ⟨t2, stp.trans a1, b1⟩
theorem hv_callSr (C : hv_C own cc nL Ts w p s m args meth c) {y : MethodName} {bytes : ByteArray} {maxL n index : Nat} {ws ws1 : List Cond} {rm : Room} {As : List Value} {st : List Value} {ret : Option FieldType}  {post : Value → hv_H → Prop}  (hM : hv_Mr l y ws rm w As Y post) (hG : GoodIn Ts (va_wsS own index y ws)) (hw : ws = Cond.code y bytes maxL ret :: ws1) (hd : y.cls ≠ "java/lang/invoke/MethodHandle" ∧ y.cls ≠ "java/lang/invoke/VarHandle" ∧ (parseMethodDescriptor y.desc).map (fun d => d.parameters.length) = some n) (hRm : rm.frames + 1 ≤ R.frames ∧ 8 + (maxL + 11) + rm.locals ≤ R.locals)  (hn : As.length = n) (hst : st = As.reverse ++ rest) (hcat : (rest.map fun v => v.category).sum ≤ 8) (hdg : decode cc pc = .ok (.invokestatic index, 3)) (hf : cells + rm.cells ≤ R.cells ∧ slots + rm.slots ≤ R.slots) (kk : ∀ (r : Value) (Y1 : hv_H), post r Y1 → hv_V p l e R s m args below meth c w nL Q (cells + rm.cells) (slots + rm.slots) Y1 lv (pc + 3) (r :: rest)) : hv_V p l e R s m args below meth c w nL Q cells slots Y lv pc st := by
  subst hst
  intro H locs ls hR hS hl T hT X
  obtain ⟨v, st₀, t, T1, L, g0, X1, hL, e1, e2, ⟨⟨r, Y1, hv, hp, hb9⟩, hz, hk⟩, stp⟩ := va_runS (As := As) (rest := rest) (index := index) (g := F0 m pc ls _) ⟨C.1, C.2.1, C.2.2.1, C.2.2.2.1, C.2.2.2.2.1⟩ hM (va_cwS n C.2.2.2.2.1 hG hw rfl rfl hd hRm) ⟨hv_blind, hv_pre C hR hS⟩ rfl hn hl.1 rfl (lv_room hcat) hdg hf T hT X
  cases hv
  rw [g0] at hz hk
  obtain ⟨t2, a1, b1⟩ := kk r Y1 hp T1.heap (locs ++ L) ls (by rw [e1]; exact hb9) ⟨Nat.le_trans hS.1 (by rw [e1]; exact hz), fun q h1 h2 => by rw [e1, hk q (Nat.lt_of_lt_of_le h1 hS.1) h2]; exact hS.2.1 q h1 h2, fun q hq => by
      rcases List.mem_append.mp hq with h | h
      · exact hS.2.2 q h
      · exact hL q h⟩ hl T1 rfl X1
  exact ⟨t2, stp t2 a1, b1⟩
theorem hv_callSrx (C : hv_C own cc nL Ts w p s m args meth c) {y : MethodName} {bytes : ByteArray} {maxL n index : Nat} {ws ws1 : List Cond} {rm : Room} {As : List Value} {st : List Value} {ret : Option FieldType}  {post : Value → hv_H → Prop} {px : String → hv_H → Prop} {px1 : String → hv_H → Prop} {mc ms : Nat} {Qc : Array Value → State → Outcome → State → Prop} (hM : hv_Nr l y ws rm w As Y post px) (hG : GoodIn Ts (va_wsS own index y ws)) (hw : ws = Cond.code y bytes maxL ret :: ws1) (hd : y.cls ≠ "java/lang/invoke/MethodHandle" ∧ y.cls ≠ "java/lang/invoke/VarHandle" ∧ (parseMethodDescriptor y.desc).map (fun d => d.parameters.length) = some n) (hRm : rm.frames + 1 ≤ R.frames ∧ 8 + (maxL + 11) + rm.locals ≤ R.locals)  (hn : As.length = n) (hst : st = As.reverse ++ rest) (hcat : (rest.map fun v => v.category).sum ≤ 8) (hdg : decode cc pc = .ok (.invokestatic index, 3)) (hf : cells + rm.cells ≤ R.cells ∧ slots + rm.slots ≤ R.slots) (hx9 : ∀ (E : String) (Y1 : hv_H), px E Y1 → px1 E Y1) (hout : ∀ x ∈ c.exceptionTable.toList, False) (hc9 : cells + rm.cells ≤ mc) (hs9 : slots + rm.slots ≤ ms) (kk : ∀ (r : Value) (Y1 : hv_H), post r Y1 → hv_V p l e R s m args below meth c w nL (vx_MQ below Qc (hv_Xc w px1) args s mc ms (hv_A w)) (cells + rm.cells) (slots + rm.slots) Y1 lv (pc + 3) (r :: rest)) : hv_V p l e R s m args below meth c w nL (vx_MQ below Qc (hv_Xc w px1) args s mc ms (hv_A w)) cells slots Y lv pc st := by
  subst hst
  intro H locs ls hR hS hl T hT X
  have hz9 : ∀ (st₀ t T1 : State) (L : List Loc), st₀.heap = H → T1.heap = t.heap → (∀ q ∈ L, hv_A w q.base) → va_F (hv_A w) st₀ t → va_S (hv_A w) s.heap T1.heap (locs ++ L) := by
    intro st₀ t T1 L g0 e1 hL hF
    obtain ⟨hz, hk⟩ := hF
    rw [g0] at hz hk
    exact ⟨Nat.le_trans hS.1 (by rw [e1]; exact hz), fun q h1 h2 => by rw [e1, hk q (Nat.lt_of_lt_of_le h1 hS.1) h2]; exact hS.2.1 q h1 h2, fun q hq => by
      rcases List.mem_append.mp hq with h | h
      · exact hS.2.2 q h
      · exact hL q h⟩
  rcases vx_runS (As := As) (rest := rest) (index := index) (g := F0 m pc ls _) ⟨C.1, C.2.1, C.2.2.1, C.2.2.2.1, C.2.2.2.2.1⟩ hM (va_cwS n C.2.2.2.2.1 hG hw rfl rfl hd hRm) ⟨hv_blind, hv_pre C hR hS⟩ rfl hn hl.1 rfl (lv_room hcat) hdg hf T hT X with ⟨v, st₀, t, T1, L, g0, X1, hL, e1, e2, ⟨⟨r, Y1, hv, hp, hb9⟩, hF⟩, stp⟩ | ⟨q, st₀, t, T1, L, E, ce, g0, X1, hL, e1, e2, ⟨⟨Y1, hp, hb9⟩, hF⟩, hce, hcv, hcl, stp⟩
  · cases hv
    obtain ⟨t2, a1, b1⟩ := kk r Y1 hp T1.heap (locs ++ L) ls (by rw [e1]; exact hb9) (hz9 st₀ t T1 L g0 e1 hL hF) hl T1 rfl X1
    exact ⟨t2, stp t2 a1, b1⟩
  · have hS1 := hz9 st₀ t T1 L g0 e1 hL hF
    obtain ⟨t2, a1, b1⟩ := vx_out (XC := hv_Xc w px1) (Qc := Qc) (free := hv_A w) (pc := pc) (ls := ls) (rest := rest) (fun x hx => absurd (hout x hx) id) C.2.2.2.2.2.1 (H := T1.heap) (by rw [e1]; exact hce) hcv hcl (fun t9 h9 _ => ⟨⟨Y1, hx9 E Y1 hp, by rw [h9, e1]; exact hb9⟩, hS1.F h9⟩) hS1.2.2 hc9 hs9 T1 rfl X1
    exact ⟨t2, stp.trans a1, b1⟩
theorem hv_callSv (C : hv_C own cc nL Ts w p s m args meth c) {y : MethodName} {bytes : ByteArray} {maxL n index : Nat} {ws ws1 : List Cond} {rm : Room} {As : List Value} {st : List Value} {ret : Option FieldType}  {post : hv_H → Prop}  (hM : hv_Mv l y ws rm w As Y post) (hG : GoodIn Ts (va_wsS own index y ws)) (hw : ws = Cond.code y bytes maxL ret :: ws1) (hd : y.cls ≠ "java/lang/invoke/MethodHandle" ∧ y.cls ≠ "java/lang/invoke/VarHandle" ∧ (parseMethodDescriptor y.desc).map (fun d => d.parameters.length) = some n) (hRm : rm.frames + 1 ≤ R.frames ∧ 8 + (maxL + 11) + rm.locals ≤ R.locals)  (hn : As.length = n) (hst : st = As.reverse ++ rest) (hcat : (rest.map fun v => v.category).sum ≤ 8) (hdg : decode cc pc = .ok (.invokestatic index, 3)) (hf : cells + rm.cells ≤ R.cells ∧ slots + rm.slots ≤ R.slots) (kk : ∀ (Y1 : hv_H), post Y1 → hv_V p l e R s m args below meth c w nL Q (cells + rm.cells) (slots + rm.slots) Y1 lv (pc + 3) rest) : hv_V p l e R s m args below meth c w nL Q cells slots Y lv pc st := by
  subst hst
  intro H locs ls hR hS hl T hT X
  obtain ⟨v, st₀, t, T1, L, g0, X1, hL, e1, e2, ⟨⟨Y1, hv, hp, hb9⟩, hz, hk⟩, stp⟩ := va_runS (As := As) (rest := rest) (index := index) (g := F0 m pc ls _) ⟨C.1, C.2.1, C.2.2.1, C.2.2.2.1, C.2.2.2.2.1⟩ hM (va_cwS n C.2.2.2.2.1 hG hw rfl rfl hd hRm) ⟨hv_blind, hv_pre C hR hS⟩ rfl hn hl.1 rfl (lv_room hcat) hdg hf T hT X
  cases hv
  rw [g0] at hz hk
  obtain ⟨t2, a1, b1⟩ := kk Y1 hp T1.heap (locs ++ L) ls (by rw [e1]; exact hb9) ⟨Nat.le_trans hS.1 (by rw [e1]; exact hz), fun q h1 h2 => by rw [e1, hk q (Nat.lt_of_lt_of_le h1 hS.1) h2]; exact hS.2.1 q h1 h2, fun q hq => by
      rcases List.mem_append.mp hq with h | h
      · exact hS.2.2 q h
      · exact hL q h⟩ hl T1 rfl X1
  exact ⟨t2, stp t2 a1, b1⟩
theorem hv_callSvx (C : hv_C own cc nL Ts w p s m args meth c) {y : MethodName} {bytes : ByteArray} {maxL n index : Nat} {ws ws1 : List Cond} {rm : Room} {As : List Value} {st : List Value} {ret : Option FieldType}  {post : hv_H → Prop} {px : String → hv_H → Prop} {px1 : String → hv_H → Prop} {mc ms : Nat} {Qc : Array Value → State → Outcome → State → Prop} (hM : hv_Nv l y ws rm w As Y post px) (hG : GoodIn Ts (va_wsS own index y ws)) (hw : ws = Cond.code y bytes maxL ret :: ws1) (hd : y.cls ≠ "java/lang/invoke/MethodHandle" ∧ y.cls ≠ "java/lang/invoke/VarHandle" ∧ (parseMethodDescriptor y.desc).map (fun d => d.parameters.length) = some n) (hRm : rm.frames + 1 ≤ R.frames ∧ 8 + (maxL + 11) + rm.locals ≤ R.locals)  (hn : As.length = n) (hst : st = As.reverse ++ rest) (hcat : (rest.map fun v => v.category).sum ≤ 8) (hdg : decode cc pc = .ok (.invokestatic index, 3)) (hf : cells + rm.cells ≤ R.cells ∧ slots + rm.slots ≤ R.slots) (hx9 : ∀ (E : String) (Y1 : hv_H), px E Y1 → px1 E Y1) (hout : ∀ x ∈ c.exceptionTable.toList, False) (hc9 : cells + rm.cells ≤ mc) (hs9 : slots + rm.slots ≤ ms) (kk : ∀ (Y1 : hv_H), post Y1 → hv_V p l e R s m args below meth c w nL (vx_MQ below Qc (hv_Xc w px1) args s mc ms (hv_A w)) (cells + rm.cells) (slots + rm.slots) Y1 lv (pc + 3) rest) : hv_V p l e R s m args below meth c w nL (vx_MQ below Qc (hv_Xc w px1) args s mc ms (hv_A w)) cells slots Y lv pc st := by
  subst hst
  intro H locs ls hR hS hl T hT X
  have hz9 : ∀ (st₀ t T1 : State) (L : List Loc), st₀.heap = H → T1.heap = t.heap → (∀ q ∈ L, hv_A w q.base) → va_F (hv_A w) st₀ t → va_S (hv_A w) s.heap T1.heap (locs ++ L) := by
    intro st₀ t T1 L g0 e1 hL hF
    obtain ⟨hz, hk⟩ := hF
    rw [g0] at hz hk
    exact ⟨Nat.le_trans hS.1 (by rw [e1]; exact hz), fun q h1 h2 => by rw [e1, hk q (Nat.lt_of_lt_of_le h1 hS.1) h2]; exact hS.2.1 q h1 h2, fun q hq => by
      rcases List.mem_append.mp hq with h | h
      · exact hS.2.2 q h
      · exact hL q h⟩
  rcases vx_runS (As := As) (rest := rest) (index := index) (g := F0 m pc ls _) ⟨C.1, C.2.1, C.2.2.1, C.2.2.2.1, C.2.2.2.2.1⟩ hM (va_cwS n C.2.2.2.2.1 hG hw rfl rfl hd hRm) ⟨hv_blind, hv_pre C hR hS⟩ rfl hn hl.1 rfl (lv_room hcat) hdg hf T hT X with ⟨v, st₀, t, T1, L, g0, X1, hL, e1, e2, ⟨⟨Y1, hv, hp, hb9⟩, hF⟩, stp⟩ | ⟨q, st₀, t, T1, L, E, ce, g0, X1, hL, e1, e2, ⟨⟨Y1, hp, hb9⟩, hF⟩, hce, hcv, hcl, stp⟩
  · cases hv
    obtain ⟨t2, a1, b1⟩ := kk Y1 hp T1.heap (locs ++ L) ls (by rw [e1]; exact hb9) (hz9 st₀ t T1 L g0 e1 hL hF) hl T1 rfl X1
    exact ⟨t2, stp t2 a1, b1⟩
  · have hS1 := hz9 st₀ t T1 L g0 e1 hL hF
    obtain ⟨t2, a1, b1⟩ := vx_out (XC := hv_Xc w px1) (Qc := Qc) (free := hv_A w) (pc := pc) (ls := ls) (rest := rest) (fun x hx => absurd (hout x hx) id) C.2.2.2.2.2.1 (H := T1.heap) (by rw [e1]; exact hce) hcv hcl (fun t9 h9 _ => ⟨⟨Y1, hx9 E Y1 hp, by rw [h9, e1]; exact hb9⟩, hS1.F h9⟩) hS1.2.2 hc9 hs9 T1 rfl X1
    exact ⟨t2, stp.trans a1, b1⟩
theorem hv_callIv (C : hv_C own cc nL Ts w p s m args meth c) {y : MethodName} {bytes : ByteArray} {maxL n index : Nat} {ws ws1 : List Cond} {rm : Room} {As : List Value} {st : List Value}  {b : Nat} {post : hv_H → Prop}  (hM : hv_Mv l y ws rm w (.ref b :: As) Y post) (hG : GoodIn Ts ws) (hw : ws = Cond.code y bytes maxL none :: ws1) (hini : Cond.initialized y.cls ∈ Ts) (hlk : Cond.methodLink own index y ∈ Ts) (him : Cond.instanceMethod y ∈ Ts) (hy1 : y.name = "<init>") (hd : y.cls ≠ "java/lang/invoke/MethodHandle" ∧ y.cls ≠ "java/lang/invoke/VarHandle" ∧ (parseMethodDescriptor y.desc).map (fun d => d.parameters.length) = some n) (hRm : rm.frames + 1 ≤ R.frames ∧ 8 + (maxL + 11) + rm.locals ≤ R.locals)  (hn : As.length = n) (hst : st = As.reverse ++ .ref b :: rest) (hcat : (rest.map fun v => v.category).sum ≤ 8) (hdg : decode cc pc = .ok (.invokespecial index, 3)) (hf : cells + rm.cells ≤ R.cells ∧ slots + rm.slots ≤ R.slots) (kk : ∀ (Y1 : hv_H), post Y1 → hv_V p l e R s m args below meth c w nL Q (cells + rm.cells) (slots + rm.slots) Y1 lv (pc + 3) rest) : hv_V p l e R s m args below meth c w nL Q cells slots Y lv pc st := by
  subst hst
  intro H locs ls hR hS hl T hT X
  obtain ⟨v, st₀, t, T1, L, g0, X1, hL, e1, e2, ⟨⟨Y1, hv, hp, hb9⟩, hz, hk⟩, stp⟩ := va_runI (As := As) (rest := rest) (index := index) (g := F0 m pc ls _) ⟨C.1, C.2.1, C.2.2.1, C.2.2.2.1, C.2.2.2.2.1⟩ hM (cwI n C.2.2.2.2.1 hG hw rfl rfl (C.2.2.2.2.1 _ hini) (C.2.2.2.2.1 _ hlk) (C.2.2.2.2.1 _ him) hy1 hd hRm) ⟨hv_blind, hv_pre C hR hS⟩ rfl hn hl.1 rfl (lv_room hcat) hdg hf T hT X
  cases hv
  rw [g0] at hz hk
  obtain ⟨t2, a1, b1⟩ := kk Y1 hp T1.heap (locs ++ L) ls (by rw [e1]; exact hb9) ⟨Nat.le_trans hS.1 (by rw [e1]; exact hz), fun q h1 h2 => by rw [e1, hk q (Nat.lt_of_lt_of_le h1 hS.1) h2]; exact hS.2.1 q h1 h2, fun q hq => by
      rcases List.mem_append.mp hq with h | h
      · exact hS.2.2 q h
      · exact hL q h⟩ hl T1 rfl X1
  exact ⟨t2, stp t2 a1, b1⟩
theorem hv_iret (C : hv_C own cc nL Ts w p s m args meth c) {post : Value → hv_H → Prop} {mc ms : Nat} {v : Int32} (hr : meth.sig.returnType = some .int) (hdg : decode cc pc = .ok (.ireturn, 1)) (hc9 : cells ≤ mc) (hs9 : slots ≤ ms) (h : post (.int v) Y) : hv_V p l e R s m args below meth c w nL (MQ below (hv_Qr w post) args s mc ms (hv_A w)) cells slots Y lv pc [.int v] := fun H locs ls hR hS hl => W.widen hc9 hs9 (W.iret C.1 C.2.1 hr (fun t ht hW => ⟨⟨_, Y, rfl, h, by rw [ht]; exact hR⟩, hS.F ht⟩) hS.2.2 hdg C.2.2.2.2.2.1)
theorem hv_zret (C : hv_C own cc nL Ts w p s m args meth c) {post : Value → hv_H → Prop} {mc ms : Nat} {v : Int32} (hr : meth.sig.returnType = some .boolean) (hv9 : narrow .boolean (.int v) = .int v) (hdg : decode cc pc = .ok (.ireturn, 1)) (hc9 : cells ≤ mc) (hs9 : slots ≤ ms) (h : post (.int v) Y) : hv_V p l e R s m args below meth c w nL (MQ below (hv_Qr w post) args s mc ms (hv_A w)) cells slots Y lv pc [.int v] := fun H locs ls hR hS hl => W.widen hc9 hs9 (W.zret C.1 C.2.1 hr hv9 (fun t ht hW => ⟨⟨_, Y, rfl, h, by rw [ht]; exact hR⟩, hS.F ht⟩) hS.2.2 hdg C.2.2.2.2.2.1)
theorem hv_aret (C : hv_C own cc nL Ts w p s m args meth c) {post : Value → hv_H → Prop} {mc ms : Nat} {v : Value} {rt : FieldType} (hr : meth.sig.returnType = some rt) (hrt : (∃ n, rt = .object n) ∨ ∃ t, rt = .array t) (hv9 : v = .null ∨ ∃ a, v = .ref a) (hdg : decode cc pc = .ok (.areturn, 1)) (hc9 : cells ≤ mc) (hs9 : slots ≤ ms) (h : post v Y) : hv_V p l e R s m args below meth c w nL (MQ below (hv_Qr w post) args s mc ms (hv_A w)) cells slots Y lv pc [v] := fun H locs ls hR hS hl => W.widen hc9 hs9 (W.aret C.1 C.2.1 hr hrt hv9 (fun t ht hW => ⟨⟨_, Y, rfl, h, by rw [ht]; exact hR⟩, hS.F ht⟩) hS.2.2 hdg C.2.2.2.2.2.1)
theorem hv_vret (C : hv_C own cc nL Ts w p s m args meth c) {post : hv_H → Prop} {mc ms : Nat} (hr : meth.sig.returnType = none) (hdg : decode cc pc = .ok (.return_, 1)) (hc9 : cells ≤ mc) (hs9 : slots ≤ ms) (h : post  Y) : hv_V p l e R s m args below meth c w nL (MQ below (hv_Qv w post) args s mc ms (hv_A w)) cells slots Y lv pc [] := fun H locs ls hR hS hl => W.widen hc9 hs9 (W.vret C.1 C.2.1 hr (fun t ht hW => ⟨⟨Y, rfl, h, by rw [ht]; exact hR⟩, hS.F ht⟩) hS.2.2 hdg C.2.2.2.2.2.1)
theorem hv_iretx (C : hv_C own cc nL Ts w p s m args meth c) {post : Value → hv_H → Prop} {px : String → hv_H → Prop} {mc ms : Nat} {v : Int32} (hr : meth.sig.returnType = some .int) (hdg : decode cc pc = .ok (.ireturn, 1)) (hc9 : cells ≤ mc) (hs9 : slots ≤ ms) (h : post (.int v) Y) : hv_V p l e R s m args below meth c w nL (vx_MQ below (hv_Qr w post) (hv_Xc w px) args s mc ms (hv_A w)) cells slots Y lv pc [.int v] := fun H locs ls hR hS hl => vx_ret (W.widen hc9 hs9 (W.iret C.1 C.2.1 hr (fun t ht hW => ⟨⟨_, Y, rfl, h, by rw [ht]; exact hR⟩, hS.F ht⟩) hS.2.2 hdg C.2.2.2.2.2.1))
theorem hv_zretx (C : hv_C own cc nL Ts w p s m args meth c) {post : Value → hv_H → Prop} {px : String → hv_H → Prop} {mc ms : Nat} {v : Int32} (hr : meth.sig.returnType = some .boolean) (hv9 : narrow .boolean (.int v) = .int v) (hdg : decode cc pc = .ok (.ireturn, 1)) (hc9 : cells ≤ mc) (hs9 : slots ≤ ms) (h : post (.int v) Y) : hv_V p l e R s m args below meth c w nL (vx_MQ below (hv_Qr w post) (hv_Xc w px) args s mc ms (hv_A w)) cells slots Y lv pc [.int v] := fun H locs ls hR hS hl => vx_ret (W.widen hc9 hs9 (W.zret C.1 C.2.1 hr hv9 (fun t ht hW => ⟨⟨_, Y, rfl, h, by rw [ht]; exact hR⟩, hS.F ht⟩) hS.2.2 hdg C.2.2.2.2.2.1))
theorem hv_aretx (C : hv_C own cc nL Ts w p s m args meth c) {post : Value → hv_H → Prop} {px : String → hv_H → Prop} {mc ms : Nat} {v : Value} {rt : FieldType} (hr : meth.sig.returnType = some rt) (hrt : (∃ n, rt = .object n) ∨ ∃ t, rt = .array t) (hv9 : v = .null ∨ ∃ a, v = .ref a) (hdg : decode cc pc = .ok (.areturn, 1)) (hc9 : cells ≤ mc) (hs9 : slots ≤ ms) (h : post v Y) : hv_V p l e R s m args below meth c w nL (vx_MQ below (hv_Qr w post) (hv_Xc w px) args s mc ms (hv_A w)) cells slots Y lv pc [v] := fun H locs ls hR hS hl => vx_ret (W.widen hc9 hs9 (W.aret C.1 C.2.1 hr hrt hv9 (fun t ht hW => ⟨⟨_, Y, rfl, h, by rw [ht]; exact hR⟩, hS.F ht⟩) hS.2.2 hdg C.2.2.2.2.2.1))
theorem hv_vretx (C : hv_C own cc nL Ts w p s m args meth c) {post : hv_H → Prop} {px : String → hv_H → Prop} {mc ms : Nat} (hr : meth.sig.returnType = none) (hdg : decode cc pc = .ok (.return_, 1)) (hc9 : cells ≤ mc) (hs9 : slots ≤ ms) (h : post  Y) : hv_V p l e R s m args below meth c w nL (vx_MQ below (hv_Qv w post) (hv_Xc w px) args s mc ms (hv_A w)) cells slots Y lv pc [] := fun H locs ls hR hS hl => vx_ret (W.widen hc9 hs9 (W.vret C.1 C.2.1 hr (fun t ht hW => ⟨⟨Y, rfl, h, by rw [ht]; exact hR⟩, hS.F ht⟩) hS.2.2 hdg C.2.2.2.2.2.1))
/-- a throw of an exception of the library with a written text -/
theorem hv_throw (C : hv_C own cc nL Ts w p s m args meth c) {Qc : Array Value → State → Outcome → State → Prop} {px : String → hv_H → Prop} {mc ms ik is ic : Nat} {cls text : String} {names : List String} (hlt : l.stackTraces = false) (hcls : Bundle.fit cls = true) (hnames : ∀ n ∈ names, Bundle.fit n = true) (hk : Cond.classLink own ik cls ∈ Ts) (hini : Cond.initialized cls ∈ Ts) (hown4 : own = RX4) (hstr : (is, text) ∈ hv_St) (hat1 : ∀ x ∈ (vx_atS own ic cls names).filter goodWord, x ∈ Ts) (hat2 : ∀ x ∈ (vx_atS own ic cls names).filter (fun x => !goodWord x), x ∈ hv_N)
    (hgood : ∀ x ∈ Cond.classLink own ik cls :: Cond.initialized cls :: vx_atS own ic cls names, vx_ot x = true)
    (d0 : decode cc pc = .ok (.new ik, 3)) (d3 : decode cc (pc + 3) = .ok (.dup, 1)) (d4 : decode cc (pc + 4) = .ok (.ldc is, 2)) (d6 : decode cc (pc + 6) = .ok (.invokespecial ic, 3)) (d9 : decode cc (pc + 9) = .ok (.athrow, 1))
    (hout : ∀ x ∈ c.exceptionTable.toList, False) (hRframes : names.length + 3 < R.frames) (hRlocals : (rest.map fun v => v.category).sum + (13 * (names.length + 1) + 43) ≤ R.locals) (hRcells : cells + 1 ≤ R.cells) (hRslots : slots + 6 ≤ R.slots) (hc9 : cells + 1 ≤ mc) (hs9 : slots + 6 ≤ ms) (hx : px cls Y) : hv_V p l e R s m args below meth c w nL (vx_MQ below Qc (hv_Xc w px) args s mc ms (hv_A w)) cells slots Y lv pc rest := by
  intro H locs ls hR hS hl
  have hts := C.2.2.2.2.1
  have hWD := C.2.2.2.2.2.2.1
  obtain ⟨sa, hsa⟩ := hWD.2.2.2.2.2.2.2.2.1 (is, text) hstr
  subst hown4
  refine vx_throwS C.1 C.2.1 hlt C.2.2.2.1 hcls hnames (hts _ hk) (hts _ hini) hsa (vx_hat (fun x hx => hts _ (hat1 x hx)) hat2 (fun x hx => ?_)) hgood hWD.2.2.2.1.1 hWD.2.2.2.1.2 hS (hl.1.trans C.2.2.1.symm) d0 d3 d4 d6 d9 (fun x hx => absurd (hout x hx) id) hRframes hRlocals hRcells hRslots C.2.2.2.2.2.1 (fun t hal hz ho => ⟨⟨Y, hx, ?_⟩, ?_⟩) hS.2.2 hc9 hs9
  · exact hv_face (hv_N_face x hx) (State.WarmedH.refl s) (hWD.2.2.2.2.2.2.2.1 x hx)
  · exact hR.mono hz ho
  · exact ⟨Nat.le_trans hS.1 hz, fun q h1 h2 => (ho q (Nat.lt_of_lt_of_le h1 hS.1)).trans (hS.2.1 q h1 h2)⟩
/-! a body's beginning -/
theorem hv_ofV {y : MethodName} {ws ws1 : List Cond} {rm : Room} {Qc : Array Value → State → Outcome → State → Prop} {maxL : Nat} {ret : Option FieldType} {As : List Value} {lv0 : List (Nat × Value)} (hy : plainName y.cls = true) (hw : ws = Cond.code y cc maxL ret :: ws1) (hown : y.cls = own) (hlen : (lg_sl As).length ≤ maxL) (hlv : lv_args 0 As = lv0)
    (body : ∀ (p : Program) (e : Env) (s : State) (m : MethodId) (below : List Frame) (meth : Method) (c : Code), hv_C own cc maxL ws w p s m As.toArray meth c → meth.sig.returnType = ret → meth.name = y.name → hv_V p l e rm s m As.toArray below meth c w maxL (MQ below Qc As.toArray s rm.cells rm.slots (hv_A w)) 0 0 Y lv0 0 []) : Met l y ws rm (hv_Pc w As Y) Qc rm.cells rm.slots (hv_A w) := by
  refine Met.ofW (cc := cc) (maxL := maxL) (ret := ret) hy hw ?_
  intro p e s m args below meth c s₁ B hml hv
  obtain ⟨rfl, hWD, hR⟩ := hv
  have hts := atoms_spec (ws := ws) B.pre
  have hown9 : s.vm.findClass own = some m.cls := by rw [← hown]; exact findClass_of_methodNamed B.named
  have hin : meth.name = y.name := (name_of_methodNamed B.named B.method).1
  have hl := lv_entry As (n := maxL) hlen
  rw [hlv] at hl
  rw [lg_entry_eq]
  exact body p e s m below meth c ⟨B.exec, B.bytes, hml, hown9, hts, B.notSynchronized, hWD, hR.1.2⟩ B.returns hin s.heap [] _ hR va_S.rf hl
theorem hv_ofVx {y : MethodName} {ws ws1 : List Cond} {rm : Room} {Qc : Array Value → State → Outcome → State → Prop} {XC : String → State → State → Prop} {maxL : Nat} {ret : Option FieldType} {As : List Value} {lv0 : List (Nat × Value)} (hy : plainName y.cls = true) (hw : ws = Cond.code y cc maxL ret :: ws1) (hown : y.cls = own) (hlen : (lg_sl As).length ≤ maxL) (hlv : lv_args 0 As = lv0)
    (body : ∀ (p : Program) (e : Env) (s : State) (m : MethodId) (below : List Frame) (meth : Method) (c : Code), hv_C own cc maxL ws w p s m As.toArray meth c → meth.sig.returnType = ret → (∀ x ∈ c.exceptionTable.toList, False) → hv_V p l e rm s m As.toArray below meth c w maxL (vx_MQ below Qc XC As.toArray s rm.cells rm.slots (hv_A w)) 0 0 Y lv0 0 []) : vx_Met l y ws rm (hv_Pc w As Y) Qc XC rm.cells rm.slots (hv_A w) := by
  refine vx_ofW (cc := cc) (maxL := maxL) (ret := ret) hy hw ?_
  intro p e s m args below meth c s₁ B hml hex hv
  obtain ⟨rfl, hWD, hR⟩ := hv
  have hts := atoms_spec (ws := ws) B.pre
  have hown9 : s.vm.findClass own = some m.cls := by rw [← hown]; exact findClass_of_methodNamed B.named
  have hl := lv_entry As (n := maxL) hlen
  rw [hlv] at hl
  rw [lg_entry_eq]
  exact body p e s m below meth c ⟨B.exec, B.bytes, hml, hown9, hts, B.notSynchronized, hWD, hR.1.2⟩ B.returns hex s.heap [] _ hR va_S.rf hl
end HV
