/-! WHAT HOLDS AT THE START: the tables' numbers, the array kinds, the statics, the texts -/
theorem lw_arrP {args : Array Value} {s : State} {ty : FieldType} (h : (Cond.arrayClass ty).before args s = true) : ∃ cA : ClassId, ArrOfT s cA ty ∧ s.vm.findClass ("[" ++ ty.toString) = some cA := by
  obtain ⟨c, k, comp, h1, h2, h3⟩ := Cond.arrayClass_spec h
  exact ⟨c, fun n z => ⟨fun k9 h9 => (by cases h9), k, h2, comp, h3⟩, h1⟩
theorem lw_arrO {args : Array Value} {s : State} {C : String} (h : (Cond.arrayOver (.object C)).before args s = true) : ∃ cA : ClassId, ArrOfT s cA (.object C) ∧ va_RA s cA (.object C) := by
  obtain ⟨comp, c, k, h1, h2, h3, h4, h5⟩ := Cond.arrayOver_spec h
  exact ⟨c, fun n z => ⟨fun k9 h9 => (by cases h9), k, h3, comp, h4⟩, k, comp, h3, h4, h1, h5⟩
theorem lw_nT : ∀ x ∈ hv_N, x ∈ lw_tbl := by decide +kernel
theorem lw_sT : ∀ q ∈ hv_St, Cond.stringRef RX4 q.1 q.2 ∈ lw_tbl := by decide +kernel
theorem lw_sE : ∀ q ∈ hv_St, Cond.exactly (Term.string RX4 q.1) "java/lang/String" ∈ flatC (Jvm.Cond.and given_1 narrow_1) := by decide +kernel
set_option maxRecDepth 100000 in
theorem lw_WD {s : State} {b : Nat} (hts : ∀ w ∈ lw_tbl, w.before #[Value.ref b] s = true) (hgv : (Jvm.Cond.and given_1 narrow_1).before #[Value.ref b] s = true) : ∃ w : hv_W, hv_b w = s.heap.size ∧ hv_WD w s ∧ hv_t w < s.heap.size := by
  have hs := flat_of_before _ hgv
  have hA : ∀ a : Nat, a < s.heap.size → ¬ (fun q : Nat => s.heap.size ≤ q) a := fun a h => Nat.not_le.mpr h
  obtain ⟨k0, i0, u0⟩ := u_known (C := RJx4a65c) (T := TJx4a65c) (N := 3) (n := 3) hts inJx4a65c (hts (.instantiable RJx4a65c 3) (by decide +kernel))
  obtain ⟨k1, i1, u1⟩ := u_known (C := RX0) (T := TX0) (N := 9) (n := 9) hts inX0 (hts (.instantiable RX0 9) (by decide +kernel))
  obtain ⟨k2, i2, u2⟩ := u_known (C := RX1) (T := TX1) (N := 6) (n := 6) hts inX1 (hts (.instantiable RX1 6) (by decide +kernel))
  obtain ⟨k3, i3, u3⟩ := u_known (C := RX2) (T := TX2) (N := 6) (n := 6) hts inX2 (hts (.instantiable RX2 6) (by decide +kernel))
  obtain ⟨k4, i4, u4⟩ := u_known (C := RX3) (T := TX3) (N := 2) (n := 2) hts inX3 (hts (.instantiable RX3 2) (by decide +kernel))
  obtain ⟨k5, i5, u5⟩ := u_known (C := RX4) (T := TX4) (N := 6) (n := 6) hts inX4 (hts (.instantiable RX4 6) (by decide +kernel))
  obtain ⟨k6, i6, u6⟩ := u_known (C := RX5) (T := TX5) (N := 26) (n := 26) hts inX5 (hts (.instantiable RX5 26) (by decide +kernel))
  obtain ⟨dC, dI, hKc⟩ : ∃ (dC : Nat → ClassId) (dI : Nat → Nat → Nat), ∀ (k : Nat) (q : vw_C), vwCl[k]? = some q → u_Kn s q.1 q.2.1 q.2.2 (dC k) (dI k) := by
    refine ⟨fun k => match k with | 0 => k0 | 1 => k1 | 2 => k2 | 3 => k3 | 4 => k4 | 5 => k5 | _ => k6, fun k => match k with | 0 => i0 | 1 => i1 | 2 => i2 | 3 => i3 | 4 => i4 | 5 => i5 | _ => i6, ?_⟩
    intro k q hq
    match k, hq with
    | 0, hq => cases hq; exact u0
    | 1, hq => cases hq; exact u1
    | 2, hq => cases hq; exact u2
    | 3, hq => cases hq; exact u3
    | 4, hq => cases hq; exact u4
    | 5, hq => cases hq; exact u5
    | 6, hq => cases hq; exact u6
    | k + 7, hq => simp [vwCl] at hq
  obtain ⟨a0, p0, n0⟩ := lw_arrP (hts (.arrayClass .int) (by decide +kernel))
  obtain ⟨a1, p1, n1⟩ := lw_arrP (hts (.arrayClass .boolean) (by decide +kernel))
  obtain ⟨a2, p2, n2⟩ := lw_arrP (hts (.arrayClass .long) (by decide +kernel))
  obtain ⟨a3, p3, n3⟩ := lw_arrO (C := RX1) (hts (.arrayOver (.object RX1)) (by decide +kernel))
  obtain ⟨a4, p4, n4⟩ := lw_arrO (C := RX2) (hts (.arrayOver (.object RX2)) (by decide +kernel))
  obtain ⟨a5, p5, n5⟩ := lw_arrO (C := "java/lang/Object") (hts (.arrayOver (.object "java/lang/Object")) (by decide +kernel))
  obtain ⟨t, ht, hT⟩ := va_Tof (s := s) (args := #[Value.ref b]) (tm := Term.static "java/util/ArrayList" "DEFAULTCAPACITY_EMPTY_ELEMENTDATA" "[Ljava/lang/Object;") (ty := .object "java/lang/Object") (N := 0) (f := fun _ => Value.null) (A := fun q : Nat => s.heap.size ≤ q) (by decide) (hs _ (by decide +kernel)) (va_eqt (hs (Cond.eq (.length (Term.static "java/util/ArrayList" "DEFAULTCAPACITY_EMPTY_ELEMENTDATA" "[Ljava/lang/Object;")) (.int 0)) (by decide +kernel))) (fun j hj => absurd hj (Nat.not_lt_zero j)) hA
  obtain ⟨mi, hmi⟩ := va_Mi.of (C := "[Ljava/lang/Object;") (hs (Cond.isRef (.mirror "[Ljava/lang/Object;")) (by decide +kernel))
  have htb : t < s.heap.size := by
    obtain ⟨cell, h1, -⟩ := hT
    exact (Array.getElem?_eq_some_iff.mp h1).1
  refine ⟨((dC, dI), fun k => match k with | 0 => a0 | 1 => a1 | 2 => a2 | 3 => a3 | 4 => a4 | _ => a5, s.heap.size, t, mi), rfl, ⟨⟨hKc, ?_⟩, ?_, hT, ⟨?_, ?_⟩, ⟨va_AO.of (hts (.arrayOver (.object RX1)) (by decide +kernel)), va_AO.of (hts (.arrayOver (.object RX2)) (by decide +kernel)), va_AO.of (hts (.arrayOver (.object "java/lang/Object")) (by decide +kernel))⟩, ⟨hmi, va_Dc.of (hts _ (by decide +kernel))⟩, va_Nw.of rfl (hts (.methodLinkNest RX1 27 yX3_init RX4) (by decide +kernel)), ?_, ?_, va_Nc.of (hs (Cond.not (.castable hv_IA hv_IO)) (by decide +kernel)), va_Nc.of (hs (Cond.not (.castable hv_IS hv_IO)) (by decide +kernel)), va_Nc.of (hs (Cond.not (.castable hv_IS hv_IA)) (by decide +kernel))⟩, htb⟩
  · intro k q hq
    match k, hq with
    | 0, hq => cases hq; exact ⟨p0, n0⟩
    | 1, hq => cases hq; exact ⟨p1, n1⟩
    | 2, hq => cases hq; exact ⟨p2, n2⟩
    | 3, hq => cases hq; exact ⟨p3, n3⟩
    | 4, hq => cases hq; exact ⟨p4, n4⟩
    | 5, hq => cases hq; exact ⟨p5, n5⟩
    | k + 6, hq => simp [hv_T] at hq
  · exact va_Zref (hts (.laysStatic "java/util/ArrayList" "DEFAULTCAPACITY_EMPTY_ELEMENTDATA" "[Ljava/lang/Object;") (by decide +kernel)) (hts (.initialized "java/util/ArrayList") (by decide +kernel)) ht hA
  · exact vx_Zqof (hts (.laysStatic Bundle.tN "UNASSIGNED_STACK" Bundle.steD) (by decide +kernel)) (hts (.initialized Bundle.tN) (by decide +kernel)) (hs (Cond.isRef (.static Bundle.tN "UNASSIGNED_STACK" Bundle.steD)) (by decide +kernel)) hA
  · exact vx_Zqof (hts (.laysStatic Bundle.tN "SUPPRESSED_SENTINEL" Bundle.listD) (by decide +kernel)) (hts (.initialized Bundle.tN) (by decide +kernel)) (hs (Cond.isRef (.static Bundle.tN "SUPPRESSED_SENTINEL" Bundle.listD)) (by decide +kernel)) hA
  · intro x hx
    have h1 := hv_N_face x hx
    simp only [Bool.and_eq_true] at h1
    exact va_any h1.1 (hts x (lw_nT x hx))
  · intro q hq
    obtain ⟨a, -, -, -, ha, -⟩ := Cond.exactly_spec (hs _ (lw_sE q hq))
    exact ⟨a, vk_R.of (A := #[Value.ref b]) (hts _ (lw_sT q hq)) ha⟩
