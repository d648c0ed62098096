def f_cd (A : ab_A) (j t : Nat) : ab_A := if t = A 17 j then au (f_come A j t) 21 j 1 else if A 18 j - 1 = 0 then au (f_come A j t) 21 j 2 else f_come A j t
theorem come_1 {A : ab_A} {j t n : Nat} (h : A 23 j / 2 ^ t % 2 ≠ 0) (hn : n = A 16 0) : au (au (au (au (au (au A 22 j t) 24 j (n + 1)) 19 j (A 19 j + 1)) 18 j (A 18 j - 1)) 20 j (A 20 j + 1)) 23 j (A 23 j ||| 2 ^ t) = f_come A j t := by
  subst hn
  have hb : A 20 j + A 23 j / 2 ^ t % 2 = A 20 j + 1 := by omega
  unfold f_come
  rw [hb]
  funext k i
  by_cases h18 : k = 18
  · subst h18; rfl
  by_cases h19 : k = 19
  · subst h19; rfl
  by_cases h20 : k = 20
  · subst h20; rfl
  by_cases h22 : k = 22
  · subst h22; rfl
  by_cases h23 : k = 23
  · subst h23; rfl
  by_cases h24 : k = 24
  · subst h24; rfl
  simp only [au, if_neg h18, if_neg h19, if_neg h20, if_neg h22, if_neg h23, if_neg h24]
theorem come_0 {A : ab_A} {j t n : Nat} (h : A 23 j / 2 ^ t % 2 = 0) (hn : n = A 16 0) : au (au (au (au (au A 22 j t) 24 j (n + 1)) 19 j (A 19 j + 1)) 18 j (A 18 j - 1)) 23 j (A 23 j ||| 2 ^ t) = f_come A j t := by
  subst hn
  have hb : A 20 j + A 23 j / 2 ^ t % 2 = A 20 j := by omega
  unfold f_come
  rw [hb]
  funext k i
  by_cases h18 : k = 18
  · subst h18; rfl
  by_cases h19 : k = 19
  · subst h19; rfl
  by_cases h20 : k = 20
  · subst h20
    show A 20 i = (if i = j then A 20 j else A 20 i)
    split
    · rename_i q; rw [q]
    · rfl
  by_cases h22 : k = 22
  · subst h22; rfl
  by_cases h23 : k = 23
  · subst h23; rfl
  by_cases h24 : k = 24
  · subst h24; rfl
  simp only [au, if_neg h18, if_neg h19, if_neg h20, if_neg h22, if_neg h23, if_neg h24]
set_option maxRecDepth 100000 in
set_option maxHeartbeats 4000000 in
theorem c_X0_comeTo (l : Launch) (w : hv_W) (g : cl_g) (A Z : ab_A) (Y0 : hv_H) (hg : cl_ok g (A 4 0) (A 15 0)) (j t n : Nat) (hj : j < A 15 0) (ht : t < 8) (h17 : A 17 j < 8) (h18 : 1 ≤ A 18 j) (h18' : A 18 j ≤ 20) (h23 : A 23 j < 256) (hn : n = A 16 0) : hv_Mv l yX0_comeTo wsX0_comeTo ({ frames := 0, cells := 0, slots := 0, locals := 0 }) w [.ref (g.1 14 j), .ref (g.1 5 t), .int (nI n)] (cl_Y w g A Z Y0) (fun Y1 => Y1 = cl_Y w g (f_cd A j t) Z Y0) := by
  refine hv_ofV (cc := cX0_comeTo) (own := RX0) (by decide) rfl rfl (Nat.le_of_ble_eq_true rfl) rfl ?_
  intro p e s m below meth c C hret hnm
  have hinX0 : ∀ x ∈ wsX00, x ∈ wsX0_comeTo := by decide +kernel
  have hinX1 : ∀ x ∈ wsX10, x ∈ wsX0_comeTo := by decide +kernel
  refine hv_aload_n C dX0_comeTo_0 rfl 0 rfl ?_
  refine hv_aload_n C dX0_comeTo_1 rfl 1 rfl ?_
  refine hc_put (kd := 14) (i := j) (f := 3) (A' := (au A 22 j t)) (Z' := Z) (ty := .object "LockgateRouter$Basin") C hg (Or.inr (Or.inr (Or.inr ⟨Or.inl rfl, by omega⟩))) rfl rfl hinX0 tyX0 tyX0_ok nmX0 (by decide) (by decide +kernel) rfl rfl (by decide +kernel) rfl (by rfl) (by show 3 < 9; decide) (by simp [cl_cell, au]) cu_22 dX0_comeTo_2 ?_
  refine hv_aload_n C dX0_comeTo_5 rfl 0 rfl ?_
  refine hv_iload_n C dX0_comeTo_6 rfl 2 rfl ?_
  refine hc_put (kd := 14) (i := j) (f := 8) (A' := (au (au A 22 j t) 24 j (n + 1))) (Z' := Z) (ty := .int) C hg (Or.inr (Or.inr (Or.inr ⟨Or.inl rfl, by omega⟩))) rfl rfl hinX0 tyX0 tyX0_ok nmX0 (by decide) (by decide +kernel) rfl rfl (by decide +kernel) rfl (by rfl) (by show 8 < 9; decide) (by simp [cl_cell, au]) cu_24 dX0_comeTo_7 ?_
  refine hv_aload_n C dX0_comeTo_10 rfl 0 rfl ?_
  refine hv_dup C dX0_comeTo_11 rfl ?_
  refine hc_get (kd := 14) (i := j) (f := 5) (v := .int (nI (A 19 j))) C hg (Or.inr (Or.inr (Or.inr ⟨Or.inl rfl, by omega⟩))) rfl rfl hinX0 (by decide) (by decide +kernel) rfl rfl dX0_comeTo_12 ?_
  refine hv_iconst (v := nI 1) C dX0_comeTo_15 (by decide) ?_
  refine hv_iaddN C dX0_comeTo_16 ?_
  refine hc_put (kd := 14) (i := j) (f := 5) (A' := (au (au (au A 22 j t) 24 j (n + 1)) 19 j ((A 19 j) + 1))) (Z' := Z) (ty := .int) C hg (Or.inr (Or.inr (Or.inr ⟨Or.inl rfl, by omega⟩))) rfl rfl hinX0 tyX0 tyX0_ok nmX0 (by decide) (by decide +kernel) rfl rfl (by decide +kernel) rfl (by rfl) (by show 5 < 9; decide) (by simp [cl_cell, au]) cu_19 dX0_comeTo_17 ?_
  refine hv_aload_n C dX0_comeTo_20 rfl 0 rfl ?_
  refine hv_dup C dX0_comeTo_21 rfl ?_
  refine hc_get (kd := 14) (i := j) (f := 4) (v := .int (nI (A 18 j))) C hg (Or.inr (Or.inr (Or.inr ⟨Or.inl rfl, by omega⟩))) rfl rfl hinX0 (by decide) (by decide +kernel) rfl rfl dX0_comeTo_22 ?_
  refine hv_iconst (v := nI 1) C dX0_comeTo_25 (by decide) ?_
  refine hv_isubN C dX0_comeTo_26 (by omega) ?_
  refine hc_put (kd := 14) (i := j) (f := 4) (A' := (au (au (au (au A 22 j t) 24 j (n + 1)) 19 j ((A 19 j) + 1)) 18 j ((A 18 j) - 1))) (Z' := Z) (ty := .int) C hg (Or.inr (Or.inr (Or.inr ⟨Or.inl rfl, by omega⟩))) rfl rfl hinX0 tyX0 tyX0_ok nmX0 (by decide) (by decide +kernel) rfl rfl (by decide +kernel) rfl (by rfl) (by show 4 < 9; decide) (by simp [cl_cell, au]) cu_18 dX0_comeTo_27 ?_
  refine hv_aload_n C dX0_comeTo_30 rfl 0 rfl ?_
  refine hc_get (kd := 14) (i := j) (f := 2) (v := .ref (g.1 15 j)) C hg (Or.inr (Or.inr (Or.inr ⟨Or.inl rfl, by omega⟩))) rfl rfl hinX0 (by decide) (by decide +kernel) rfl rfl dX0_comeTo_31 ?_
  refine hv_aload_n C dX0_comeTo_34 rfl 1 rfl ?_
  refine hc_get (kd := 5) (i := t) (f := 0) (v := .int (nI t)) C hg (Or.inr (Or.inl ⟨by decide, by decide, by omega⟩)) rfl rfl hinX1 (by decide) (by decide +kernel) rfl rfl dX0_comeTo_35 ?_
  refine hc_zald (i := j) (j := t) (x := A 23 j / 2 ^ t % 2) C hg (by omega) (by omega) rfl dX0_comeTo_38 ?_
  refine hv_ifN_eq (tgt := 52) C dX0_comeTo_39 (by decide) (by omega) (fun h1 => ?_) (fun h1 => ?_)
  · skip
    refine hv_aload_n C dX0_comeTo_52 rfl 0 rfl ?_
    refine hc_get (kd := 14) (i := j) (f := 2) (v := .ref (g.1 15 j)) C hg (Or.inr (Or.inr (Or.inr ⟨Or.inl rfl, by omega⟩))) rfl rfl hinX0 (by decide) (by decide +kernel) rfl rfl dX0_comeTo_53 ?_
    refine hv_aload_n C dX0_comeTo_56 rfl 1 rfl ?_
    refine hc_get (kd := 5) (i := t) (f := 0) (v := .int (nI t)) C hg (Or.inr (Or.inl ⟨by decide, by decide, by omega⟩)) rfl rfl hinX1 (by decide) (by decide +kernel) rfl rfl dX0_comeTo_57 ?_
    refine hv_iconst (v := nI 1) C dX0_comeTo_60 (by decide) ?_
    refine hc_zast (i := j) (j := t) (v := A 23 j ||| 2 ^ t) C hg (by omega) (by omega) (show A 23 j < 256 from by omega) rfl dX0_comeTo_61 ?_
    refine hv_aload_n C dX0_comeTo_62 rfl 1 rfl ?_
    refine hv_aload_n C dX0_comeTo_63 rfl 0 rfl ?_
    refine hc_get (kd := 14) (i := j) (f := 1) (v := .ref (g.1 5 (A 17 j))) C hg (Or.inr (Or.inr (Or.inr ⟨Or.inl rfl, by omega⟩))) rfl rfl hinX0 (by decide) (by decide +kernel) rfl rfl dX0_comeTo_64 ?_
    refine hv_acmpR_ne (tgt := 78) C dX0_comeTo_67 (by decide) (fun h2 => ?_) (fun h2 => ?_)
    · skip
      refine hv_aload_n C dX0_comeTo_78 rfl 0 rfl ?_
      refine hc_get (kd := 14) (i := j) (f := 4) (v := .int (nI ((A 18 j) - 1))) C hg (Or.inr (Or.inr (Or.inr ⟨Or.inl rfl, by omega⟩))) rfl rfl hinX0 (by decide) (by decide +kernel) rfl (by simp [au]) dX0_comeTo_79 ?_
      refine hv_ifN_ne (tgt := 90) C dX0_comeTo_82 (by decide) (by omega) (fun h3 => ?_) (fun h3 => ?_)
      · skip
        exact hv_vret C hret dX0_comeTo_90 (by first | exact Nat.le_refl _ | decide | omega | (simp; done) | (simp; omega)) (by first | exact Nat.le_refl _ | decide | omega | (simp; done) | (simp; omega)) (congrArg (fun q => cl_Y w g q Z Y0) (show _ = f_cd A j t from ((come_0 (A := A) h1 hn).trans ((if_neg (by omega)).symm.trans (if_neg (fun q => h2 ((cl_b hg ht h17).mpr q))).symm))))
      · skip
        refine hv_aload_n C dX0_comeTo_85 rfl 0 rfl ?_
        refine hv_iconst (v := nI 2) C dX0_comeTo_86 (by decide) ?_
        refine hc_put (kd := 14) (i := j) (f := 7) (A' := (au (au (au (au (au (au A 22 j t) 24 j (n + 1)) 19 j ((A 19 j) + 1)) 18 j ((A 18 j) - 1)) 23 j (A 23 j ||| 2 ^ t)) 21 j 2)) (Z' := Z) (ty := .int) C hg (Or.inr (Or.inr (Or.inr ⟨Or.inl rfl, by omega⟩))) rfl rfl hinX0 tyX0 tyX0_ok nmX0 (by decide) (by decide +kernel) rfl rfl (by decide +kernel) rfl (by rfl) (by show 7 < 9; decide) (by simp [cl_cell, au]) cu_21 dX0_comeTo_87 ?_
        exact hv_vret C hret dX0_comeTo_90 (by first | exact Nat.le_refl _ | decide | omega | (simp; done) | (simp; omega)) (by first | exact Nat.le_refl _ | decide | omega | (simp; done) | (simp; omega)) (congrArg (fun q => cl_Y w g q Z Y0) (show _ = f_cd A j t from ((congrArg (fun q => au q 21 j 2) (come_0 (A := A) h1 hn)).trans ((if_pos (by omega)).symm.trans (if_neg (fun q => h2 ((cl_b hg ht h17).mpr q))).symm))))
    · skip
      refine hv_aload_n C dX0_comeTo_70 rfl 0 rfl ?_
      refine hv_iconst (v := nI 1) C dX0_comeTo_71 (by decide) ?_
      refine hc_put (kd := 14) (i := j) (f := 7) (A' := (au (au (au (au (au (au A 22 j t) 24 j (n + 1)) 19 j ((A 19 j) + 1)) 18 j ((A 18 j) - 1)) 23 j (A 23 j ||| 2 ^ t)) 21 j 1)) (Z' := Z) (ty := .int) C hg (Or.inr (Or.inr (Or.inr ⟨Or.inl rfl, by omega⟩))) rfl rfl hinX0 tyX0 tyX0_ok nmX0 (by decide) (by decide +kernel) rfl rfl (by decide +kernel) rfl (by rfl) (by show 7 < 9; decide) (by simp [cl_cell, au]) cu_21 dX0_comeTo_72 ?_
      refine hv_goto (tgt := 90) C dX0_comeTo_75 (by decide) ?_
      exact hv_vret C hret dX0_comeTo_90 (by first | exact Nat.le_refl _ | decide | omega | (simp; done) | (simp; omega)) (by first | exact Nat.le_refl _ | decide | omega | (simp; done) | (simp; omega)) (congrArg (fun q => cl_Y w g q Z Y0) (show _ = f_cd A j t from ((congrArg (fun q => au q 21 j 1) (come_0 (A := A) h1 hn)).trans (if_pos ((cl_b hg ht h17).mp h2)).symm)))
  · skip
    refine hv_aload_n C dX0_comeTo_42 rfl 0 rfl ?_
    refine hv_dup C dX0_comeTo_43 rfl ?_
    refine hc_get (kd := 14) (i := j) (f := 6) (v := .int (nI (A 20 j))) C hg (Or.inr (Or.inr (Or.inr ⟨Or.inl rfl, by omega⟩))) rfl rfl hinX0 (by decide) (by decide +kernel) rfl rfl dX0_comeTo_44 ?_
    refine hv_iconst (v := nI 1) C dX0_comeTo_47 (by decide) ?_
    refine hv_iaddN C dX0_comeTo_48 ?_
    refine hc_put (kd := 14) (i := j) (f := 6) (A' := (au (au (au (au (au A 22 j t) 24 j (n + 1)) 19 j ((A 19 j) + 1)) 18 j ((A 18 j) - 1)) 20 j ((A 20 j) + 1))) (Z' := Z) (ty := .int) C hg (Or.inr (Or.inr (Or.inr ⟨Or.inl rfl, by omega⟩))) rfl rfl hinX0 tyX0 tyX0_ok nmX0 (by decide) (by decide +kernel) rfl rfl (by decide +kernel) rfl (by rfl) (by show 6 < 9; decide) (by simp [cl_cell, au]) cu_20 dX0_comeTo_49 ?_
    refine hv_aload_n C dX0_comeTo_52 rfl 0 rfl ?_
    refine hc_get (kd := 14) (i := j) (f := 2) (v := .ref (g.1 15 j)) C hg (Or.inr (Or.inr (Or.inr ⟨Or.inl rfl, by omega⟩))) rfl rfl hinX0 (by decide) (by decide +kernel) rfl rfl dX0_comeTo_53 ?_
    refine hv_aload_n C dX0_comeTo_56 rfl 1 rfl ?_
    refine hc_get (kd := 5) (i := t) (f := 0) (v := .int (nI t)) C hg (Or.inr (Or.inl ⟨by decide, by decide, by omega⟩)) rfl rfl hinX1 (by decide) (by decide +kernel) rfl rfl dX0_comeTo_57 ?_
    refine hv_iconst (v := nI 1) C dX0_comeTo_60 (by decide) ?_
    refine hc_zast (i := j) (j := t) (v := A 23 j ||| 2 ^ t) C hg (by omega) (by omega) (show A 23 j < 256 from by omega) rfl dX0_comeTo_61 ?_
    refine hv_aload_n C dX0_comeTo_62 rfl 1 rfl ?_
    refine hv_aload_n C dX0_comeTo_63 rfl 0 rfl ?_
    refine hc_get (kd := 14) (i := j) (f := 1) (v := .ref (g.1 5 (A 17 j))) C hg (Or.inr (Or.inr (Or.inr ⟨Or.inl rfl, by omega⟩))) rfl rfl hinX0 (by decide) (by decide +kernel) rfl rfl dX0_comeTo_64 ?_
    refine hv_acmpR_ne (tgt := 78) C dX0_comeTo_67 (by decide) (fun h4 => ?_) (fun h4 => ?_)
    · skip
      refine hv_aload_n C dX0_comeTo_78 rfl 0 rfl ?_
      refine hc_get (kd := 14) (i := j) (f := 4) (v := .int (nI ((A 18 j) - 1))) C hg (Or.inr (Or.inr (Or.inr ⟨Or.inl rfl, by omega⟩))) rfl rfl hinX0 (by decide) (by decide +kernel) rfl (by simp [au]) dX0_comeTo_79 ?_
      refine hv_ifN_ne (tgt := 90) C dX0_comeTo_82 (by decide) (by omega) (fun h5 => ?_) (fun h5 => ?_)
      · skip
        exact hv_vret C hret dX0_comeTo_90 (by first | exact Nat.le_refl _ | decide | omega | (simp; done) | (simp; omega)) (by first | exact Nat.le_refl _ | decide | omega | (simp; done) | (simp; omega)) (congrArg (fun q => cl_Y w g q Z Y0) (show _ = f_cd A j t from ((come_1 (A := A) h1 hn).trans ((if_neg (by omega)).symm.trans (if_neg (fun q => h4 ((cl_b hg ht h17).mpr q))).symm))))
      · skip
        refine hv_aload_n C dX0_comeTo_85 rfl 0 rfl ?_
        refine hv_iconst (v := nI 2) C dX0_comeTo_86 (by decide) ?_
        refine hc_put (kd := 14) (i := j) (f := 7) (A' := (au (au (au (au (au (au (au A 22 j t) 24 j (n + 1)) 19 j ((A 19 j) + 1)) 18 j ((A 18 j) - 1)) 20 j ((A 20 j) + 1)) 23 j (A 23 j ||| 2 ^ t)) 21 j 2)) (Z' := Z) (ty := .int) C hg (Or.inr (Or.inr (Or.inr ⟨Or.inl rfl, by omega⟩))) rfl rfl hinX0 tyX0 tyX0_ok nmX0 (by decide) (by decide +kernel) rfl rfl (by decide +kernel) rfl (by rfl) (by show 7 < 9; decide) (by simp [cl_cell, au]) cu_21 dX0_comeTo_87 ?_
        exact hv_vret C hret dX0_comeTo_90 (by first | exact Nat.le_refl _ | decide | omega | (simp; done) | (simp; omega)) (by first | exact Nat.le_refl _ | decide | omega | (simp; done) | (simp; omega)) (congrArg (fun q => cl_Y w g q Z Y0) (show _ = f_cd A j t from ((congrArg (fun q => au q 21 j 2) (come_1 (A := A) h1 hn)).trans ((if_pos (by omega)).symm.trans (if_neg (fun q => h4 ((cl_b hg ht h17).mpr q))).symm))))
    · skip
      refine hv_aload_n C dX0_comeTo_70 rfl 0 rfl ?_
      refine hv_iconst (v := nI 1) C dX0_comeTo_71 (by decide) ?_
      refine hc_put (kd := 14) (i := j) (f := 7) (A' := (au (au (au (au (au (au (au A 22 j t) 24 j (n + 1)) 19 j ((A 19 j) + 1)) 18 j ((A 18 j) - 1)) 20 j ((A 20 j) + 1)) 23 j (A 23 j ||| 2 ^ t)) 21 j 1)) (Z' := Z) (ty := .int) C hg (Or.inr (Or.inr (Or.inr ⟨Or.inl rfl, by omega⟩))) rfl rfl hinX0 tyX0 tyX0_ok nmX0 (by decide) (by decide +kernel) rfl rfl (by decide +kernel) rfl (by rfl) (by show 7 < 9; decide) (by simp [cl_cell, au]) cu_21 dX0_comeTo_72 ?_
      refine hv_goto (tgt := 90) C dX0_comeTo_75 (by decide) ?_
      exact hv_vret C hret dX0_comeTo_90 (by first | exact Nat.le_refl _ | decide | omega | (simp; done) | (simp; omega)) (by first | exact Nat.le_refl _ | decide | omega | (simp; done) | (simp; omega)) (congrArg (fun q => cl_Y w g q Z Y0) (show _ = f_cd A j t from ((congrArg (fun q => au q 21 j 1) (come_1 (A := A) h1 hn)).trans (if_pos ((cl_b hg ht h17).mp h4)).symm)))
def tb_Y (w : hv_W) (Y : hv_H) (d q : Nat) (f : Nat → Int32) (h : Nat → Option Nat) (o n : Nat) : hv_H := hv_up (hv_up Y d (.inl (.inl (hv_c w 0, 8, .inl (fun j => if j < n then nI (if j = o then 1 else 0) + (-1) else f j))))) q (.inl (.inl (hv_c w 4, 8, hv_ref (fun j => if j < n then none else h j))))
section TB
variable {w : hv_W} {Y : hv_H} {t d q o n : Nat} {f : Nat → Int32} {h : Nat → Option Nat}
theorem tb_0 (hd : Y d = some (.inl (.inl (hv_c w 0, 8, .inl f)))) (hq : Y q = some (.inl (.inl (hv_c w 4, 8, hv_ref h)))) : tb_Y w Y d q f h o 0 = Y := by
  unfold tb_Y
  have e1 : (fun j => if j < 0 then nI (if j = o then 1 else 0) + (-1) else f j) = f := by funext j; simp
  have e2 : (fun j => if j < 0 then none else h j) = h := by funext j; simp
  rw [e1, e2, hv_upL hd, hv_upL hq]
theorem tb_ne (hd : Y d = some (.inl (.inl (hv_c w 0, 8, .inl f)))) (hq : Y q = some (.inl (.inl (hv_c w 4, 8, hv_ref h)))) : d ≠ q := by
  intro z
  rw [z, hq] at hd
  have := Option.some.inj hd
  unfold hv_ref at this
  simp at this
theorem tb_t (hY : Y t = some (.inl (.inr (4, [.ref d, .ref q])))) (hd : Y d = some (.inl (.inl (hv_c w 0, 8, .inl f)))) (hq : Y q = some (.inl (.inl (hv_c w 4, 8, hv_ref h)))) : tb_Y w Y d q f h o n t = some (.inl (.inr (4, [.ref d, .ref q]))) := by
  have h1 : t ≠ d := by intro z; rw [z, hd] at hY; simp at hY
  have h2 : t ≠ q := by intro z; rw [z, hq] at hY; simp at hY
  unfold tb_Y
  rw [hv_up_n h2, hv_up_n h1, hY]
theorem tb_d (hd : Y d = some (.inl (.inl (hv_c w 0, 8, .inl f)))) (hq : Y q = some (.inl (.inl (hv_c w 4, 8, hv_ref h)))) : tb_Y w Y d q f h o n d = some (.inl (.inl (hv_c w 0, 8, .inl (fun j => if j < n then nI (if j = o then 1 else 0) + (-1) else f j)))) := by
  unfold tb_Y
  rw [hv_up_n (tb_ne hd hq), hv_up_s]
theorem tb_q : tb_Y w Y d q f h o n q = some (.inl (.inl (hv_c w 4, 8, hv_ref (fun j => if j < n then none else h j)))) := hv_up_s
theorem tb_s (hdq : d ≠ q) : hv_up (hv_up (tb_Y w Y d q f h o n) d (.inl (.inl (hv_c w 0, 8, .inl (upd (fun j => if j < n then nI (if j = o then 1 else 0) + (-1) else f j) n (nI (if n = o then 1 else 0) + (-1))))))) q (.inl (.inl (hv_c w 4, 8, hv_ref (va_up (fun j => if j < n then none else h j) n none)))) = tb_Y w Y d q f h o (n + 1) := by
  have e1 : upd (fun j => if j < n then nI (if j = o then 1 else 0) + (-1) else f j) n (nI (if n = o then 1 else 0) + (-1)) = fun j => if j < n + 1 then nI (if j = o then 1 else 0) + (-1) else f j := by
    funext j
    simp only [upd]
    by_cases z : j = n
    · rw [if_pos z, if_pos (show j < n + 1 by omega), z]
    · rw [if_neg z]
      by_cases z2 : j < n
      · rw [if_pos z2, if_pos (show j < n + 1 by omega)]
      · rw [if_neg z2, if_neg (show ¬ j < n + 1 by omega)]
  have e2 : va_up (fun j => if j < n then none else h j) n none = fun j => if j < n + 1 then none else h j := by
    funext j
    simp only [va_up]
    by_cases z : j = n
    · rw [if_pos z, if_pos (show j < n + 1 by omega)]
    · rw [if_neg z]
      by_cases z2 : j < n
      · rw [if_pos z2, if_pos (show j < n + 1 by omega)]
      · rw [if_neg z2, if_neg (show ¬ j < n + 1 by omega)]
  rw [e1, e2]
  funext b
  unfold tb_Y hv_up
  by_cases h1 : b = q
  · rw [if_pos h1, if_pos h1]
  · rw [if_neg h1, if_neg h1]
    by_cases h2 : b = d
    · simp only [if_pos h2, if_neg h1]
    · simp only [if_neg h2, if_neg h1]
end TB
set_option maxRecDepth 100000 in
set_option maxHeartbeats 4000000 in
theorem c_X3_clearFor (l : Launch) (w : hv_W) (Y : hv_H) (t d q o : Nat) (f : Nat → Int32) (h : Nat → Option Nat) (hY : Y t = some (.inl (.inr (4, [.ref d, .ref q])))) (hd : Y d = some (.inl (.inl (hv_c w 0, 8, .inl f)))) (hq : Y q = some (.inl (.inl (hv_c w 4, 8, hv_ref h)))) (ho : o < 8) : hv_Mv l yX3_clearFor wsX3_clearFor ({ frames := 0, cells := 0, slots := 0, locals := 0 }) w [.ref (t), .int (nI o)] (Y) (fun Y1 => Y1 = tb_Y w Y d q f h o 8) := by
  refine hv_ofV (cc := cX3_clearFor) (own := RX3) (by decide) rfl rfl (Nat.le_of_ble_eq_true rfl) rfl ?_
  intro p e s m below meth c C hret hnm
  have hinX3 : ∀ x ∈ wsX30, x ∈ wsX3_clearFor := by decide +kernel
  refine hv_iconst (v := nI 0) C dX3_clearFor_0 (by decide) ?_
  refine hv_istore_n (lv1 := [(0, .ref (t)), (1, .int (nI o)), (2, .int (nI 0))]) C dX3_clearFor_1 rfl (by decide) [1, 2, 0] rfl ?_
  refine hv_fin ?_ (tb_0 (o := o) hd hq).symm rfl
  refine hv_loop 8 (fun i => tb_Y w Y d q f h o i) (fun i => [(0, .ref (t)), (1, .int (nI o)), (2, .int (nI i))]) ?_ ?_
  · skip
    refine hv_iload_n C dX3_clearFor_2 rfl 2 rfl ?_
    refine hv_bipush (v := nI 8) C dX3_clearFor_3 (by decide) ?_
    refine hv_icmpN_ge (tgt := 37) C dX3_clearFor_5 (by decide) (by omega) (by omega) (fun _ => ?_) (fun h => absurd h (by decide))
    exact hv_vret C hret dX3_clearFor_37 (by first | exact Nat.le_refl _ | decide | omega | (simp; done) | (simp; omega)) (by first | exact Nat.le_refl _ | decide | omega | (simp; done) | (simp; omega)) rfl
  · intro i hi ih
    refine hv_iload_n C dX3_clearFor_2 rfl 2 rfl ?_
    refine hv_bipush (v := nI 8) C dX3_clearFor_3 (by decide) ?_
    refine hv_icmpN_ge (tgt := 37) C dX3_clearFor_5 (by decide) (by omega) (by omega) (fun h2 => ?_) (fun h2 => ?_)
    · skip
      exact absurd h2 (by omega)
    · skip
      refine hv_aload_n C dX3_clearFor_8 rfl 0 rfl ?_
      refine hv_getf (k := 0) C hinX3 (show vwCl[4]? = some (RX3, TX3, 2) from rfl) (tb_t hY hd hq) (by decide) (by decide +kernel) (fun _ h => h) rfl dX3_clearFor_9 ?_
      refine hv_iload_n C dX3_clearFor_12 rfl 2 rfl ?_
      refine hv_join (α := Nat) (pcJ := 23) (fun _ => tb_Y w Y d q f h o i) (fun _ => [(0, .ref (t)), (1, .int (nI o)), (2, .int (nI i))]) (fun t9 => .int (nI t9 + (-1)) :: [.int (nI i), .ref (d)]) (fun t9 => t9 = if i = o then 1 else 0) ?_ ?_
      · rintro _ rfl
        refine hv_iast C (tb_d hd hq) (vp_in_nI hi (by decide)) dX3_clearFor_23 ?_
        rw [nI_clamp (by omega)]
        refine hv_aload_n C dX3_clearFor_24 rfl 0 rfl ?_
        refine hv_getf (k := 1) C hinX3 (show vwCl[4]? = some (RX3, TX3, 2) from rfl) ((hv_up_n (fun z => by rw [z, hd] at hY; simp at hY)).trans (tb_t hY hd hq)) (by decide) (by decide +kernel) (fun _ h => h) rfl dX3_clearFor_25 ?_
        refine hv_iload_n C dX3_clearFor_28 rfl 2 rfl ?_
        refine hv_null C dX3_clearFor_29 ?_
        refine hv_aastN C 4 (show (hv_T w)[4]? = some (hv_c w 4, .object RX2) from rfl) ((hv_up_n (Ne.symm (tb_ne hd hq))).trans tb_q) (vp_in_nI hi (by decide)) dX3_clearFor_30 ?_
        rw [nI_clamp (by omega)]
        refine hv_iinc (v := nI (i + 1)) (lv1 := [(0, .ref (t)), (1, .int (nI o)), (2, .int (nI (i + 1)))]) C dX3_clearFor_31 (k := 2) rfl (nI_1 _) (by decide) [1, 2, 0] rfl ?_
        refine hv_goto (tgt := 2) C dX3_clearFor_34 (by decide) ?_
        exact hv_fin ih (tb_s (tb_ne hd hq)) rfl
      · intro kt
        refine hv_iload_n C dX3_clearFor_13 rfl 2 rfl ?_
        refine hv_iload_n C dX3_clearFor_14 rfl 1 rfl ?_
        refine hv_icmpN_ne (tgt := 22) C dX3_clearFor_15 (by decide) (by omega) (by omega) (fun h3 => ?_) (fun h3 => ?_)
        · skip
          refine hv_iconst (v := nI 0 + (-1)) C dX3_clearFor_22 (by decide) ?_
          exact kt _ (by first | rw [if_pos h3] | rw [if_neg h3])
        · skip
          refine hv_iconst (v := nI 0) C dX3_clearFor_18 (by decide) ?_
          refine hv_goto (tgt := 23) C dX3_clearFor_19 (by decide) ?_
          refine hv_top (nI_eS 0).symm ?_
          exact kt _ (by first | rw [if_pos h3] | rw [if_neg h3])
def f_of (Z : ab_A) (b o d j : Nat) : ab_A := if d ≤ 40 ∧ (Z 1 (8 * b + o) = 0 ∨ d < Z 1 (8 * b + o) - 1) then au (au Z 1 (8 * b + o) (d + 1)) 2 (8 * b + o) (j + 1) else Z
set_option maxRecDepth 100000 in
set_option maxHeartbeats 4000000 in
theorem c_X3_offer (l : Launch) (w : hv_W) (g : cl_g) (A Z : ab_A) (Y0 : hv_H) (hg : cl_ok g (A 4 0) (A 15 0)) (b o d j : Nat) (hb : b < 8) (ho : o < 8) (hd : d < 1000) (hj : j < A 4 0) (hz : Z 0 b ≤ 1) (h1 : Z 1 (8 * b + o) ≤ 41) : hv_Mv l yX3_offer wsX3_offer ({ frames := 0, cells := 0, slots := 0, locals := 0 }) w [.ref (g.1 (8 - Z 0 b) b), .int (nI o), .int (nI d), .ref (g.1 13 j)] (cl_Y w g A Z Y0) (fun Y1 => Y1 = cl_Y w g A (f_of Z b o d j) Y0) := by
  refine hv_ofV (cc := cX3_offer) (own := RX3) (by decide) rfl rfl (Nat.le_of_ble_eq_true rfl) rfl ?_
  intro p e s m below meth c C hret hnm
  have hinX3 : ∀ x ∈ wsX30, x ∈ wsX3_offer := by decide +kernel
  refine hv_iload_n C dX3_offer_0 rfl 2 rfl ?_
  refine hv_bipush (v := nI 40) C dX3_offer_1 (by decide) ?_
  refine hv_icmpN_le (tgt := 7) C dX3_offer_3 (by decide) (by omega) (by omega) (fun h1 => ?_) (fun h1 => ?_)
  · skip
    refine hv_aload_n C dX3_offer_7 rfl 0 rfl ?_
    refine hc_get (kd := (8 - Z 0 (b))) (i := b) (f := 0) (v := .ref (g.1 (10 - Z 0 b) b)) C hg (Or.inr (Or.inl ⟨by omega, by omega, by omega⟩)) (cl_x (show Z 0 b ≤ 1 from by omega)) rfl hinX3 (by decide) (by decide +kernel) rfl rfl dX3_offer_8 ?_
    refine hv_iload_n C dX3_offer_11 rfl 1 rfl ?_
    refine hc_iald (kd := 10 - Z 0 b) (i := b) (j := o) (x := (nI (Z 1 (8 * b + o)) + (-1))) C hg (Or.inr (Or.inl ⟨by omega, by omega, by omega⟩)) (cl_xd (show Z 0 b ≤ 1 from by omega)) (by decide) (by omega) (if_pos (by omega)) dX3_offer_12 ?_
    refine hv_iconst (v := nI 0 + (-1)) C dX3_offer_13 (by decide) ?_
    refine hv_icmpE_eq (tgt := 27) C dX3_offer_14 (by decide) (by omega) (by omega) (fun h2 => ?_) (fun h2 => ?_)
    · skip
      refine hv_aload_n C dX3_offer_27 rfl 0 rfl ?_
      refine hc_get (kd := (8 - Z 0 (b))) (i := b) (f := 0) (v := .ref (g.1 (10 - Z 0 b) b)) C hg (Or.inr (Or.inl ⟨by omega, by omega, by omega⟩)) (cl_x (show Z 0 b ≤ 1 from by omega)) rfl hinX3 (by decide) (by decide +kernel) rfl rfl dX3_offer_28 ?_
      refine hv_iload_n C dX3_offer_31 rfl 1 rfl ?_
      refine hv_iload_n C dX3_offer_32 rfl 2 rfl ?_
      refine hc_iast1 (b := b) (o := o) (v := d + 1) C hg (by omega) (by omega) (show Z 0 b ≤ 1 from by omega) (nI_eS _) dX3_offer_33 ?_
      refine hv_aload_n C dX3_offer_34 rfl 0 rfl ?_
      refine hc_get (kd := (8 - Z 0 (b))) (i := b) (f := 1) (v := .ref (g.1 (12 - Z 0 b) b)) C hg (Or.inr (Or.inl ⟨by omega, by omega, by omega⟩)) (cl_x (show Z 0 b ≤ 1 from by omega)) rfl hinX3 (by decide) (by decide +kernel) rfl rfl dX3_offer_35 ?_
      refine hv_iload_n C dX3_offer_38 rfl 1 rfl ?_
      refine hv_aload_n C dX3_offer_39 rfl 3 rfl ?_
      refine hc_aast2 (b := b) (o := o) (v := j) C hg (by omega) (by omega) (show Z 0 b ≤ 1 from by omega) (by omega) dX3_offer_40 ?_
      exact hv_vret C hret dX3_offer_41 (by first | exact Nat.le_refl _ | decide | omega | (simp; done) | (simp; omega)) (by first | exact Nat.le_refl _ | decide | omega | (simp; done) | (simp; omega)) (congrArg (fun q => cl_Y w g A q Y0) (if_pos (by omega)).symm)
    · skip
      refine hv_iload_n C dX3_offer_17 rfl 2 rfl ?_
      refine hv_aload_n C dX3_offer_18 rfl 0 rfl ?_
      refine hc_get (kd := (8 - Z 0 (b))) (i := b) (f := 0) (v := .ref (g.1 (10 - Z 0 b) b)) C hg (Or.inr (Or.inl ⟨by omega, by omega, by omega⟩)) (cl_x (show Z 0 b ≤ 1 from by omega)) rfl hinX3 (by decide) (by decide +kernel) rfl rfl dX3_offer_19 ?_
      refine hv_iload_n C dX3_offer_22 rfl 1 rfl ?_
      refine hc_iald (kd := 10 - Z 0 b) (i := b) (j := o) (x := (nI (Z 1 (8 * b + o)) + (-1))) C hg (Or.inr (Or.inl ⟨by omega, by omega, by omega⟩)) (cl_xd (show Z 0 b ≤ 1 from by omega)) (by decide) (by omega) (if_pos (by omega)) dX3_offer_23 ?_
      refine hv_top (nI_em (by omega)) ?_
      refine hv_icmpN_ge (tgt := 41) C dX3_offer_24 (by decide) (by omega) (by omega) (fun h3 => ?_) (fun h3 => ?_)
      · skip
        exact hv_vret C hret dX3_offer_41 (by first | exact Nat.le_refl _ | decide | omega | (simp; done) | (simp; omega)) (by first | exact Nat.le_refl _ | decide | omega | (simp; done) | (simp; omega)) (congrArg (fun q => cl_Y w g A q Y0) (if_neg (by omega)).symm)
      · skip
        refine hv_aload_n C dX3_offer_27 rfl 0 rfl ?_
        refine hc_get (kd := (8 - Z 0 (b))) (i := b) (f := 0) (v := .ref (g.1 (10 - Z 0 b) b)) C hg (Or.inr (Or.inl ⟨by omega, by omega, by omega⟩)) (cl_x (show Z 0 b ≤ 1 from by omega)) rfl hinX3 (by decide) (by decide +kernel) rfl rfl dX3_offer_28 ?_
        refine hv_iload_n C dX3_offer_31 rfl 1 rfl ?_
        refine hv_iload_n C dX3_offer_32 rfl 2 rfl ?_
        refine hc_iast1 (b := b) (o := o) (v := d + 1) C hg (by omega) (by omega) (show Z 0 b ≤ 1 from by omega) (nI_eS _) dX3_offer_33 ?_
        refine hv_aload_n C dX3_offer_34 rfl 0 rfl ?_
        refine hc_get (kd := (8 - Z 0 (b))) (i := b) (f := 1) (v := .ref (g.1 (12 - Z 0 b) b)) C hg (Or.inr (Or.inl ⟨by omega, by omega, by omega⟩)) (cl_x (show Z 0 b ≤ 1 from by omega)) rfl hinX3 (by decide) (by decide +kernel) rfl rfl dX3_offer_35 ?_
        refine hv_iload_n C dX3_offer_38 rfl 1 rfl ?_
        refine hv_aload_n C dX3_offer_39 rfl 3 rfl ?_
        refine hc_aast2 (b := b) (o := o) (v := j) C hg (by omega) (by omega) (show Z 0 b ≤ 1 from by omega) (by omega) dX3_offer_40 ?_
        exact hv_vret C hret dX3_offer_41 (by first | exact Nat.le_refl _ | decide | omega | (simp; done) | (simp; omega)) (by first | exact Nat.le_refl _ | decide | omega | (simp; done) | (simp; omega)) (congrArg (fun q => cl_Y w g A q Y0) (if_pos (by omega)).symm)
  · skip
    exact hv_vret C hret dX3_offer_6 (by first | exact Nat.le_refl _ | decide | omega | (simp; done) | (simp; omega)) (by first | exact Nat.le_refl _ | decide | omega | (simp; done) | (simp; omega)) (congrArg (fun q => cl_Y w g A q Y0) (if_neg (by omega)).symm)
theorem ix_neg {n : Nat} (hn : n < 2 ^ 31) {x : Int32} (h : x < 0) : ix n x = none := by
  cases q : ix n x with
  | none => rfl
  | some j =>
    obtain ⟨h1, rfl⟩ := ix_s hn q
    exact absurd h (fun z => nI_pos (by omega) z)
theorem ix_big {n : Nat} (hn : n < 2 ^ 31) {x : Int32} (h : ¬ x < nI n) : ix n x = none := by
  cases q : ix n x with
  | none => rfl
  | some j =>
    obtain ⟨h1, rfl⟩ := ix_s hn q
    exact absurd (nI_lt h1 hn) h
theorem ix_mid {n : Nat} (hn : n < 2 ^ 31) {x : Int32} (h : ¬ x < 0) (h2 : x < nI n) : ∃ j, j < n ∧ x = nI j ∧ ix n (nI j) = some j := by
  obtain ⟨j, hj, rfl⟩ := nI_pos_of (Int32.not_lt.mp h)
  have h3 := (nI_ltI hj hn).mp h2
  exact ⟨j, h3, rfl, ix_nI h3 hn⟩
theorem rg_lt {lo hi : Nat} (hlo : lo < 2 ^ 31) (hhi : hi < 2 ^ 31) {x : Int32} (h : x < nI lo) : rg lo hi x = none := by
  cases q : rg lo hi x with
  | none => rfl
  | some j =>
    obtain ⟨h1, h2, rfl⟩ := rg_s hlo hhi q
    exact absurd ((nI_ltI (by omega) hlo).mp h) (by omega)
theorem rg_gt {lo hi : Nat} (hlo : lo < 2 ^ 31) (hhi : hi < 2 ^ 31) {x : Int32} (h : ¬ x ≤ nI hi) : rg lo hi x = none := by
  cases q : rg lo hi x with
  | none => rfl
  | some j =>
    obtain ⟨h1, h2, rfl⟩ := rg_s hlo hhi q
    exact absurd ((nI_leI (by omega) hhi).mpr h2) h
theorem rg_mid {lo hi : Nat} {x : Int32} (h : ¬ x < nI lo) (h2 : x ≤ nI hi) : ∃ j, rg lo hi x = some j := ⟨_, if_pos ⟨Int32.not_lt.mp h, h2⟩⟩
set_option maxRecDepth 100000 in
set_option maxHeartbeats 4000000 in
theorem c_X4_basinNumbered (l : Launch) (w : hv_W) (g : cl_g) (A Z : ab_A) (Y0 : hv_H) (hg : cl_ok g (A 4 0) (A 15 0)) (hlt : l.stackTraces = false) (x : Int32) : hv_Nr l yX4_basinNumbered wsX4_basinNumbered ({ frames := 6, cells := 1, slots := 6, locals := 130 }) w [.ref (g.1 0 0), .int (x)] (cl_Y w g A Z Y0) (fun r Y1 => (∃ b, ix 8 x = some b ∧ r = .ref (g.1 5 b)) ∧ Y1 = cl_Y w g A Z Y0) (fun E Y1 => E = hv_IO ∧ ix 8 x = none ∧ Y1 = cl_Y w g A Z Y0) := by
  refine hv_ofVx (cc := cX4_basinNumbered) (own := RX4) (by decide) rfl rfl (Nat.le_of_ble_eq_true rfl) rfl ?_
  intro p e s m below meth c C hret hex
  have hinX4 : ∀ x ∈ wsX40, x ∈ wsX4_basinNumbered := by decide +kernel
  refine hv_iload_n C dX4_basinNumbered_0 rfl 1 rfl ?_
  refine hv_if_lt (tgt := 10) C dX4_basinNumbered_1 (by decide) (fun h1 => ?_) (fun h1 => ?_)
  · skip
    exact hv_throw (ik := 182) (is := 184) (ic := 186) (cls := hv_IO) (text := "no such basin") (names := hv_RE) C hlt (by decide) (by decide) (by decide +kernel) (by decide +kernel) rfl (by decide) (by decide +kernel) (by decide +kernel) (by decide +kernel) dX4_basinNumbered_10 dX4_basinNumbered_13 dX4_basinNumbered_14 dX4_basinNumbered_16 dX4_basinNumbered_19 hex (by decide) (Nat.le_of_ble_eq_true rfl) (Nat.le_of_ble_eq_true rfl) (Nat.le_of_ble_eq_true rfl) (Nat.le_of_ble_eq_true rfl) (Nat.le_of_ble_eq_true rfl) ⟨rfl, ix_neg (by omega) h1, rfl⟩
  · skip
    refine hv_iload_n C dX4_basinNumbered_4 rfl 1 rfl ?_
    refine hv_bipush (v := nI 8) C dX4_basinNumbered_5 (by decide) ?_
    refine hv_icmp_lt (tgt := 20) C dX4_basinNumbered_7 (by decide) (fun h2 => ?_) (fun h2 => ?_)
    · skip
      obtain ⟨b, hb, rfl, hix⟩ := ix_mid (n := 8) (by omega) h1 h2
      refine hv_aload_n C dX4_basinNumbered_20 rfl 0 rfl ?_
      refine hc_get (kd := 0) (i := 0) (f := 0) (v := .ref (g.1 1 0)) C hg (Or.inl ⟨by decide, rfl⟩) rfl rfl hinX4 (by decide) (by decide +kernel) rfl rfl dX4_basinNumbered_21 ?_
      refine hv_iload_n C dX4_basinNumbered_24 rfl 1 rfl ?_
      refine hc_bas (j := b) C hg (by omega) dX4_basinNumbered_25 ?_
      exact hv_aretx C hret (by first | exact Or.inl ⟨_, rfl⟩ | exact Or.inr ⟨_, rfl⟩) (by first | exact Or.inr ⟨_, rfl⟩ | exact Or.inl rfl | exact va_rfc _) dX4_basinNumbered_26 (by first | exact Nat.le_refl _ | decide | omega | (simp; done) | (simp; omega)) (by first | exact Nat.le_refl _ | decide | omega | (simp; done) | (simp; omega)) ⟨⟨b, hix, rfl⟩, rfl⟩
    · skip
      exact hv_throw (ik := 182) (is := 184) (ic := 186) (cls := hv_IO) (text := "no such basin") (names := hv_RE) C hlt (by decide) (by decide) (by decide +kernel) (by decide +kernel) rfl (by decide) (by decide +kernel) (by decide +kernel) (by decide +kernel) dX4_basinNumbered_10 dX4_basinNumbered_13 dX4_basinNumbered_14 dX4_basinNumbered_16 dX4_basinNumbered_19 hex (by decide) (Nat.le_of_ble_eq_true rfl) (Nat.le_of_ble_eq_true rfl) (Nat.le_of_ble_eq_true rfl) (Nat.le_of_ble_eq_true rfl) (Nat.le_of_ble_eq_true rfl) ⟨rfl, ix_big (by omega) h2, rfl⟩
set_option maxRecDepth 100000 in
set_option maxHeartbeats 4000000 in
theorem c_X4_requireRange (l : Launch) (w : hv_W) (hlt : l.stackTraces = false) (Y : hv_H) (x : Int32) (lo hi : Nat) (hlo : lo < 2 ^ 31) (hhi : hi < 2 ^ 31) : hv_Nv l yX4_requireRange wsX4_requireRange ({ frames := 6, cells := 1, slots := 6, locals := 130 }) w [.int (x), .int (nI lo), .int (nI hi)] (Y) (fun Y1 => (∃ n, rg lo hi x = some n) ∧ Y1 = Y) (fun E Y1 => E = hv_IA ∧ rg lo hi x = none ∧ Y1 = Y) := by
  refine hv_ofVx (cc := cX4_requireRange) (own := RX4) (by decide) rfl rfl (Nat.le_of_ble_eq_true rfl) rfl ?_
  intro p e s m below meth c C hret hex
  refine hv_iload_n C dX4_requireRange_0 rfl 0 rfl ?_
  refine hv_iload_n C dX4_requireRange_1 rfl 1 rfl ?_
  refine hv_icmp_lt (tgt := 10) C dX4_requireRange_2 (by decide) (fun h1 => ?_) (fun h1 => ?_)
  · skip
    exact hv_throw (ik := 36) (is := 191) (ic := 40) (cls := hv_IA) (text := "a number is out of range") (names := hv_RE) C hlt (by decide) (by decide) (by decide +kernel) (by decide +kernel) rfl (by decide) (by decide +kernel) (by decide +kernel) (by decide +kernel) dX4_requireRange_10 dX4_requireRange_13 dX4_requireRange_14 dX4_requireRange_16 dX4_requireRange_19 hex (by decide) (Nat.le_of_ble_eq_true rfl) (Nat.le_of_ble_eq_true rfl) (Nat.le_of_ble_eq_true rfl) (Nat.le_of_ble_eq_true rfl) (Nat.le_of_ble_eq_true rfl) ⟨rfl, rg_lt hlo hhi h1, rfl⟩
  · skip
    refine hv_iload_n C dX4_requireRange_5 rfl 0 rfl ?_
    refine hv_iload_n C dX4_requireRange_6 rfl 2 rfl ?_
    refine hv_icmp_le (tgt := 20) C dX4_requireRange_7 (by decide) (fun h2 => ?_) (fun h2 => ?_)
    · skip
      exact hv_vretx C hret dX4_requireRange_20 (by first | exact Nat.le_refl _ | decide | omega | (simp; done) | (simp; omega)) (by first | exact Nat.le_refl _ | decide | omega | (simp; done) | (simp; omega)) ⟨rg_mid h1 h2, rfl⟩
    · skip
      exact hv_throw (ik := 36) (is := 191) (ic := 40) (cls := hv_IA) (text := "a number is out of range") (names := hv_RE) C hlt (by decide) (by decide) (by decide +kernel) (by decide +kernel) rfl (by decide) (by decide +kernel) (by decide +kernel) (by decide +kernel) dX4_requireRange_10 dX4_requireRange_13 dX4_requireRange_14 dX4_requireRange_16 dX4_requireRange_19 hex (by decide) (Nat.le_of_ble_eq_true rfl) (Nat.le_of_ble_eq_true rfl) (Nat.le_of_ble_eq_true rfl) (Nat.le_of_ble_eq_true rfl) (Nat.le_of_ble_eq_true rfl) ⟨rfl, rg_gt hlo hhi h2, rfl⟩
set_option maxRecDepth 100000 in
set_option maxHeartbeats 4000000 in
theorem c_X4_canalNumbered (l : Launch) (w : hv_W) (g : cl_g) (A Z : ab_A) (Y0 : hv_H) (hg : cl_ok g (A 4 0) (A 15 0)) (hlt : l.stackTraces = false) (x : Int32) (h4 : A 4 0 ≤ 14) : hv_Nr l yX4_canalNumbered wsX4_canalNumbered ({ frames := 6, cells := 1, slots := 6, locals := 130 }) w [.ref (g.1 0 0), .int (x)] (cl_Y w g A Z Y0) (fun r Y1 => (∃ j, ix (A 4 0) x = some j ∧ r = .ref (g.1 13 j)) ∧ Y1 = cl_Y w g A Z Y0) (fun E Y1 => E = hv_IO ∧ ix (A 4 0) x = none ∧ Y1 = cl_Y w g A Z Y0) := by
  refine hv_ofVx (cc := cX4_canalNumbered) (own := RX4) (by decide) rfl rfl (Nat.le_of_ble_eq_true rfl) rfl ?_
  intro p e s m below meth c C hret hex
  have hinX4 : ∀ x ∈ wsX40, x ∈ wsX4_canalNumbered := by decide +kernel
  refine hv_iload_n C dX4_canalNumbered_0 rfl 1 rfl ?_
  refine hv_if_lt (tgt := 15) C dX4_canalNumbered_1 (by decide) (fun h1 => ?_) (fun h1 => ?_)
  · skip
    exact hv_throw (ik := 182) (is := 187) (ic := 186) (cls := hv_IO) (text := "no such canal") (names := hv_RE) C hlt (by decide) (by decide) (by decide +kernel) (by decide +kernel) rfl (by decide) (by decide +kernel) (by decide +kernel) (by decide +kernel) dX4_canalNumbered_15 dX4_canalNumbered_18 dX4_canalNumbered_19 dX4_canalNumbered_21 dX4_canalNumbered_24 hex (by decide) (Nat.le_of_ble_eq_true rfl) (Nat.le_of_ble_eq_true rfl) (Nat.le_of_ble_eq_true rfl) (Nat.le_of_ble_eq_true rfl) (Nat.le_of_ble_eq_true rfl) ⟨rfl, ix_neg (by omega) h1, rfl⟩
  · skip
    refine hv_iload_n C dX4_canalNumbered_4 rfl 1 rfl ?_
    refine hv_aload_n C dX4_canalNumbered_5 rfl 0 rfl ?_
    refine hc_get (kd := 0) (i := 0) (f := 1) (v := .ref (g.1 2 0)) C hg (Or.inl ⟨by decide, rfl⟩) rfl rfl hinX4 (by decide) (by decide +kernel) rfl rfl dX4_canalNumbered_6 ?_
    refine hv_callVr (As := []) (rest := [.int (x)]) (n := 0) C (c_Jx4a65c_size_8abf5 l w (cl_Y w g A Z Y0) (g.1 2 0) ((List.range (A 4 0)).map (g.1 13)) (show cl_Y w g A Z Y0 (g.1 2 0) = some (.inr ((List.range (A 4 0)).map (g.1 13))) from cl_at hg (Or.inl ⟨by decide, rfl⟩))) gX4_canalNumbered_Jx4a65c_size_8abf5 rfl (by decide +kernel) ⟨Nat.le_of_ble_eq_true rfl, Nat.le_of_ble_eq_true rfl⟩ (cl_rcL hg (Or.inl ⟨by decide, rfl⟩) rfl) rfl rfl (Nat.le_of_ble_eq_true rfl) dX4_canalNumbered_9 ⟨by first | exact Nat.le_of_ble_eq_true rfl | omega | (simp; done) | (simp; omega), by first | exact Nat.le_of_ble_eq_true rfl | omega | (simp; done) | (simp; omega)⟩ (fun r2 Y1 hr => ?_)
    obtain ⟨rfl, rfl⟩ := hr
    refine hv_top (y := nI (A 4 0)) (by rw [cl_lenM]) ?_
    refine hv_icmp_lt (tgt := 25) C dX4_canalNumbered_12 (by decide) (fun h3 => ?_) (fun h3 => ?_)
    · skip
      obtain ⟨j, hj, rfl, hix⟩ := ix_mid (n := A 4 0) (by omega) h1 h3
      refine hv_aload_n C dX4_canalNumbered_25 rfl 0 rfl ?_
      refine hc_get (kd := 0) (i := 0) (f := 1) (v := .ref (g.1 2 0)) C hg (Or.inl ⟨by decide, rfl⟩) rfl rfl hinX4 (by decide) (by decide +kernel) rfl rfl dX4_canalNumbered_26 ?_
      refine hv_iload_n C dX4_canalNumbered_29 rfl 1 rfl ?_
      refine hv_callVr (As := [.int (nI j)]) (rest := []) (n := 1) C (c_Jx4a65c_get_915e3 l w (cl_Y w g A Z Y0) (g.1 2 0) ((List.range (A 4 0)).map (g.1 13)) (show cl_Y w g A Z Y0 (g.1 2 0) = some (.inr ((List.range (A 4 0)).map (g.1 13))) from cl_at hg (Or.inl ⟨by decide, rfl⟩)) (by rw [cl_lenM]; omega) j (g.1 13 j) (cl_getM (by omega))) gX4_canalNumbered_Jx4a65c_get_915e3 rfl (by decide +kernel) ⟨Nat.le_of_ble_eq_true rfl, Nat.le_of_ble_eq_true rfl⟩ (cl_rcL hg (Or.inl ⟨by decide, rfl⟩) rfl) rfl rfl (Nat.le_of_ble_eq_true rfl) dX4_canalNumbered_30 ⟨by first | exact Nat.le_of_ble_eq_true rfl | omega | (simp; done) | (simp; omega), by first | exact Nat.le_of_ble_eq_true rfl | omega | (simp; done) | (simp; omega)⟩ (fun r4 Y1 hr => ?_)
      obtain ⟨rfl, rfl⟩ := hr
      refine hv_cast (ci := 3) C rfl ((cl_at hg (Or.inr (Or.inr (Or.inl ⟨rfl, by omega⟩)))).trans rfl) (by decide +kernel) dX4_canalNumbered_33 ?_
      exact hv_aretx C hret (by first | exact Or.inl ⟨_, rfl⟩ | exact Or.inr ⟨_, rfl⟩) (by first | exact Or.inr ⟨_, rfl⟩ | exact Or.inl rfl | exact va_rfc _) dX4_canalNumbered_36 (by first | exact Nat.le_refl _ | decide | omega | (simp; done) | (simp; omega)) (by first | exact Nat.le_refl _ | decide | omega | (simp; done) | (simp; omega)) ⟨⟨j, hix, rfl⟩, rfl⟩
    · skip
      exact hv_throw (ik := 182) (is := 187) (ic := 186) (cls := hv_IO) (text := "no such canal") (names := hv_RE) C hlt (by decide) (by decide) (by decide +kernel) (by decide +kernel) rfl (by decide) (by decide +kernel) (by decide +kernel) (by decide +kernel) dX4_canalNumbered_15 dX4_canalNumbered_18 dX4_canalNumbered_19 dX4_canalNumbered_21 dX4_canalNumbered_24 hex (by decide) (Nat.le_of_ble_eq_true rfl) (Nat.le_of_ble_eq_true rfl) (Nat.le_of_ble_eq_true rfl) (Nat.le_of_ble_eq_true rfl) (Nat.le_of_ble_eq_true rfl) ⟨rfl, ix_big (by omega) h3, rfl⟩
set_option maxRecDepth 100000 in
set_option maxHeartbeats 4000000 in
theorem c_X4_bargeNumbered (l : Launch) (w : hv_W) (g : cl_g) (A Z : ab_A) (Y0 : hv_H) (hg : cl_ok g (A 4 0) (A 15 0)) (hlt : l.stackTraces = false) (x : Int32) (h15 : A 15 0 ≤ 40) : hv_Nr l yX4_bargeNumbered wsX4_bargeNumbered ({ frames := 6, cells := 1, slots := 6, locals := 130 }) w [.ref (g.1 0 0), .int (x)] (cl_Y w g A Z Y0) (fun r Y1 => (∃ j, ix (A 15 0) x = some j ∧ r = .ref (g.1 14 j)) ∧ Y1 = cl_Y w g A Z Y0) (fun E Y1 => E = hv_IO ∧ ix (A 15 0) x = none ∧ Y1 = cl_Y w g A Z Y0) := by
  refine hv_ofVx (cc := cX4_bargeNumbered) (own := RX4) (by decide) rfl rfl (Nat.le_of_ble_eq_true rfl) rfl ?_
  intro p e s m below meth c C hret hex
  have hinX4 : ∀ x ∈ wsX40, x ∈ wsX4_bargeNumbered := by decide +kernel
  refine hv_iload_n C dX4_bargeNumbered_0 rfl 1 rfl ?_
  refine hv_if_lt (tgt := 15) C dX4_bargeNumbered_1 (by decide) (fun h1 => ?_) (fun h1 => ?_)
  · skip
    exact hv_throw (ik := 182) (is := 189) (ic := 186) (cls := hv_IO) (text := "no such barge") (names := hv_RE) C hlt (by decide) (by decide) (by decide +kernel) (by decide +kernel) rfl (by decide) (by decide +kernel) (by decide +kernel) (by decide +kernel) dX4_bargeNumbered_15 dX4_bargeNumbered_18 dX4_bargeNumbered_19 dX4_bargeNumbered_21 dX4_bargeNumbered_24 hex (by decide) (Nat.le_of_ble_eq_true rfl) (Nat.le_of_ble_eq_true rfl) (Nat.le_of_ble_eq_true rfl) (Nat.le_of_ble_eq_true rfl) (Nat.le_of_ble_eq_true rfl) ⟨rfl, ix_neg (by omega) h1, rfl⟩
  · skip
    refine hv_iload_n C dX4_bargeNumbered_4 rfl 1 rfl ?_
    refine hv_aload_n C dX4_bargeNumbered_5 rfl 0 rfl ?_
    refine hc_get (kd := 0) (i := 0) (f := 2) (v := .ref (g.1 3 0)) C hg (Or.inl ⟨by decide, rfl⟩) rfl rfl hinX4 (by decide) (by decide +kernel) rfl rfl dX4_bargeNumbered_6 ?_
    refine hv_callVr (As := []) (rest := [.int (x)]) (n := 0) C (c_Jx4a65c_size_8abf5 l w (cl_Y w g A Z Y0) (g.1 3 0) ((List.range (A 15 0)).map (g.1 14)) (show cl_Y w g A Z Y0 (g.1 3 0) = some (.inr ((List.range (A 15 0)).map (g.1 14))) from cl_at hg (Or.inl ⟨by decide, rfl⟩))) gX4_bargeNumbered_Jx4a65c_size_8abf5 rfl (by decide +kernel) ⟨Nat.le_of_ble_eq_true rfl, Nat.le_of_ble_eq_true rfl⟩ (cl_rcL hg (Or.inl ⟨by decide, rfl⟩) rfl) rfl rfl (Nat.le_of_ble_eq_true rfl) dX4_bargeNumbered_9 ⟨by first | exact Nat.le_of_ble_eq_true rfl | omega | (simp; done) | (simp; omega), by first | exact Nat.le_of_ble_eq_true rfl | omega | (simp; done) | (simp; omega)⟩ (fun r2 Y1 hr => ?_)
    obtain ⟨rfl, rfl⟩ := hr
    refine hv_top (y := nI (A 15 0)) (by rw [cl_lenM]) ?_
    refine hv_icmp_lt (tgt := 25) C dX4_bargeNumbered_12 (by decide) (fun h3 => ?_) (fun h3 => ?_)
    · skip
      obtain ⟨j, hj, rfl, hix⟩ := ix_mid (n := A 15 0) (by omega) h1 h3
      refine hv_aload_n C dX4_bargeNumbered_25 rfl 0 rfl ?_
      refine hc_get (kd := 0) (i := 0) (f := 2) (v := .ref (g.1 3 0)) C hg (Or.inl ⟨by decide, rfl⟩) rfl rfl hinX4 (by decide) (by decide +kernel) rfl rfl dX4_bargeNumbered_26 ?_
      refine hv_iload_n C dX4_bargeNumbered_29 rfl 1 rfl ?_
      refine hv_callVr (As := [.int (nI j)]) (rest := []) (n := 1) C (c_Jx4a65c_get_915e3 l w (cl_Y w g A Z Y0) (g.1 3 0) ((List.range (A 15 0)).map (g.1 14)) (show cl_Y w g A Z Y0 (g.1 3 0) = some (.inr ((List.range (A 15 0)).map (g.1 14))) from cl_at hg (Or.inl ⟨by decide, rfl⟩)) (by rw [cl_lenM]; omega) j (g.1 14 j) (cl_getM (by omega))) gX4_bargeNumbered_Jx4a65c_get_915e3 rfl (by decide +kernel) ⟨Nat.le_of_ble_eq_true rfl, Nat.le_of_ble_eq_true rfl⟩ (cl_rcL hg (Or.inl ⟨by decide, rfl⟩) rfl) rfl rfl (Nat.le_of_ble_eq_true rfl) dX4_bargeNumbered_30 ⟨by first | exact Nat.le_of_ble_eq_true rfl | omega | (simp; done) | (simp; omega), by first | exact Nat.le_of_ble_eq_true rfl | omega | (simp; done) | (simp; omega)⟩ (fun r4 Y1 hr => ?_)
      obtain ⟨rfl, rfl⟩ := hr
      refine hv_cast (ci := 1) C rfl ((cl_at hg (Or.inr (Or.inr (Or.inr ⟨Or.inl rfl, by omega⟩)))).trans rfl) (by decide +kernel) dX4_bargeNumbered_33 ?_
      exact hv_aretx C hret (by first | exact Or.inl ⟨_, rfl⟩ | exact Or.inr ⟨_, rfl⟩) (by first | exact Or.inr ⟨_, rfl⟩ | exact Or.inl rfl | exact va_rfc _) dX4_bargeNumbered_36 (by first | exact Nat.le_refl _ | decide | omega | (simp; done) | (simp; omega)) (by first | exact Nat.le_refl _ | decide | omega | (simp; done) | (simp; omega)) ⟨⟨j, hix, rfl⟩, rfl⟩
    · skip
      exact hv_throw (ik := 182) (is := 189) (ic := 186) (cls := hv_IO) (text := "no such barge") (names := hv_RE) C hlt (by decide) (by decide) (by decide +kernel) (by decide +kernel) rfl (by decide) (by decide +kernel) (by decide +kernel) (by decide +kernel) dX4_bargeNumbered_15 dX4_bargeNumbered_18 dX4_bargeNumbered_19 dX4_bargeNumbered_21 dX4_bargeNumbered_24 hex (by decide) (Nat.le_of_ble_eq_true rfl) (Nat.le_of_ble_eq_true rfl) (Nat.le_of_ble_eq_true rfl) (Nat.le_of_ble_eq_true rfl) (Nat.le_of_ble_eq_true rfl) ⟨rfl, ix_big (by omega) h3, rfl⟩
set_option maxRecDepth 100000 in
set_option maxHeartbeats 4000000 in
theorem c_X4_takesIn (l : Launch) (w : hv_W) (g : cl_g) (A Z : ab_A) (Y0 : hv_H) (hg : cl_ok g (A 4 0) (A 15 0)) (t z : Nat) (ht : t < 8) (hz : z < A 15 0) (h17 : A 17 z < 8) (h2 : A 2 t ≤ 6) (h1 : A 1 t ≤ 6) (h16 : A 16 0 ≤ 2000) : hv_Mr l yX4_takesIn wsX4_takesIn ({ frames := 2, cells := 0, slots := 0, locals := 40 }) w [.ref (g.1 0 0), .ref (g.1 5 t), .ref (g.1 14 z)] (cl_Y w g A Z Y0) (fun r Y1 => r = .int (nI (b2 (t = A 17 z ∨ (A 2 t < 6 ∧ (A 2 t < A 1 t ∨ A 16 0 % 2 = 0))))) ∧ Y1 = cl_Y w g A Z Y0) := by
  refine hv_ofV (cc := cX4_takesIn) (own := RX4) (by decide) rfl rfl (Nat.le_of_ble_eq_true rfl) rfl ?_
  intro p e s m below meth c C hret hnm
  have hinX0 : ∀ x ∈ wsX00, x ∈ wsX4_takesIn := by decide +kernel
  have hinX1 : ∀ x ∈ wsX10, x ∈ wsX4_takesIn := by decide +kernel
  have hinX4 : ∀ x ∈ wsX40, x ∈ wsX4_takesIn := by decide +kernel
  refine hv_aload_n C dX4_takesIn_0 rfl 1 rfl ?_
  refine hv_aload_n C dX4_takesIn_1 rfl 2 rfl ?_
  refine hc_get (kd := 14) (i := z) (f := 1) (v := .ref (g.1 5 (A 17 z))) C hg (Or.inr (Or.inr (Or.inr ⟨Or.inl rfl, by omega⟩))) rfl rfl hinX0 (by decide) (by decide +kernel) rfl rfl dX4_takesIn_2 ?_
  refine hv_acmpR_ne (tgt := 10) C dX4_takesIn_5 (by decide) (fun h1 => ?_) (fun h1 => ?_)
  · skip
    refine hv_aload_n C dX4_takesIn_10 rfl 1 rfl ?_
    refine hv_callVr (As := []) (rest := []) (n := 0) C (c_X1_isFull l w g A Z Y0 hg t (by omega) (by omega)) gX4_takesIn_X1_isFull rfl (by decide +kernel) ⟨Nat.le_of_ble_eq_true rfl, Nat.le_of_ble_eq_true rfl⟩ (cl_rc hg (Or.inr (Or.inl ⟨by decide, by decide, by omega⟩)) rfl rfl) rfl rfl (Nat.le_of_ble_eq_true rfl) dX4_takesIn_11 ⟨by first | exact Nat.le_of_ble_eq_true rfl | omega | (simp; done) | (simp; omega), by first | exact Nat.le_of_ble_eq_true rfl | omega | (simp; done) | (simp; omega)⟩ (fun r2 Y1 hr => ?_)
    obtain ⟨rfl, rfl⟩ := hr
    refine hv_ifb_eq (tgt := 19) C dX4_takesIn_14 (by decide) (fun h3 => ?_) (fun h3 => ?_)
    · skip
      refine hv_aload_n C dX4_takesIn_19 rfl 1 rfl ?_
      refine hc_get (kd := 5) (i := t) (f := 1) (v := .ref (g.1 6 t)) C hg (Or.inr (Or.inl ⟨by decide, by decide, by omega⟩)) rfl rfl hinX1 (by decide) (by decide +kernel) rfl rfl dX4_takesIn_20 ?_
      refine hv_callVr (As := []) (rest := []) (n := 0) C (c_Jx4a65c_size_8abf5 l w (cl_Y w g A Z Y0) (g.1 6 t) ((List.range (A 2 t)).map (fun k => g.1 14 (A 3 (6 * t + k)))) (show cl_Y w g A Z Y0 (g.1 6 t) = some (.inr ((List.range (A 2 t)).map (fun k => g.1 14 (A 3 (6 * t + k))))) from cl_at hg (Or.inr (Or.inl ⟨by decide, by decide, by omega⟩)))) gX4_takesIn_Jx4a65c_size_8abf5 rfl (by decide +kernel) ⟨Nat.le_of_ble_eq_true rfl, Nat.le_of_ble_eq_true rfl⟩ (cl_rcL hg (Or.inr (Or.inl ⟨by decide, by decide, by omega⟩)) rfl) rfl rfl (Nat.le_of_ble_eq_true rfl) dX4_takesIn_23 ⟨by first | exact Nat.le_of_ble_eq_true rfl | omega | (simp; done) | (simp; omega), by first | exact Nat.le_of_ble_eq_true rfl | omega | (simp; done) | (simp; omega)⟩ (fun r4 Y1 hr => ?_)
      obtain ⟨rfl, rfl⟩ := hr
      refine hv_top (y := nI (A 2 t)) (by rw [cl_lenM]) ?_
      refine hv_aload_n C dX4_takesIn_26 rfl 1 rfl ?_
      refine hc_get (kd := 5) (i := t) (f := 3) (v := .int (nI (A 1 t))) C hg (Or.inr (Or.inl ⟨by decide, by decide, by omega⟩)) rfl rfl hinX1 (by decide) (by decide +kernel) rfl rfl dX4_takesIn_27 ?_
      refine hv_icmpN_lt (tgt := 42) C dX4_takesIn_30 (by decide) (by omega) (by omega) (fun h5 => ?_) (fun h5 => ?_)
      · skip
        refine hv_iconst (v := nI 1) C dX4_takesIn_42 (by decide) ?_
        refine hv_goto (tgt := 47) C dX4_takesIn_43 (by decide) ?_
        exact hv_zret C hret (by decide) dX4_takesIn_47 (by first | exact Nat.le_refl _ | decide | omega | (simp; done) | (simp; omega)) (by first | exact Nat.le_refl _ | decide | omega | (simp; done) | (simp; omega)) ⟨by have hne : ¬ (t = A 17 z) := fun q => h1 ((cl_b hg ht h17).mpr q); rw [b2_t (show (t = A 17 z ∨ (A 2 t < 6 ∧ (A 2 t < A 1 t ∨ A 16 0 % 2 = 0))) from by omega)], rfl⟩
      · skip
        refine hv_aload_n C dX4_takesIn_33 rfl 0 rfl ?_
        refine hc_get (kd := 0) (i := 0) (f := 5) (v := .int (nI (A 16 0))) C hg (Or.inl ⟨by decide, rfl⟩) rfl rfl hinX4 (by decide) (by decide +kernel) rfl rfl dX4_takesIn_34 ?_
        refine hv_iconst (v := nI 2) C dX4_takesIn_37 (by decide) ?_
        refine hv_iremN C dX4_takesIn_38 (by omega) (by omega) (by omega) ?_
        refine hv_ifN_ne (tgt := 46) C dX4_takesIn_39 (by decide) (by omega) (fun h6 => ?_) (fun h6 => ?_)
        · skip
          refine hv_iconst (v := nI 0) C dX4_takesIn_46 (by decide) ?_
          exact hv_zret C hret (by decide) dX4_takesIn_47 (by first | exact Nat.le_refl _ | decide | omega | (simp; done) | (simp; omega)) (by first | exact Nat.le_refl _ | decide | omega | (simp; done) | (simp; omega)) ⟨by have hne : ¬ (t = A 17 z) := fun q => h1 ((cl_b hg ht h17).mpr q); rw [b2_f (show ¬ (t = A 17 z ∨ (A 2 t < 6 ∧ (A 2 t < A 1 t ∨ A 16 0 % 2 = 0))) from by omega)], rfl⟩
        · skip
          refine hv_iconst (v := nI 1) C dX4_takesIn_42 (by decide) ?_
          refine hv_goto (tgt := 47) C dX4_takesIn_43 (by decide) ?_
          exact hv_zret C hret (by decide) dX4_takesIn_47 (by first | exact Nat.le_refl _ | decide | omega | (simp; done) | (simp; omega)) (by first | exact Nat.le_refl _ | decide | omega | (simp; done) | (simp; omega)) ⟨by have hne : ¬ (t = A 17 z) := fun q => h1 ((cl_b hg ht h17).mpr q); rw [b2_t (show (t = A 17 z ∨ (A 2 t < 6 ∧ (A 2 t < A 1 t ∨ A 16 0 % 2 = 0))) from by omega)], rfl⟩
    · skip
      refine hv_iconst (v := nI 0) C dX4_takesIn_17 (by decide) ?_
      exact hv_zret C hret (by decide) dX4_takesIn_18 (by first | exact Nat.le_refl _ | decide | omega | (simp; done) | (simp; omega)) (by first | exact Nat.le_refl _ | decide | omega | (simp; done) | (simp; omega)) ⟨by have hne : ¬ (t = A 17 z) := fun q => h1 ((cl_b hg ht h17).mpr q); rw [b2_f (show ¬ (t = A 17 z ∨ (A 2 t < 6 ∧ (A 2 t < A 1 t ∨ A 16 0 % 2 = 0))) from by omega)], rfl⟩
  · skip
    refine hv_iconst (v := nI 1) C dX4_takesIn_8 (by decide) ?_
    exact hv_zret C hret (by decide) dX4_takesIn_9 (by first | exact Nat.le_refl _ | decide | omega | (simp; done) | (simp; omega)) (by first | exact Nat.le_refl _ | decide | omega | (simp; done) | (simp; omega)) ⟨by rw [b2_t (show t = A 17 z ∨ (A 2 t < 6 ∧ (A 2 t < A 1 t ∨ A 16 0 % 2 = 0)) from Or.inl ((cl_b hg ht h17).mp h1))], rfl⟩
