section HLG
variable {p : Program} {l : Launch} {e : Env} {R : Room} {s : State} {m : MethodId} {args : Array Value} {below : List Frame} {meth : Method} {c : Code} {w : hv_W} {nL : Nat} {Q : State → Prop} {pc : Nat} {st : List Value}
/-- a loop whose rounds make cells, over states z -/
theorem hv_loopG {σ : Type} (n : Nat) (cJ sJ : Nat → Nat) (YJ : Nat → σ → hv_H) (lvJ : Nat → σ → List (Nat × Value)) (Inv : Nat → σ → Prop) (hx : ∀ z : σ, Inv n z → hv_V p l e R s m args below meth c w nL Q (cJ n) (sJ n) (YJ n z) (lvJ n z) pc st) (hs : ∀ (i : Nat) (z : σ), i < n → Inv i z → (∀ z1 : σ, Inv (i + 1) z1 → hv_V p l e R s m args below meth c w nL Q (cJ (i + 1)) (sJ (i + 1)) (YJ (i + 1) z1) (lvJ (i + 1) z1) pc st) → hv_V p l e R s m args below meth c w nL Q (cJ i) (sJ i) (YJ i z) (lvJ i z) pc st) (z : σ) (h0 : Inv 0 z) : hv_V p l e R s m args below meth c w nL Q (cJ 0) (sJ 0) (YJ 0 z) (lvJ 0 z) pc st := by
  have key : ∀ d : Nat, d ≤ n → ∀ z : σ, Inv (n - d) z → hv_V p l e R s m args below meth c w nL Q (cJ (n - d)) (sJ (n - d)) (YJ (n - d) z) (lvJ (n - d) z) pc st := by
    intro d
    induction d with
    | zero => intro _ z hz; exact hx z hz
    | succ d ih =>
      intro h z hz
      exact hs (n - (d + 1)) z (by omega) hz (by rw [show n - (d + 1) + 1 = n - d by omega]; exact ih (by omega))
  have h9 := key n (Nat.le_refl n)
  rw [Nat.sub_self] at h9
  exact h9 z h0
end HLG
/-! the class itself is made: its five objects, then basin by basin -/
def cs (w : hv_W) (s : Nat) (ad : Nat → Nat) : Nat → hv_E := fun j => match j with
  | 0 => .inl (.inr (5, [if 2 ≤ s then .ref (ad 1) else .null, if 4 ≤ s then .ref (ad 2) else .null, if 6 ≤ s then .ref (ad 3) else .null, if 8 ≤ s then .ref (ad 4) else .null, .int (nI 0), .int (nI 0)]))
  | 1 => .inl (.inl (hv_c w 3, 8, hv_ref (fun _ => none)))
  | 2 => if 3 ≤ s then .inr [] else .inl (.inr (0, [.int (nI 0), .null, .int (nI 0)]))
  | 3 => if 5 ≤ s then .inr [] else .inl (.inr (0, [.int (nI 0), .null, .int (nI 0)]))
  | 4 => .inl (.inl (hv_c w 0, 8, .inl (fun _ => 0)))
  | _ => .inr []
def cb_Z : ab_A := fun k _ => if k = 1 ∨ k = 3 then 1 else 0
def cb_cell (w : hv_W) (ad : Nat → Nat → Nat) (r kd i : Nat) : hv_E := if kd = 1 then .inl (.inl (hv_c w 3, 8, hv_ref (fun j => if j < r then some (ad 5 j) else none))) else cl_cell w ad ab_0 cb_Z kd i
def cb_Y (w : hv_W) (g : cl_g) (r : Nat) (Y0 : hv_H) : hv_H := fun a => match g.2 a with
  | some q => some (cb_cell w g.1 r q.1 q.2)
  | none => Y0 a
def cb_in (n kd i : Nat) : Prop := (kd ≤ 4 ∧ i = 0) ∨ (5 ≤ kd ∧ kd ≤ 12 ∧ i < n)
def cb_ok (g : cl_g) (n : Nat) (Y0 : hv_H) : Prop := (∀ kd i, cb_in n kd i → g.2 (g.1 kd i) = some (kd, i)) ∧ ∀ a kd i, g.2 a = some (kd, i) → cb_in n kd i ∧ a = g.1 kd i ∧ Y0 a = none
theorem ab0_z {k i : Nat} (h0 : k ≠ 0) (h1 : k ≠ 1) (h2 : k ≠ 11) (h3 : md_neg k = false) : ab_0 k i = 0 := by
  unfold ab_0 f_i2 f_i1 ab_z
  rw [if_neg (fun q => h0 q.2), if_neg (fun q => h1 q.2), if_neg (fun q => h2 q.2), h3]
  split <;> rfl
theorem ab0_0 {i : Nat} (h : i < 8) : ab_0 0 i = 60 := if_pos ⟨h, rfl⟩
theorem ab0_1 {i : Nat} (h : i < 8) : ab_0 1 i = 4 := by
  show (if i < 8 ∧ 1 = 0 then 60 else if i < 8 ∧ 1 = 1 then 4 else _) = 4
  rw [if_neg (fun q => absurd q.2 (by decide)), if_pos ⟨h, rfl⟩]
theorem ab0_11 {i j : Nat} (hi : i < 8) (hj : j < 8) : ab_0 11 (8 * i + j) = if j = i then 1 else 0 := by
  have h1 : 8 * i + j < 64 := by omega
  have e : ab_0 11 (8 * i + j) = if (8 * i + j) / 8 = (8 * i + j) % 8 then 1 else 0 := by simp [ab_0, f_i2, f_i1, h1]
  rw [e]
  by_cases h : j = i
  · rw [if_pos h, if_pos (by omega)]
  · rw [if_neg h, if_neg (by omega)]
theorem ab0_12 {i j : Nat} (hi : i < 8) (hj : j < 8) : ab_0 12 (8 * i + j) = 0 := by
  have h1 : 8 * i + j < 64 := by omega
  simp [ab_0, f_i2, f_i1, h1]
theorem ab0_4 : ab_0 4 0 = 0 := ab0_z (by decide) (by decide) (by decide) (by decide)
theorem ab0_15 : ab_0 15 0 = 0 := ab0_z (by decide) (by decide) (by decide) (by decide)
theorem ab0_10 : ab_0 10 0 = 0 := ab0_z (by decide) (by decide) (by decide) (by decide)
theorem ab0_16 : ab_0 16 0 = 0 := ab0_z (by decide) (by decide) (by decide) (by decide)
theorem ab0_2 {i : Nat} : ab_0 2 i = 0 := ab0_z (by decide) (by decide) (by decide) (by decide)
theorem cl_r00 {ad : Nat → Nat → Nat} : cl_r ad 0 = none := if_pos rfl
theorem cb_one : (nI 1 + (-1) : Int32) = 0 := by decide
theorem cb_cong {w : hv_W} {ad ad' : Nat → Nat → Nat} {n : Nat} (hn : n ≤ 8) (had : ∀ kd i, cb_in n kd i → ad' kd i = ad kd i) : ∀ kd i, cb_in n kd i → cb_cell w ad' n kd i = cb_cell w ad n kd i := by
  intro kd i hin
  have a0 : ∀ k, k ≤ 4 → ad' k 0 = ad k 0 := fun k hk => had k 0 (Or.inl ⟨hk, rfl⟩)
  have a5 : ∀ k j, 5 ≤ k → k ≤ 12 → j < n → ad' k j = ad k j := fun k j h1 h2 h3 => had k j (Or.inr ⟨h1, h2, h3⟩)
  unfold cb_cell
  by_cases h1 : kd = 1
  · rw [if_pos h1, if_pos h1]
    refine cR_ext (fun j => ?_)
    by_cases hj : j < n
    · rw [if_pos hj, if_pos hj, a5 5 j (by decide) (by decide) hj]
    · rw [if_neg hj, if_neg hj]
  · rw [if_neg h1, if_neg h1]
    unfold cl_cell
    split <;> first | with_reducible rfl | skip
    · rw [a0 1 (by decide), a0 2 (by decide), a0 3 (by decide), a0 4 (by decide)]
    · exact absurd rfl h1
    · rw [ab0_4]; rfl
    · rw [ab0_15]; rfl
    · have hi : i < n := by unfold cb_in at hin; omega
      show Sum.inl (Sum.inr (2, [Value.int (nI i), .ref (ad' 6 i), .int (nI (ab_0 0 i)), .int (nI (ab_0 1 i)), .ref (ad' 7 i), .ref (ad' 8 i)])) = Sum.inl (Sum.inr (2, [Value.int (nI i), .ref (ad 6 i), .int (nI (ab_0 0 i)), .int (nI (ab_0 1 i)), .ref (ad 7 i), .ref (ad 8 i)]))
      rw [a5 6 i (by decide) (by decide) hi, a5 7 i (by decide) (by decide) hi, a5 8 i (by decide) (by decide) hi]
    · rw [ab0_2]; rfl
    · have hi : i < n := by unfold cb_in at hin; omega
      rw [a5 9 i (by decide) (by decide) hi, a5 11 i (by decide) (by decide) hi]
    · have hi : i < n := by unfold cb_in at hin; omega
      rw [a5 10 i (by decide) (by decide) hi, a5 12 i (by decide) (by decide) hi]
    · have hi : i < n := by unfold cb_in at hin; omega
      refine cR_ext (fun j => ?_)
      by_cases hj : j < 8
      · rw [if_pos hj, if_pos hj]
        show cl_r ad' (ab_0 12 (8 * i + j)) = cl_r ad (ab_0 12 (8 * i + j))
        rw [ab0_12 (by omega) hj, cl_r00, cl_r00]
      · rw [if_neg hj, if_neg hj]
    · refine cR_ext (fun j => ?_)
      by_cases hj : j < 8
      · rw [if_pos hj, if_pos hj]
        show cl_r ad' 0 = cl_r ad 0
        rw [cl_r00, cl_r00]
      · rw [if_neg hj, if_neg hj]
    all_goals (exfalso; unfold cb_in at hin; omega)
theorem cb_start {w : hv_W} {ad : Nat → Nat} {iv : Nat → Option Nat} {Y0 : hv_H} (ok : pl_ok ad iv 5 Y0) : cb_ok (fun kd _ => ad kd, fun a => (iv a).map (fun k => (k, 0))) 0 Y0 ∧ pl_Y iv (cs w 8 ad) Y0 = cb_Y w (fun kd _ => ad kd, fun a => (iv a).map (fun k => (k, 0))) 0 Y0 := by
  refine ⟨⟨?_, ?_⟩, ?_⟩
  · intro kd i hin
    obtain ⟨h1, rfl⟩ : kd ≤ 4 ∧ i = 0 := by unfold cb_in at hin; omega
    show (iv (ad kd)).map (fun k => (k, 0)) = _
    rw [ok.1 kd (by omega)]
    rfl
  · intro a kd i ha
    have ha' : (iv a).map (fun k => (k, 0)) = some (kd, i) := ha
    cases z : iv a with
    | none => rw [z] at ha'; cases ha'
    | some k =>
      rw [z] at ha'
      cases ha'
      obtain ⟨h1, h2, h3⟩ := ok.2 a _ z
      exact ⟨Or.inl ⟨by omega, rfl⟩, h2, h3⟩
  · funext a
    unfold pl_Y cb_Y
    show _ = (match (iv a).map (fun k => (k, 0)) with | some q => some (cb_cell w (fun kd _ => ad kd) 0 q.1 q.2) | none => Y0 a)
    cases z : iv a with
    | none => rfl
    | some k =>
      obtain ⟨h1, -, -⟩ := ok.2 a k z
      show some (cs w 8 ad k) = some (cb_cell w (fun kd _ => ad kd) 0 k 0)
      congr 1
      rcases (show k = 0 ∨ k = 1 ∨ k = 2 ∨ k = 3 ∨ k = 4 from by omega) with rfl | rfl | rfl | rfl | rfl
      · simp [cs, cb_cell, cl_cell, ab0_10, ab0_16]
      · simp [cs, cb_cell]
      · simp [cs, cb_cell, cl_cell, ab0_4]
      · simp [cs, cb_cell, cl_cell, ab0_15]
      · simp only [cs, cb_cell, cl_cell, if_neg (show ¬ 4 = 1 by decide)]
        exact cI_ext (fun _ => cb_one.symm)
def cb_k (kd : Nat) : Nat := match kd with
  | 5 => 0
  | 6 => 1
  | 7 => 2
  | 9 => 3
  | 11 => 4
  | 8 => 5
  | 10 => 6
  | _ => 7
def cb_d (k : Nat) : Nat := match k with
  | 0 => 5
  | 1 => 6
  | 2 => 7
  | 3 => 9
  | 4 => 11
  | 5 => 8
  | 6 => 10
  | _ => 12
theorem cb_dk : ∀ kd, kd < 13 → 5 ≤ kd → cb_d (cb_k kd) = kd ∧ cb_k kd < 8 := by decide
theorem cb_kd : ∀ k, k < 8 → cb_k (cb_d k) = k ∧ 5 ≤ cb_d k ∧ cb_d k ≤ 12 := by decide
def cb_g (g : cl_g) (n : Nat) (ad : Nat → Nat) (iv : Nat → Option Nat) : cl_g := (fun kd i => if i = n ∧ 5 ≤ kd ∧ kd ≤ 12 then ad (cb_k kd) else g.1 kd i, fun a => match iv a with
  | some k => some (cb_d k, n)
  | none => g.2 a)
theorem cb_none {w : hv_W} {g : cl_g} {r a : Nat} {Y0 : hv_H} (h : cb_Y w g r Y0 a = none) : g.2 a = none ∧ Y0 a = none := by
  unfold cb_Y at h
  cases z : g.2 a with
  | none => rw [z] at h; exact ⟨rfl, h⟩
  | some q => rw [z] at h; cases h
theorem cb_step {w : hv_W} {g : cl_g} {n : Nat} {ad : Nat → Nat} {iv : Nat → Option Nat} {Y0 : hv_H} (hg : cb_ok g n Y0) (hn : n < 8) (ok : pl_ok ad iv 8 (cb_Y w g n Y0)) : cb_ok (cb_g g n ad iv) (n + 1) Y0 ∧ pl_Y iv (bs w n 10 ad) (cb_Y w g n Y0) = cb_Y w (cb_g g n ad iv) n Y0 ∧ (cb_g g n ad iv).1 5 n = ad 0 ∧ (∀ k, k ≤ 4 → (cb_g g n ad iv).1 k 0 = g.1 k 0) := by
  have hivn : ∀ kd i, cb_in n kd i → iv (g.1 kd i) = none := by
    intro kd i hin
    cases z : iv (g.1 kd i) with
    | none => rfl
    | some k =>
      have h3 := (cb_none (ok.2 _ k z).2.2).1
      rw [hg.1 kd i hin] at h3
      cases h3
  have hold : ∀ kd i, cb_in n kd i → (cb_g g n ad iv).1 kd i = g.1 kd i := by
    intro kd i hin
    refine if_neg (fun z => ?_)
    unfold cb_in at hin
    omega
  have hnew : ∀ kd, 5 ≤ kd → kd ≤ 12 → (cb_g g n ad iv).1 kd n = ad (cb_k kd) := fun kd h1 h2 => if_pos ⟨rfl, h1, h2⟩
  refine ⟨⟨?_, ?_⟩, ?_, hnew 5 (by decide) (by decide), fun k hk => if_neg (by omega)⟩
  · intro kd i hin
    by_cases h : i = n ∧ 5 ≤ kd ∧ kd ≤ 12
    · obtain ⟨rfl, h1, h2⟩ := h
      rw [hnew kd h1 h2]
      obtain ⟨h3, h4⟩ := cb_dk kd (by omega) h1
      show (match iv (ad (cb_k kd)) with | some k => some (cb_d k, i) | none => g.2 (ad (cb_k kd))) = some (kd, i)
      rw [ok.1 _ h4]
      show some (cb_d (cb_k kd), i) = some (kd, i)
      rw [h3]
    · have hin2 : cb_in n kd i := by unfold cb_in at hin ⊢; omega
      rw [hold kd i hin2]
      show (match iv (g.1 kd i) with | some k => some (cb_d k, n) | none => g.2 (g.1 kd i)) = some (kd, i)
      rw [hivn kd i hin2]
      exact hg.1 kd i hin2
  · intro a kd i ha
    have ha' : (match iv a with | some k => some (cb_d k, n) | none => g.2 a) = some (kd, i) := ha
    cases z : iv a with
    | some k =>
      rw [z] at ha'
      cases ha'
      obtain ⟨h1, h2, h3⟩ := ok.2 a k z
      obtain ⟨h4, h5, h6⟩ := cb_kd k h1
      refine ⟨Or.inr ⟨h5, h6, Nat.lt_succ_self _⟩, ?_, (cb_none h3).2⟩
      rw [hnew _ h5 h6, h4]
      exact h2
    | none =>
      rw [z] at ha'
      obtain ⟨h1, h2, h3⟩ := hg.2 a kd i ha'
      refine ⟨?_, h2.trans (hold kd i h1).symm, h3⟩
      unfold cb_in at h1 ⊢
      omega
  · funext a
    show (match iv a with | some k => some (bs w n 10 ad k) | none => cb_Y w g n Y0 a) = (match (match iv a with | some k => some (cb_d k, n) | none => g.2 a) with | some q => some (cb_cell w (cb_g g n ad iv).1 n q.1 q.2) | none => Y0 a)
    cases z : iv a with
    | none =>
      show cb_Y w g n Y0 a = (match g.2 a with | some q => some (cb_cell w (cb_g g n ad iv).1 n q.1 q.2) | none => Y0 a)
      unfold cb_Y
      cases y : g.2 a with
      | none => rfl
      | some q =>
        show some _ = some _
        rw [cb_cong (by omega) hold _ _ (hg.2 a q.1 q.2 y).1]
    | some k =>
      obtain ⟨h1, -, -⟩ := ok.2 a k z
      show some (bs w n 10 ad k) = some (cb_cell w (cb_g g n ad iv).1 n (cb_d k) n)
      congr 1
      have e6 := hnew 6 (by decide) (by decide)
      have e7 := hnew 7 (by decide) (by decide)
      have e8 := hnew 8 (by decide) (by decide)
      have e9 := hnew 9 (by decide) (by decide)
      have e10 := hnew 10 (by decide) (by decide)
      have e11 := hnew 11 (by decide) (by decide)
      have e12 := hnew 12 (by decide) (by decide)
      generalize (cb_g g n ad iv).1 = ad' at e6 e7 e8 e9 e10 e11 e12 ⊢
      rcases (show k = 0 ∨ k = 1 ∨ k = 2 ∨ k = 3 ∨ k = 4 ∨ k = 5 ∨ k = 6 ∨ k = 7 from by omega) with rfl | rfl | rfl | rfl | rfl | rfl | rfl | rfl
      · show _ = Sum.inl (Sum.inr (2, [Value.int (nI n), .ref (ad' 6 n), .int (nI (ab_0 0 n)), .int (nI (ab_0 1 n)), .ref (ad' 7 n), .ref (ad' 8 n)]))
        rw [e6, e7, e8, ab0_0 hn, ab0_1 hn]
        rfl
      · show _ = Sum.inr ((List.range (ab_0 2 n)).map (fun k => ad' 14 (ab_0 3 (6 * n + k))))
        rw [ab0_2]
        rfl
      · show _ = Sum.inl (Sum.inr (4, [Value.ref (ad' 9 n), .ref (ad' 11 n)]))
        rw [e9, e11]
        rfl
      · show Sum.inl (Sum.inl (hv_c w 0, 8, Sum.inl (fun j => if j < 8 then nI (if j = n then 1 else 0) + (-1) else 0))) = Sum.inl (Sum.inl (hv_c w 0, 8, Sum.inl (fun j => if j < 8 then nI (ab_0 11 (8 * n + j)) + (-1) else 0)))
        refine cI_ext (fun j => ?_)
        by_cases hj : j < 8
        · rw [if_pos hj, if_pos hj, ab0_11 hn hj]
        · rw [if_neg hj, if_neg hj]
      · show Sum.inl (Sum.inl (hv_c w 4, 8, hv_ref (fun _ => none))) = Sum.inl (Sum.inl (hv_c w 4, 8, hv_ref (fun j => if j < 8 then cl_r ad' (ab_0 12 (8 * n + j)) else none)))
        refine cR_ext (fun j => ?_)
        by_cases hj : j < 8
        · rw [if_pos hj, ab0_12 hn hj, cl_r00]
        · rw [if_neg hj]
      · show _ = Sum.inl (Sum.inr (4, [Value.ref (ad' 10 n), .ref (ad' 12 n)]))
        rw [e10, e12]
        rfl
      · show Sum.inl (Sum.inl (hv_c w 0, 8, Sum.inl (fun _ => 0))) = Sum.inl (Sum.inl (hv_c w 0, 8, Sum.inl (fun j => if j < 8 then nI 1 + (-1) else 0)))
        refine cI_ext (fun j => ?_)
        by_cases hj : j < 8
        · rw [if_pos hj, cb_one]
        · rw [if_neg hj]
      · show Sum.inl (Sum.inl (hv_c w 4, 8, hv_ref (fun _ => none))) = Sum.inl (Sum.inl (hv_c w 4, 8, hv_ref (fun j => if j < 8 then cl_r ad' 0 else none)))
        refine cR_ext (fun j => ?_)
        by_cases hj : j < 8
        · rw [if_pos hj, cl_r00]
        · rw [if_neg hj]
theorem cb_at {w : hv_W} {g : cl_g} {n r kd i : Nat} {Y0 : hv_H} (hg : cb_ok g n Y0) (hin : cb_in n kd i) : cb_Y w g r Y0 (g.1 kd i) = some (cb_cell w g.1 r kd i) := by
  unfold cb_Y
  rw [hg.1 kd i hin]
/-- the row has one basin more -/
theorem cb_row {w : hv_W} {g : cl_g} {n r v : Nat} {Y0 : hv_H} (hg : cb_ok g n Y0) (hv : g.1 5 r = v) : hv_up (cb_Y w g r Y0) (g.1 1 0) (.inl (.inl (hv_c w 3, 8, hv_ref (va_up (fun j => if j < r then some (g.1 5 j) else none) r (some v))))) = cb_Y w g (r + 1) Y0 := by
  subst hv
  have h1 := hg.1 1 0 (Or.inl ⟨by decide, rfl⟩)
  funext a
  unfold hv_up cb_Y
  by_cases ha : a = g.1 1 0
  · subst ha
    rw [if_pos rfl, h1]
    show some _ = some (Sum.inl (Sum.inl (hv_c w 3, 8, hv_ref (fun j => if j < r + 1 then some (g.1 5 j) else none))))
    congr 1
    refine cR_ext (fun j => ?_)
    simp only [va_up]
    by_cases hj : j = r
    · rw [if_pos hj, if_pos (by omega), hj]
    · rw [if_neg hj]
      by_cases hj2 : j < r
      · rw [if_pos hj2, if_pos (by omega)]
      · rw [if_neg hj2, if_neg (by omega)]
  · rw [if_neg ha]
    cases z : g.2 a with
    | none => rfl
    | some q =>
      obtain ⟨h2, h3, -⟩ := hg.2 a q.1 q.2 z
      have h4 : q.1 ≠ 1 := by
        intro y
        have h5 : q.2 = 0 := by unfold cb_in at h2; omega
        rw [y, h5] at h3
        exact ha h3
      show some (cb_cell w g.1 r q.1 q.2) = some (cb_cell w g.1 (r + 1) q.1 q.2)
      unfold cb_cell
      rw [if_neg h4, if_neg h4]
theorem cb_end {w : hv_W} {g : cl_g} {Y0 : hv_H} (hg : cb_ok g 8 Y0) : cl_S w (g.1 0 0) Y0 ab_0 (cb_Y w g 8 Y0) := by
  refine ⟨g, cb_Z, ?_, ⟨fun i _ => (show (if (0 : Nat) = 1 ∨ (0 : Nat) = 3 then 1 else 0) ≤ 1 from by decide), fun k _ => Nat.zero_le _⟩, fun a q hq => (hg.2 a q.1 q.2 hq).2.2, rfl, ?_⟩
  · rw [ab0_4, ab0_15]
    refine ⟨fun kd i hin => hg.1 kd i (by unfold cl_in at hin; unfold cb_in; omega), fun a kd i ha => ?_⟩
    obtain ⟨h1, h2, -⟩ := hg.2 a kd i ha
    exact ⟨by unfold cb_in at h1; unfold cl_in; omega, h2⟩
  · funext a
    unfold cb_Y cl_Y
    cases z : g.2 a with
    | none => rfl
    | some q =>
      show some (cb_cell w g.1 8 q.1 q.2) = some (cl_cell w g.1 ab_0 cb_Z q.1 q.2)
      unfold cb_cell
      by_cases h : q.1 = 1
      · rw [if_pos h, h]
        rfl
      · rw [if_neg h]
def cl_blank : hv_E := .inl (.inr (5, [.null, .null, .null, .null, .int (nI 0), .int (nI 0)]))
set_option maxRecDepth 100000 in
set_option maxHeartbeats 1000000 in
theorem c_X4_init (l : Launch) (w : hv_W) (Y : hv_H) (o : Nat) (hY : Y o = none) : hv_Mv l yX4_init wsX4_init ({ frames := 5, cells := 100, slots := 500, locals := 140 }) w [.ref o] (hv_up Y o cl_blank) (fun Y1 => cl_S w o Y ab_0 Y1) := by
  refine hv_ofV (cc := cX4_init) (own := RX4) (by decide) rfl rfl (Nat.le_of_ble_eq_true rfl) rfl ?_
  intro p e s m below meth c C hret hnm
  have hinX1 : ∀ x ∈ wsX10, x ∈ wsX4_init := by decide +kernel
  have hinX4 : ∀ x ∈ wsX40, x ∈ wsX4_init := by decide +kernel
  have hinL : ∀ x ∈ wsJx4a65c0, x ∈ wsX4_init := by decide +kernel
  obtain ⟨ok0, eq0⟩ := pl_0 hY (cs w 0 (fun _ => o))
  refine hv_fin ?_ eq0 rfl
  have a00 : (fun _ : Nat => o) 0 = o := rfl
  generalize (fun _ : Nat => o) = ad0 at ok0 a00 ⊢
  generalize (fun a : Nat => if a = o then some 0 else none) = iv0 at ok0 ⊢
  refine hv_aload_n C dX4_init_0 rfl 0 rfl ?_
  refine hv_objInit C (by decide +kernel) (by decide +kernel) (by decide +kernel) (Nat.le_of_ble_eq_true rfl) (Nat.le_of_ble_eq_true rfl) dX4_init_1 ?_
  refine hv_aload_n C dX4_init_4 rfl 0 rfl ?_
  refine hv_bipush (v := nI 8) C dX4_init_5 (by decide) ?_
  refine hv_newq C 3 (show (hv_T w)[3]? = some (hv_c w 3, .object RX1) from rfl) C.2.2.2.2.2.2.1.2.2.2.2.1.1 (by decide +kernel) (by decide) (N := 8) (by decide) (by decide) (Nat.le_of_ble_eq_true rfl) (Nat.le_of_ble_eq_true rfl) dX4_init_7 (fun q hq => ?_)
  obtain ⟨ad1, iv1, ok1, hn1, ag1, up1⟩ := pl_new ok0 hq
  obtain rfl := hn1
  have ag1_0 := ag1 0 (by decide)
  have a01 : ad1 0 = o := ag1_0.trans a00
  have eq1 := up1 (cs w 0 ad1) (.inl (.inl (hv_c w 3, 8, hv_ref (fun _ => none)))) (fun j hj => by rcases (show j = 0 from by omega) with rfl <;> simp [cs, ag1_0]) rfl
  refine hv_fin (Y1 := pl_Y iv1 (cs w 0 ad1) Y) ?_ eq1 rfl
  refine hv_putfF (k := 0) C hinX4 tyX4 tyX4_ok nmX4 (show vwCl[5]? = some (RX4, TX4, 6) from rfl) (show pl_Y iv1 (cs w 0 ad1) Y o = some (.inl (.inr (5, _))) from (congrArg _ a01.symm).trans (pl_at ok1 (by decide))) (by decide) (by decide +kernel) (fun _ h => h) rfl hnm rfl (ty := .array (.object "LockgateRouter$Basin")) (by decide +kernel) (by rfl) (by rfl) (by show 0 < 6; decide) dX4_init_10 ?_
  refine hv_fin (Y1 := pl_Y iv1 (cs w 2 ad1) Y) ?_ ((congrArg (fun z => hv_up _ z _) a01.symm).trans (pl_up (ct := cs w 0 ad1) (ct' := cs w 2 ad1) ok1 (k := 0) (by decide) (fun j hj => by rcases (show j = 0 ∨ j = 1 from by omega) with rfl | rfl <;> simp [cs]))) rfl
  refine hv_aload_n C dX4_init_13 rfl 0 rfl ?_
  refine hv_new (fs := [.int (nI 0), .null, .int (nI 0)]) C hinL tyJx4a65c tyJx4a65c_ok (by decide +kernel) (by decide +kernel) (by decide +kernel) (show vwCl[0]? = some (RJx4a65c, TJx4a65c, 3) from rfl) (fun j hj => by rcases (show j = 0 ∨ j = 1 ∨ j = 2 from by omega) with rfl | rfl | rfl <;> rfl) (Nat.le_of_ble_eq_true rfl) (Nat.le_of_ble_eq_true rfl) dX4_init_14 (fun q hq => ?_)
  obtain ⟨ad2, iv2, ok2, hn2, ag2, up2⟩ := pl_new ok1 hq
  obtain rfl := hn2
  have ag2_0 := ag2 0 (by decide)
  have ag2_1 := ag2 1 (by decide)
  have a02 : ad2 0 = o := ag2_0.trans a01
  have eq2 := up2 (cs w 2 ad2) (.inl (.inr (0, [.int (nI 0), .null, .int (nI 0)]))) (fun j hj => by rcases (show j = 0 ∨ j = 1 from by omega) with rfl | rfl <;> simp [cs, ag2_0, ag2_1]) rfl
  refine hv_fin (Y1 := pl_Y iv2 (cs w 2 ad2) Y) ?_ eq2 rfl
  refine hv_dup C dX4_init_17 rfl ?_
  refine hv_callIv (As := []) (rest := [.ref (ad2 2), .ref o]) (n := 0) C (c_Jx4a65c_init_da8c8 l w (pl_Y iv2 (cs w 2 ad2) Y) (ad2 2) (show pl_Y iv2 (cs w 2 ad2) Y (ad2 2) = some (.inl (.inr (0, [.int (nI 0), .null, .int (nI 0)]))) from pl_at ok2 (by decide))) gX4_init_Jx4a65c_init_da8c8 rfl (by decide +kernel) (by decide +kernel) (by decide +kernel) rfl (by decide +kernel) ⟨Nat.le_of_ble_eq_true rfl, Nat.le_of_ble_eq_true rfl⟩ rfl rfl (Nat.le_of_ble_eq_true rfl) dX4_init_18 ⟨Nat.le_of_ble_eq_true rfl, Nat.le_of_ble_eq_true rfl⟩ (fun Y1 hr => ?_)
  subst hr
  refine hv_fin (Y1 := pl_Y iv2 (cs w 3 ad2) Y) ?_ (pl_up (ct := cs w 2 ad2) (ct' := cs w 3 ad2) (e := (.inr [])) ok2 (k := 2) (by decide) (fun j hj => by rcases (show j = 0 ∨ j = 1 ∨ j = 2 from by omega) with rfl | rfl | rfl <;> simp [cs])) rfl
  refine hv_putfF (k := 1) C hinX4 tyX4 tyX4_ok nmX4 (show vwCl[5]? = some (RX4, TX4, 6) from rfl) (show pl_Y iv2 (cs w 3 ad2) Y o = some (.inl (.inr (5, _))) from (congrArg _ a02.symm).trans (pl_at ok2 (by decide))) (by decide) (by decide +kernel) (fun _ h => h) rfl hnm rfl (ty := .object "java/util/ArrayList") (by decide +kernel) (by rfl) (by rfl) (by show 1 < 6; decide) dX4_init_21 ?_
  refine hv_fin (Y1 := pl_Y iv2 (cs w 4 ad2) Y) ?_ ((congrArg (fun z => hv_up _ z _) a02.symm).trans (pl_up (ct := cs w 3 ad2) (ct' := cs w 4 ad2) ok2 (k := 0) (by decide) (fun j hj => by rcases (show j = 0 ∨ j = 1 ∨ j = 2 from by omega) with rfl | rfl | rfl <;> simp [cs]))) rfl
  refine hv_aload_n C dX4_init_24 rfl 0 rfl ?_
  refine hv_new (fs := [.int (nI 0), .null, .int (nI 0)]) C hinL tyJx4a65c tyJx4a65c_ok (by decide +kernel) (by decide +kernel) (by decide +kernel) (show vwCl[0]? = some (RJx4a65c, TJx4a65c, 3) from rfl) (fun j hj => by rcases (show j = 0 ∨ j = 1 ∨ j = 2 from by omega) with rfl | rfl | rfl <;> rfl) (Nat.le_of_ble_eq_true rfl) (Nat.le_of_ble_eq_true rfl) dX4_init_25 (fun q hq => ?_)
  obtain ⟨ad3, iv3, ok3, hn3, ag3, up3⟩ := pl_new ok2 hq
  obtain rfl := hn3
  have ag3_0 := ag3 0 (by decide)
  have ag3_1 := ag3 1 (by decide)
  have ag3_2 := ag3 2 (by decide)
  have a03 : ad3 0 = o := ag3_0.trans a02
  have eq3 := up3 (cs w 4 ad3) (.inl (.inr (0, [.int (nI 0), .null, .int (nI 0)]))) (fun j hj => by rcases (show j = 0 ∨ j = 1 ∨ j = 2 from by omega) with rfl | rfl | rfl <;> simp [cs, ag3_0, ag3_1, ag3_2]) rfl
  refine hv_fin (Y1 := pl_Y iv3 (cs w 4 ad3) Y) ?_ eq3 rfl
  refine hv_dup C dX4_init_28 rfl ?_
  refine hv_callIv (As := []) (rest := [.ref (ad3 3), .ref o]) (n := 0) C (c_Jx4a65c_init_da8c8 l w (pl_Y iv3 (cs w 4 ad3) Y) (ad3 3) (show pl_Y iv3 (cs w 4 ad3) Y (ad3 3) = some (.inl (.inr (0, [.int (nI 0), .null, .int (nI 0)]))) from pl_at ok3 (by decide))) gX4_init_Jx4a65c_init_da8c8 rfl (by decide +kernel) (by decide +kernel) (by decide +kernel) rfl (by decide +kernel) ⟨Nat.le_of_ble_eq_true rfl, Nat.le_of_ble_eq_true rfl⟩ rfl rfl (Nat.le_of_ble_eq_true rfl) dX4_init_29 ⟨Nat.le_of_ble_eq_true rfl, Nat.le_of_ble_eq_true rfl⟩ (fun Y1 hr => ?_)
  subst hr
  refine hv_fin (Y1 := pl_Y iv3 (cs w 5 ad3) Y) ?_ (pl_up (ct := cs w 4 ad3) (ct' := cs w 5 ad3) (e := (.inr [])) ok3 (k := 3) (by decide) (fun j hj => by rcases (show j = 0 ∨ j = 1 ∨ j = 2 ∨ j = 3 from by omega) with rfl | rfl | rfl | rfl <;> simp [cs])) rfl
  refine hv_putfF (k := 2) C hinX4 tyX4 tyX4_ok nmX4 (show vwCl[5]? = some (RX4, TX4, 6) from rfl) (show pl_Y iv3 (cs w 5 ad3) Y o = some (.inl (.inr (5, _))) from (congrArg _ a03.symm).trans (pl_at ok3 (by decide))) (by decide) (by decide +kernel) (fun _ h => h) rfl hnm rfl (ty := .object "java/util/ArrayList") (by decide +kernel) (by rfl) (by rfl) (by show 2 < 6; decide) dX4_init_32 ?_
  refine hv_fin (Y1 := pl_Y iv3 (cs w 6 ad3) Y) ?_ ((congrArg (fun z => hv_up _ z _) a03.symm).trans (pl_up (ct := cs w 5 ad3) (ct' := cs w 6 ad3) ok3 (k := 0) (by decide) (fun j hj => by rcases (show j = 0 ∨ j = 1 ∨ j = 2 ∨ j = 3 from by omega) with rfl | rfl | rfl | rfl <;> simp [cs]))) rfl
  refine hv_aload_n C dX4_init_35 rfl 0 rfl ?_
  refine hv_bipush (v := nI 8) C dX4_init_36 (by decide) ?_
  refine hv_newi (N := 8) C (by decide +kernel) (by decide) (by decide) (by decide) (Nat.le_of_ble_eq_true rfl) (Nat.le_of_ble_eq_true rfl) dX4_init_38 (fun q hq => ?_)
  obtain ⟨ad4, iv4, ok4, hn4, ag4, up4⟩ := pl_new ok3 hq
  obtain rfl := hn4
  have ag4_0 := ag4 0 (by decide)
  have ag4_1 := ag4 1 (by decide)
  have ag4_2 := ag4 2 (by decide)
  have ag4_3 := ag4 3 (by decide)
  have a04 : ad4 0 = o := ag4_0.trans a03
  have eq4 := up4 (cs w 6 ad4) (.inl (.inl (hv_c w 0, 8, .inl (fun _ => 0)))) (fun j hj => by rcases (show j = 0 ∨ j = 1 ∨ j = 2 ∨ j = 3 from by omega) with rfl | rfl | rfl | rfl <;> simp [cs, ag4_0, ag4_1, ag4_2, ag4_3]) rfl
  refine hv_fin (Y1 := pl_Y iv4 (cs w 6 ad4) Y) ?_ eq4 rfl
  refine hv_putfF (k := 3) C hinX4 tyX4 tyX4_ok nmX4 (show vwCl[5]? = some (RX4, TX4, 6) from rfl) (show pl_Y iv4 (cs w 6 ad4) Y o = some (.inl (.inr (5, _))) from (congrArg _ a04.symm).trans (pl_at ok4 (by decide))) (by decide) (by decide +kernel) (fun _ h => h) rfl hnm rfl (ty := .array .int) (by decide +kernel) (by rfl) (by rfl) (by show 3 < 6; decide) dX4_init_40 ?_
  refine hv_fin (Y1 := pl_Y iv4 (cs w 8 ad4) Y) ?_ ((congrArg (fun z => hv_up _ z _) a04.symm).trans (pl_up (ct := cs w 6 ad4) (ct' := cs w 8 ad4) ok4 (k := 0) (by decide) (fun j hj => by rcases (show j = 0 ∨ j = 1 ∨ j = 2 ∨ j = 3 ∨ j = 4 from by omega) with rfl | rfl | rfl | rfl | rfl <;> simp [cs]))) rfl
  obtain ⟨hg0, hY0⟩ := cb_start (w := w) ok4
  refine hv_fin ?_ hY0 rfl
  have ho : ((fun (kd _ : Nat) => ad4 kd, fun a => (iv4 a).map (fun k => (k, 0))) : cl_g).1 0 0 = o := a04
  generalize ((fun (kd _ : Nat) => ad4 kd, fun a => (iv4 a).map (fun k => (k, 0))) : cl_g) = g0 at hg0 ho ⊢
  refine hv_iconst (v := nI 0) C dX4_init_43 (by decide) ?_
  refine hv_istore_n (lv1 := [(0, .ref o), (1, .int (nI 0))]) C dX4_init_44 rfl (by decide) [1, 0] rfl ?_
  refine hv_widen (k := 4 + 8 * 0) (n := 30 + 45 * 0) (Nat.le_of_ble_eq_true rfl) (Nat.le_of_ble_eq_true rfl) ?_
  refine hv_loopG (σ := cl_g) 8 (fun i => 4 + 8 * i) (fun i => 30 + 45 * i) (fun i g => cb_Y w g i Y) (fun i _ => [(0, .ref o), (1, .int (nI i))]) (fun i g => cb_ok g i Y ∧ g.1 0 0 = o) ?_ ?_ g0 ⟨hg0, ho⟩
  · rintro g ⟨hg, rfl⟩
    refine hv_iload_n C dX4_init_45 rfl 1 rfl ?_
    refine hv_bipush (v := nI 8) C dX4_init_46 (by decide) ?_
    refine hv_icmpN_ge (tgt := 71) C dX4_init_48 (by decide) (by omega) (by omega) (fun _ => ?_) (fun h => absurd h (by decide))
    exact hv_vret C hret dX4_init_71 (Nat.le_of_ble_eq_true rfl) (Nat.le_of_ble_eq_true rfl) (cb_end hg)
  · rintro i g hi ⟨hg, rfl⟩ ih
    refine hv_iload_n C dX4_init_45 rfl 1 rfl ?_
    refine hv_bipush (v := nI 8) C dX4_init_46 (by decide) ?_
    refine hv_icmpN_ge (tgt := 71) C dX4_init_48 (by decide) (by omega) (by omega) (fun h => absurd hi (Nat.not_lt.mpr h)) (fun _ => ?_)
    refine hv_aload_n C dX4_init_51 rfl 0 rfl ?_
    refine hv_getf (k := 0) C hinX4 (show vwCl[5]? = some (RX4, TX4, 6) from rfl) (show cb_Y w g i Y (g.1 0 0) = some (.inl (.inr (5, [.ref (g.1 1 0), .ref (g.1 2 0), .ref (g.1 3 0), .ref (g.1 4 0), .int (nI (ab_0 10 0)), .int (nI (ab_0 16 0))]))) from cb_at hg (Or.inl ⟨by decide, rfl⟩)) (by decide) (by decide +kernel) (fun _ h => h) (v := .ref (g.1 1 0)) rfl dX4_init_52 ?_
    refine hv_iload_n C dX4_init_55 rfl 1 rfl ?_
    refine hv_new (fs := [.int (nI 0), .null, .int (nI 0), .int (nI 0), .null, .null]) C hinX1 tyX1 tyX1_ok (by decide +kernel) (by decide +kernel) (by decide +kernel) (show vwCl[2]? = some (RX1, TX1, 6) from rfl) (fun j hj => by rcases (show j = 0 ∨ j = 1 ∨ j = 2 ∨ j = 3 ∨ j = 4 ∨ j = 5 from by omega) with rfl | rfl | rfl | rfl | rfl | rfl <;> rfl) (by show 4 + 8 * i + 1 ≤ 100; omega) (by show 30 + 45 * i + 6 ≤ 500; omega) dX4_init_56 (fun q hq => ?_)
    refine hv_dup C dX4_init_59 rfl ?_
    refine hv_iload_n C dX4_init_60 rfl 1 rfl ?_
    refine hv_callIv (As := [.int (nI i)]) (rest := [.ref q, .int (nI i), .ref (g.1 1 0)]) (n := 1) C (c_X1_init l w (cb_Y w g i Y) q i hq hi) gX4_init_X1_init rfl (by decide +kernel) (by decide +kernel) (by decide +kernel) rfl (by decide +kernel) ⟨Nat.le_of_ble_eq_true rfl, Nat.le_of_ble_eq_true rfl⟩ rfl rfl (Nat.le_of_ble_eq_true rfl) dX4_init_61 ⟨by show 4 + 8 * i + 1 + 7 ≤ 100; omega, by show 30 + 45 * i + 6 + 39 ≤ 500; omega⟩ (fun Y1 hr => ?_)
    obtain ⟨ad, iv, ok, had, rfl⟩ := hr
    obtain ⟨hg1, hY1, h5, h04⟩ := cb_step (w := w) hg hi ok
    rw [hY1]
    generalize cb_g g i ad iv = g1 at hg1 h5 h04 ⊢
    rw [had] at h5
    rw [← h04 1 (by decide)]
    have hrow := cb_at (w := w) (r := i) hg1 (kd := 1) (i := 0) (Or.inl ⟨by decide, rfl⟩)
    have hbas : cb_Y w g1 i Y q = some (cb_cell w g1.1 i 5 i) := by
      have h9 := cb_at (w := w) (r := i) hg1 (kd := 5) (i := i) (Or.inr ⟨by decide, by decide, Nat.lt_succ_self i⟩)
      rw [h5] at h9
      exact h9
    refine hv_aast C 3 (show (hv_T w)[3]? = some (hv_c w 3, .object RX1) from rfl) (Or.inr rfl) (hbas.trans rfl) (show vwCl[2]? = some (RX1, TX1, 6) from rfl) (hrow.trans rfl) (vp_in_nI hi (by decide)) dX4_init_64 ?_
    rw [nI_clamp (by omega)]
    refine hv_fin (Y1 := cb_Y w g1 (i + 1) Y) ?_ (cb_row hg1 h5) rfl
    refine hv_iinc (v := nI (i + 1)) (lv1 := [(0, .ref (g.1 0 0)), (1, .int (nI (i + 1)))]) C dX4_init_65 (k := 1) rfl (nI_1 _) (by decide) [1, 0] rfl ?_
    refine hv_goto (tgt := 45) C dX4_init_68 (by decide) ?_
    refine hv_widen (k := 4 + 8 * (i + 1)) (n := 30 + 45 * (i + 1)) (by show 4 + 8 * i + 1 + 7 ≤ _; omega) (by show 30 + 45 * i + 6 + 39 ≤ _; omega) ?_
    exact ih g1 ⟨hg1, h04 0 (by decide)⟩
