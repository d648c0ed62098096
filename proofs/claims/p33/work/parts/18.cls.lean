/-! THE CLASS'S STATE: what lies at each of its objects, by kind (0 itself, 1 the basins' row, 2 the canals' list, 3 the barges' list, 4 the row of costs, 5 a basin, 6 its queue, 7 and 8 its tables, 9 and 10 their distances, 11 and 12 their canals, 13 a canal, 14 a barge, 15 where it was) -/
abbrev cl_g : Type := (Nat → Nat → Nat) × (Nat → Option (Nat × Nat))
def cl_r (ad : Nat → Nat → Nat) (x : Nat) : Option Nat := if x = 0 then none else some (ad 13 (x - 1))
def cl_cell (w : hv_W) (ad : Nat → Nat → Nat) (A Z : ab_A) (kd i : Nat) : hv_E := match kd with
  | 0 => .inl (.inr (5, [.ref (ad 1 0), .ref (ad 2 0), .ref (ad 3 0), .ref (ad 4 0), .int (nI (A 10 0)), .int (nI (A 16 0))]))
  | 1 => .inl (.inl (hv_c w 3, 8, hv_ref (fun j => if j < 8 then some (ad 5 j) else none)))
  | 2 => .inr ((List.range (A 4 0)).map (ad 13))
  | 3 => .inr ((List.range (A 15 0)).map (ad 14))
  | 4 => .inl (.inl (hv_c w 0, 8, .inl (fun j => nI (Z 3 j) + (-1))))
  | 5 => .inl (.inr (2, [.int (nI i), .ref (ad 6 i), .int (nI (A 0 i)), .int (nI (A 1 i)), .ref (ad (7 + Z 0 i) i), .ref (ad (8 - Z 0 i) i)]))
  | 6 => .inr ((List.range (A 2 i)).map (fun k => ad 14 (A 3 (6 * i + k))))
  | 7 => .inl (.inr (4, [.ref (ad 9 i), .ref (ad 11 i)]))
  | 8 => .inl (.inr (4, [.ref (ad 10 i), .ref (ad 12 i)]))
  | 9 => .inl (.inl (hv_c w 0, 8, .inl (fun j => if j < 8 then nI (if Z 0 i = 0 then A 11 (8 * i + j) else Z 1 (8 * i + j)) + (-1) else 0)))
  | 10 => .inl (.inl (hv_c w 0, 8, .inl (fun j => if j < 8 then nI (if Z 0 i = 0 then Z 1 (8 * i + j) else A 11 (8 * i + j)) + (-1) else 0)))
  | 11 => .inl (.inl (hv_c w 4, 8, hv_ref (fun j => if j < 8 then cl_r ad (if Z 0 i = 0 then A 12 (8 * i + j) else Z 2 (8 * i + j)) else none)))
  | 12 => .inl (.inl (hv_c w 4, 8, hv_ref (fun j => if j < 8 then cl_r ad (if Z 0 i = 0 then Z 2 (8 * i + j) else A 12 (8 * i + j)) else none)))
  | 13 => .inl (.inr (3, [.int (nI i), .ref (ad 5 (A 5 i)), .ref (ad 5 (A 6 i)), .int (nI (A 7 i)), .int (nI (A 8 i)), .int (nI (A 9 i))]))
  | 14 => .inl (.inr (1, [.int (nI i), .ref (ad 5 (A 17 i)), .ref (ad 15 i), .ref (ad 5 (A 22 i)), .int (nI (A 18 i)), .int (nI (A 19 i)), .int (nI (A 20 i)), .int (nI (A 21 i)), .int (nI (A 24 i - 1))]))
  | 15 => .inl (.inl (hv_c w 1, 8, .inl (fun j => if j < 8 then nI (A 23 i / 2 ^ j % 2) else 0)))
  | _ => .inr []
theorem cI_ext {c : ClassId} {f g : Nat → Int32} (h : ∀ j, f j = g j) : (Sum.inl (Sum.inl (c, 8, Sum.inl f)) : hv_E) = .inl (.inl (c, 8, .inl g)) := by rw [funext h]
theorem cR_ext {c : ClassId} {f g : Nat → Option Nat} (h : ∀ j, f j = g j) : (Sum.inl (Sum.inl (c, 8, hv_ref f)) : hv_E) = .inl (.inl (c, 8, hv_ref g)) := by rw [funext h]
def cl_Y (w : hv_W) (g : cl_g) (A Z : ab_A) (Y0 : hv_H) : hv_H := fun a => match g.2 a with
  | some q => some (cl_cell w g.1 A Z q.1 q.2)
  | none => Y0 a
def cl_in (n k kd i : Nat) : Prop := (kd ≤ 4 ∧ i = 0) ∨ (5 ≤ kd ∧ kd ≤ 12 ∧ i < 8) ∨ (kd = 13 ∧ i < n) ∨ ((kd = 14 ∨ kd = 15) ∧ i < k)
def cl_ok (g : cl_g) (n k : Nat) : Prop := (∀ kd i, cl_in n k kd i → g.2 (g.1 kd i) = some (kd, i)) ∧ ∀ a kd i, g.2 a = some (kd, i) → cl_in n k kd i ∧ a = g.1 kd i
/-- the flips are flips; what the next tables name is a canal -/
def cl_Z (A Z : ab_A) : Prop := (∀ i, i < 8 → Z 0 i ≤ 1) ∧ ∀ k, k < 64 → Z 2 k ≤ A 4 0
theorem cl_at {w : hv_W} {g : cl_g} {A Z : ab_A} {Y0 : hv_H} {n k kd i : Nat} (hg : cl_ok g n k) (h : cl_in n k kd i) : cl_Y w g A Z Y0 (g.1 kd i) = some (cl_cell w g.1 A Z kd i) := by
  unfold cl_Y
  rw [hg.1 kd i h]
theorem cl_inj {g : cl_g} {n k kd i kd' i' : Nat} (hg : cl_ok g n k) (h : cl_in n k kd i) (h' : cl_in n k kd' i') (e : g.1 kd i = g.1 kd' i') : kd = kd' ∧ i = i' := by
  have h1 := hg.1 kd i h
  rw [e, hg.1 kd' i' h'] at h1
  cases h1
  exact ⟨rfl, rfl⟩
theorem cl_b {g : cl_g} {n k i j : Nat} (hg : cl_ok g n k) (hi : i < 8) (hj : j < 8) : g.1 5 i = g.1 5 j ↔ i = j := ⟨fun e => (cl_inj hg (by unfold cl_in; omega) (by unfold cl_in; omega) e).2, fun e => by rw [e]⟩
theorem cl_up {w : hv_W} {g : cl_g} {A Z A' Z' : ab_A} {Y0 : hv_H} {n k kd i : Nat} {E : hv_E} (hg : cl_ok g n k) (hin : cl_in n k kd i) (h1 : cl_cell w g.1 A' Z' kd i = E) (h2 : ∀ kd' i', cl_in n k kd' i' → ¬ (kd' = kd ∧ i' = i) → cl_cell w g.1 A' Z' kd' i' = cl_cell w g.1 A Z kd' i') : hv_up (cl_Y w g A Z Y0) (g.1 kd i) E = cl_Y w g A' Z' Y0 := by
  subst h1
  funext a
  unfold hv_up cl_Y
  by_cases ha : a = g.1 kd i
  · subst ha
    rw [if_pos rfl, hg.1 kd i hin]
  · rw [if_neg ha]
    cases q : g.2 a with
    | none => rfl
    | some z =>
      obtain ⟨kd', i'⟩ := z
      obtain ⟨h3, h4⟩ := hg.2 a kd' i' q
      show some _ = some _
      rw [h2 kd' i' h3]
      rintro ⟨rfl, rfl⟩
      exact ha h4
theorem cl_ext {w : hv_W} {g : cl_g} {A Z A' Z' : ab_A} {Y0 : hv_H} {n k : Nat} (hg : cl_ok g n k) (h : ∀ kd i, cl_in n k kd i → cl_cell w g.1 A' Z' kd i = cl_cell w g.1 A Z kd i) : cl_Y w g A' Z' Y0 = cl_Y w g A Z Y0 := by
  funext a
  unfold cl_Y
  cases q : g.2 a with
  | none => rfl
  | some z =>
    obtain ⟨kd', i'⟩ := z
    show some _ = some _
    rw [h kd' i' (hg.2 a kd' i' q).1]
/-- tables: the one that holds, the next one -/
theorem cl_t {w : hv_W} {ad : Nat → Nat → Nat} {A Z : ab_A} {i : Nat} (h : Z 0 i ≤ 1) : cl_cell w ad A Z (7 + Z 0 i) i = .inl (.inr (4, [.ref (ad (9 + Z 0 i) i), .ref (ad (11 + Z 0 i) i)])) := by
  rcases (show Z 0 i = 0 ∨ Z 0 i = 1 by omega) with q | q <;> rw [q] <;> rfl
theorem cl_x {w : hv_W} {ad : Nat → Nat → Nat} {A Z : ab_A} {i : Nat} (h : Z 0 i ≤ 1) : cl_cell w ad A Z (8 - Z 0 i) i = .inl (.inr (4, [.ref (ad (10 - Z 0 i) i), .ref (ad (12 - Z 0 i) i)])) := by
  rcases (show Z 0 i = 0 ∨ Z 0 i = 1 by omega) with q | q <;> rw [q] <;> rfl
theorem cl_td {w : hv_W} {ad : Nat → Nat → Nat} {A Z : ab_A} {i : Nat} (h : Z 0 i ≤ 1) : cl_cell w ad A Z (9 + Z 0 i) i = .inl (.inl (hv_c w 0, 8, .inl (fun j => if j < 8 then nI (A 11 (8 * i + j)) + (-1) else 0))) := by
  rcases (show Z 0 i = 0 ∨ Z 0 i = 1 by omega) with q | q
  · rw [q]; simp only [cl_cell, q, if_true]
  · rw [q]; simp [cl_cell, q]
theorem cl_xd {w : hv_W} {ad : Nat → Nat → Nat} {A Z : ab_A} {i : Nat} (h : Z 0 i ≤ 1) : cl_cell w ad A Z (10 - Z 0 i) i = .inl (.inl (hv_c w 0, 8, .inl (fun j => if j < 8 then nI (Z 1 (8 * i + j)) + (-1) else 0))) := by
  rcases (show Z 0 i = 0 ∨ Z 0 i = 1 by omega) with q | q
  · rw [q]; simp only [cl_cell, q, if_true]
  · rw [q]; simp [cl_cell, q]
theorem cl_tc {w : hv_W} {ad : Nat → Nat → Nat} {A Z : ab_A} {i : Nat} (h : Z 0 i ≤ 1) : cl_cell w ad A Z (11 + Z 0 i) i = .inl (.inl (hv_c w 4, 8, hv_ref (fun j => if j < 8 then cl_r ad (A 12 (8 * i + j)) else none))) := by
  rcases (show Z 0 i = 0 ∨ Z 0 i = 1 by omega) with q | q
  · rw [q]; simp only [cl_cell, q, if_true]
  · rw [q]; simp [cl_cell, q]
theorem cl_xc {w : hv_W} {ad : Nat → Nat → Nat} {A Z : ab_A} {i : Nat} (h : Z 0 i ≤ 1) : cl_cell w ad A Z (12 - Z 0 i) i = .inl (.inl (hv_c w 4, 8, hv_ref (fun j => if j < 8 then cl_r ad (Z 2 (8 * i + j)) else none))) := by
  rcases (show Z 0 i = 0 ∨ Z 0 i = 1 by omega) with q | q
  · rw [q]; simp only [cl_cell, q, if_true]
  · rw [q]; simp [cl_cell, q]
theorem cl_rc {w : hv_W} {g : cl_g} {A Z : ab_A} {Y0 : hv_H} {n k kd i ci N : Nat} {Cn : String} {T : u_T} {fs : List Value} (hg : cl_ok g n k) (hin : cl_in n k kd i) (hc : cl_cell w g.1 A Z kd i = .inl (.inr (ci, fs))) (hv : vwCl[ci]? = some (Cn, T, N)) : hv_rc (cl_Y w g A Z Y0) (g.1 kd i) Cn := hv_rcO ((cl_at hg hin).trans (congrArg some hc)) hv
theorem cl_rcL {w : hv_W} {g : cl_g} {A Z : ab_A} {Y0 : hv_H} {n k kd i : Nat} {L : List Nat} (hg : cl_ok g n k) (hin : cl_in n k kd i) (hc : cl_cell w g.1 A Z kd i = .inr L) : hv_rc (cl_Y w g A Z Y0) (g.1 kd i) RJx4a65c := hv_rcL ((cl_at hg hin).trans (congrArg some hc))
theorem cl_getM {α : Type} {f : Nat → α} {n j : Nat} (h : j < n) : ((List.range n).map f)[j]? = some (f j) := by simp [h]
theorem cl_lenM {α : Type} {f : Nat → α} {n : Nat} : ((List.range n).map f).length = n := by simp
/-! one slot written -/
theorem cu_0 {w : hv_W} {ad : Nat → Nat → Nat} {A Z : ab_A} {n k i v : Nat} : ∀ kd' i', cl_in n k kd' i' → ¬ (kd' = 5 ∧ i' = i) → cl_cell w ad (au A 0 i v) Z kd' i' = cl_cell w ad A Z kd' i' := by
  intro kd' i' hin hne
  by_cases h : i' = i
  · have h2 : kd' ≠ 5 := fun q => hne ⟨q, h⟩
    unfold cl_cell
    split <;> first | rfl | exact absurd rfl h2 | (exfalso; unfold cl_in at hin; omega)
  · have h3 : au A 0 i v 0 i' = A 0 i' := au_i A h
    unfold cl_cell
    split <;> first | rfl | (rw [h3]; done) | (rw [h3]; rfl)
theorem cu_1 {w : hv_W} {ad : Nat → Nat → Nat} {A Z : ab_A} {n k i v : Nat} : ∀ kd' i', cl_in n k kd' i' → ¬ (kd' = 5 ∧ i' = i) → cl_cell w ad (au A 1 i v) Z kd' i' = cl_cell w ad A Z kd' i' := by
  intro kd' i' hin hne
  by_cases h : i' = i
  · have h2 : kd' ≠ 5 := fun q => hne ⟨q, h⟩
    unfold cl_cell
    split <;> first | rfl | exact absurd rfl h2 | (exfalso; unfold cl_in at hin; omega)
  · have h3 : au A 1 i v 1 i' = A 1 i' := au_i A h
    unfold cl_cell
    split <;> first | rfl | (rw [h3]; done) | (rw [h3]; rfl)
theorem cu_9 {w : hv_W} {ad : Nat → Nat → Nat} {A Z : ab_A} {n k i v : Nat} : ∀ kd' i', cl_in n k kd' i' → ¬ (kd' = 13 ∧ i' = i) → cl_cell w ad (au A 9 i v) Z kd' i' = cl_cell w ad A Z kd' i' := by
  intro kd' i' hin hne
  by_cases h : i' = i
  · have h2 : kd' ≠ 13 := fun q => hne ⟨q, h⟩
    unfold cl_cell
    split <;> first | rfl | exact absurd rfl h2 | (exfalso; unfold cl_in at hin; omega)
  · have h3 : au A 9 i v 9 i' = A 9 i' := au_i A h
    unfold cl_cell
    split <;> first | rfl | (rw [h3]; done) | (rw [h3]; rfl)
theorem cu_18 {w : hv_W} {ad : Nat → Nat → Nat} {A Z : ab_A} {n k i v : Nat} : ∀ kd' i', cl_in n k kd' i' → ¬ (kd' = 14 ∧ i' = i) → cl_cell w ad (au A 18 i v) Z kd' i' = cl_cell w ad A Z kd' i' := by
  intro kd' i' hin hne
  by_cases h : i' = i
  · have h2 : kd' ≠ 14 := fun q => hne ⟨q, h⟩
    unfold cl_cell
    split <;> first | rfl | exact absurd rfl h2 | (exfalso; unfold cl_in at hin; omega)
  · have h3 : au A 18 i v 18 i' = A 18 i' := au_i A h
    unfold cl_cell
    split <;> first | rfl | (rw [h3]; done) | (rw [h3]; rfl)
theorem cu_19 {w : hv_W} {ad : Nat → Nat → Nat} {A Z : ab_A} {n k i v : Nat} : ∀ kd' i', cl_in n k kd' i' → ¬ (kd' = 14 ∧ i' = i) → cl_cell w ad (au A 19 i v) Z kd' i' = cl_cell w ad A Z kd' i' := by
  intro kd' i' hin hne
  by_cases h : i' = i
  · have h2 : kd' ≠ 14 := fun q => hne ⟨q, h⟩
    unfold cl_cell
    split <;> first | rfl | exact absurd rfl h2 | (exfalso; unfold cl_in at hin; omega)
  · have h3 : au A 19 i v 19 i' = A 19 i' := au_i A h
    unfold cl_cell
    split <;> first | rfl | (rw [h3]; done) | (rw [h3]; rfl)
theorem cu_20 {w : hv_W} {ad : Nat → Nat → Nat} {A Z : ab_A} {n k i v : Nat} : ∀ kd' i', cl_in n k kd' i' → ¬ (kd' = 14 ∧ i' = i) → cl_cell w ad (au A 20 i v) Z kd' i' = cl_cell w ad A Z kd' i' := by
  intro kd' i' hin hne
  by_cases h : i' = i
  · have h2 : kd' ≠ 14 := fun q => hne ⟨q, h⟩
    unfold cl_cell
    split <;> first | rfl | exact absurd rfl h2 | (exfalso; unfold cl_in at hin; omega)
  · have h3 : au A 20 i v 20 i' = A 20 i' := au_i A h
    unfold cl_cell
    split <;> first | rfl | (rw [h3]; done) | (rw [h3]; rfl)
theorem cu_21 {w : hv_W} {ad : Nat → Nat → Nat} {A Z : ab_A} {n k i v : Nat} : ∀ kd' i', cl_in n k kd' i' → ¬ (kd' = 14 ∧ i' = i) → cl_cell w ad (au A 21 i v) Z kd' i' = cl_cell w ad A Z kd' i' := by
  intro kd' i' hin hne
  by_cases h : i' = i
  · have h2 : kd' ≠ 14 := fun q => hne ⟨q, h⟩
    unfold cl_cell
    split <;> first | rfl | exact absurd rfl h2 | (exfalso; unfold cl_in at hin; omega)
  · have h3 : au A 21 i v 21 i' = A 21 i' := au_i A h
    unfold cl_cell
    split <;> first | rfl | (rw [h3]; done) | (rw [h3]; rfl)
theorem cu_22 {w : hv_W} {ad : Nat → Nat → Nat} {A Z : ab_A} {n k i v : Nat} : ∀ kd' i', cl_in n k kd' i' → ¬ (kd' = 14 ∧ i' = i) → cl_cell w ad (au A 22 i v) Z kd' i' = cl_cell w ad A Z kd' i' := by
  intro kd' i' hin hne
  by_cases h : i' = i
  · have h2 : kd' ≠ 14 := fun q => hne ⟨q, h⟩
    unfold cl_cell
    split <;> first | rfl | exact absurd rfl h2 | (exfalso; unfold cl_in at hin; omega)
  · have h3 : au A 22 i v 22 i' = A 22 i' := au_i A h
    unfold cl_cell
    split <;> first | rfl | (rw [h3]; done) | (rw [h3]; rfl)
theorem cu_24 {w : hv_W} {ad : Nat → Nat → Nat} {A Z : ab_A} {n k i v : Nat} : ∀ kd' i', cl_in n k kd' i' → ¬ (kd' = 14 ∧ i' = i) → cl_cell w ad (au A 24 i v) Z kd' i' = cl_cell w ad A Z kd' i' := by
  intro kd' i' hin hne
  by_cases h : i' = i
  · have h2 : kd' ≠ 14 := fun q => hne ⟨q, h⟩
    unfold cl_cell
    split <;> first | rfl | exact absurd rfl h2 | (exfalso; unfold cl_in at hin; omega)
  · have h3 : au A 24 i v 24 i' = A 24 i' := au_i A h
    unfold cl_cell
    split <;> first | rfl | (rw [h3]; done) | (rw [h3]; rfl)
theorem cu_23 {w : hv_W} {ad : Nat → Nat → Nat} {A Z : ab_A} {n k i v : Nat} : ∀ kd' i', cl_in n k kd' i' → ¬ (kd' = 15 ∧ i' = i) → cl_cell w ad (au A 23 i v) Z kd' i' = cl_cell w ad A Z kd' i' := by
  intro kd' i' hin hne
  by_cases h : i' = i
  · have h2 : kd' ≠ 15 := fun q => hne ⟨q, h⟩
    unfold cl_cell
    split <;> first | rfl | exact absurd rfl h2 | (exfalso; unfold cl_in at hin; omega)
  · have h3 : au A 23 i v 23 i' = A 23 i' := au_i A h
    unfold cl_cell
    split <;> first | rfl | (rw [h3]; done) | (rw [h3]; rfl)
theorem cu_10 {w : hv_W} {ad : Nat → Nat → Nat} {A Z : ab_A} {n k v : Nat} : ∀ kd' i', cl_in n k kd' i' → ¬ (kd' = 0 ∧ i' = 0) → cl_cell w ad (au A 10 0 v) Z kd' i' = cl_cell w ad A Z kd' i' := by
  intro kd' i' hin hne
  unfold cl_cell
  split <;> first | rfl | (exfalso; unfold cl_in at hin; omega)
theorem cu_16 {w : hv_W} {ad : Nat → Nat → Nat} {A Z : ab_A} {n k v : Nat} : ∀ kd' i', cl_in n k kd' i' → ¬ (kd' = 0 ∧ i' = 0) → cl_cell w ad (au A 16 0 v) Z kd' i' = cl_cell w ad A Z kd' i' := by
  intro kd' i' hin hne
  unfold cl_cell
  split <;> first | rfl | (exfalso; unfold cl_in at hin; omega)
theorem cl_cellZ {w : hv_W} {ad : Nat → Nat → Nat} {A Z Z' : ab_A} {kd i : Nat} (h0 : ∀ x, Z' 0 x = Z 0 x) (h1 : (kd = 9 ∧ Z 0 i ≠ 0) ∨ (kd = 10 ∧ Z 0 i = 0) → ∀ j, j < 8 → Z' 1 (8 * i + j) = Z 1 (8 * i + j)) (h2 : (kd = 11 ∧ Z 0 i ≠ 0) ∨ (kd = 12 ∧ Z 0 i = 0) → ∀ j, j < 8 → Z' 2 (8 * i + j) = Z 2 (8 * i + j)) (h3 : kd = 4 → ∀ j, Z' 3 j = Z 3 j) : cl_cell w ad A Z' kd i = cl_cell w ad A Z kd i := by
  unfold cl_cell
  split <;> first | with_reducible rfl | skip
  · exact cI_ext (fun j => by rw [h3 rfl])
  · rw [h0]
  · refine cI_ext (fun j => ?_)
    by_cases hj : j < 8
    · rw [if_pos hj, if_pos hj, h0]
      by_cases hz : Z 0 i = 0
      · rw [if_pos hz, if_pos hz]
      · rw [if_neg hz, if_neg hz, h1 (Or.inl ⟨rfl, hz⟩) j hj]
    · rw [if_neg hj, if_neg hj]
  · refine cI_ext (fun j => ?_)
    by_cases hj : j < 8
    · rw [if_pos hj, if_pos hj, h0]
      by_cases hz : Z 0 i = 0
      · rw [if_pos hz, if_pos hz, h1 (Or.inr ⟨rfl, hz⟩) j hj]
      · rw [if_neg hz, if_neg hz]
    · rw [if_neg hj, if_neg hj]
  · refine cR_ext (fun j => ?_)
    by_cases hj : j < 8
    · rw [if_pos hj, if_pos hj, h0]
      by_cases hz : Z 0 i = 0
      · rw [if_pos hz, if_pos hz]
      · rw [if_neg hz, if_neg hz, h2 (Or.inl ⟨rfl, hz⟩) j hj]
    · rw [if_neg hj, if_neg hj]
  · refine cR_ext (fun j => ?_)
    by_cases hj : j < 8
    · rw [if_pos hj, if_pos hj, h0]
      by_cases hz : Z 0 i = 0
      · rw [if_pos hz, if_pos hz, h2 (Or.inr ⟨rfl, hz⟩) j hj]
      · rw [if_neg hz, if_neg hz]
    · rw [if_neg hj, if_neg hj]
theorem cz_3 {w : hv_W} {ad : Nat → Nat → Nat} {A Z : ab_A} {n k i v : Nat} : ∀ kd' i', cl_in n k kd' i' → ¬ (kd' = 4 ∧ i' = 0) → cl_cell w ad A (au Z 3 i v) kd' i' = cl_cell w ad A Z kd' i' := by
  intro kd' i' hin hne
  exact cl_cellZ (fun _ => by rw [au_k Z (by decide)]) (fun _ _ _ => by rw [au_k Z (by decide)]) (fun _ _ _ => by rw [au_k Z (by decide)]) (fun h => absurd ⟨h, by unfold cl_in at hin; omega⟩ hne)
theorem cz_1 {w : hv_W} {ad : Nat → Nat → Nat} {A Z : ab_A} {n k b o v : Nat} (hb : Z 0 b ≤ 1) (ho : o < 8) : ∀ kd' i', cl_in n k kd' i' → ¬ (kd' = 10 - Z 0 b ∧ i' = b) → cl_cell w ad A (au Z 1 (8 * b + o) v) kd' i' = cl_cell w ad A Z kd' i' := by
  intro kd' i' hin hne
  refine cl_cellZ (fun _ => by rw [au_k Z (by decide)]) (fun h j hj => au_i Z ?_) (fun _ _ _ => by rw [au_k Z (by decide)]) (fun _ _ => by rw [au_k Z (by decide)])
  intro q
  obtain rfl : i' = b := by omega
  exact hne ⟨by omega, rfl⟩
theorem cz_2 {w : hv_W} {ad : Nat → Nat → Nat} {A Z : ab_A} {n k b o v : Nat} (hb : Z 0 b ≤ 1) (ho : o < 8) : ∀ kd' i', cl_in n k kd' i' → ¬ (kd' = 12 - Z 0 b ∧ i' = b) → cl_cell w ad A (au Z 2 (8 * b + o) v) kd' i' = cl_cell w ad A Z kd' i' := by
  intro kd' i' hin hne
  refine cl_cellZ (fun _ => by rw [au_k Z (by decide)]) (fun _ _ _ => by rw [au_k Z (by decide)]) (fun h j hj => au_i Z ?_) (fun _ _ => by rw [au_k Z (by decide)])
  intro q
  obtain rfl : i' = b := by omega
  exact hne ⟨by omega, rfl⟩
section HC
variable {p : Program} {l : Launch} {e : Env} {R : Room} {s : State} {m : MethodId} {args : Array Value} {below : List Frame} {meth : Method} {c : Code} {w : hv_W} {nL : Nat} {Q : State → Prop} {cells slots : Nat} {lv : List (Nat × Value)} {pc : Nat} {rest : List Value} {own : String} {cc : ByteArray} {Ts : List Cond} {g : cl_g} {A Z : ab_A} {Y0 : hv_H}
theorem hc_get (C : hv_C own cc nL Ts w p s m args meth c) {n k kd i f index ci N : Nat} {T : u_T} {Cn ref : String} {fs : List Value} {v : Value} (hg : cl_ok g n k) (hin : cl_in n k kd i) (hcell : cl_cell w g.1 A Z kd i = .inl (.inr (ci, fs))) (hc : vwCl[ci]? = some (Cn, T, N)) (hws : ∀ x ∈ u_ws Cn T N, x ∈ Ts) (hk : f < N) (hlink : Cond.fieldLink own index ref (T f).2.1 (T f).2.2.1 ∈ Ts) (href : (T f).1 = ref) (hv : fs[f]? = some v) (hdg : decode cc pc = .ok (.getfield index, 3)) (kk : hv_V p l e R s m args below meth c w nL Q cells slots (cl_Y w g A Z Y0) lv (pc + 3) (v :: rest)) : hv_V p l e R s m args below meth c w nL Q cells slots (cl_Y w g A Z Y0) lv pc (.ref (g.1 kd i) :: rest) :=
  hv_getf C hws hc ((cl_at hg hin).trans (congrArg some hcell)) hk hlink (fun x h => by rw [href] at h; exact h) hv hdg kk
theorem hc_put (C : hv_C own cc nL Ts w p s m args meth c) {n k kd i f index ci N : Nat} {T : u_T} {Cn ref : String} {fs : List Value} {v : Value} {ty : FieldType} {A' Z' : ab_A} (hg : cl_ok g n k) (hin : cl_in n k kd i) (hcell : cl_cell w g.1 A Z kd i = .inl (.inr (ci, fs))) (hc : vwCl[ci]? = some (Cn, T, N)) (hws : ∀ x ∈ u_ws Cn T N, x ∈ Ts) (ty0 : Nat → FieldType) (hty : ∀ k, k < N → parseFieldDescriptor (T k).2.2.1 = some (ty0 k)) (hnm : ∀ a, a < N → ∀ b, b < N → a ≠ b → (T a).2.1 ≠ (T b).2.1) (hk : f < N) (hlink : Cond.fieldLink own index ref (T f).2.1 (T f).2.2.1 ∈ Ts) (href : (T f).1 = ref) (hfin : (T f).2.2.2 = false) (hd : parseFieldDescriptor (T f).2.2.1 = some ty) (hn : narrow ty v = v) (hfit : fits ty v = true) (hl9 : f < fs.length) (h1 : cl_cell w g.1 A' Z' kd i = .inl (.inr (ci, fs.set f v))) (h2 : ∀ kd' i', cl_in n k kd' i' → ¬ (kd' = kd ∧ i' = i) → cl_cell w g.1 A' Z' kd' i' = cl_cell w g.1 A Z kd' i') (hdg : decode cc pc = .ok (.putfield index, 3)) (kk : hv_V p l e R s m args below meth c w nL Q cells slots (cl_Y w g A' Z' Y0) lv (pc + 3) rest) : hv_V p l e R s m args below meth c w nL Q cells slots (cl_Y w g A Z Y0) lv pc (v :: .ref (g.1 kd i) :: rest) :=
  hv_putf C hws ty0 hty hnm hc ((cl_at hg hin).trans (congrArg some hcell)) hk hlink (fun x h => by rw [href] at h; exact h) hfin hd hn hfit hl9 hdg (by rw [cl_up hg hin h1 h2]; exact kk)
theorem hc_iald (C : hv_C own cc nL Ts w p s m args meth c) {n k kd i j N : Nat} {f : Nat → Int32} {x : Int32} (hg : cl_ok g n k) (hin : cl_in n k kd i) (hcell : cl_cell w g.1 A Z kd i = .inl (.inl (hv_c w 0, N, .inl f))) (hN : N < 2 ^ 31) (hj : j < N) (hx : f j = x) (hdg : decode cc pc = .ok (.iaload, 1)) (kk : hv_V p l e R s m args below meth c w nL Q cells slots (cl_Y w g A Z Y0) lv (pc + 1) (.int x :: rest)) : hv_V p l e R s m args below meth c w nL Q cells slots (cl_Y w g A Z Y0) lv pc (.int (nI j) :: .ref (g.1 kd i) :: rest) := by
  refine hv_iald C ((cl_at hg hin).trans (congrArg some hcell)) (vp_in_nI hj hN) hdg ?_
  rw [nI_clamp (Nat.lt_trans hj hN), hx]
  exact kk
theorem hc_aald (C : hv_C own cc nL Ts w p s m args meth c) {n k kd i j N : Nat} {f : Nat → Option Nat} {cA : ClassId} {Cn : String} {x : Option Nat} (t0 : Nat) (ht : (hv_T w)[t0]? = some (cA, .object Cn)) (hg : cl_ok g n k) (hin : cl_in n k kd i) (hcell : cl_cell w g.1 A Z kd i = .inl (.inl (cA, N, hv_ref f))) (hN : N < 2 ^ 31) (hj : j < N) (hx : f j = x) (hdg : decode cc pc = .ok (.aaload, 1)) (kk : hv_V p l e R s m args below meth c w nL Q cells slots (cl_Y w g A Z Y0) lv (pc + 1) (va_rf x :: rest)) : hv_V p l e R s m args below meth c w nL Q cells slots (cl_Y w g A Z Y0) lv pc (.int (nI j) :: .ref (g.1 kd i) :: rest) := by
  refine hv_aald C t0 ht ((cl_at hg hin).trans (congrArg some hcell)) (vp_in_nI hj hN) hdg ?_
  rw [nI_clamp (Nat.lt_trans hj hN), hx]
  exact kk
/-- the basin of a number -/
theorem hc_bas (C : hv_C own cc nL Ts w p s m args meth c) {n k j : Nat} (hg : cl_ok g n k) (hj : j < 8) (hdg : decode cc pc = .ok (.aaload, 1)) (kk : hv_V p l e R s m args below meth c w nL Q cells slots (cl_Y w g A Z Y0) lv (pc + 1) (.ref (g.1 5 j) :: rest)) : hv_V p l e R s m args below meth c w nL Q cells slots (cl_Y w g A Z Y0) lv pc (.int (nI j) :: .ref (g.1 1 0) :: rest) := hc_aald C 3 (show (hv_T w)[3]? = some (hv_c w 3, .object RX1) from rfl) hg (Or.inl ⟨by decide, rfl⟩) rfl (by decide) hj (if_pos hj) hdg kk
theorem hc_zald (C : hv_C own cc nL Ts w p s m args meth c) {n k i j x : Nat} (hg : cl_ok g n k) (hi : i < k) (hj : j < 8) (hx : A 23 i / 2 ^ j % 2 = x) (hdg : decode cc pc = .ok (.baload, 1)) (kk : hv_V p l e R s m args below meth c w nL Q cells slots (cl_Y w g A Z Y0) lv (pc + 1) (.int (nI x) :: rest)) : hv_V p l e R s m args below meth c w nL Q cells slots (cl_Y w g A Z Y0) lv pc (.int (nI j) :: .ref (g.1 15 i) :: rest) := by
  refine hv_zald C ((cl_at hg (Or.inr (Or.inr (Or.inr ⟨Or.inr rfl, hi⟩)))).trans rfl) (vp_in_nI hj (by decide)) hdg ?_
  rw [nI_clamp (Nat.lt_trans hj (by decide)), if_pos hj, hx]
  exact kk
theorem hc_zast (C : hv_C own cc nL Ts w p s m args meth c) {n k i j v : Nat} (hg : cl_ok g n k) (hi : i < k) (hj : j < 8) (h256 : A 23 i < 256) (hv : A 23 i ||| 2 ^ j = v) (hdg : decode cc pc = .ok (.bastore, 1)) (kk : hv_V p l e R s m args below meth c w nL Q cells slots (cl_Y w g (au A 23 i v) Z Y0) lv (pc + 1) rest) : hv_V p l e R s m args below meth c w nL Q cells slots (cl_Y w g A Z Y0) lv pc (.int (nI 1) :: .int (nI j) :: .ref (g.1 15 i) :: rest) := by
  subst hv
  have hin : cl_in n k 15 i := Or.inr (Or.inr (Or.inr ⟨Or.inr rfl, hi⟩))
  refine hv_zast C ((cl_at hg hin).trans rfl) (by decide) (vp_in_nI hj (by decide)) hdg ?_
  rw [nI_clamp (Nat.lt_trans hj (by decide)), cl_up hg hin ?_ cu_23]
  · exact kk
  · refine cI_ext (fun q => ?_)
    simp only [upd, au_s]
    by_cases h8 : q < 8
    · rw [if_pos h8, nb_bit _ h256 j hj q h8]
      by_cases h : q = j
      · rw [if_pos h, if_pos h]
      · rw [if_neg h, if_neg h, if_pos h8]
    · rw [if_neg h8, if_neg (by omega), if_neg h8]
theorem hc_iast3 (C : hv_C own cc nL Ts w p s m args meth c) {n k j v : Nat} {x : Int32} (hg : cl_ok g n k) (hj : j < 8) (hx : nI v + (-1) = x) (hdg : decode cc pc = .ok (.iastore, 1)) (kk : hv_V p l e R s m args below meth c w nL Q cells slots (cl_Y w g A (au Z 3 j v) Y0) lv (pc + 1) rest) : hv_V p l e R s m args below meth c w nL Q cells slots (cl_Y w g A Z Y0) lv pc (.int x :: .int (nI j) :: .ref (g.1 4 0) :: rest) := by
  subst hx
  have hin : cl_in n k 4 0 := Or.inl ⟨by decide, rfl⟩
  refine hv_iast C ((cl_at hg hin).trans rfl) (vp_in_nI hj (by decide)) hdg ?_
  rw [nI_clamp (Nat.lt_trans hj (by decide)), cl_up hg hin ?_ cz_3]
  · exact kk
  · refine cI_ext (fun q => ?_)
    simp only [upd]
    by_cases h : q = j
    · rw [if_pos h, h, au_s]
    · rw [if_neg h, au_i Z h]
theorem hc_iast1 (C : hv_C own cc nL Ts w p s m args meth c) {n k b o v : Nat} {x : Int32} (hg : cl_ok g n k) (hb : b < 8) (ho : o < 8) (hz : Z 0 b ≤ 1) (hx : nI v + (-1) = x) (hdg : decode cc pc = .ok (.iastore, 1)) (kk : hv_V p l e R s m args below meth c w nL Q cells slots (cl_Y w g A (au Z 1 (8 * b + o) v) Y0) lv (pc + 1) rest) : hv_V p l e R s m args below meth c w nL Q cells slots (cl_Y w g A Z Y0) lv pc (.int x :: .int (nI o) :: .ref (g.1 (10 - Z 0 b) b) :: rest) := by
  subst hx
  have hin : cl_in n k (10 - Z 0 b) b := Or.inr (Or.inl ⟨by omega, by omega, hb⟩)
  refine hv_iast C ((cl_at hg hin).trans (congrArg some (cl_xd hz))) (vp_in_nI ho (by decide)) hdg ?_
  rw [nI_clamp (Nat.lt_trans ho (by decide)), cl_up hg hin ?_ (cz_1 hz ho)]
  · exact kk
  · refine (cl_xd (Z := au Z 1 (8 * b + o) v) hz).trans ?_
    refine cI_ext (fun q => ?_)
    simp only [upd]
    by_cases h : q = o
    · rw [if_pos h, h, if_pos ho, au_s]
    · rw [if_neg h]
      by_cases h8 : q < 8
      · rw [if_pos h8, if_pos h8, au_i Z (by omega)]
      · rw [if_neg h8, if_neg h8]
theorem hc_aast2 (C : hv_C own cc nL Ts w p s m args meth c) {n k b o v : Nat} (hg : cl_ok g n k) (hb : b < 8) (ho : o < 8) (hz : Z 0 b ≤ 1) (hv : v < n) (hdg : decode cc pc = .ok (.aastore, 1)) (kk : hv_V p l e R s m args below meth c w nL Q cells slots (cl_Y w g A (au Z 2 (8 * b + o) (v + 1)) Y0) lv (pc + 1) rest) : hv_V p l e R s m args below meth c w nL Q cells slots (cl_Y w g A Z Y0) lv pc (.ref (g.1 13 v) :: .int (nI o) :: .ref (g.1 (12 - Z 0 b) b) :: rest) := by
  have hin : cl_in n k (12 - Z 0 b) b := Or.inr (Or.inl ⟨by omega, by omega, hb⟩)
  have hin13 : cl_in n k 13 v := Or.inr (Or.inr (Or.inl ⟨rfl, hv⟩))
  refine hv_aast C 4 (show (hv_T w)[4]? = some (hv_c w 4, .object RX2) from rfl) (Or.inr rfl) ((cl_at hg hin13).trans rfl) rfl ((cl_at hg hin).trans (congrArg some (cl_xc hz))) (vp_in_nI ho (by decide)) hdg ?_
  rw [nI_clamp (Nat.lt_trans ho (by decide)), cl_up hg hin ?_ (cz_2 hz ho)]
  · exact kk
  · refine (cl_xc (Z := au Z 2 (8 * b + o) (v + 1)) hz).trans ?_
    refine cR_ext (fun q => ?_)
    simp only [va_up]
    by_cases h : q = o
    · rw [if_pos h, h, if_pos ho, au_s]
      rfl
    · rw [if_neg h]
      by_cases h8 : q < 8
      · rw [if_pos h8, if_pos h8, au_i Z (by omega)]
      · rw [if_neg h8, if_neg h8]
end HC
