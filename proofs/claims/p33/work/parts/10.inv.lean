/-! THE INVARIANT IS KEPT -/
theorem I_mark {A : ab_A} {b k : Nat} (hI : ab_I A) (h1 : 1 ≤ k) (h2 : k ≤ 6) : ab_I (au A 1 b k) := by
  obtain ⟨i1, i2, i2b, i3, i4, i5, i6, i7, i8, i9⟩ := hI
  refine ⟨?_, i2, i2b, i3, i4, i5, i6, i7, i8, i9⟩
  intro b' hb'
  have h := i1 b' hb'
  show 5 ≤ A 0 b' ∧ A 0 b' ≤ 200 ∧ 1 ≤ (if b' = b then k else A 1 b') ∧ (if b' = b then k else A 1 b') ≤ 6 ∧ A 2 b' ≤ 6
  split <;> omega
theorem I_gate {A : ab_A} {j o : Nat} (hI : ab_I A) (h1 : o ≤ 1) : ab_I (au A 9 j o) := by
  obtain ⟨i1, i2, i2b, i3, i4, i5, i6, i7, i8, i9⟩ := hI
  refine ⟨i1, i2, i2b, i3, ?_, i5, i6, i7, i8, i9⟩
  intro k hk
  have h := i4 k hk
  show A 5 k < 8 ∧ A 6 k < 8 ∧ A 5 k ≠ A 6 k ∧ 1 ≤ A 7 k ∧ A 7 k ≤ 9 ∧ A 8 k ≤ 9 ∧ (if k = j then o else A 9 k) ≤ 1
  split <;> omega
theorem I_tk {A : ab_A} (hI : ab_I A) (h : A 16 0 < 2000) : ab_I (f_tk A) := by
  obtain ⟨i1, i2, i2b, i3, i4, i5, i6, i7, i8, i9⟩ := hI
  refine ⟨i1, i2, i2b, i3, i4, i5, i6, h, ?_, i9⟩
  intro j hj
  have h8 := i8 j hj
  show A 17 j < 8 ∧ A 18 j ≤ 20 ∧ A 21 j ≤ 2 ∧ A 22 j < 8 ∧ A 23 j < 256 ∧ A 24 j ≤ A 16 0 + 1 + 1
  omega
theorem I_water {A B : ab_A} (hI : ab_I A) (hk : ∀ k, k ≠ 0 → k ≠ 10 → B k = A k) (h0 : ∀ b, b < 8 → 5 ≤ B 0 b ∧ B 0 b ≤ 200) : ab_I B := by
  obtain ⟨i1, i2, i2b, i3, i4, i5, i6, i7, i8, i9⟩ := hI
  unfold ab_I
  rw [hk 1 (by decide) (by decide), hk 2 (by decide) (by decide), hk 3 (by decide) (by decide), hk 4 (by decide) (by decide), hk 5 (by decide) (by decide), hk 6 (by decide) (by decide), hk 7 (by decide) (by decide), hk 8 (by decide) (by decide), hk 9 (by decide) (by decide), hk 11 (by decide) (by decide), hk 12 (by decide) (by decide), hk 15 (by decide) (by decide), hk 16 (by decide) (by decide), hk 17 (by decide) (by decide), hk 18 (by decide) (by decide), hk 19 (by decide) (by decide), hk 20 (by decide) (by decide), hk 21 (by decide) (by decide), hk 22 (by decide) (by decide), hk 23 (by decide) (by decide), hk 24 (by decide) (by decide)]
  refine ⟨?_, i2, i2b, i3, i4, i5, i6, i7, i8, i9⟩
  intro b hb
  have h := i1 b hb
  have h' := h0 b hb
  omega
theorem I_tab {A B : ab_A} (hI : ab_I A) (hk : ∀ k, k ≠ 11 ∧ k ≠ 12 ∧ k ≠ 13 ∧ k ≠ 14 → B k = A k) (h5 : ∀ b o, b < 8 → o < 8 → B 11 (8 * b + o) ≤ 41 ∧ B 12 (8 * b + o) ≤ A 4 0 ∧ (B 12 (8 * b + o) ≠ 0 → b ≠ o ∧ (A 5 (B 12 (8 * b + o) - 1) = b ∨ A 6 (B 12 (8 * b + o) - 1) = b))) : ab_I B := by
  obtain ⟨i1, i2, i2b, i3, i4, i5, i6, i7, i8, i9⟩ := hI
  unfold ab_I
  rw [hk 0 (by decide), hk 1 (by decide), hk 2 (by decide), hk 3 (by decide), hk 4 (by decide), hk 5 (by decide), hk 6 (by decide), hk 7 (by decide), hk 8 (by decide), hk 9 (by decide), hk 15 (by decide), hk 16 (by decide), hk 17 (by decide), hk 18 (by decide), hk 19 (by decide), hk 20 (by decide), hk 21 (by decide), hk 22 (by decide), hk 23 (by decide), hk 24 (by decide)]
  exact ⟨i1, i2, i2b, i3, i4, h5, i6, i7, i8, i9⟩
theorem f_ent_at (A : ab_A) (b o n : Nat) : (f_ent A b o n).2 ≠ 0 → b ≠ o ∧ (A 5 ((f_ent A b o n).2 - 1) = b ∨ A 6 ((f_ent A b o n).2 - 1) = b) := by
  induction n with
  | zero => intro h; exact absurd rfl h
  | succ n ih =>
    show (f_stp A b o n (f_ent A b o n)).2 ≠ 0 → b ≠ o ∧ (A 5 ((f_stp A b o n (f_ent A b o n)).2 - 1) = b ∨ A 6 ((f_stp A b o n (f_ent A b o n)).2 - 1) = b)
    by_cases hc : f_cnd A b o n (f_ent A b o n)
    · rw [f_stp_y hc]
      intro _
      exact ⟨hc.1, hc.2.1.2⟩
    · rw [f_stp_n hc]
      exact ih
theorem I_tick {A : ab_A} (hI : ab_I A) : ab_I (f_tick A) := by
  refine I_tab hI (fun k h => ?_) ?_
  · funext i
    simp [f_tick, h.1, h.2.1, h.2.2.1, h.2.2.2]
  · intro b o hb ho
    have hk : 8 * b + o < 64 := by omega
    have e1 : f_tick A 11 (8 * b + o) = f_nf A (8 * b + o) := by simp [f_tick, hk]
    have e2 : f_tick A 12 (8 * b + o) = f_nb A (8 * b + o) := by simp [f_tick, hk]
    rw [e1, e2]
    refine ⟨f_nf_le A _, f_nb_le A _, ?_⟩
    have h := f_ent_at A ((8 * b + o) / 8) ((8 * b + o) % 8) (A 4 0)
    rw [show (8 * b + o) / 8 = b by omega, show (8 * b + o) % 8 = o by omega] at h
    unfold f_nb
    rw [show (8 * b + o) / 8 = b by omega, show (8 * b + o) % 8 = o by omega]
    exact h
theorem I_ticks {A : ab_A} (hI : ab_I A) (n : Nat) : ab_I (f_ticks A n) := by
  induction n with
  | zero => exact hI
  | succ n ih => exact I_tick ih
theorem f_pour_k (A : ab_A) (b n : Nat) {k : Nat} (h0 : k ≠ 0) (h : k ≠ 10) : f_pour A b n k = A k := by
  unfold f_pour
  rw [au_k _ h0, au_k _ h]
theorem f_pour_0 (A : ab_A) (b n i : Nat) : f_pour A b n 0 i = if i = b then (if 200 < A 0 b + n then 200 else A 0 b + n) else A 0 i := rfl
theorem I_pour {A : ab_A} (hI : ab_I A) (b n : Nat) : ab_I (f_pour A b n) := by
  refine I_water hI (fun k h0 h => f_pour_k A b n h0 h) ?_
  intro i hi
  have h := hI.1 i hi
  rw [f_pour_0]
  split
  · rename_i q
    subst q
    split <;> omega
  · omega
theorem I_dry {A : ab_A} (hI : ab_I A) (d n : Nat) : ab_I (f_dry A d n) := by
  refine I_water hI (fun k h0 h => f_dry_k A d n h0) ?_
  intro i hi
  have h := hI.1 i hi
  by_cases q : i < n
  · rw [f_dry_at A d q]
    exact ⟨f_left_ge _ _, f_left_le _ _ h.2.1⟩
  · rw [f_dry_ge A d (by omega)]
    omega
theorem I_dig {A : ab_A} (hI : ab_I A) {a b c d : Nat} (ha : a < 8) (hb : b < 8) (hab : a ≠ b) (hc : 1 ≤ c) (hc' : c ≤ 9) (hd : d ≤ 9) (h14 : A 4 0 ≠ 14) : ab_I (f_dig A a b c d) := by
  obtain ⟨i1, i2, i2b, i3, i4, i5, i6, i7, i8, i9⟩ := hI
  refine ⟨i1, i2, i2b, (show A 4 0 + 1 ≤ 14 by omega), ?_, ?_, i6, i7, i8, i9⟩
  · intro j hj
    have hj' : j < A 4 0 + 1 := hj
    show (if j = A 4 0 then a else A 5 j) < 8 ∧ (if j = A 4 0 then b else A 6 j) < 8 ∧ (if j = A 4 0 then a else A 5 j) ≠ (if j = A 4 0 then b else A 6 j) ∧ 1 ≤ (if j = A 4 0 then c else A 7 j) ∧ (if j = A 4 0 then c else A 7 j) ≤ 9 ∧ (if j = A 4 0 then d else A 8 j) ≤ 9 ∧ (if j = A 4 0 then 1 else A 9 j) ≤ 1
    by_cases h : j = A 4 0
    · simp only [h, if_true]
      omega
    · simp only [h, if_false]
      exact i4 j (by omega)
  · intro b' o hb' ho
    obtain ⟨h1, h2, h3⟩ := i5 b' o hb' ho
    show A 11 (8 * b' + o) ≤ 41 ∧ A 12 (8 * b' + o) ≤ A 4 0 + 1 ∧ (A 12 (8 * b' + o) ≠ 0 → b' ≠ o ∧ ((if A 12 (8 * b' + o) - 1 = A 4 0 then a else A 5 (A 12 (8 * b' + o) - 1)) = b' ∨ (if A 12 (8 * b' + o) - 1 = A 4 0 then b else A 6 (A 12 (8 * b' + o) - 1)) = b'))
    refine ⟨h1, by omega, fun h => ?_⟩
    rw [if_neg (by omega), if_neg (by omega)]
    exact h3 h
theorem two_pow8 {b : Nat} (h : b < 8) : 2 ^ b < 256 := Nat.pow_lt_pow_right (by decide) h
theorem I_out0 {A : ab_A} (hI : ab_I A) {b d n : Nat} (hb : b < 8) (hd : d < 8) (hn : n ≤ 20) (h40 : A 15 0 ≠ 40) : ab_I (f_out0 A b d n) := by
  obtain ⟨i1, i2, i2b, i3, i4, i5, i6, i7, i8, i9⟩ := hI
  have hp := two_pow8 hb
  refine ⟨i1, ?_, i2b, i3, i4, i5, (show A 15 0 + 1 ≤ 40 by omega), i7, ?_, ?_⟩
  · intro b' i hb' hi
    obtain ⟨h1, h2, h3, h4, h5⟩ := i2 b' i hb' hi
    show A 3 (6 * b' + i) < A 15 0 + 1 ∧ (if A 3 (6 * b' + i) = A 15 0 then (if b = d then 1 else 0) else A 21 (A 3 (6 * b' + i))) = 0 ∧ (if A 3 (6 * b' + i) = A 15 0 then b else A 22 (A 3 (6 * b' + i))) = b' ∧ 1 ≤ (if A 3 (6 * b' + i) = A 15 0 then n else A 18 (A 3 (6 * b' + i))) ∧ (if A 3 (6 * b' + i) = A 15 0 then d else A 17 (A 3 (6 * b' + i))) ≠ b'
    have hne : A 3 (6 * b' + i) ≠ A 15 0 := by omega
    rw [if_neg hne, if_neg hne, if_neg hne, if_neg hne]
    exact ⟨by omega, h2, h3, h4, h5⟩
  · intro j hj
    have hj' : j < A 15 0 + 1 := hj
    show (if j = A 15 0 then d else A 17 j) < 8 ∧ (if j = A 15 0 then n else A 18 j) ≤ 20 ∧ (if j = A 15 0 then (if b = d then 1 else 0) else A 21 j) ≤ 2 ∧ (if j = A 15 0 then b else A 22 j) < 8 ∧ (if j = A 15 0 then 2 ^ b else A 23 j) < 256 ∧ (if j = A 15 0 then 0 else A 24 j) ≤ A 16 0 + 1
    by_cases h : j = A 15 0
    · simp only [h, if_true]
      refine ⟨hd, hn, ?_, hb, hp, by omega⟩
      split <;> omega
    · simp only [h, if_false]
      exact i8 j (by omega)
  · intro j hj
    have hj' : A 15 0 + 1 ≤ j := hj
    exact i9 j (by omega)
/-- barge j, that waits at b now, joins the queue there -/
theorem I_join {A : ab_A} (hI : ab_I A) {j b : Nat} (hb : b < 8) (hj : j < A 15 0) (h21 : A 21 j = 0) (h22 : A 22 j = b) (h18 : 1 ≤ A 18 j) (h17 : A 17 j ≠ b) (hm : A 2 b < 6) (hnew : ∀ i, i < A 2 b → A 3 (6 * b + i) ≠ j) : ab_I (f_join A j b) := by
  obtain ⟨i1, i2, i2b, i3, i4, i5, i6, i7, i8, i9⟩ := hI
  have e3 : ∀ b' i, i < (if b' = b then A 2 b + 1 else A 2 b') → f_join A j b 3 (6 * b' + i) = if b' = b ∧ i = A 2 b then j else A 3 (6 * b' + i) := by
    intro b' i hi
    show (if 6 * b' + i = 6 * b + A 2 b then j else A 3 (6 * b' + i)) = _
    by_cases h : b' = b
    · subst h
      rw [if_pos rfl] at hi
      by_cases q : i = A 2 b'
      · rw [if_pos (by omega), if_pos ⟨rfl, q⟩]
      · rw [if_neg (by omega), if_neg (fun z => q z.2)]
    · rw [if_neg h] at hi
      rw [if_neg (c := b' = b ∧ i = A 2 b) (fun z => h z.1)]
      by_cases hb8 : 6 * b' + i = 6 * b + A 2 b
      · exfalso
        by_cases hb' : b' < 8
        · have := i1 b' hb'
          omega
        · omega
      · rw [if_neg hb8]
  refine ⟨?_, ?_, ?_, i3, i4, i5, i6, i7, i8, i9⟩
  · intro b' hb'
    have h := i1 b' hb'
    show 5 ≤ A 0 b' ∧ A 0 b' ≤ 200 ∧ 1 ≤ A 1 b' ∧ A 1 b' ≤ 6 ∧ (if b' = b then A 2 b + 1 else A 2 b') ≤ 6
    split <;> omega
  · intro b' i hb' hi
    have hi' : i < (if b' = b then A 2 b + 1 else A 2 b') := hi
    rw [e3 b' i hi']
    show _ < A 15 0 ∧ A 21 _ = 0 ∧ A 22 _ = b' ∧ 1 ≤ A 18 _ ∧ A 17 _ ≠ b'
    by_cases h : b' = b ∧ i = A 2 b
    · rw [if_pos h, h.1]
      exact ⟨hj, h21, h22, h18, h17⟩
    · rw [if_neg h]
      refine i2 b' i hb' ?_
      by_cases hq : b' = b
      · subst hq
        rw [if_pos rfl] at hi'
        omega
      · rw [if_neg hq] at hi'
        exact hi'
  · intro b' i i' hb' hi hi' he
    have h1 : i < (if b' = b then A 2 b + 1 else A 2 b') := hi
    have h2 : i' < (if b' = b then A 2 b + 1 else A 2 b') := hi'
    rw [e3 b' i h1, e3 b' i' h2] at he
    by_cases hq : b' = b
    · subst hq
      rw [if_pos rfl] at h1 h2
      split at he
      · rename_i a1
        split at he
        · rename_i a2
          omega
        · rename_i a2
          exact absurd he.symm (hnew i' (by omega))
      · rename_i a1
        split at he
        · rename_i a2
          exact absurd he (hnew i (by omega))
        · rename_i a2
          exact i2b b' i i' hb' (by omega) (by omega) he
    · rw [if_neg hq] at h1 h2
      rw [if_neg (fun z => hq z.1), if_neg (fun z => hq z.1)] at he
      exact i2b b' i i' hb' h1 h2 he
theorem I_out {A : ab_A} (hI : ab_I A) {b d n : Nat} (hb : b < 8) (hd : d < 8) (hn1 : 1 ≤ n) (hn : n ≤ 20) (h40 : A 15 0 ≠ 40) (h6 : b ≠ d → A 2 b ≠ 6) : ab_I (f_out A b d n) := by
  have h0 := I_out0 hI hb hd hn h40
  unfold f_out
  split
  · exact h0
  · rename_i hbd
    have hm := (hI.1 b hb).2.2.2.2
    have h6' := h6 hbd
    refine I_join h0 hb (show A 15 0 < A 15 0 + 1 by omega) ?_ ?_ ?_ ?_ (show A 2 b < 6 by omega) ?_
    · show (if A 15 0 = A 15 0 then (if b = d then 1 else 0) else A 21 (A 15 0)) = 0
      rw [if_pos rfl, if_neg hbd]
    · show (if A 15 0 = A 15 0 then b else A 22 (A 15 0)) = b
      rw [if_pos rfl]
    · show 1 ≤ (if A 15 0 = A 15 0 then n else A 18 (A 15 0))
      rw [if_pos rfl]
      exact hn1
    · show (if A 15 0 = A 15 0 then d else A 17 (A 15 0)) ≠ b
      rw [if_pos rfl]
      omega
    · intro i hi
      have := (hI.2.1 b i hb hi).1
      show A 3 (6 * b + i) ≠ A 15 0
      omega
theorem I_shift {A : ab_A} (hI : ab_I A) {b : Nat} (hb : b < 8) : ab_I (f_shift A b) := by
  obtain ⟨i1, i2, i2b, i3, i4, i5, i6, i7, i8, i9⟩ := hI
  have e2 : ∀ b', f_shift A b 2 b' = if b' = b then A 2 b - 1 else A 2 b' := by
    intro b'
    simp [f_shift]
  have e3 : ∀ b' i, b' < 8 → i < (if b' = b then A 2 b - 1 else A 2 b') → f_shift A b 3 (6 * b' + i) = if b' = b then A 3 (6 * b' + (i + 1)) else A 3 (6 * b' + i) := by
    intro b' i hb' hi
    have hx : f_shift A b 3 (6 * b' + i) = if 6 * b ≤ 6 * b' + i ∧ 6 * b' + i < 6 * b + (A 2 b - 1) then A 3 (6 * b' + i + 1) else A 3 (6 * b' + i) := by simp [f_shift]
    rw [hx]
    have q6 := i1 b' hb'
    have q7 := i1 b hb
    by_cases h : b' = b
    · subst h
      rw [if_pos rfl] at hi
      rw [if_pos (by omega), if_pos rfl]
      rfl
    · rw [if_neg h] at hi
      rw [if_neg (by omega), if_neg h]
  have hk : ∀ k, k ≠ 2 → k ≠ 3 → f_shift A b k = A k := by
    intro k a1 a2
    funext i
    simp [f_shift, a1, a2]
  unfold ab_I
  rw [hk 0 (by decide) (by decide), hk 1 (by decide) (by decide), hk 4 (by decide) (by decide), hk 5 (by decide) (by decide), hk 6 (by decide) (by decide), hk 7 (by decide) (by decide), hk 8 (by decide) (by decide), hk 9 (by decide) (by decide), hk 11 (by decide) (by decide), hk 12 (by decide) (by decide), hk 15 (by decide) (by decide), hk 16 (by decide) (by decide), hk 17 (by decide) (by decide), hk 18 (by decide) (by decide), hk 19 (by decide) (by decide), hk 20 (by decide) (by decide), hk 21 (by decide) (by decide), hk 22 (by decide) (by decide), hk 23 (by decide) (by decide), hk 24 (by decide) (by decide)]
  refine ⟨?_, ?_, ?_, i3, i4, i5, i6, i7, i8, i9⟩
  · intro b' hb'
    have h := i1 b' hb'
    have h' := i1 b hb
    rw [e2]
    split <;> omega
  · intro b' i hb' hi
    rw [e2] at hi
    rw [e3 b' i hb' hi]
    by_cases h : b' = b
    · subst h
      rw [if_pos rfl] at hi ⊢
      exact i2 b' (i + 1) hb' (by omega)
    · rw [if_neg h] at hi ⊢
      exact i2 b' i hb' hi
  · intro b' i i' hb' hi hi' he
    rw [e2] at hi hi'
    rw [e3 b' i hb' hi, e3 b' i' hb' hi'] at he
    by_cases h : b' = b
    · subst h
      rw [if_pos rfl] at hi hi' he
      rw [if_pos rfl] at he
      have := i2b b' (i + 1) (i' + 1) hb' (by omega) (by omega) he
      omega
    · rw [if_neg h] at hi hi' he
      rw [if_neg h] at he
      exact i2b b' i i' hb' hi hi' he
theorem I_lock {A : ab_A} (hI : ab_I A) {c : Nat} (hc : A 8 c + 5 ≤ A 0 (A 5 c)) (h5 : A 5 c < 8) : ab_I (f_lock A c) := by
  refine I_pour (I_water hI (fun k h0 h => au_k A h0) ?_) _ _
  intro i hi
  have h := hI.1 i hi
  show 5 ≤ (if i = A 5 c then A 0 (A 5 c) - A 8 c else A 0 i) ∧ (if i = A 5 c then A 0 (A 5 c) - A 8 c else A 0 i) ≤ 200
  split
  · rename_i q
    subst q
    omega
  · omega
theorem f_lock_k (A : ab_A) (c : Nat) {k : Nat} (h0 : k ≠ 0) (h : k ≠ 10) : f_lock A c k = A k := by
  unfold f_lock
  rw [f_pour_k _ _ _ h0 h, au_k _ h0]
/-- the barge z, in no queue, comes to t: all but its queue -/
theorem I_come {A : ab_A} (hI : ab_I A) {z t : Nat} (ht : t < 8) (hz : z < A 15 0) (hq : ∀ b i, b < 8 → i < A 2 b → A 3 (6 * b + i) ≠ z) : ab_I (f_come A z t) := by
  obtain ⟨i1, i2, i2b, i3, i4, i5, i6, i7, i8, i9⟩ := hI
  have hp := two_pow8 ht
  refine ⟨i1, ?_, i2b, i3, i4, i5, i6, i7, ?_, ?_⟩
  · intro b i hb hi
    obtain ⟨h1, h2, h3, h4, h5⟩ := i2 b i hb hi
    have hne := hq b i hb hi
    show A 3 (6 * b + i) < A 15 0 ∧ A 21 (A 3 (6 * b + i)) = 0 ∧ (if A 3 (6 * b + i) = z then t else A 22 (A 3 (6 * b + i))) = b ∧ 1 ≤ (if A 3 (6 * b + i) = z then A 18 z - 1 else A 18 (A 3 (6 * b + i))) ∧ A 17 (A 3 (6 * b + i)) ≠ b
    rw [if_neg hne, if_neg hne]
    exact ⟨h1, h2, h3, h4, h5⟩
  · intro j hj
    obtain ⟨h1, h2, h3, h4, h5, h6⟩ := i8 j hj
    show A 17 j < 8 ∧ (if j = z then A 18 z - 1 else A 18 j) ≤ 20 ∧ A 21 j ≤ 2 ∧ (if j = z then t else A 22 j) < 8 ∧ (if j = z then A 23 z ||| 2 ^ t else A 23 j) < 256 ∧ (if j = z then A 16 0 + 1 else A 24 j) ≤ A 16 0 + 1
    by_cases h : j = z
    · subst h
      simp only [if_true]
      exact ⟨h1, by omega, h3, ht, Nat.or_lt_two_pow (n := 8) h5 hp, Nat.le_refl _⟩
    · simp only [h, if_false]
      exact ⟨h1, h2, h3, h4, h5, h6⟩
  · intro j hj
    have hj' : A 15 0 ≤ j := hj
    show (if j = z then A 19 z + 1 else A 19 j) = 0 ∧ (if j = z then A 20 z + A 23 z / 2 ^ t % 2 else A 20 j) = 0
    rw [if_neg (by omega), if_neg (by omega)]
    exact i9 j hj'
theorem I_21 {A : ab_A} (hI : ab_I A) {z v : Nat} (hv : v ≤ 2) (hq : ∀ b i, b < 8 → i < A 2 b → A 3 (6 * b + i) ≠ z) : ab_I (au A 21 z v) := by
  obtain ⟨i1, i2, i2b, i3, i4, i5, i6, i7, i8, i9⟩ := hI
  refine ⟨i1, ?_, i2b, i3, i4, i5, i6, i7, ?_, i9⟩
  · intro b i hb hi
    obtain ⟨h1, h2, h3, h4, h5⟩ := i2 b i hb hi
    have hne := hq b i hb hi
    show A 3 (6 * b + i) < A 15 0 ∧ (if A 3 (6 * b + i) = z then v else A 21 (A 3 (6 * b + i))) = 0 ∧ A 22 (A 3 (6 * b + i)) = b ∧ 1 ≤ A 18 (A 3 (6 * b + i)) ∧ A 17 (A 3 (6 * b + i)) ≠ b
    rw [if_neg hne]
    exact ⟨h1, h2, h3, h4, h5⟩
  · intro j hj
    have h := i8 j hj
    show A 17 j < 8 ∧ A 18 j ≤ 20 ∧ (if j = z then v else A 21 j) ≤ 2 ∧ A 22 j < 8 ∧ A 23 j < 256 ∧ A 24 j ≤ A 16 0 + 1
    split <;> omega
theorem I_pass {A : ab_A} {b c : Nat} (hb : b < 8) (hI : ab_I A) (hw : f_way A b = c + 1) : ab_I (f_pass A b c) := by
  obtain ⟨z, c1, t, hz, hc1, ht, m1, m6, z15, k40, hc, c4, k14, g1, g2, g3, g6, gb, t8, htb, hwa, hfr, hca, z8, l1, l20, n256, h22, h21⟩ := fw_facts hI hb (by omega)
  obtain rfl : c = c1 := by omega
  have hS := I_shift hI hb
  have hL : ab_I (f_lock (f_shift A b) c) := I_lock hS (show A 8 c + 5 ≤ A 0 (A 5 c) from hwa) g1
  have e2 : f_lock (f_shift A b) c 2 = f_shift A b 2 := f_lock_k _ _ (by decide) (by decide)
  have e3 : f_lock (f_shift A b) c 3 = f_shift A b 3 := f_lock_k _ _ (by decide) (by decide)
  have e22 : f_lock (f_shift A b) c 22 = A 22 := (f_lock_k _ _ (by decide) (by decide)).trans rfl
  have hq : ∀ b' i, b' < 8 → i < f_lock (f_shift A b) c 2 b' → f_lock (f_shift A b) c 3 (6 * b' + i) ≠ z := by
    intro b' i hb' hi he
    have h3 := (hL.2.1 b' i hb' hi).2.2.1
    rw [he, e22, h22] at h3
    subst h3
    rw [e2] at hi
    rw [e3] at he
    have hi' : i < A 2 b - 1 := by simpa [f_shift] using hi
    have he' : A 3 (6 * b + (i + 1)) = z := by
      have hx : f_shift A b 3 (6 * b + i) = if 6 * b ≤ 6 * b + i ∧ 6 * b + i < 6 * b + (A 2 b - 1) then A 3 (6 * b + i + 1) else A 3 (6 * b + i) := by simp [f_shift]
      rw [← he, hx, if_pos (by omega)]
      rfl
    have := hI.2.2.1 b (i + 1) 0 hb (by omega) (by omega) (by rw [he', Nat.add_zero, hz])
    omega
  have hC := I_come hL (z := z) t8 (show z < A 15 0 from z15) hq
  have hqC : ∀ b' i, b' < 8 → i < f_come (f_lock (f_shift A b) c) z t 2 b' → f_come (f_lock (f_shift A b) c) z t 3 (6 * b' + i) ≠ z := hq
  by_cases h1 : t = A 17 z
  · rw [← f_pass_1 hz ht h1]
    exact I_21 hC (by decide) hqC
  · by_cases h2 : A 18 z - 1 = 0
    · rw [← f_pass_2 hz ht h1 h2]
      exact I_21 hC (by decide) hqC
    · rw [← f_pass_3 hz ht h1 h2]
      refine I_join hC t8 (show z < A 15 0 from z15) ?_ ?_ ?_ ?_ ?_ ?_
      · exact h21
      · show (if z = z then t else A 22 z) = t
        rw [if_pos rfl]
      · rw [f_come_18]
        show 1 ≤ A 18 z - 1
        omega
      · show A 17 z ≠ t
        omega
      · show f_shift A b 2 t < 6
        rw [f_shift_2 htb]
        omega
      · intro i hi
        exact hqC t i t8 hi
theorem I_send {A : ab_A} {b : Nat} (hb : b < 8) (hI : ab_I A) : ab_I (f_send A b) := by
  unfold f_send
  split
  · exact hI
  · rename_i h
    exact I_pass hb hI (by omega)
theorem I_sends {A : ab_A} (hI : ab_I A) {n : Nat} (hn : n ≤ 8) : ab_I (f_sends A n) := by
  induction n with
  | zero => exact hI
  | succ n ih => exact I_send (by omega) (ih (by omega))
theorem f_pass_k (A : ab_A) (b c : Nat) {k : Nat} (h : k = 4 ∨ k = 15 ∨ k = 16) : f_pass A b c k = A k := by
  rcases h with rfl | rfl | rfl <;> · unfold f_pass f_rest; (repeat' split) <;> rfl
theorem f_sends_k (A : ab_A) (n : Nat) {k : Nat} (h : k = 4 ∨ k = 15 ∨ k = 16) : f_sends A n k = A k := by
  induction n with
  | zero => rfl
  | succ n ih =>
    show f_send (f_sends A n) n k = _
    unfold f_send
    split
    · exact ih
    · rw [f_pass_k _ _ _ h, ih]
theorem f_moves_16 (A : ab_A) (n : Nat) : f_moves A n 16 0 = A 16 0 + n := by
  induction n with
  | zero => rfl
  | succ n ih =>
    show f_sends (f_tk (f_moves A n)) 8 16 0 = _
    rw [f_sends_k _ _ (by decide)]
    show f_moves A n 16 0 + 1 = _
    rw [ih]
    rfl
theorem I_moves {A : ab_A} (hI : ab_I A) {n : Nat} (hn : A 16 0 + n ≤ 2000) : ab_I (f_moves A n) := by
  induction n with
  | zero => exact hI
  | succ n ih =>
    refine I_sends (I_tk (ih (by omega)) ?_) (Nat.le_refl 8)
    rw [f_moves_16]
    omega
/-! what each call leaves -/
theorem I_qdig {A : ab_A} (hI : ab_I A) (u v x y : Int32) : ab_I (q_dig A u v x y).2.2 := by
  unfold q_dig
  split
  · rename_i a b ha hb
    split
    · rename_i c d hc hd
      split
      · exact hI
      · split
        · exact hI
        · obtain ⟨c1, c2, -⟩ := rg_s (by decide) (by decide) hc
          obtain ⟨-, d2, -⟩ := rg_s (by decide) (by decide) hd
          exact I_dig hI (ix_y ha).1 (ix_y hb).1 (by assumption) c1 c2 d2 (by assumption)
    · exact hI
  · exact hI
theorem I_qsetGate {A : ab_A} (hI : ab_I A) (x : Int32) {o : Nat} (h : o ≤ 1) : ab_I (q_setGate A x o).2.2 := by
  unfold q_setGate
  split
  · exact I_gate hI h
  · exact hI
theorem I_qsetMark {A : ab_A} (hI : ab_I A) (x y : Int32) : ab_I (q_setMark A x y).2.2 := by
  unfold q_setMark
  split
  · rename_i b k hb hk
    obtain ⟨c1, c2, -⟩ := rg_s (by decide) (by decide) hk
    exact I_mark hI c1 c2
  · exact hI
  · exact hI
theorem I_qrain {A : ab_A} (hI : ab_I A) (x y : Int32) : ab_I (q_rain A x y).2.2 := by
  unfold q_rain
  split
  · exact I_pour hI _ _
  · exact hI
  · exact hI
theorem I_qdry {A : ab_A} (hI : ab_I A) (x : Int32) : ab_I (q_dry A x).2.2 := by
  unfold q_dry
  split
  · exact I_dry hI _ _
  · exact hI
theorem I_qsettle {A : ab_A} (hI : ab_I A) (x : Int32) : ab_I (q_settle A x).2.2 := by
  unfold q_settle
  split
  · exact I_ticks hI _
  · exact hI
theorem I_qsetOut {A : ab_A} (hI : ab_I A) (x y z : Int32) : ab_I (q_setOut A x y z).2.2 := by
  unfold q_setOut
  split
  · rename_i b d hb hd
    split
    · rename_i n hn
      split
      · exact hI
      · rename_i h
        obtain ⟨c1, c2, -⟩ := rg_s (by decide) (by decide) hn
        exact I_out hI (ix_y hb).1 (ix_y hd).1 c1 c2 (by omega) (by omega)
    · exact hI
  · exact hI
theorem I_qmove {A : ab_A} (hI : ab_I A) (x : Int32) : ab_I (q_move A x).2.2 := by
  unfold q_move
  split
  · split
    · exact hI
    · exact I_moves hI (by omega)
  · exact hI
