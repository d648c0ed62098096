/-! facts of the state's functions -/
theorem ix_y {x : Int32} {b : Nat} (h : ix 8 x = some b) : b < 8 ∧ x = nI b := ix_s (by decide) h
theorem f_dry_ge (A : ab_A) (d : Nat) {n k : Nat} (h : n ≤ k) : f_dry A d n 0 k = A 0 k := by
  induction n with
  | zero => rfl
  | succ n ih =>
    show au (f_dry A d n) 0 n _ 0 k = _
    rw [au_i _ (by omega)]
    exact ih (by omega)
theorem f_dry_at (A : ab_A) (d : Nat) {n k : Nat} (h : k < n) : f_dry A d n 0 k = f_left (A 0 k) d := by
  induction n with
  | zero => omega
  | succ n ih =>
    show au (f_dry A d n) 0 n _ 0 k = _
    by_cases hk : k = n
    · subst hk
      rw [au_s]
    · rw [au_i _ hk]
      exact ih (by omega)
theorem f_dry_k (A : ab_A) (d n : Nat) {k : Nat} (h : k ≠ 0) : f_dry A d n k = A k := by
  induction n with
  | zero => rfl
  | succ n ih =>
    show au (f_dry A d n) 0 n _ k = _
    rw [au_k _ h]
    exact ih
theorem f_left_le (x d : Nat) (h : x ≤ 200) : f_left x d ≤ 200 := by unfold f_left; split <;> omega
theorem f_left_ge (x d : Nat) : 5 ≤ f_left x d := by unfold f_left; split <;> omega
theorem f_low_le (A : ab_A) (n : Nat) : f_low A n ≤ n := by
  induction n with
  | zero => exact Nat.le_refl _
  | succ n ih =>
    have := b2_le (q := A 0 n < 30)
    show f_low A n + b2 (A 0 n < 30) ≤ n + 1
    omega
/-- the step's condition -/
def f_cnd (A : ab_A) (b o j : Nat) (q : Nat × Nat) : Prop := b ≠ o ∧ (A 9 j ≠ 0 ∧ (A 5 j = b ∨ A 6 j = b)) ∧ A 11 (8 * f_bey A j b + o) ≠ 0 ∧ A 11 (8 * f_bey A j b + o) - 1 + f_cost A j ≤ 40 ∧ (q.2 = 0 ∨ A 11 (8 * f_bey A j b + o) - 1 + f_cost A j < q.1 - 1)
theorem f_stp_y {A : ab_A} {b o j : Nat} {q : Nat × Nat} (h : f_cnd A b o j q) : f_stp A b o j q = (A 11 (8 * f_bey A j b + o) - 1 + f_cost A j + 1, j + 1) := if_pos h
theorem f_stp_n {A : ab_A} {b o j : Nat} {q : Nat × Nat} (h : ¬ f_cnd A b o j q) : f_stp A b o j q = q := if_neg h
theorem f_ent_le (A : ab_A) (b o n : Nat) : (f_ent A b o n).1 ≤ 41 ∧ (f_ent A b o n).2 ≤ n ∧ ((f_ent A b o n).2 ≠ 0 → 1 ≤ (f_ent A b o n).1) := by
  induction n with
  | zero => unfold f_ent; split <;> simp
  | succ n ih =>
    obtain ⟨h1, h2, h3⟩ := ih
    show (f_stp A b o n (f_ent A b o n)).1 ≤ 41 ∧ (f_stp A b o n (f_ent A b o n)).2 ≤ n + 1 ∧ ((f_stp A b o n (f_ent A b o n)).2 ≠ 0 → 1 ≤ (f_stp A b o n (f_ent A b o n)).1)
    by_cases hc : f_cnd A b o n (f_ent A b o n)
    · rw [f_stp_y hc]
      obtain ⟨-, -, -, c4, -⟩ := hc
      dsimp only
      omega
    · rw [f_stp_n hc]
      exact ⟨h1, by omega, h3⟩
theorem f_nf_le (A : ab_A) (k : Nat) : f_nf A k ≤ 41 := (f_ent_le A _ _ _).1
theorem f_nb_le (A : ab_A) (k : Nat) : f_nb A k ≤ A 4 0 := (f_ent_le A _ _ _).2.1
theorem nI_em {x : Nat} (h : 1 ≤ x) : (nI x + (-1) : Int32) = nI (x - 1) := by
  obtain ⟨y, rfl⟩ : ∃ y, x = y + 1 := ⟨x - 1, by omega⟩
  rw [nI_eS]
  rfl
theorem f_bey_lt {A : ab_A} {j b : Nat} (h5 : A 5 j < 8) (h6 : A 6 j < 8) : f_bey A j b < 8 := by unfold f_bey; split <;> assumption
theorem f_dear_le (A : ab_A) (b : Nat) : f_dear A b ≤ 10 := by unfold f_dear; split <;> split <;> omega
theorem f_chg_le (A : ab_A) (n : Nat) : f_chg A n ≤ n := by
  induction n with
  | zero => exact Nat.le_refl _
  | succ n ih =>
    have := b2_le (q := f_nf A n ≠ A 11 n ∨ f_nb A n ≠ A 12 n)
    show f_chg A n + b2 (f_nf A n ≠ A 11 n ∨ f_nb A n ≠ A 12 n) ≤ n + 1
    omega
def f_chd (A : ab_A) : Nat → Nat
  | 0 => 0
  | t + 1 => f_chg (f_ticks A t) 64
theorem f_ticks_k (A : ab_A) (n : Nat) {k : Nat} (h : k ≠ 11 ∧ k ≠ 12 ∧ k ≠ 13 ∧ k ≠ 14) : f_ticks A n k = A k := by
  induction n with
  | zero => rfl
  | succ n ih =>
    rw [← ih]
    funext i
    show f_tick (f_ticks A n) k i = _
    simp [f_tick, h.1, h.2.1, h.2.2.1, h.2.2.2]
theorem nb_sm : ∀ t : Nat, t < 8 → ((nI t &&& 31 : Int32).toBitVec.smod 32).toNat = t := by decide
theorem nb_shr {x t : Nat} (hx : x < 256) (ht : t < 8) : (nI x >>> (nI t &&& 31) : Int32) = nI (x / 2 ^ t) := pk_shrN (by omega) _ t (nb_sm t ht)
theorem q_queued_1 {A : ab_A} {x : Int32} {b j : Nat} (hx : ix 8 x = some b) (hj : j < 2 ^ 31) (hb : A 2 b < 2 ^ 31) : q_queued A x (nI j) = if j < A 2 b then (0, nI (A 3 (6 * b + j)), A) else (0, nI 0 + (-1), A) := by
  unfold q_queued
  rw [hx]
  dsimp only
  rw [if_neg (fun q => absurd ((nI_ltI hj (by decide)).mp q) (by omega)), nI_clamp hj]
  by_cases h : j < A 2 b
  · rw [if_pos ((nI_ltI hj hb).mpr h), if_pos h]
  · rw [if_neg (fun q => h ((nI_ltI hj hb).mp q)), if_neg h]
theorem q_queued_2 {A : ab_A} {x y : Int32} {b : Nat} (hx : ix 8 x = some b) (hy : y < nI 0) : q_queued A x y = (2, nI 0, A) := by
  unfold q_queued
  rw [hx]
  dsimp only
  rw [if_pos hy]
  rfl
theorem fw_def {A : ab_A} {b z c t : Nat} (hz : A 3 (6 * b) = z) (hc : A 12 (8 * b + A 17 z) = c) (ht : f_bey A (c - 1) b = t) : f_way A b = if A 2 b = 0 then 0 else if A 24 z = A 16 0 + 1 ∨ c = 0 ∨ ¬ (A 9 (c - 1) ≠ 0 ∧ A 8 (c - 1) + 5 ≤ A 0 (A 5 (c - 1))) then 0 else if t = A 17 z ∨ (A 2 t < 6 ∧ (A 2 t < A 1 t ∨ A 16 0 % 2 = 0)) then c else 0 := by
  subst hz
  subst hc
  subst ht
  rfl
theorem fw_facts {A : ab_A} {b : Nat} (hI : ab_I A) (hb : b < 8) (h : f_way A b ≠ 0) : ∃ z c t, A 3 (6 * b) = z ∧ f_way A b = c + 1 ∧ f_bey A c b = t ∧ 1 ≤ A 2 b ∧ A 2 b ≤ 6 ∧ z < A 15 0 ∧ A 15 0 ≤ 40 ∧ A 12 (8 * b + A 17 z) = c + 1 ∧ c < A 4 0 ∧ A 4 0 ≤ 14 ∧ A 5 c < 8 ∧ A 6 c < 8 ∧ A 5 c ≠ A 6 c ∧ A 8 c ≤ 9 ∧ (A 5 c = b ∨ A 6 c = b) ∧ t < 8 ∧ t ≠ b ∧ A 8 c + 5 ≤ A 0 (A 5 c) ∧ (t = A 17 z ∨ A 2 t < 6) ∧ A 24 z ≠ A 16 0 + 1 ∧ A 17 z < 8 ∧ 1 ≤ A 18 z ∧ A 18 z ≤ 20 ∧ A 23 z < 256 ∧ A 22 z = b ∧ A 21 z = 0 := by
  obtain ⟨i1, i2, i2b, i3, i4, i5, i6, i7, i8, i9⟩ := hI
  obtain ⟨z, hz⟩ : ∃ z, A 3 (6 * b) = z := ⟨_, rfl⟩
  obtain ⟨c, hc⟩ : ∃ c, A 12 (8 * b + A 17 z) = c := ⟨_, rfl⟩
  have hd := fw_def hz hc rfl
  rw [hd] at h
  split at h
  · exact absurd rfl h
  · rename_i m0
    split at h
    · exact absurd rfl h
    · rename_i m1
      split at h
      · rename_i m2
        have hc0 : c ≠ 0 := h
        obtain ⟨c, rfl⟩ : ∃ x, c = x + 1 := ⟨c - 1, by omega⟩
        rw [Nat.add_sub_cancel] at m1 m2
        rw [if_neg m0, if_neg (by rw [Nat.add_sub_cancel]; exact m1), if_pos (by rw [Nat.add_sub_cancel]; exact m2)] at hd
        obtain ⟨a1, a2, a3, a4, a5⟩ := i2 b 0 hb (by omega)
        rw [Nat.add_zero, hz] at a1 a2 a3 a4 a5
        obtain ⟨b1, b2, b3, b4, b5, b6⟩ := i8 z a1
        obtain ⟨-, e2, e3⟩ := i5 b (A 17 z) hb b1
        rw [hc] at e2 e3
        obtain ⟨e4, e5⟩ := e3 (by omega)
        rw [Nat.add_sub_cancel] at e5
        obtain ⟨g1, g2, g3, g4, g5, g6, g7⟩ := i4 c (by omega)
        have hm := i1 b hb
        have hbt : f_bey A c b < 8 := f_bey_lt g1 g2
        have htb : f_bey A c b ≠ b := by unfold f_bey; split <;> omega
        exact ⟨z, c, _, hz, hd, rfl, by omega, by omega, a1, i6, hc, by omega, i3, g1, g2, g3, g6, e5, hbt, htb, by omega, by omega, by omega, b1, a4, b2, b5, a3, a2⟩
      · exact absurd rfl h
theorem f_pass_1 {A : ab_A} {b c z t : Nat} (hz : A 3 (6 * b) = z) (ht : f_bey A c b = t) (h : t = A 17 z) : au (f_come (f_lock (f_shift A b) c) z t) 21 z 1 = f_pass A b c := by
  subst hz
  subst ht
  exact (if_pos h).symm
theorem f_come_18 (A : ab_A) (z t : Nat) : f_come A z t 18 z = A 18 z - 1 := by simp [f_come, au]
theorem f_pass_2 {A : ab_A} {b c z t : Nat} (hz : A 3 (6 * b) = z) (ht : f_bey A c b = t) (h : t ≠ A 17 z) (h2 : A 18 z - 1 = 0) : au (f_come (f_lock (f_shift A b) c) z t) 21 z 2 = f_pass A b c := by
  subst hz
  subst ht
  have e : f_come (f_lock (f_shift A b) c) (A 3 (6 * b)) (f_bey A c b) 18 (A 3 (6 * b)) = 0 := by rw [f_come_18]; exact h2
  exact ((if_neg h).trans (if_pos e)).symm
theorem f_pass_3 {A : ab_A} {b c z t : Nat} (hz : A 3 (6 * b) = z) (ht : f_bey A c b = t) (h : t ≠ A 17 z) (h2 : A 18 z - 1 ≠ 0) : f_join (f_come (f_lock (f_shift A b) c) z t) z t = f_pass A b c := by
  subst hz
  subst ht
  have e : f_come (f_lock (f_shift A b) c) (A 3 (6 * b)) (f_bey A c b) 18 (A 3 (6 * b)) ≠ 0 := by rw [f_come_18]; exact h2
  exact ((if_neg h).trans (if_neg e)).symm
theorem f_shift_2 {A : ab_A} {b t : Nat} (h : t ≠ b) : f_shift A b 2 t = A 2 t := by simp [f_shift, h]
theorem f_send_0 {A : ab_A} {b : Nat} (h : f_way A b = 0) : f_send A b = A := if_pos h
theorem f_send_1 {A : ab_A} {b : Nat} (h : f_way A b ≠ 0) : f_send A b = f_pass A b (f_way A b - 1) := if_neg h
theorem f_sent_0 {T : ab_A} {k : Nat} (h : f_way (f_sends T k) k = 0) : f_sent T (k + 1) = f_sent T k := by
  show f_sent T k + b2 (f_way (f_sends T k) k ≠ 0) = _
  rw [b2_f (fun q => q h)]
  rfl
theorem f_sent_1 {T : ab_A} {k : Nat} (h : f_way (f_sends T k) k ≠ 0) : f_sent T (k + 1) = f_sent T k + 1 := by
  show f_sent T k + b2 (f_way (f_sends T k) k ≠ 0) = _
  rw [b2_t h]
def f_pc (s : Nat) : Nat := s % 2 + s / 2 % 2 + s / 4 % 2 + s / 8 % 2 + s / 16 % 2 + s / 32 % 2 + s / 64 % 2 + s / 128 % 2
theorem f_pc_s : ∀ s, s < 256 → ∀ x, x < 8 → s / 2 ^ x % 2 = 0 → f_pc (s ||| 2 ^ x) = f_pc s + 1 := by decide +kernel
theorem nb_bit : ∀ s, s < 256 → ∀ x, x < 8 → ∀ y, y < 8 → (s ||| 2 ^ x) / 2 ^ y % 2 = if y = x then 1 else s / 2 ^ y % 2 := by decide +kernel
def ab_z : ab_A := fun k _ => if md_neg k = true then 1 else 0
def f_i1 (n : Nat) : ab_A := fun k i => if i < n ∧ k = 11 then (if i / 8 = i % 8 then 1 else 0) else if i < n ∧ k = 12 then 0 else ab_z k i
def f_i2 (n : Nat) : ab_A := fun k i => if i < n ∧ k = 0 then 60 else if i < n ∧ k = 1 then 4 else f_i1 64 k i
def ab_0 : ab_A := f_i2 8
theorem I_0 : ab_I ab_0 := by
  refine ⟨?_, ?_, ?_, by decide, ?_, ?_, by decide, by decide, ?_, ?_⟩
  · intro b hb
    show 5 ≤ (if b < 8 ∧ 0 = 0 then 60 else _) ∧ (if b < 8 ∧ 0 = 0 then 60 else _) ≤ 200 ∧ 1 ≤ (if b < 8 ∧ 1 = 0 then 60 else if b < 8 ∧ 1 = 1 then 4 else _) ∧ (if b < 8 ∧ 1 = 0 then 60 else if b < 8 ∧ 1 = 1 then 4 else _) ≤ 6 ∧ _
    rw [if_pos ⟨hb, rfl⟩, if_neg (fun q => absurd q.2 (by decide)), if_pos ⟨hb, rfl⟩]
    refine ⟨by decide, by decide, by decide, by decide, ?_⟩
    show (if b < 8 ∧ 2 = 0 then 60 else if b < 8 ∧ 2 = 1 then 4 else if b < 64 ∧ 2 = 11 then _ else if b < 64 ∧ 2 = 12 then 0 else 0) ≤ 6
    simp
  · intro b i hb hi
    have h2 : ab_0 2 b = 0 := by simp [ab_0, f_i2, f_i1, ab_z, md_neg]
    omega
  · intro b i i' hb hi
    have h2 : ab_0 2 b = 0 := by simp [ab_0, f_i2, f_i1, ab_z, md_neg]
    omega
  · intro j hj
    have h2 : ab_0 4 0 = 0 := by simp [ab_0, f_i2, f_i1, ab_z, md_neg]
    omega
  · intro b o hb ho
    have e1 : ab_0 11 (8 * b + o) = if (8 * b + o) / 8 = (8 * b + o) % 8 then 1 else 0 := by
      have : 8 * b + o < 64 := by omega
      simp [ab_0, f_i2, f_i1, this]
    have e2 : ab_0 12 (8 * b + o) = 0 := by
      have : 8 * b + o < 64 := by omega
      simp [ab_0, f_i2, f_i1, this]
    rw [e1, e2]
    refine ⟨by split <;> omega, Nat.zero_le _, fun h => absurd rfl h⟩
  · intro j hj
    have h2 : ab_0 15 0 = 0 := by simp [ab_0, f_i2, f_i1, ab_z, md_neg]
    omega
  · intro j _
    constructor <;> simp [ab_0, f_i2, f_i1, ab_z, md_neg]
