/-! WHAT THE CALLS DO, as functions on the abstract state -/
def ix (n : Nat) (x : Int32) : Option Nat := if nI 0 ≤ x ∧ x ≤ nI n - nI 1 then some x.toNatClampNeg else none
def rg (lo hi : Nat) (x : Int32) : Option Nat := if nI lo ≤ x ∧ x ≤ nI hi then some x.toNatClampNeg else none
theorem nI_pos_of {x : Int32} (h : nI 0 ≤ x) : ∃ j : Nat, j < 2 ^ 31 ∧ x = nI j := nI_of (fun q => by
  have h1 : (0 : Int32) ≤ x := h
  exact absurd q (Int32.not_lt.mpr h1))
theorem rg_iff {lo hi : Nat} (hlo : lo < 2 ^ 31) (hhi : hi < 2 ^ 31) {x : Int32} : (nI lo ≤ x ∧ x ≤ nI hi) ↔ ∃ j : Nat, lo ≤ j ∧ j ≤ hi ∧ x = nI j := by
  constructor
  · rintro ⟨h1, h2⟩
    obtain ⟨j, hj, rfl⟩ := nI_pos_of (x := x) (Int32.le_trans (nI_le (Nat.zero_le lo) hlo) h1)
    exact ⟨j, (nI_leI hlo hj).mp h1, (nI_leI hj hhi).mp h2, rfl⟩
  · rintro ⟨j, h1, h2, rfl⟩
    have hj : j < 2 ^ 31 := Nat.lt_of_le_of_lt h2 hhi
    exact ⟨(nI_leI hlo hj).mpr h1, (nI_leI hj hhi).mpr h2⟩
theorem ix_iff {n : Nat} (hn : n < 2 ^ 31) {x : Int32} : (nI 0 ≤ x ∧ x ≤ nI n - nI 1) ↔ ∃ j : Nat, j < n ∧ x = nI j := by
  cases n with
  | zero =>
    constructor
    · rintro ⟨h1, h2⟩
      have h3 : nI 0 ≤ nI 0 - nI 1 := Int32.le_trans h1 h2
      exact absurd h3 (by decide)
    · rintro ⟨j, h1, -⟩
      exact absurd h1 (Nat.not_lt_zero j)
  | succ k =>
    rw [pk_sub (by omega), Nat.add_sub_cancel, rg_iff (by decide) (by omega)]
    constructor
    · rintro ⟨j, -, h2, h3⟩; exact ⟨j, by omega, h3⟩
    · rintro ⟨j, h2, h3⟩; exact ⟨j, Nat.zero_le _, by omega, h3⟩
theorem rg_s {lo hi : Nat} (hlo : lo < 2 ^ 31) (hhi : hi < 2 ^ 31) {x : Int32} {j : Nat} (h : rg lo hi x = some j) : lo ≤ j ∧ j ≤ hi ∧ x = nI j := by
  unfold rg at h
  split at h
  · rename_i c
    obtain ⟨i, h1, h2, rfl⟩ := (rg_iff hlo hhi).mp c
    rw [nI_clamp (by omega)] at h
    cases h
    exact ⟨h1, h2, rfl⟩
  · cases h
theorem rg_n {lo hi : Nat} {x : Int32} (h : rg lo hi x = none) : ¬ (nI lo ≤ x ∧ x ≤ nI hi) := by
  unfold rg at h
  split at h
  · cases h
  · assumption
theorem rg_nI {lo hi j : Nat} (h1 : lo ≤ j) (h2 : j ≤ hi) (hhi : hi < 2 ^ 31) : rg lo hi (nI j) = some j := by
  unfold rg
  rw [if_pos ((rg_iff (by omega) hhi).mpr ⟨j, h1, h2, rfl⟩), nI_clamp (by omega)]
theorem ix_s {n : Nat} (hn : n < 2 ^ 31) {x : Int32} {j : Nat} (h : ix n x = some j) : j < n ∧ x = nI j := by
  unfold ix at h
  split at h
  · rename_i c
    obtain ⟨i, h1, rfl⟩ := (ix_iff hn).mp c
    rw [nI_clamp (by omega)] at h
    cases h
    exact ⟨h1, rfl⟩
  · cases h
theorem ix_n {n : Nat} {x : Int32} (h : ix n x = none) : ¬ (nI 0 ≤ x ∧ x ≤ nI n - nI 1) := by
  unfold ix at h
  split at h
  · cases h
  · assumption
theorem ix_nI {n j : Nat} (h : j < n) (hn : n < 2 ^ 31) : ix n (nI j) = some j := by
  unfold ix
  rw [if_pos ((ix_iff hn).mpr ⟨j, h, rfl⟩), nI_clamp (by omega)]
theorem ix_8 {x : Int32} : (nI 0 ≤ x ∧ x ≤ nI 7) ↔ (nI 0 ≤ x ∧ x ≤ nI 8 - nI 1) := by rw [show (nI 8 - nI 1 : Int32) = nI 7 by decide]
/-- code of the refusal, answer, state -/
abbrev sp_R : Type := Nat × Int32 × ab_A
/-! canals and water -/
def f_dig (A : ab_A) (a b c d : Nat) : ab_A := au (au (au (au (au (au A 5 (A 4 0) a) 6 (A 4 0) b) 7 (A 4 0) c) 8 (A 4 0) d) 9 (A 4 0) 1) 4 0 (A 4 0 + 1)
def q_dig (A : ab_A) (u l n h : Int32) : sp_R := match ix 8 u, ix 8 l with
  | some a, some b => match rg 1 9 n, rg 0 9 h with
    | some c, some d => if a = b then (2, 0, A) else if A 4 0 = 14 then (3, 0, A) else (0, nI (A 4 0), f_dig A a b c d)
    | _, _ => (2, 0, A)
  | _, _ => (1, 0, A)
def q_setGate (A : ab_A) (x : Int32) (o : Nat) : sp_R := match ix (A 4 0) x with
  | some j => (0, nI (A 9 j), au A 9 j o)
  | none => (1, 0, A)
def q_setMark (A : ab_A) (x y : Int32) : sp_R := match ix 8 x, rg 1 6 y with
  | some b, some k => (0, nI (A 1 b), au A 1 b k)
  | some _, none => (2, 0, A)
  | none, _ => (1, 0, A)
def f_pour (A : ab_A) (b n : Nat) : ab_A := au (au A 10 0 (A 10 0 + (A 0 b + n - 200))) 0 b (if 200 < A 0 b + n then 200 else A 0 b + n)
def q_rain (A : ab_A) (x y : Int32) : sp_R := match ix 8 x, rg 1 200 y with
  | some b, some n => (0, nI (f_pour A b n 0 b), f_pour A b n)
  | some _, none => (2, 0, A)
  | none, _ => (1, 0, A)
def f_left (x d : Nat) : Nat := if x < 5 + 3 * d then 5 else x - 3 * d
def f_dry (A : ab_A) (d : Nat) : Nat → ab_A
  | 0 => A
  | k + 1 => au (f_dry A d k) 0 k (f_left (A 0 k) d)
def f_low (A : ab_A) : Nat → Nat
  | 0 => 0
  | k + 1 => f_low A k + b2 (A 0 k < 30)
def q_dry (A : ab_A) (x : Int32) : sp_R := match rg 1 50 x with
  | some d => (0, nI (f_low (f_dry A d 8) 8), f_dry A d 8)
  | none => (1, 0, A)
def f_dear (A : ab_A) (b : Nat) : Nat := (if A 0 b < 30 then 5 else 0) + (if A 0 b < 15 then 5 else 0)
def f_cost (A : ab_A) (j : Nat) : Nat := A 7 j + f_dear A (A 5 j) + f_dear A (A 6 j)
def f_goes (A : ab_A) (j : Nat) : Prop := A 9 j ≠ 0 ∧ A 8 j + 5 ≤ A 0 (A 5 j)
def f_isAt (A : ab_A) (j b : Nat) : Prop := A 5 j = b ∨ A 6 j = b
def f_bey (A : ab_A) (j b : Nat) : Nat := if A 5 j = b then A 6 j else A 5 j
/-! tables -/
def f_stp (A : ab_A) (b o j : Nat) (q : Nat × Nat) : Nat × Nat := if b ≠ o ∧ (A 9 j ≠ 0 ∧ (A 5 j = b ∨ A 6 j = b)) ∧ A 11 (8 * f_bey A j b + o) ≠ 0 ∧ A 11 (8 * f_bey A j b + o) - 1 + f_cost A j ≤ 40 ∧ (q.2 = 0 ∨ A 11 (8 * f_bey A j b + o) - 1 + f_cost A j < q.1 - 1) then (A 11 (8 * f_bey A j b + o) - 1 + f_cost A j + 1, j + 1) else q
def f_ent (A : ab_A) (b o : Nat) : Nat → Nat × Nat
  | 0 => (if b = o then 1 else 0, 0)
  | j + 1 => f_stp A b o j (f_ent A b o j)
def f_nf (A : ab_A) (k : Nat) : Nat := (f_ent A (k / 8) (k % 8) (A 4 0)).1
def f_nb (A : ab_A) (k : Nat) : Nat := (f_ent A (k / 8) (k % 8) (A 4 0)).2
/-- n entries looked at: the next tables so far -/
def f_look (A : ab_A) (n : Nat) : ab_A := fun k i => if k = 13 ∧ i < n then f_nf A i else if k = 14 ∧ i < n then f_nb A i else A k i
def f_chg (A : ab_A) : Nat → Nat
  | 0 => 0
  | k + 1 => f_chg A k + b2 (f_nf A k ≠ A 11 k ∨ f_nb A k ≠ A 12 k)
def f_tick (A : ab_A) : ab_A := fun k i => if i < 64 then (if k = 11 ∨ k = 13 then f_nf A i else if k = 12 ∨ k = 14 then f_nb A i else A k i) else A k i
def f_ticks (A : ab_A) : Nat → ab_A
  | 0 => A
  | n + 1 => f_tick (f_ticks A n)
def q_settle (A : ab_A) (x : Int32) : sp_R := match rg 1 50 x with
  | some t => (0, nI (f_chg (f_ticks A (t - 1)) 64), f_ticks A t)
  | none => (1, 0, A)
/-! barges -/
def f_join (A : ab_A) (j b : Nat) : ab_A := au (au A 3 (6 * b + A 2 b) j) 2 b (A 2 b + 1)
def f_out0 (A : ab_A) (b d n : Nat) : ab_A := au (au (au (au (au (au (au A 15 0 (A 15 0 + 1)) 17 (A 15 0) d) 18 (A 15 0) n) 22 (A 15 0) b) 23 (A 15 0) (2 ^ b)) 24 (A 15 0) 0) 21 (A 15 0) (if b = d then 1 else 0)
def f_out (A : ab_A) (b d n : Nat) : ab_A := if b = d then f_out0 A b d n else f_join (f_out0 A b d n) (A 15 0) b
def q_setOut (A : ab_A) (x y z : Int32) : sp_R := match ix 8 x, ix 8 y with
  | some b, some d => match rg 1 20 z with
    | some n => if A 15 0 = 40 ∨ (A 2 b = 6 ∧ b ≠ d) then (3, 0, A) else (0, nI (A 15 0), f_out A b d n)
    | none => (2, 0, A)
  | _, _ => (1, 0, A)
/-- the canal, and 1, by which basin b sends its first barge; 0 -/
def f_way (A : ab_A) (b : Nat) : Nat :=
  if A 2 b = 0 then 0 else
  if A 24 (A 3 (6 * b)) = A 16 0 + 1 ∨ A 12 (8 * b + A 17 (A 3 (6 * b))) = 0 ∨ ¬ (A 9 (A 12 (8 * b + A 17 (A 3 (6 * b))) - 1) ≠ 0 ∧ A 8 (A 12 (8 * b + A 17 (A 3 (6 * b))) - 1) + 5 ≤ A 0 (A 5 (A 12 (8 * b + A 17 (A 3 (6 * b))) - 1))) then 0 else
  if f_bey A (A 12 (8 * b + A 17 (A 3 (6 * b))) - 1) b = A 17 (A 3 (6 * b)) ∨ (A 2 (f_bey A (A 12 (8 * b + A 17 (A 3 (6 * b))) - 1) b) < 6 ∧ (A 2 (f_bey A (A 12 (8 * b + A 17 (A 3 (6 * b))) - 1) b) < A 1 (f_bey A (A 12 (8 * b + A 17 (A 3 (6 * b))) - 1) b) ∨ A 16 0 % 2 = 0)) then A 12 (8 * b + A 17 (A 3 (6 * b))) else 0
/-- the queue of b without its first one -/
def f_shift (A : ab_A) (b : Nat) : ab_A := fun k i => if k = 2 ∧ i = b then A 2 b - 1 else if k = 3 ∧ 6 * b ≤ i ∧ i < 6 * b + (A 2 b - 1) then A 3 (i + 1) else A k i
def f_lock (A : ab_A) (c : Nat) : ab_A := f_pour (au A 0 (A 5 c) (A 0 (A 5 c) - A 8 c)) (A 6 c) (A 8 c)
/-- barge j comes to basin t, in the tick that is now -/
def f_come (A : ab_A) (j t : Nat) : ab_A := au (au (au (au (au (au A 19 j (A 19 j + 1)) 18 j (A 18 j - 1)) 20 j (A 20 j + A 23 j / 2 ^ t % 2)) 23 j (A 23 j ||| 2 ^ t)) 22 j t) 24 j (A 16 0 + 1)
def f_rest (A : ab_A) (j t : Nat) : ab_A := if t = A 17 j then au A 21 j 1 else if A 18 j = 0 then au A 21 j 2 else f_join A j t
def f_pass (A : ab_A) (b c : Nat) : ab_A := f_rest (f_come (f_lock (f_shift A b) c) (A 3 (6 * b)) (f_bey A c b)) (A 3 (6 * b)) (f_bey A c b)
def f_send (A : ab_A) (b : Nat) : ab_A := if f_way A b = 0 then A else f_pass A b (f_way A b - 1)
def f_sends (A : ab_A) : Nat → ab_A
  | 0 => A
  | b + 1 => f_send (f_sends A b) b
def f_sent (A : ab_A) : Nat → Nat
  | 0 => 0
  | b + 1 => f_sent A b + b2 (f_way (f_sends A b) b ≠ 0)
def f_tk (A : ab_A) : ab_A := au A 16 0 (A 16 0 + 1)
def f_moves (A : ab_A) : Nat → ab_A
  | 0 => A
  | n + 1 => f_sends (f_tk (f_moves A n)) 8
def f_moved (A : ab_A) : Nat → Nat
  | 0 => 0
  | n + 1 => f_moved A n + f_sent (f_tk (f_moves A n)) 8
def q_move (A : ab_A) (x : Int32) : sp_R := match rg 1 50 x with
  | some t => if 2000 < A 16 0 + t then (2, 0, A) else (0, nI (f_moved A t), f_moves A t)
  | none => (1, 0, A)
/-! as they are -/
def q_water (A : ab_A) (x : Int32) : sp_R := match ix 8 x with
  | some b => (0, nI (A 0 b), A)
  | none => (1, 0, A)
def f_all (A : ab_A) : Nat → Nat
  | 0 => 0
  | k + 1 => f_all A k + A 0 k
def q_cost (A : ab_A) (x : Int32) : sp_R := match ix (A 4 0) x with
  | some j => (0, nI (f_cost A j), A)
  | none => (1, 0, A)
def q_canPass (A : ab_A) (x : Int32) : sp_R := match ix (A 4 0) x with
  | some j => (0, nI (b2 (A 9 j ≠ 0 ∧ A 8 j + 5 ≤ A 0 (A 5 j))), A)
  | none => (1, 0, A)
def q_distance (A : ab_A) (x y : Int32) : sp_R := match ix 8 x, ix 8 y with
  | some b, some o => (0, nI (A 11 (8 * b + o)) + (-1), A)
  | _, _ => (1, 0, A)
def q_canalTo (A : ab_A) (x y : Int32) : sp_R := match ix 8 x, ix 8 y with
  | some b, some o => (0, nI (A 12 (8 * b + o)) + (-1), A)
  | _, _ => (1, 0, A)
/-- one who follows the tables to o, n steps more: whether the way doesn't end -/
def f_walk (A : ab_A) (o : Nat) : Nat → Nat → Bool
  | 0, _ => true
  | n + 1, b => if b = o then false else if A 12 (8 * b + o) = 0 then false else f_walk A o n (f_bey A (A 12 (8 * b + o) - 1) b)
def q_isLoop (A : ab_A) (x y : Int32) : sp_R := match ix 8 x, ix 8 y with
  | some b, some o => (0, nI (b2 (f_walk A o 8 b = true)), A)
  | _, _ => (1, 0, A)
def f_loops (A : ab_A) : Nat → Nat
  | 0 => 0
  | k + 1 => f_loops A k + b2 (f_walk A (k % 8) 8 (k / 8) = true)
def q_barge (A : ab_A) (x : Int32) (k : Nat) : sp_R := match ix (A 15 0) x with
  | some j => (0, nI (A k j), A)
  | none => (1, 0, A)
def q_queue (A : ab_A) (x : Int32) : sp_R := match ix 8 x with
  | some b => (0, nI (A 2 b), A)
  | none => (1, 0, A)
def q_queued (A : ab_A) (x y : Int32) : sp_R := match ix 8 x with
  | some b => if y < nI 0 then (2, 0, A) else if y < nI (A 2 b) then (0, nI (A 3 (6 * b + y.toNatClampNeg)), A) else (0, nI 0 + (-1), A)
  | none => (1, 0, A)
def f_laid (A : ab_A) : Nat → Nat
  | 0 => 0
  | k + 1 => f_laid A k + b2 (A 21 k = 2)
/-! WHAT HOLDS IN EVERY STATE -/
def ab_I (A : ab_A) : Prop :=
  (∀ b, b < 8 → 5 ≤ A 0 b ∧ A 0 b ≤ 200 ∧ 1 ≤ A 1 b ∧ A 1 b ≤ 6 ∧ A 2 b ≤ 6) ∧
  (∀ b i, b < 8 → i < A 2 b → A 3 (6 * b + i) < A 15 0 ∧ A 21 (A 3 (6 * b + i)) = 0 ∧ A 22 (A 3 (6 * b + i)) = b ∧ 1 ≤ A 18 (A 3 (6 * b + i)) ∧ A 17 (A 3 (6 * b + i)) ≠ b) ∧
  (∀ b i i', b < 8 → i < A 2 b → i' < A 2 b → A 3 (6 * b + i) = A 3 (6 * b + i') → i = i') ∧
  A 4 0 ≤ 14 ∧
  (∀ j, j < A 4 0 → A 5 j < 8 ∧ A 6 j < 8 ∧ A 5 j ≠ A 6 j ∧ 1 ≤ A 7 j ∧ A 7 j ≤ 9 ∧ A 8 j ≤ 9 ∧ A 9 j ≤ 1) ∧
  (∀ b o, b < 8 → o < 8 → A 11 (8 * b + o) ≤ 41 ∧ A 12 (8 * b + o) ≤ A 4 0 ∧ (A 12 (8 * b + o) ≠ 0 → b ≠ o ∧ (A 5 (A 12 (8 * b + o) - 1) = b ∨ A 6 (A 12 (8 * b + o) - 1) = b))) ∧
  A 15 0 ≤ 40 ∧ A 16 0 ≤ 2000 ∧
  (∀ j, j < A 15 0 → A 17 j < 8 ∧ A 18 j ≤ 20 ∧ A 21 j ≤ 2 ∧ A 22 j < 8 ∧ A 23 j < 256 ∧ A 24 j ≤ A 16 0 + 1) ∧
  (∀ j, A 15 0 ≤ j → A 19 j = 0 ∧ A 20 j = 0)
