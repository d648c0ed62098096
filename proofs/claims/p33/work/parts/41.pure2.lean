/-! WHO FOLLOWS THE TABLES -/
theorem sm_mono {f g : Nat → Nat} {n : Nat} (h : ∀ i, i < n → f i ≤ g i) : sm f n ≤ sm g n := by
  induction n with
  | zero => exact Nat.le_refl _
  | succ n ih =>
    have h1 := ih (fun i hi => h i (by omega))
    have h2 := h n (by omega)
    show sm f n + f n ≤ sm g n + g n
    omega
theorem sm_eqs {f g : Nat → Nat} {n : Nat} (h : ∀ i, i < n → f i ≤ g i) (he : sm f n = sm g n) : ∀ i, i < n → f i = g i := by
  induction n with
  | zero => intro i hi; omega
  | succ n ih =>
    have h1 := sm_mono (f := f) (g := g) (n := n) (fun i hi => h i (by omega))
    have h2 := h n (by omega)
    have h3 : sm f n + f n = sm g n + g n := he
    intro i hi
    by_cases hin : i = n
    · subst hin; omega
    · exact ih (fun i hi => h i (by omega)) (by omega) i (by omega)
theorem fw_s (A : ab_A) (o n b : Nat) : f_walk A o (n + 1) b = if b = o then false else if A 12 (8 * b + o) = 0 then false else f_walk A o n (f_bey A (A 12 (8 * b + o) - 1) b) := rfl
theorem fw_mono (A : ab_A) (o : Nat) : ∀ n b, f_walk A o (n + 1) b = true → f_walk A o n b = true := by
  intro n
  induction n with
  | zero => intro b _; rfl
  | succ n ih =>
    intro b h
    rw [fw_s] at h ⊢
    split at h
    · cases h
    · rename_i h1
      rw [if_neg h1]
      split at h
      · cases h
      · rename_i h2
        rw [if_neg h2]
        exact ih _ h
theorem fb_lt {A : ab_A} (hI : ab_I A) {b o : Nat} (hb : b < 8) (ho : o < 8) (h : A 12 (8 * b + o) ≠ 0) : A 12 (8 * b + o) - 1 < A 4 0 ∧ f_bey A (A 12 (8 * b + o) - 1) b < 8 := by
  have h1 := (hI.2.2.2.2.2.1 b o hb ho).2.1
  have h2 : A 12 (8 * b + o) - 1 < A 4 0 := by omega
  have h3 := hI.2.2.2.2.1 _ h2
  exact ⟨h2, f_bey_lt h3.1 h3.2.1⟩
theorem fw_keep {A : ab_A} (hI : ab_I A) {o n : Nat} (ho : o < 8) (h : ∀ v, v < 8 → f_walk A o (n + 1) v = f_walk A o n v) (d : Nat) : ∀ v, v < 8 → f_walk A o (n + d) v = f_walk A o n v := by
  induction d with
  | zero => intro v _; rfl
  | succ d ih =>
    intro v hv
    rw [← h v hv, show n + (d + 1) = (n + d) + 1 by omega, fw_s, fw_s]
    split
    · rfl
    · split
      · rfl
      · rename_i h2
        exact ih _ (fb_lt hI hv ho h2).2
theorem fw_st {A : ab_A} (hI : ab_I A) {o m v : Nat} (ho : o < 8) (hm : 8 ≤ m) (hv : v < 8) : f_walk A o m v = f_walk A o 8 v := by
  have hT : ∀ n, (∀ i, i < 8 → b2 (f_walk A o (n + 1) i = true) ≤ b2 (f_walk A o n i = true)) := by
    intro n i _
    by_cases h : f_walk A o (n + 1) i = true
    · rw [b2_t (fw_mono A o n i h)]
      exact b2_le
    · rw [b2_f h]
      exact Nat.zero_le _
  have hex : ∃ n, n ≤ 8 ∧ ∀ v, v < 8 → f_walk A o (n + 1) v = f_walk A o n v := by
    apply Classical.byContradiction
    intro hno
    have hst : ∀ n, n ≤ 9 → sm (fun i => b2 (f_walk A o n i = true)) 8 + n ≤ 8 := by
      intro n
      induction n with
      | zero =>
        intro _
        have := sm_le (f := fun i => b2 (f_walk A o 0 i = true)) (c := 1) (n := 8) (fun i _ => b2_le)
        omega
      | succ n ih =>
        intro hn
        have h1 := ih (by omega)
        have h2 := sm_mono (hT n)
        by_cases he : sm (fun i => b2 (f_walk A o (n + 1) i = true)) 8 = sm (fun i => b2 (f_walk A o n i = true)) 8
        · exfalso
          apply hno
          refine ⟨n, by omega, fun v hv => ?_⟩
          have h3 : b2 (f_walk A o (n + 1) v = true) = b2 (f_walk A o n v = true) := sm_eqs (hT n) he v hv
          cases hA : f_walk A o (n + 1) v with
          | true => exact (fw_mono A o n v hA).symm
          | false =>
            cases hB : f_walk A o n v with
            | false => rfl
            | true =>
              rw [b2_t hB, hA, b2_f (by decide)] at h3
              exact absurd h3 (by decide)
        · omega
    have := hst 9 (Nat.le_refl 9)
    omega
  obtain ⟨n, hn, h⟩ := hex
  have h1 := fw_keep hI ho h (m - n) v hv
  have h2 := fw_keep hI ho h (8 - n) v hv
  rw [show n + (m - n) = m by omega] at h1
  rw [show n + (8 - n) = 8 by omega] at h2
  rw [h1, h2]
/-! STILL TABLES ARE CHEAPEST WAYS -/
theorem f_cost_1 {A : ab_A} (hI : ab_I A) {j : Nat} (hj : j < A 4 0) : 1 ≤ f_cost A j := by
  have := (hI.2.2.2.2.1 j hj).2.2.2.1
  unfold f_cost
  omega
theorem f_chg_0 (A : ab_A) (n : Nat) : f_chg A n = 0 → ∀ k, k < n → f_nf A k = A 11 k ∧ f_nb A k = A 12 k := by
  induction n with
  | zero => intro _ k hk; omega
  | succ n ih =>
    intro h k hk
    have h0 : f_chg A n + b2 (f_nf A n ≠ A 11 n ∨ f_nb A n ≠ A 12 n) = 0 := h
    by_cases hkn : k = n
    · subst hkn
      by_cases hq : f_nf A k ≠ A 11 k ∨ f_nb A k ≠ A 12 k
      · rw [b2_t hq] at h0; omega
      · exact ⟨Decidable.byContradiction (fun z => hq (Or.inl z)), Decidable.byContradiction (fun z => hq (Or.inr z))⟩
    · exact ih (by omega) k (by omega)
theorem f_ent_src {A : ab_A} {b o : Nat} (h : b ≠ o) (n : Nat) : (f_ent A b o n).2 ≠ 0 → ∃ j, j < n ∧ A 9 j ≠ 0 ∧ (A 5 j = b ∨ A 6 j = b) ∧ (f_ent A b o n).2 = j + 1 ∧ A 11 (8 * f_bey A j b + o) ≠ 0 ∧ (f_ent A b o n).1 = A 11 (8 * f_bey A j b + o) + f_cost A j := by
  induction n with
  | zero => intro q; exact absurd rfl q
  | succ n ih =>
    intro q
    by_cases hc : f_cnd A b o n (f_ent A b o n)
    · have e : f_ent A b o (n + 1) = (A 11 (8 * f_bey A n b + o) - 1 + f_cost A n + 1, n + 1) := f_stp_y hc
      rw [e]
      obtain ⟨-, ⟨c1, c2⟩, c3, -⟩ := hc
      exact ⟨n, by omega, c1, c2, rfl, c3, by show A 11 (8 * f_bey A n b + o) - 1 + f_cost A n + 1 = _; omega⟩
    · have e : f_ent A b o (n + 1) = f_ent A b o n := f_stp_n hc
      rw [e] at q ⊢
      obtain ⟨j, h1, h2⟩ := ih q
      exact ⟨j, by omega, h2⟩
theorem f_ent_min {A : ab_A} {b o j : Nat} (h : b ≠ o) (h9 : A 9 j ≠ 0) (hat2 : A 5 j = b ∨ A 6 j = b) (h11 : A 11 (8 * f_bey A j b + o) ≠ 0) (h40 : A 11 (8 * f_bey A j b + o) - 1 + f_cost A j ≤ 40) (n : Nat) : j < n → (f_ent A b o n).1 ≠ 0 ∧ (f_ent A b o n).1 ≤ A 11 (8 * f_bey A j b + o) + f_cost A j := by
  induction n with
  | zero => intro q; omega
  | succ n ih =>
    intro hj
    have hmono : (f_ent A b o n).2 ≠ 0 → (f_ent A b o (n + 1)).1 ≠ 0 ∧ (f_ent A b o (n + 1)).1 ≤ (f_ent A b o n).1 := by
      intro h2
      have h1 : (f_ent A b o n).1 ≠ 0 := fun q => h2 ((f_ent_i A h n).mp q)
      by_cases hc : f_cnd A b o n (f_ent A b o n)
      · have e : f_ent A b o (n + 1) = (A 11 (8 * f_bey A n b + o) - 1 + f_cost A n + 1, n + 1) := f_stp_y hc
        rw [e]
        obtain ⟨-, -, -, -, c5⟩ := hc
        refine ⟨Nat.succ_ne_zero _, ?_⟩
        show A 11 (8 * f_bey A n b + o) - 1 + f_cost A n + 1 ≤ _
        omega
      · have e : f_ent A b o (n + 1) = f_ent A b o n := f_stp_n hc
        rw [e]
        exact ⟨h1, Nat.le_refl _⟩
    by_cases hjn : j = n
    · subst hjn
      by_cases hc : f_cnd A b o j (f_ent A b o j)
      · have e : f_ent A b o (j + 1) = (A 11 (8 * f_bey A j b + o) - 1 + f_cost A j + 1, j + 1) := f_stp_y hc
        rw [e]
        refine ⟨Nat.succ_ne_zero _, ?_⟩
        show A 11 (8 * f_bey A j b + o) - 1 + f_cost A j + 1 ≤ _
        omega
      · have e : f_ent A b o (j + 1) = f_ent A b o j := f_stp_n hc
        rw [e]
        have hn : ¬ ((f_ent A b o j).2 = 0 ∨ A 11 (8 * f_bey A j b + o) - 1 + f_cost A j < (f_ent A b o j).1 - 1) := fun q => hc ⟨h, ⟨h9, hat2⟩, h11, h40, q⟩
        have h2 : (f_ent A b o j).2 ≠ 0 := fun q => hn (Or.inl q)
        have h1 : (f_ent A b o j).1 ≠ 0 := fun q => h2 ((f_ent_i A h j).mp q)
        exact ⟨h1, by omega⟩
    · obtain ⟨a1, a2⟩ := ih (by omega)
      have h2 : (f_ent A b o n).2 ≠ 0 := fun q => a1 ((f_ent_i A h n).mpr q)
      obtain ⟨a3, a4⟩ := hmono h2
      exact ⟨a3, by omega⟩
section STL
variable {A : ab_A}
theorem st_at (hst : f_chg A 64 = 0) {b o : Nat} (hb : b < 8) (ho : o < 8) : (f_ent A b o (A 4 0)).1 = A 11 (8 * b + o) ∧ (f_ent A b o (A 4 0)).2 = A 12 (8 * b + o) := by
  have h := f_chg_0 A 64 hst (8 * b + o) (by omega)
  rw [f_nf_bo A ho, f_nb_bo A ho] at h
  exact h
theorem st_src (hI : ab_I A) (hst : f_chg A 64 = 0) {b o : Nat} (hb : b < 8) (ho : o < 8) (hne : b ≠ o) (h : A 12 (8 * b + o) ≠ 0) : ∃ j, j + 1 = A 12 (8 * b + o) ∧ f_edge A j (f_bey A j b) b ∧ f_bey A j b < 8 ∧ A 11 (8 * f_bey A j b + o) ≠ 0 ∧ A 11 (8 * b + o) = A 11 (8 * f_bey A j b + o) + f_cost A j := by
  obtain ⟨e1, e2⟩ := st_at hst hb ho
  obtain ⟨j, h1, h2, h3, h4, h5, h6⟩ := f_ent_src hne (A 4 0) (by rw [e2]; exact h)
  have hW := hI.2.2.2.2.1 j h1
  refine ⟨j, by omega, ⟨h1, h2, ?_⟩, f_bey_lt hW.1 hW.2.1, h5, by omega⟩
  unfold f_bey
  rcases h3 with h3 | h3
  · rw [if_pos h3]; exact Or.inr ⟨rfl, h3⟩
  · have : A 5 j ≠ b := by omega
    rw [if_neg this]; exact Or.inl ⟨rfl, h3⟩
theorem st_sound (hI : ab_I A) (hJ : ab_J A) (hst : f_chg A 64 = 0) {o : Nat} (ho : o < 8) : ∀ n b, b < 8 → A 11 (8 * b + o) ≤ n → A 11 (8 * b + o) ≠ 0 → ∃ r, f_path A o r b (A 11 (8 * b + o) - 1) := by
  intro n
  induction n with
  | zero => intro b _ h1 h2; omega
  | succ n ih =>
    intro b hb hn h0
    by_cases hbo : b = o
    · subst hbo
      rw [(hJ.2.1 b hb).1]
      exact ⟨[], rfl, rfl⟩
    · have h12 : A 12 (8 * b + o) ≠ 0 := fun q => h0 ((hJ.2.2.1 b o hb ho hbo).mpr q)
      obtain ⟨j, -, he, h8, h5, h6⟩ := st_src hI hst hb ho hbo h12
      have hc := f_cost_1 hI he.1
      obtain ⟨r, hr⟩ := ih (f_bey A j b) h8 (by omega) h5
      exact ⟨f_bey A j b :: r, j, _, he, hr, by omega⟩
theorem st_comp (hI : ab_I A) (hJ : ab_J A) (hst : f_chg A 64 = 0) {o : Nat} (ho : o < 8) (r : List Nat) : ∀ b c, b < 8 → f_path A o r b c → c ≤ 40 → A 11 (8 * b + o) ≠ 0 ∧ A 11 (8 * b + o) ≤ c + 1 := by
  induction r with
  | nil =>
    rintro b c hb ⟨rfl, rfl⟩ _
    rw [(hJ.2.1 b hb).1]
    exact ⟨by decide, by decide⟩
  | cons v r ih =>
    rintro b c hb ⟨j, c', he, hp, rfl⟩ h40
    by_cases hbo : b = o
    · subst hbo
      rw [(hJ.2.1 b hb).1]
      exact ⟨by decide, by omega⟩
    · have hW := hI.2.2.2.2.1 j he.1
      have hv : f_bey A j b = v ∧ (A 5 j = b ∨ A 6 j = b) := by
        unfold f_bey
        rcases he.2.2 with ⟨q1, q2⟩ | ⟨q1, q2⟩
        · rw [if_neg (by omega)]; exact ⟨q1, Or.inr q2⟩
        · rw [if_pos q2]; exact ⟨q1, Or.inl q2⟩
      have hv8 : v < 8 := by rw [← hv.1]; exact f_bey_lt hW.1 hW.2.1
      obtain ⟨i1, i2⟩ := ih v c' hv8 hp (by omega)
      obtain ⟨m1, m2⟩ := f_ent_min hbo he.2.1 hv.2 (by rw [hv.1]; exact i1) (by rw [hv.1]; omega) (A 4 0) he.1
      rw [(st_at hst hb ho).1, hv.1] at m2
      rw [(st_at hst hb ho).1] at m1
      exact ⟨m1, by omega⟩
theorem st_walk (hI : ab_I A) (hst : f_chg A 64 = 0) {o : Nat} (ho : o < 8) (n : Nat) : ∀ b, b < 8 → f_walk A o (n + 1) b = true → n + 2 ≤ A 11 (8 * b + o) := by
  induction n with
  | zero =>
    intro b hb h
    rw [fw_s] at h
    split at h
    · cases h
    · rename_i h1
      split at h
      · cases h
      · rename_i h2
        obtain ⟨j, -, he, -, h5, h6⟩ := st_src hI hst hb ho h1 h2
        have := f_cost_1 hI he.1
        omega
  | succ n ih =>
    intro b hb h
    rw [fw_s] at h
    split at h
    · cases h
    · rename_i h1
      split at h
      · cases h
      · rename_i h2
        obtain ⟨j, hj, he, h8, h5, h6⟩ := st_src hI hst hb ho h1 h2
        have hc := f_cost_1 hI he.1
        rw [← hj, Nat.add_sub_cancel] at h
        have := ih _ h8 h
        omega
theorem st_noloop (hI : ab_I A) (hst : f_chg A 64 = 0) {b o : Nat} (hb : b < 8) (ho : o < 8) : f_walk A o 8 b = false := by
  cases h : f_walk A o 8 b with
  | false => rfl
  | true =>
    rw [← fw_st hI (m := 41) ho (by decide) hb] at h
    have h1 := st_walk hI hst ho 40 b hb h
    have h2 := (hI.2.2.2.2.2.1 b o hb ho).1
    omega
/-- the cheapest way's number -/
def s_ch (A : ab_A) (b o : Nat) : Nat := if f_mr A o (8 * A 4 0) b ≤ 41 then f_mr A o (8 * A 4 0) b else 0
theorem mr_path (hI : ab_I A) {b o : Nat} (hb : b < 8) (ho : o < 8) : (f_mr A o (8 * A 4 0) b ≠ 0 → ∃ r, f_path A o r b (f_mr A o (8 * A 4 0) b - 1)) ∧ ∀ r c, f_path A o r b c → f_mr A o (8 * A 4 0) b ≠ 0 ∧ f_mr A o (8 * A 4 0) b ≤ c + 1 := by
  have hW := hI.2.2.2.2.1
  by_cases hn : A 4 0 = 0
  · rw [hn]
    have e : f_mr A o (8 * 0) b = if b = o then 1 else 0 := rfl
    rw [e]
    refine ⟨fun h => ?_, fun r c hp => ?_⟩
    · split at h
      · rename_i q
        rw [if_pos q]
        exact ⟨[], q, rfl⟩
      · exact absurd rfl h
    · rcases r with _ | ⟨v, r⟩
      · obtain ⟨rfl, rfl⟩ := hp
        rw [if_pos rfl]
        exact ⟨by decide, by decide⟩
      · obtain ⟨j, c', he, -, -⟩ := hp
        have := he.1
        omega
  · have hrel := f_mr_rel o (fun j hj => (hW j hj).2.2.1) hn
    refine ⟨fun h => rx_sound (X := f_mr A o) (fun _ => rfl) hrel _ b h, fun r c hp => ?_⟩
    exact rx_least (X := f_mr A o) (fun j hj => ⟨(hW j hj).1, (hW j hj).2.1⟩) ho (fun _ => rfl) hrel (k := 8) (by decide) hp
theorem ch_41 (b o : Nat) : s_ch A b o ≤ 41 := by
  unfold s_ch
  split
  · assumption
  · exact Nat.zero_le _
theorem ch_1 (hI : ab_I A) {b o : Nat} (hb : b < 8) (ho : o < 8) : s_ch A b o = 1 ↔ b = o := by
  obtain ⟨h1, h2⟩ := mr_path hI hb ho
  constructor
  · intro h
    unfold s_ch at h
    split at h
    · rw [h] at h1
      obtain ⟨r, hr⟩ := h1 (by decide)
      rcases r with _ | ⟨v, r⟩
      · exact hr.1
      · obtain ⟨j, c', he, -, hc⟩ := hr
        have := f_cost_1 hI he.1
        omega
    · omega
  · rintro rfl
    obtain ⟨h3, h4⟩ := h2 [] 0 ⟨rfl, rfl⟩
    unfold s_ch
    rw [if_pos (by omega)]
    omega
theorem ch_st (hI : ab_I A) (hJ : ab_J A) (hst : f_chg A 64 = 0) {b o : Nat} (hb : b < 8) (ho : o < 8) : s_ch A b o = A 11 (8 * b + o) := by
  obtain ⟨h1, h2⟩ := mr_path hI hb ho
  have h41 := (hI.2.2.2.2.2.1 b o hb ho).1
  by_cases h0 : A 11 (8 * b + o) = 0
  · unfold s_ch
    rw [h0]
    split
    · rename_i q
      apply Classical.byContradiction
      intro hx
      obtain ⟨r, hr⟩ := h1 hx
      obtain ⟨c1, -⟩ := st_comp hI hJ hst ho r b _ hb hr (by omega)
      exact c1 h0
    · rfl
  · obtain ⟨r, hr⟩ := st_sound hI hJ hst ho _ b hb (Nat.le_refl _) h0
    obtain ⟨h3, h4⟩ := h2 r _ hr
    obtain ⟨r', hr'⟩ := h1 h3
    unfold s_ch
    rw [if_pos (by omega)]
    obtain ⟨c1, c2⟩ := st_comp hI hJ hst ho r' b _ hb hr' (by omega)
    omega
end STL
/-! A TICK OF TABLES AS THE LAW FINDS IT -/
def s_all (A : ab_A) (b o j : Nat) : Nat := if A 9 j = 1 ∧ (A 5 j = b ∨ A 6 j = b) ∧ A 11 (8 * f_bey A j b + o) ≠ 0 then A 11 (8 * f_bey A j b + o) - 1 + f_cost A j else 99
/-- the best so far, and the canal by which, and 1 -/
def s_ent (A : ab_A) (b o : Nat) : Nat → Nat × Nat
  | 0 => (99, 0)
  | j + 1 => (if s_all A b o j < (s_ent A b o j).1 then s_all A b o j else (s_ent A b o j).1, if s_all A b o j < (s_ent A b o j).1 ∧ s_all A b o j ≤ 40 then j + 1 else (s_ent A b o j).2)
theorem s_ent_ok {A : ab_A} (hI : ab_I A) {b o : Nat} (hb : b < 8) (ho : o < 8) (hne : b ≠ o) (n : Nat) : n ≤ A 4 0 → (s_ent A b o n).2 = (f_ent A b o n).2 ∧ (s_ent A b o n).1 ≤ 99 ∧ (s_ent A b o n).2 ≤ n ∧ ((f_ent A b o n).2 = 0 → 40 < (s_ent A b o n).1) ∧ ((f_ent A b o n).2 ≠ 0 → (s_ent A b o n).1 + 1 = (f_ent A b o n).1 ∧ (s_ent A b o n).1 ≤ 40) := by
  induction n with
  | zero => intro _; exact ⟨rfl, Nat.le_refl _, Nat.le_refl _, fun _ => (show 40 < 99 by decide), fun q => absurd rfl q⟩
  | succ n ih =>
    intro hn
    obtain ⟨h1, h2, h2b, h3, h4⟩ := ih (by omega)
    have h9 := (hI.2.2.2.2.1 n (by omega)).2.2.2.2.2.2
    have es : s_ent A b o (n + 1) = (if s_all A b o n < (s_ent A b o n).1 then s_all A b o n else (s_ent A b o n).1, if s_all A b o n < (s_ent A b o n).1 ∧ s_all A b o n ≤ 40 then n + 1 else (s_ent A b o n).2) := rfl
    have e1 : (s_ent A b o (n + 1)).1 = if s_all A b o n < (s_ent A b o n).1 then s_all A b o n else (s_ent A b o n).1 := rfl
    have e2 : (s_ent A b o (n + 1)).2 = if s_all A b o n < (s_ent A b o n).1 ∧ s_all A b o n ≤ 40 then n + 1 else (s_ent A b o n).2 := rfl
    by_cases hc : f_cnd A b o n (f_ent A b o n)
    · have e : f_ent A b o (n + 1) = (A 11 (8 * f_bey A n b + o) - 1 + f_cost A n + 1, n + 1) := f_stp_y hc
      obtain ⟨-, ⟨c1, c2⟩, c3, c4, c5⟩ := hc
      have ea : s_all A b o n = A 11 (8 * f_bey A n b + o) - 1 + f_cost A n := if_pos ⟨by omega, c2, c3⟩
      have hlt : s_all A b o n < (s_ent A b o n).1 := by
        rw [ea]
        by_cases q : (f_ent A b o n).2 = 0
        · have := h3 q; omega
        · have := h4 q; omega
      rw [e1, e2, e, if_pos hlt, if_pos ⟨hlt, by omega⟩, ea]
      refine ⟨rfl, by omega, Nat.le_refl _, fun q => absurd q (Nat.succ_ne_zero _), fun _ => ⟨rfl, c4⟩⟩
    · have e : f_ent A b o (n + 1) = f_ent A b o n := f_stp_n hc
      have hno : ¬ (s_all A b o n < (s_ent A b o n).1 ∧ s_all A b o n ≤ 40) := by
        rintro ⟨q1, q2⟩
        unfold s_all at q1 q2
        split at q2
        · rename_i hcan
          rw [if_pos hcan] at q1
          refine hc ⟨hne, ⟨by omega, hcan.2.1⟩, hcan.2.2, q2, ?_⟩
          by_cases q : (f_ent A b o n).2 = 0
          · exact Or.inl q
          · have := h4 q
            exact Or.inr (by omega)
        · omega
      rw [e1, e2, e, if_neg hno]
      refine ⟨h1, by split <;> omega, by omega, fun q => ?_, fun q => ?_⟩
      · have := h3 q
        split <;> omega
      · have := h4 q
        rw [if_neg (fun z => hno ⟨z, by omega⟩)]
        exact this
def s_due (A : ab_A) (b o : Nat) : Nat := if b = o then 1 else if (s_ent A b o (A 4 0)).2 = 0 then 0 else (s_ent A b o (A 4 0)).1 + 1
def s_by (A : ab_A) (b o : Nat) : Nat := if b = o then 0 else (s_ent A b o (A 4 0)).2
theorem s_due_ok {A : ab_A} (hI : ab_I A) {b o : Nat} (hb : b < 8) (ho : o < 8) : s_due A b o = f_nf A (8 * b + o) ∧ s_by A b o = f_nb A (8 * b + o) := by
  rw [f_nf_bo A ho, f_nb_bo A ho]
  unfold s_due s_by
  by_cases hbo : b = o
  · subst hbo
    rw [if_pos rfl, if_pos rfl, f_ent_d]
    exact ⟨rfl, rfl⟩
  · obtain ⟨h1, -, -, h3, h4⟩ := s_ent_ok hI hb ho hbo (A 4 0) (Nat.le_refl _)
    rw [if_neg hbo, if_neg hbo, h1]
    refine ⟨?_, rfl⟩
    by_cases q : (f_ent A b o (A 4 0)).2 = 0
    · rw [if_pos q, (f_ent_i A hbo _).mpr q]
    · rw [if_neg q]
      exact (h4 q).1
/-! bits of a long -/
def s_bit (x : Int64) (j : Nat) : Bool := x.toBitVec.getLsbD j
theorem sb_sm : ∀ t : Nat, t < 40 → (((nI t).toInt64 &&& 63 : Int64).toBitVec.smod 64).toNat = t := by decide
theorem sb_0 (j : Nat) : s_bit 0 j = false := by
  unfold s_bit
  simp
theorem sb_test {x : Int64} {j : Nat} (hj : j < 40) (h : s_bit x j = false) : (x >>> ((nI j).toInt64 &&& 63)) &&& 1 = (0 : Int64) := by
  apply Int64.toBitVec_inj.mp
  rw [Int64.toBitVec_and, Int64.toBitVec_shiftRight, BitVec.sshiftRight_eq', sb_sm j hj]
  apply BitVec.eq_of_getLsbD_eq
  intro i hi
  unfold s_bit at h
  rw [BitVec.getLsbD_and, BitVec.getLsbD_sshiftRight]
  by_cases h0 : i = 0
  · subst h0
    have : j < 64 := by omega
    rw [BitVec.getLsbD_eq_getElem this] at h
    simp [h, this]
  · simp [h0]
theorem sb_or {x : Int64} {j k : Nat} (hj : j < 40) (hk : k < 40) : s_bit (x ||| ((1 : Int64) <<< ((nI j).toInt64 &&& 63))) k = (s_bit x k || decide (k = j)) := by
  unfold s_bit
  rw [Int64.toBitVec_or, Int64.toBitVec_shiftLeft, BitVec.shiftLeft_eq', sb_sm j hj, BitVec.getLsbD_or, BitVec.getLsbD_shiftLeft]
  congr 1
  have h64 : k < 64 := by omega
  by_cases h : k = j
  · subst h
    simp [h64]
  · by_cases h2 : k < j
    · simp [h, h2]
    · have : k - j ≠ 0 := by omega
      simp [h, h2, this]
