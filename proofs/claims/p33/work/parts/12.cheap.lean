/-! THE CHEAPEST WAY -/
/-- canal j, open, joins v' and v -/
def f_edge (A : ab_A) (j v' v : Nat) : Prop := j < A 4 0 ∧ A 9 j ≠ 0 ∧ ((A 5 j = v' ∧ A 6 j = v) ∨ (A 6 j = v' ∧ A 5 j = v))
theorem f_edge_r {A : ab_A} {j v' v : Nat} (h : f_edge A j v' v) : f_edge A j v v' := ⟨h.1, h.2.1, h.2.2.symm.imp (fun q => ⟨q.2, q.1⟩) (fun q => ⟨q.2, q.1⟩)⟩
/-- a walk from s by the basins r (the last first) to v, of cost c -/
def f_path (A : ab_A) (s : Nat) : List Nat → Nat → Nat → Prop
  | [], v, c => v = s ∧ c = 0
  | v' :: r, v, c => ∃ j c', f_edge A j v' v ∧ f_path A s r v' c' ∧ c = c' + f_cost A j
theorem f_path_pre {A : ab_A} {s s' j : Nat} (he : f_edge A j s s') (r : List Nat) : ∀ v c, f_path A s' r v c → ∃ r', f_path A s r' v (c + f_cost A j) := by
  induction r with
  | nil =>
    rintro v c ⟨rfl, rfl⟩
    exact ⟨[s], j, 0, he, ⟨rfl, rfl⟩, rfl⟩
  | cons v' r ih =>
    rintro v c ⟨k, c', hk, hp, rfl⟩
    obtain ⟨r', hr⟩ := ih v' c' hp
    exact ⟨v' :: r', k, _, hk, hr, by omega⟩
theorem f_path_rev {A : ab_A} {s : Nat} (r : List Nat) : ∀ v c, f_path A s r v c → ∃ r', f_path A v r' s c := by
  induction r with
  | nil =>
    rintro v c ⟨rfl, rfl⟩
    exact ⟨[], rfl, rfl⟩
  | cons v' r ih =>
    rintro v c ⟨k, c', hk, hp, rfl⟩
    obtain ⟨r', hr⟩ := ih v' c' hp
    exact f_path_pre (f_edge_r hk) r' s c' hr
/-- no basin twice -/
def f_nd : List Nat → Prop
  | [] => True
  | v :: r => v ∉ r ∧ f_nd r
def f_mk : List Nat → Nat
  | [] => 0
  | v :: r => f_mk r ||| 2 ^ v
theorem f_mk_ok (r : List Nat) (h8 : ∀ x ∈ r, x < 8) (hn : f_nd r) : f_mk r < 256 ∧ f_pc (f_mk r) = r.length ∧ ∀ y, y < 8 → (f_mk r / 2 ^ y % 2 = 1 ↔ y ∈ r) := by
  induction r with
  | nil =>
    refine ⟨by decide, rfl, fun y _ => ?_⟩
    show 0 / 2 ^ y % 2 = 1 ↔ _
    rw [Nat.zero_div]
    exact ⟨fun h => absurd h (by decide), fun h => absurd h (List.not_mem_nil)⟩
  | cons v r ih =>
    obtain ⟨i1, i2, i3⟩ := ih (fun x hx => h8 x (List.mem_cons_of_mem _ hx)) hn.2
    have hv := h8 v (List.mem_cons_self)
    have h0 : f_mk r / 2 ^ v % 2 = 0 := by
      have := mt (i3 v hv).mp hn.1
      omega
    refine ⟨Nat.or_lt_two_pow (n := 8) i1 (two_pow8 hv), ?_, fun y hy => ?_⟩
    · show f_pc (f_mk r ||| 2 ^ v) = _
      rw [f_pc_s _ i1 v hv h0, i2]
      rfl
    · show (f_mk r ||| 2 ^ v) / 2 ^ y % 2 = 1 ↔ _
      rw [nb_bit _ i1 v hv y hy, List.mem_cons]
      by_cases q : y = v
      · rw [if_pos q]
        exact ⟨fun _ => Or.inl q, fun _ => rfl⟩
      · rw [if_neg q, i3 y hy]
        exact ⟨Or.inr, fun h => h.resolve_left q⟩
theorem f_pc_8 : ∀ s, s < 256 → f_pc s ≤ 8 := by decide +kernel
theorem f_nd_len (r : List Nat) (h8 : ∀ x ∈ r, x < 8) (hn : f_nd r) : r.length ≤ 8 := by
  obtain ⟨h1, h2, -⟩ := f_mk_ok r h8 hn
  have := f_pc_8 _ h1
  omega
theorem f_path_cut {A : ab_A} {s x : Nat} (r : List Nat) : ∀ v c, f_path A s r v c → f_nd r → x ∈ r → ∃ r' c', f_path A s r' x c' ∧ c' ≤ c ∧ f_nd (x :: r') := by
  induction r with
  | nil => intro v c _ _ h; exact absurd h List.not_mem_nil
  | cons v' r ih =>
    rintro v c ⟨j, c', he, hp, rfl⟩ hn hx
    by_cases q : x = v'
    · subst q
      exact ⟨r, c', hp, by omega, hn⟩
    · obtain ⟨r', c2, h1, h2, h3⟩ := ih v' c' hp hn.2 ((List.mem_cons.mp hx).resolve_left q)
      exact ⟨r', c2, h1, by omega, h3⟩
theorem f_path_nd {A : ab_A} {s : Nat} (r : List Nat) : ∀ v c, f_path A s r v c → ∃ r' c', f_path A s r' v c' ∧ c' ≤ c ∧ f_nd (v :: r') := by
  induction r with
  | nil =>
    intro v c h
    exact ⟨[], c, h, Nat.le_refl c, List.not_mem_nil, trivial⟩
  | cons v' r ih =>
    rintro v c ⟨j, c', he, hp, rfl⟩
    obtain ⟨r', c2, h1, h2, h3⟩ := ih v' c' hp
    have h4 : f_path A s (v' :: r') v (c2 + f_cost A j) := ⟨j, c2, he, h1, rfl⟩
    by_cases q : v ∈ v' :: r'
    · obtain ⟨r3, c3, g1, g2, g3⟩ := f_path_cut (v' :: r') v _ h4 h3 q
      exact ⟨r3, c3, g1, by omega, g3⟩
    · exact ⟨v' :: r', _, h4, by omega, q, h3⟩
theorem f_path_8 {A : ab_A} {s : Nat} (hW : ∀ j, j < A 4 0 → A 5 j < 8 ∧ A 6 j < 8) (hs : s < 8) (r : List Nat) : ∀ v c, f_path A s r v c → ∀ x ∈ v :: r, x < 8 := by
  induction r with
  | nil =>
    rintro v c ⟨rfl, rfl⟩ x hx
    obtain rfl := List.mem_singleton.mp hx
    exact hs
  | cons v' r ih =>
    rintro v c ⟨j, c', he, hp, rfl⟩ x hx
    have := hW j he.1
    rcases List.mem_cons.mp hx with rfl | hx
    · rcases he.2.2 with ⟨-, q⟩ | ⟨-, q⟩ <;> omega
    · exact ih v' c' hp x hx
/-- one canal looked at: what the new table T' is to the old one -/
def f_rel (A : ab_A) (j : Nat) (T T' : Nat → Nat) : Prop :=
  (∀ v, T v ≠ 0 → T' v ≠ 0 ∧ T' v ≤ T v) ∧
  (∀ v' v, f_edge A j v' v → T v' ≠ 0 → T' v ≠ 0 ∧ T' v ≤ T v' + f_cost A j) ∧
  (∀ v, T' v ≠ 0 → T v = T' v ∨ ∃ v', f_edge A j v' v ∧ T v' ≠ 0 ∧ T' v = T v' + f_cost A j)
theorem f_rel_t {A : ab_A} {j : Nat} {T1 T2 T3 : Nat → Nat} (ho : f_rel A j T1 T2) (ho' : (∀ v, T2 v ≠ 0 → T3 v ≠ 0 ∧ T3 v ≤ T2 v)) : ∀ v' v, f_edge A j v' v → T1 v' ≠ 0 → T3 v ≠ 0 ∧ T3 v ≤ T1 v' + f_cost A j := by
  intro v' v he h
  obtain ⟨h1, h2⟩ := ho.2.1 v' v he h
  obtain ⟨h3, h4⟩ := ho' v h1
  exact ⟨h3, by omega⟩
section CP
variable {A : ab_A} {s : Nat} {X : Nat → Nat → Nat}
theorem rx_mono (hX : ∀ i, f_rel A (i % A 4 0) (X i) (X (i + 1))) (i d : Nat) : ∀ v, X i v ≠ 0 → X (i + d) v ≠ 0 ∧ X (i + d) v ≤ X i v := by
  induction d with
  | zero => intro v h; exact ⟨h, Nat.le_refl _⟩
  | succ d ih =>
    intro v h
    obtain ⟨h1, h2⟩ := ih v h
    obtain ⟨h3, h4⟩ := (hX (i + d)).1 v h1
    exact ⟨h3, Nat.le_trans h4 h2⟩
theorem rx_sound (h0 : ∀ v, X 0 v = if v = s then 1 else 0) (hX : ∀ i, f_rel A (i % A 4 0) (X i) (X (i + 1))) (i : Nat) : ∀ v, X i v ≠ 0 → ∃ r, f_path A s r v (X i v - 1) := by
  induction i with
  | zero =>
    intro v h
    rw [h0] at h ⊢
    split at h
    · rename_i q
      rw [if_pos q]
      exact ⟨[], q, rfl⟩
    · exact absurd rfl h
  | succ i ih =>
    intro v h
    rcases (hX i).2.2 v h with q | ⟨v', he, hv, q⟩
    · rw [← q] at h ⊢
      exact ih v h
    · obtain ⟨r, hr⟩ := ih v' hv
      exact ⟨v' :: r, _, _, he, hr, by omega⟩
theorem rx_comp (h0 : ∀ v, X 0 v = if v = s then 1 else 0) (hX : ∀ i, f_rel A (i % A 4 0) (X i) (X (i + 1))) (k : Nat) : ∀ r v c, r.length ≤ k → f_path A s r v c → X (k * A 4 0) v ≠ 0 ∧ X (k * A 4 0) v ≤ c + 1 := by
  induction k with
  | zero =>
    intro r v c hr hp
    rcases r with _ | ⟨v', r⟩
    · obtain ⟨rfl, rfl⟩ := hp
      rw [Nat.zero_mul, h0, if_pos rfl]
      omega
    · exact absurd hr (by simp)
  | succ k ih =>
    intro r v c hr hp
    rcases r with _ | ⟨v', r⟩
    · obtain ⟨rfl, rfl⟩ := hp
      have h1 : X 0 v ≠ 0 := by rw [h0, if_pos rfl]; decide
      obtain ⟨h2, h3⟩ := rx_mono hX 0 ((k + 1) * A 4 0) v h1
      rw [Nat.zero_add] at h2 h3
      rw [h0, if_pos rfl] at h3
      exact ⟨h2, h3⟩
    · obtain ⟨j, c', he, hp', rfl⟩ := hp
      obtain ⟨h1, h2⟩ := ih r v' c' (by simpa using hr) hp'
      have hj := he.1
      obtain ⟨h3, h4⟩ := rx_mono hX (k * A 4 0) j v' h1
      have hm : (k * A 4 0 + j) % A 4 0 = j := by rw [Nat.add_comm, Nat.add_mul_mod_self_right, Nat.mod_eq_of_lt hj]
      have hr1 := hX (k * A 4 0 + j)
      rw [hm] at hr1
      obtain ⟨h5, h6⟩ := hr1.2.1 v' v he h3
      obtain ⟨h7, h8⟩ := rx_mono hX (k * A 4 0 + j + 1) (A 4 0 - (j + 1)) v h5
      have e9 : k * A 4 0 + j + 1 + (A 4 0 - (j + 1)) = (k + 1) * A 4 0 := by rw [Nat.succ_mul]; omega
      rw [e9] at h7 h8
      exact ⟨h7, by omega⟩
/-- after seven rounds or more a table holds the least costs -/
theorem rx_least (hW : ∀ j, j < A 4 0 → A 5 j < 8 ∧ A 6 j < 8) (hs : s < 8) (h0 : ∀ v, X 0 v = if v = s then 1 else 0) (hX : ∀ i, f_rel A (i % A 4 0) (X i) (X (i + 1))) {k : Nat} (hk : 7 ≤ k) {r : List Nat} {v c : Nat} (hp : f_path A s r v c) : X (k * A 4 0) v ≠ 0 ∧ X (k * A 4 0) v ≤ c + 1 := by
  obtain ⟨r', c', h1, h2, h3⟩ := f_path_nd r v c hp
  have h4 := f_nd_len _ (f_path_8 hW hs r' v c' h1) h3
  have h5 : r'.length ≤ k := by
    have : (v :: r').length = r'.length + 1 := rfl
    omega
  obtain ⟨h6, h7⟩ := rx_comp h0 hX k r' v c' h5 h1
  exact ⟨h6, by omega⟩
end CP
/-- two such tables, one from s and one from o, say the same of the way between them -/
theorem rx_same {A : ab_A} {s o : Nat} {X Y : Nat → Nat → Nat} (hW : ∀ j, j < A 4 0 → A 5 j < 8 ∧ A 6 j < 8) (hs : s < 8) (ho : o < 8) (hX0 : ∀ v, X 0 v = if v = s then 1 else 0) (hX : ∀ i, f_rel A (i % A 4 0) (X i) (X (i + 1))) (hY0 : ∀ v, Y 0 v = if v = o then 1 else 0) (hY : ∀ i, f_rel A (i % A 4 0) (Y i) (Y (i + 1))) {k k' : Nat} (hk : 7 ≤ k) (hk' : 7 ≤ k') : X (k * A 4 0) o = Y (k' * A 4 0) s := by
  have h1 : X (k * A 4 0) o ≠ 0 → Y (k' * A 4 0) s ≠ 0 ∧ Y (k' * A 4 0) s ≤ X (k * A 4 0) o := by
    intro h
    obtain ⟨r, hr⟩ := rx_sound hX0 hX _ o h
    obtain ⟨r', hr'⟩ := f_path_rev r o _ hr
    obtain ⟨h2, h3⟩ := rx_least hW ho hY0 hY hk' hr'
    exact ⟨h2, by omega⟩
  have h2 : Y (k' * A 4 0) s ≠ 0 → X (k * A 4 0) o ≠ 0 ∧ X (k * A 4 0) o ≤ Y (k' * A 4 0) s := by
    intro h
    obtain ⟨r, hr⟩ := rx_sound hY0 hY _ s h
    obtain ⟨r', hr'⟩ := f_path_rev r s _ hr
    obtain ⟨h2, h3⟩ := rx_least hW hs hX0 hX hk hr'
    exact ⟨h2, by omega⟩
  omega
/-- the reference's step -/
def f_ms (A : ab_A) (j : Nat) (T : Nat → Nat) : Nat → Nat := fun i =>
  if A 9 j ≠ 0 ∧ T (A 6 j) ≠ 0 ∧ (T (A 5 j) = 0 ∨ T (A 6 j) - 1 + f_cost A j < T (A 5 j) - 1) then (if i = A 5 j then T (A 6 j) - 1 + f_cost A j + 1 else T i)
  else if A 9 j ≠ 0 ∧ T (A 5 j) ≠ 0 ∧ (T (A 6 j) = 0 ∨ T (A 5 j) - 1 + f_cost A j < T (A 6 j) - 1) then (if i = A 6 j then T (A 5 j) - 1 + f_cost A j + 1 else T i)
  else T i
def f_mr (A : ab_A) (o : Nat) : Nat → Nat → Nat
  | 0 => fun i => if i = o then 1 else 0
  | r + 1 => f_ms A (r % A 4 0) (f_mr A o r)
/-- the class's: one way of one canal, and both -/
def f_xw (T : Nat → Nat) (a b c : Nat) : Nat → Nat := fun i => if T a ≠ 0 ∧ (T b = 0 ∨ T a - 1 + c < T b - 1) then (if i = b then T a - 1 + c + 1 else T i) else T i
def f_cs (A : ab_A) (j : Nat) (T : Nat → Nat) : Nat → Nat := if A 9 j ≠ 0 then f_xw (f_xw T (A 5 j) (A 6 j) (f_cost A j)) (A 6 j) (A 5 j) (f_cost A j) else T
def f_cr (A : ab_A) (s : Nat) : Nat → Nat → Nat
  | 0 => fun i => if i = s then 1 else 0
  | r + 1 => f_cs A (r % A 4 0) (f_cr A s r)
theorem f_rel_id {A : ab_A} {j : Nat} {T : Nat → Nat} (h : ¬ (j < A 4 0 ∧ A 9 j ≠ 0)) : f_rel A j T T := ⟨fun _ h => ⟨h, Nat.le_refl _⟩, fun _ _ he => absurd ⟨he.1, he.2.1⟩ h, fun _ _ => Or.inl rfl⟩
theorem f_ms_rel {A : ab_A} {j : Nat} (hj : j < A 4 0) (hne : A 5 j ≠ A 6 j) (T : Nat → Nat) : f_rel A j T (f_ms A j T) := by
  by_cases h9 : A 9 j ≠ 0
  · refine ⟨?_, ?_, ?_⟩
    · intro v hv
      unfold f_ms
      by_cases h5 : v = A 5 j
      · subst h5
        simp only [if_true, if_neg hne]
        (repeat' split) <;> omega
      · by_cases h6 : v = A 6 j
        · subst h6
          simp only [if_true, if_neg h5]
          (repeat' split) <;> omega
        · simp only [if_neg h5, if_neg h6, ite_self]
          omega
    · rintro v' v ⟨-, -, ⟨rfl, rfl⟩ | ⟨rfl, rfl⟩⟩ hv
      · unfold f_ms
        simp only [if_true, if_neg (Ne.symm hne)]
        (repeat' split) <;> omega
      · unfold f_ms
        simp only [if_true, if_neg hne]
        (repeat' split) <;> omega
    · intro v hv
      have e56 : f_edge A j (A 5 j) (A 6 j) := ⟨hj, h9, Or.inl ⟨rfl, rfl⟩⟩
      have e65 : f_edge A j (A 6 j) (A 5 j) := ⟨hj, h9, Or.inr ⟨rfl, rfl⟩⟩
      unfold f_ms at hv ⊢
      split
      · rename_i q
        split
        · rename_i q2
          subst q2
          exact Or.inr ⟨_, e65, q.2.1, by omega⟩
        · exact Or.inl rfl
      · split
        · rename_i q
          split
          · rename_i q2
            subst q2
            exact Or.inr ⟨_, e56, q.2.1, by omega⟩
          · exact Or.inl rfl
        · exact Or.inl rfl
  · have e : f_ms A j T = T := by
      funext i
      unfold f_ms
      rw [if_neg (fun q => h9 q.1), if_neg (fun q => h9 q.1)]
    rw [e]
    exact f_rel_id (fun q => h9 q.2)
theorem f_cs_rel {A : ab_A} {j : Nat} (hj : j < A 4 0) (hne : A 5 j ≠ A 6 j) (T : Nat → Nat) : f_rel A j T (f_cs A j T) := by
  by_cases h9 : A 9 j ≠ 0
  · have e : f_cs A j T = f_xw (f_xw T (A 5 j) (A 6 j) (f_cost A j)) (A 6 j) (A 5 j) (f_cost A j) := if_pos h9
    rw [e]
    have hmo : ∀ (U : Nat → Nat) (a b c v : Nat), U v ≠ 0 → f_xw U a b c v ≠ 0 ∧ f_xw U a b c v ≤ U v := by
      intro U a b c v hv
      unfold f_xw
      split
      · split
        · rename_i q q2
          subst q2
          omega
        · omega
      · omega
    have hgo : ∀ (U : Nat → Nat) (a b c : Nat), U a ≠ 0 → f_xw U a b c b ≠ 0 ∧ f_xw U a b c b ≤ U a + c := by
      intro U a b c ha
      unfold f_xw
      rw [if_pos rfl]
      split <;> omega
    have hso : ∀ (U : Nat → Nat) (a b c v : Nat), f_xw U a b c v ≠ 0 → U v = f_xw U a b c v ∨ (v = b ∧ U a ≠ 0 ∧ f_xw U a b c v = U a + c) := by
      intro U a b c v hv
      unfold f_xw
      split
      · split
        · rename_i q q2
          exact Or.inr ⟨q2, q.1, by omega⟩
        · exact Or.inl rfl
      · exact Or.inl rfl
    have e56 : f_edge A j (A 5 j) (A 6 j) := ⟨hj, h9, Or.inl ⟨rfl, rfl⟩⟩
    have e65 : f_edge A j (A 6 j) (A 5 j) := ⟨hj, h9, Or.inr ⟨rfl, rfl⟩⟩
    refine ⟨?_, ?_, ?_⟩
    · intro v hv
      obtain ⟨h1, h2⟩ := hmo T (A 5 j) (A 6 j) (f_cost A j) v hv
      obtain ⟨h3, h4⟩ := hmo _ (A 6 j) (A 5 j) (f_cost A j) v h1
      exact ⟨h3, by omega⟩
    · rintro v' v ⟨-, -, ⟨rfl, rfl⟩ | ⟨rfl, rfl⟩⟩ hv
      · obtain ⟨h1, h2⟩ := hgo T (A 5 j) (A 6 j) (f_cost A j) hv
        obtain ⟨h3, h4⟩ := hmo _ (A 6 j) (A 5 j) (f_cost A j) _ h1
        exact ⟨h3, by omega⟩
      · obtain ⟨h1, h2⟩ := hmo T (A 5 j) (A 6 j) (f_cost A j) _ hv
        obtain ⟨h3, h4⟩ := hgo _ (A 6 j) (A 5 j) (f_cost A j) h1
        exact ⟨h3, by omega⟩
    · intro v hv
      rcases hso _ _ _ _ v hv with q | ⟨rfl, q2, q3⟩
      · rw [← q] at hv ⊢
        rcases hso _ _ _ _ v hv with r | ⟨rfl, r2, r3⟩
        · exact Or.inl r
        · exact Or.inr ⟨_, e56, r2, r3⟩
      · have hT6 : f_xw T (A 5 j) (A 6 j) (f_cost A j) (A 6 j) = T (A 6 j) ∨ (T (A 5 j) ≠ 0 ∧ (f_xw T (A 5 j) (A 6 j) (f_cost A j) (A 6 j)) = T (A 5 j) + f_cost A j) := by
          rcases hso _ _ _ _ (A 6 j) q2 with r | ⟨-, r2, r3⟩
          · exact Or.inl r.symm
          · exact Or.inr ⟨r2, r3⟩
        rcases hT6 with r | ⟨r2, r3⟩
        · rw [r] at q2 q3
          exact Or.inr ⟨_, e65, q2, q3⟩
        · -- then nothing was gained: the basin above has less already
          left
          have hk : f_xw T (A 5 j) (A 6 j) (f_cost A j) (A 5 j) = T (A 5 j) := by
            unfold f_xw
            rw [if_neg hne, ite_self]
          have hm := hmo (f_xw T (A 5 j) (A 6 j) (f_cost A j)) (A 6 j) (A 5 j) (f_cost A j) (A 5 j) (by rw [hk]; exact r2)
          rw [hk] at hm
          omega
  · have e : f_cs A j T = T := if_neg h9
    rw [e]
    exact f_rel_id (fun q => h9 q.2)
theorem f_mr_rel {A : ab_A} (o : Nat) (hW : ∀ j, j < A 4 0 → A 5 j ≠ A 6 j) (hn : A 4 0 ≠ 0) (i : Nat) : f_rel A (i % A 4 0) (f_mr A o i) (f_mr A o (i + 1)) := by
  have hj := Nat.mod_lt i (Nat.pos_of_ne_zero hn)
  exact f_ms_rel hj (hW _ hj) _
theorem f_cr_rel {A : ab_A} (o : Nat) (hW : ∀ j, j < A 4 0 → A 5 j ≠ A 6 j) (hn : A 4 0 ≠ 0) (i : Nat) : f_rel A (i % A 4 0) (f_cr A o i) (f_cr A o (i + 1)) := by
  have hj := Nat.mod_lt i (Nat.pos_of_ne_zero hn)
  exact f_cs_rel hj (hW _ hj) _
theorem f_cheap_same {A : ab_A} (hI : ab_I A) {s o : Nat} (hs : s < 8) (ho : o < 8) : f_cr A s (7 * A 4 0) o = f_mr A o (8 * A 4 0) s := by
  have hW := hI.2.2.2.2.1
  by_cases hn : A 4 0 = 0
  · rw [hn]
    show (if o = s then 1 else 0) = (if s = o then 1 else 0)
    by_cases q : o = s
    · rw [if_pos q, if_pos q.symm]
    · rw [if_neg q, if_neg (Ne.symm q)]
  · exact rx_same (fun j hj => ⟨(hW j hj).1, (hW j hj).2.1⟩) hs ho (fun _ => rfl) (f_cr_rel s (fun j hj => (hW j hj).2.2.1) hn) (fun _ => rfl) (f_mr_rel o (fun j hj => (hW j hj).2.2.1) hn) (by decide) (by decide)
theorem f_cost_le {A : ab_A} (hI : ab_I A) {j : Nat} (hj : j < A 4 0) : f_cost A j ≤ 29 := by
  have h1 := f_dear_le A (A 5 j)
  have h2 := f_dear_le A (A 6 j)
  have h3 := (hI.2.2.2.2.1 j hj).2.2.2.2.1
  unfold f_cost
  omega
theorem f_mr_le {A : ab_A} (hI : ab_I A) (hn : A 4 0 ≠ 0) (o r : Nat) : ∀ i, f_mr A o r i ≤ 1 + 29 * r := by
  induction r with
  | zero =>
    intro i
    show (if i = o then 1 else 0) ≤ 1
    split <;> omega
  | succ r ih =>
    intro i
    have hc := f_cost_le hI (Nat.mod_lt r (Nat.pos_of_ne_zero hn))
    have h1 := ih i
    have h2 := ih (A 5 (r % A 4 0))
    have h3 := ih (A 6 (r % A 4 0))
    show f_ms A (r % A 4 0) (f_mr A o r) i ≤ _
    unfold f_ms
    (repeat' split) <;> omega
theorem f_xw_le {T : Nat → Nat} {a b c N : Nat} (hc : c ≤ 29) (h : ∀ i, T i ≤ N) : ∀ i, f_xw T a b c i ≤ N + 29 := by
  intro i
  have h1 := h i
  have h2 := h a
  unfold f_xw
  (repeat' split) <;> omega
theorem f_cr_le {A : ab_A} (hI : ab_I A) (hn : A 4 0 ≠ 0) (o r : Nat) : ∀ i, f_cr A o r i ≤ 1 + 58 * r := by
  induction r with
  | zero =>
    intro i
    show (if i = o then 1 else 0) ≤ 1
    split <;> omega
  | succ r ih =>
    have hc := f_cost_le hI (Nat.mod_lt r (Nat.pos_of_ne_zero hn))
    intro i
    show f_cs A (r % A 4 0) (f_cr A o r) i ≤ _
    unfold f_cs
    split
    · have := f_xw_le (a := A 6 (r % A 4 0)) (b := A 5 (r % A 4 0)) hc (f_xw_le (a := A 5 (r % A 4 0)) (b := A 6 (r % A 4 0)) hc ih) i
      omega
    · have := ih i
      omega
def f_cm (A : ab_A) (o r : Nat) : ab_A := fun k i => if k = 13 ∧ i < 8 then f_mr A o r i else A k i
def q_cheapest (A : ab_A) (x y : Int32) : sp_R := match ix 8 x, ix 8 y with
  | some b, some o => (0, nI (if f_mr A o (8 * A 4 0) b ≤ 41 then f_mr A o (8 * A 4 0) b else 0) + (-1), f_cm A o (8 * A 4 0))
  | _, _ => (1, 0, A)
theorem I_qcheapest {A : ab_A} (hI : ab_I A) (x y : Int32) : ab_I (q_cheapest A x y).2.2 := by
  unfold q_cheapest
  split
  · refine I_tab hI (fun k h => ?_) ?_
    · funext i
      simp [f_cm, h.2.2.1]
    · intro b o hb ho
      exact hI.2.2.2.2.2.1 b o hb ho
  · exact hI
