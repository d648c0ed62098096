/-! WHAT EACH STEP LEAVES -/
theorem L_ext {A A' : ab_A} {F F' : Nat → Nat → Int32} {M M' : Nat} (h : zLI A F M) (hI : ab_I A') (hJ : ab_J A') (hM : sm (A' 0) 8 + A' 10 0 ≤ M') (hM2 : M' ≤ 1000000) (hk : ∀ k, (k = 4 ∨ k = 5 ∨ k = 6 ∨ k = 7 ∨ k = 8 ∨ k = 9 ∨ k = 15 ∨ k = 16 ∨ k = 17 ∨ k = 18 ∨ k = 19) → A' k = A k) (f0 : F' 0 = F 0) (f1 : F' 1 = F 1) (f2 : F' 2 = F 2) : zLI A' F' M' := by
  obtain ⟨-, -, -, hG, hB, hc0, hc1, hc2⟩ := h
  have e4 := hk 4 (by omega)
  have e15 := hk 15 (by omega)
  refine ⟨hI, hJ, ⟨hM, hM2⟩, fun j hj => ?_, fun k hk2 => ?_, ?_, ?_, ?_⟩
  · rw [e4] at hj
    rw [f0, hG j hj]
    unfold f_code
    rw [hk 5 (by omega), hk 6 (by omega), hk 7 (by omega), hk 8 (by omega), hk 9 (by omega)]
  · rw [e15] at hk2
    rw [f1, hk 17 (by omega), hk 18 (by omega), hk 19 (by omega)]
    exact hB k hk2
  · rw [f2, e4]; exact hc0
  · rw [f2, e15]; exact hc1
  · rw [f2, hk 16 (by omega)]; exact hc2
theorem L_set {A : ab_A} {F : Nat → Nat → Int32} {M : Nat} (h : zLI A F M) : zLI (f_tick A) (Fn F A 64) M := by
  obtain ⟨hI, hJ, ⟨hM, hM2⟩, -⟩ := id h
  refine L_ext h (I_tick hI) (J_tick hJ) ?_ hM2 (fun k hk => f_tick_k A (by omega)) (Fn_k F A (by decide) (by decide)) (Fn_k F A (by decide) (by decide)) (Fn_k F A (by decide) (by decide))
  rw [f_tick_k A (k := 0) (by decide), f_tick_k A (k := 10) (by decide)]
  exact hM
theorem L_ticks {A : ab_A} {F : Nat → Nat → Int32} {M : Nat} (h : zLI A F M) (t : Nat) : zLI (f_ticks A t) F M := by
  obtain ⟨hI, hJ, ⟨hM, hM2⟩, -⟩ := id h
  refine L_ext h (I_ticks hI t) (J_ticks hJ t) ?_ hM2 (fun k hk => f_ticks_k A t (by omega)) rfl rfl rfl
  rw [f_ticks_k A t (k := 0) (by decide), f_ticks_k A t (k := 10) (by decide)]
  exact hM
theorem L_not {A B : ab_A} {F : Nat → Nat → Int32} {M : Nat} (h : zLI A F M) : zLI A (Fn F B 64) M := by
  obtain ⟨hI, hJ, ⟨hM, hM2⟩, -⟩ := id h
  exact L_ext h hI hJ hM hM2 (fun k hk => rfl) (Fn_k F B (by decide) (by decide)) (Fn_k F B (by decide) (by decide)) (Fn_k F B (by decide) (by decide))
theorem L_mark {A : ab_A} {F : Nat → Nat → Int32} {M b k : Nat} (h : zLI A F M) (h1 : 1 ≤ k) (h2 : k ≤ 6) : zLI (au A 1 b k) F M := by
  obtain ⟨hI, hJ, ⟨hM, hM2⟩, -⟩ := id h
  refine L_ext h (I_mark hI h1 h2) (J_1 hJ (by omega)) ?_ hM2 (fun k hk => au_k A (by omega)) rfl rfl rfl
  rw [au_k A (k' := 0) (by decide), au_k A (k' := 10) (by decide)]
  exact hM
theorem L_rain {A : ab_A} {F : Nat → Nat → Int32} {M b n : Nat} (h : zLI A F M) (hb : b < 8) (hn : n ≤ 200) (hM9 : M + 200 ≤ 1000000) : zLI (f_pour A b n) F (M + 200) := by
  obtain ⟨hI, hJ, ⟨hM, hM2⟩, -⟩ := id h
  refine L_ext h (I_pour hI b n) (J_pour hJ b n) ?_ hM9 (fun k hk => f_pour_k A b n (by omega) (by omega)) rfl rfl rfl
  have e10 : f_pour A b n 10 0 = A 10 0 + (A 0 b + n - 200) := rfl
  have e0 : ∀ i, f_pour A b n 0 i = if i = b then (if 200 < A 0 b + n then 200 else A 0 b + n) else A 0 i := fun i => f_pour_0 A b n i
  have h9 := sm_one (f := f_pour A b n 0) (g := A 0) (n := 8) (k := b) hb (fun i _ hi => by rw [e0, if_neg hi])
  have h8 := e0 b
  rw [if_pos rfl] at h8
  rw [e10]
  split at h8 <;> omega
theorem L_dry {A : ab_A} {F : Nat → Nat → Int32} {M : Nat} (h : zLI A F M) (d : Nat) : zLI (f_dry A d 8) F M := by
  obtain ⟨hI, hJ, ⟨hM, hM2⟩, -⟩ := id h
  refine L_ext h (I_dry hI d 8) (J_dry hJ d 8) ?_ hM2 (fun k hk => f_dry_k A d 8 (by omega)) rfl rfl rfl
  rw [f_dry_k A d 8 (k := 10) (by decide)]
  have h9 := sm_mono (f := f_dry A d 8 0) (g := A 0) (n := 8) (fun i hi => by
    rw [f_dry_at A d hi]
    have h5 := (hI.1 i hi).1
    unfold f_left
    split <;> omega)
  omega
theorem L_dig {A : ab_A} {F : Nat → Nat → Int32} {M u v c d : Nat} (h : zLI A F M) (hu : u < 8) (hv : v < 8) (huv : u ≠ v) (hc : 1 ≤ c) (hc2 : c ≤ 9) (hd : d ≤ 9) (h14 : A 4 0 ≠ 14) : zLI (f_dig A u v c d) (Fu (Fu F 0 (A 4 0) (nI (u + v * 2 ^ 3 + c * 2 ^ 6 + d * 2 ^ 10 + 16384))) 2 0 (nI (A 4 0 + 1))) M := by
  obtain ⟨hI, hJ, ⟨hM, hM2⟩, hG, hB, hc0, hc1, hc29⟩ := h
  have e4 : f_dig A u v c d 4 0 = A 4 0 + 1 := by simp [f_dig, au]
  have ek : ∀ k, (k = 0 ∨ k = 10 ∨ k = 15 ∨ k = 16 ∨ k = 17 ∨ k = 18 ∨ k = 19) → f_dig A u v c d k = A k := by
    rintro k (rfl | rfl | rfl | rfl | rfl | rfl | rfl) <;> (funext i; simp [f_dig, au])
  have e5 : ∀ i, f_dig A u v c d 5 i = if i = A 4 0 then u else A 5 i := fun i => by simp [f_dig, au]
  have e6 : ∀ i, f_dig A u v c d 6 i = if i = A 4 0 then v else A 6 i := fun i => by simp [f_dig, au]
  have e7 : ∀ i, f_dig A u v c d 7 i = if i = A 4 0 then c else A 7 i := fun i => by simp [f_dig, au]
  have e8 : ∀ i, f_dig A u v c d 8 i = if i = A 4 0 then d else A 8 i := fun i => by simp [f_dig, au]
  have e9 : ∀ i, f_dig A u v c d 9 i = if i = A 4 0 then 1 else A 9 i := fun i => by simp [f_dig, au]
  refine ⟨I_dig hI hu hv huv hc hc2 hd h14, J_dig hJ u v c d, ⟨by rw [ek 0 (by omega), ek 10 (by omega)]; exact hM, hM2⟩, fun j hj => ?_, fun k hk => ?_, ?_, ?_, ?_⟩
  · rw [Fu_k _ _ _ (by decide)]
    unfold f_code
    rw [e5, e6, e7, e8, e9]
    by_cases hj4 : j = A 4 0
    · subst hj4
      rw [Fu_s, if_pos rfl, if_pos rfl, if_pos rfl, if_pos rfl, if_pos rfl]
      congr 1
      omega
    · rw [Fu_i _ _ hj4, if_neg hj4, if_neg hj4, if_neg hj4, if_neg hj4, if_neg hj4]
      exact hG j (by omega)
  · rw [Fu_k _ _ _ (by decide), Fu_k _ _ _ (by decide)]
    rw [ek 15 (by omega)] at hk
    rw [ek 17 (by omega), ek 18 (by omega), ek 19 (by omega)]
    exact hB k hk
  · rw [Fu_s, e4]
  · rw [Fu_i _ _ (by decide), Fu_k _ _ _ (by decide), ek 15 (by omega)]; exact hc1
  · rw [Fu_i _ _ (by decide), Fu_k _ _ _ (by decide), ek 16 (by omega)]; exact hc29
theorem L_gate {A : ab_A} {F : Nat → Nat → Int32} {M k v : Nat} (h : zLI A F M) (hk : k < A 4 0) (hv : v ≤ 1) : zLI (au A 9 k v) (Fu F 0 k (nI (f_code A k % 2 ^ 14 + v * 2 ^ 14))) M := by
  obtain ⟨hI, hJ, ⟨hM, hM2⟩, hG, hB, hc0, hc1, hc29⟩ := h
  have ek : ∀ k', k' ≠ 9 → au A 9 k v k' = A k' := fun k' hk' => au_k A hk'
  refine ⟨I_gate hI hv, J_1 hJ (by omega), ⟨by rw [ek 0 (by decide), ek 10 (by decide)]; exact hM, hM2⟩, fun j hj => ?_, fun k hk => ?_, ?_, ?_, ?_⟩
  · rw [ek 4 (by decide)] at hj
    by_cases hjk : j = k
    · subst hjk
      rw [Fu_s]
      obtain ⟨g1, g2, g3, g4, g5, g6, g7⟩ := hI.2.2.2.2.1 j hj
      unfold f_code
      rw [ek 5 (by decide), ek 6 (by decide), ek 7 (by decide), ek 8 (by decide), au_s]
      congr 1
      omega
    · rw [Fu_i _ _ hjk, hG j hj]
      unfold f_code
      rw [ek 5 (by decide), ek 6 (by decide), ek 7 (by decide), ek 8 (by decide), au_i A hjk]
  · rw [ek 15 (by decide)] at hk
    rw [Fu_k _ _ _ (by decide), ek 17 (by decide), ek 18 (by decide), ek 19 (by decide)]
    exact hB k hk
  · rw [Fu_k _ _ _ (by decide), ek 4 (by decide)]; exact hc0
  · rw [Fu_k _ _ _ (by decide), ek 15 (by decide)]; exact hc1
  · rw [Fu_k _ _ _ (by decide), ek 16 (by decide)]; exact hc29
theorem dry_lt {a b : Nat} (ha : a < 2 ^ 20) (hb : b < 2 ^ 20) (h : a < 5 + b) : (nI a - nI b : Int32) < nI 5 := by
  by_cases hab : a < b
  · exact Int32.lt_trans (pk_sneg (by omega) hab) (by decide)
  · rw [pk_sub (by omega)]
    exact nI_lt (by omega) (by decide)
