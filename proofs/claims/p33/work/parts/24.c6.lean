section HLC
variable {p : Program} {l : Launch} {e : Env} {R : Room} {s : State} {m : MethodId} {args : Array Value} {below : List Frame} {meth : Method} {c : Code} {w : hv_W} {nL : Nat} {Q : State → Prop} {pc : Nat} {st : List Value}
theorem hv_loopC (n : Nat) (cJ sJ : Nat → Nat) (YJ : Nat → hv_H) (lvJ : Nat → List (Nat × Value)) (hx : hv_V p l e R s m args below meth c w nL Q (cJ n) (sJ n) (YJ n) (lvJ n) pc st) (hs : ∀ i : Nat, i < n → hv_V p l e R s m args below meth c w nL Q (cJ (i + 1)) (sJ (i + 1)) (YJ (i + 1)) (lvJ (i + 1)) pc st → hv_V p l e R s m args below meth c w nL Q (cJ i) (sJ i) (YJ i) (lvJ i) pc st) : hv_V p l e R s m args below meth c w nL Q (cJ 0) (sJ 0) (YJ 0) (lvJ 0) pc st := by
  have key : ∀ d : Nat, d ≤ n → hv_V p l e R s m args below meth c w nL Q (cJ (n - d)) (sJ (n - d)) (YJ (n - d)) (lvJ (n - d)) pc st := by
    intro d
    induction d with
    | zero => intro _; exact hx
    | succ d ih =>
      intro h
      exact hs (n - (d + 1)) (by omega) (by rw [show n - (d + 1) + 1 = n - d by omega]; exact ih (by omega))
  have h9 := key n (Nat.le_refl n)
  rw [Nat.sub_self] at h9
  exact h9
end HLC
theorem cl_q0 {ad : Nat → Nat → Nat} {A : ab_A} {b z : Nat} (h : A 2 b ≠ 0) (hz : A 3 (6 * b) = z) : (List.range (A 2 b)).map (fun k => ad 14 (A 3 (6 * b + k))) = ad 14 z :: (List.range (A 2 b - 1)).map (fun k => ad 14 (A 3 (6 * b + (k + 1)))) := by
  subst hz
  obtain ⟨m, hm⟩ : ∃ m, A 2 b = m + 1 := ⟨A 2 b - 1, by omega⟩
  rw [hm, Nat.add_sub_cancel, List.range_succ_eq_map, List.map_cons, List.map_map]
  rfl
theorem cl_map {n : Nat} {f f' : Nat → Nat} (h : ∀ k, k < n → f' k = f k) : (List.range n).map f' = (List.range n).map f := List.map_congr_left (fun k hk => h k (List.mem_range.mp hk))
theorem cl_shift {w : hv_W} {g : cl_g} {A Z : ab_A} {Y0 : hv_H} {n k b : Nat} (hg : cl_ok g n k) (hb : b < 8) (h2 : ∀ i, i < 8 → A 2 i ≤ 6) : hv_up (cl_Y w g A Z Y0) (g.1 6 b) (.inr ((List.range (A 2 b - 1)).map (fun k => g.1 14 (A 3 (6 * b + (k + 1)))))) = cl_Y w g (f_shift A b) Z Y0 := by
  have hin : cl_in n k 6 b := Or.inr (Or.inl ⟨by decide, by decide, hb⟩)
  have hb2 := h2 b hb
  refine cl_up hg hin ?_ ?_
  · have e2 : f_shift A b 2 b = A 2 b - 1 := by simp [f_shift]
    show Sum.inr ((List.range (f_shift A b 2 b)).map (fun k => g.1 14 (f_shift A b 3 (6 * b + k)))) = _
    rw [e2]
    congr 1
    refine cl_map (fun q hq => ?_)
    have : f_shift A b 3 (6 * b + q) = A 3 (6 * b + q + 1) := by
      simp [f_shift]
      omega
    rw [this]
    rfl
  · intro kd' i' hin' hne
    unfold cl_cell
    split <;> first | with_reducible rfl | rfl | skip
    have hi8 : i' < 8 := by unfold cl_in at hin'; omega
    have hib : i' ≠ b := fun q => hne ⟨rfl, q⟩
    have hi2 := h2 i' hi8
    have e2 : f_shift A b 2 i' = A 2 i' := by simp [f_shift, hib]
    rw [e2]
    congr 1
    refine cl_map (fun q hq => ?_)
    have : f_shift A b 3 (6 * i' + q) = A 3 (6 * i' + q) := by
      simp only [f_shift]
      rw [if_neg (by omega), if_neg (by omega)]
    rw [this]
theorem cl_joinY {w : hv_W} {g : cl_g} {A Z : ab_A} {Y0 : hv_H} {n k b j : Nat} (hg : cl_ok g n k) (hb : b < 8) (h2 : ∀ i, i < 8 → A 2 i ≤ 6) (hb5 : A 2 b < 6) : hv_up (cl_Y w g A Z Y0) (g.1 6 b) (.inr ((List.range (A 2 b)).map (fun k => g.1 14 (A 3 (6 * b + k))) ++ [g.1 14 j])) = cl_Y w g (f_join A j b) Z Y0 := by
  have hin : cl_in n k 6 b := Or.inr (Or.inl ⟨by decide, by decide, hb⟩)
  refine cl_up hg hin ?_ ?_
  · have e2 : f_join A j b 2 b = A 2 b + 1 := by simp [f_join, au]
    show Sum.inr ((List.range (f_join A j b 2 b)).map (fun k => g.1 14 (f_join A j b 3 (6 * b + k)))) = _
    rw [e2, List.range_succ, List.map_append]
    congr 2
    · refine cl_map (fun q hq => ?_)
      have : f_join A j b 3 (6 * b + q) = A 3 (6 * b + q) := by
        show (if 6 * b + q = 6 * b + A 2 b then j else A 3 (6 * b + q)) = _
        rw [if_neg (by omega)]
      rw [this]
    · show [g.1 14 (if 6 * b + A 2 b = 6 * b + A 2 b then j else _)] = _
      rw [if_pos rfl]
  · intro kd' i' hin' hne
    unfold cl_cell
    split <;> first | with_reducible rfl | rfl | skip
    have hi8 : i' < 8 := by unfold cl_in at hin'; omega
    have hib : i' ≠ b := fun q => hne ⟨rfl, q⟩
    have hi2 := h2 i' hi8
    have e2 : f_join A j b 2 i' = A 2 i' := by simp [f_join, au, hib]
    rw [e2]
    congr 1
    refine cl_map (fun q hq => ?_)
    have : f_join A j b 3 (6 * i' + q) = A 3 (6 * i' + q) := by
      show (if 6 * i' + q = 6 * b + A 2 b then j else A 3 (6 * i' + q)) = _
      rw [if_neg (by omega)]
    rw [this]
theorem au_same {A : ab_A} {k i v : Nat} (h : A k i = v) : au A k i v = A := by
  funext k' i'
  unfold au
  by_cases hk : k' = k
  · rw [if_pos hk]
    by_cases hi : i' = i
    · rw [if_pos hi, hk, hi, h]
    · rw [if_neg hi]
  · rw [if_neg hk]
theorem au_au {A : ab_A} {k i v v' : Nat} : au (au A k i v) k i v' = au A k i v' := by
  funext k' i'
  unfold au
  by_cases hk : k' = k
  · rw [if_pos hk, if_pos hk, if_pos hk]
    by_cases hi : i' = i
    · rw [if_pos hi, if_pos hi]
    · rw [if_neg hi, if_neg hi, if_neg hi]
  · rw [if_neg hk, if_neg hk, if_neg hk]
theorem lock_c (A : ab_A) (j : Nat) : au (au (f_lock A j) 10 0 (A 10 0)) 10 0 (A 10 0 + (f_lock A j 10 0 - A 10 0)) = f_lock A j := by
  rw [au_au]
  refine au_same ?_
  have : A 10 0 ≤ f_lock A j 10 0 := Nat.le_add_right _ _
  omega
set_option maxRecDepth 100000 in
set_option maxHeartbeats 4000000 in
theorem c_X4_sendFirst (l : Launch) (w : hv_W) (g : cl_g) (A Z : ab_A) (Y0 : hv_H) (hg : cl_ok g (A 4 0) (A 15 0)) (hI : ab_I A) (hZ : cl_Z A Z) (b : Nat) (hb : b < 8) (h1t : 1 ≤ A 16 0) : hv_Mr l yX4_sendFirst wsX4_sendFirst ({ frames := 7, cells := 1, slots := 10, locals := 171 }) w [.ref (g.1 0 0), .ref (g.1 5 b)] (cl_Y w g A Z Y0) (fun r Y1 => r = .int (nI (b2 (f_way A b ≠ 0))) ∧ Y1 = cl_Y w g (f_send A b) Z Y0) := by
  refine hv_ofV (cc := cX4_sendFirst) (own := RX4) (by decide) rfl rfl (Nat.le_of_ble_eq_true rfl) rfl ?_
  intro p e s m below meth c C hret hnm
  have hinX0 : ∀ x ∈ wsX00, x ∈ wsX4_sendFirst := by decide +kernel
  have hinX1 : ∀ x ∈ wsX10, x ∈ wsX4_sendFirst := by decide +kernel
  have hinX4 : ∀ x ∈ wsX40, x ∈ wsX4_sendFirst := by decide +kernel
  obtain ⟨i1, i2, i2b, i3, i4, i5, i6, i7, i8, i9⟩ := hI
  have hm6 := i1 b hb
  have hI : ab_I A := ⟨i1, i2, i2b, i3, i4, i5, i6, i7, i8, i9⟩
  refine hv_aload_n C dX4_sendFirst_0 rfl 1 rfl ?_
  refine hc_get (kd := 5) (i := b) (f := 1) (v := .ref (g.1 6 b)) C hg (Or.inr (Or.inl ⟨by decide, by decide, by omega⟩)) rfl rfl hinX1 (by decide) (by decide +kernel) rfl rfl dX4_sendFirst_1 ?_
  refine hv_callVr (As := []) (rest := []) (n := 0) C (c_Jx4a65c_isEmpty_aae02 l w (cl_Y w g A Z Y0) (g.1 6 b) ((List.range (A 2 b)).map (fun k => g.1 14 (A 3 (6 * b + k)))) (show cl_Y w g A Z Y0 (g.1 6 b) = some (.inr ((List.range (A 2 b)).map (fun k => g.1 14 (A 3 (6 * b + k))))) from cl_at hg (Or.inr (Or.inl ⟨by decide, by decide, by omega⟩))) (by rw [cl_lenM]; omega)) gX4_sendFirst_Jx4a65c_isEmpty_aae02 rfl (by decide +kernel) ⟨Nat.le_of_ble_eq_true rfl, Nat.le_of_ble_eq_true rfl⟩ (cl_rcL hg (Or.inr (Or.inl ⟨by decide, by decide, by omega⟩)) rfl) rfl rfl (Nat.le_of_ble_eq_true rfl) dX4_sendFirst_4 ⟨by first | exact Nat.le_of_ble_eq_true rfl | omega | (simp; done) | (simp; omega), by first | exact Nat.le_of_ble_eq_true rfl | omega | (simp; done) | (simp; omega)⟩ (fun r1 Y1 hr => ?_)
  obtain ⟨rfl, rfl⟩ := hr
  refine hv_top (y := nI (b2 (A 2 b = 0))) (by rw [cl_lenM]) ?_
  refine hv_ifb_eq (tgt := 12) C dX4_sendFirst_7 (by decide) (fun h2 => ?_) (fun h2 => ?_)
  · skip
    obtain ⟨z, hz⟩ : ∃ z, A 3 (6 * b) = z := ⟨_, rfl⟩
    obtain ⟨a1, a2, a3, a4, a5⟩ := i2 b 0 hb (by omega)
    rw [Nat.add_zero, hz] at a1 a2 a3 a4 a5
    obtain ⟨b1, b9, b3, b4, b5, b6⟩ := i8 z a1
    refine hv_aload_n C dX4_sendFirst_12 rfl 1 rfl ?_
    refine hc_get (kd := 5) (i := b) (f := 1) (v := .ref (g.1 6 b)) C hg (Or.inr (Or.inl ⟨by decide, by decide, by omega⟩)) rfl rfl hinX1 (by decide) (by decide +kernel) rfl rfl dX4_sendFirst_13 ?_
    refine hv_iconst (v := nI 0) C dX4_sendFirst_16 (by decide) ?_
    refine hv_callVr (As := [.int (nI 0)]) (rest := []) (n := 1) C (c_Jx4a65c_get_915e3 l w (cl_Y w g A Z Y0) (g.1 6 b) ((List.range (A 2 b)).map (fun k => g.1 14 (A 3 (6 * b + k)))) (show cl_Y w g A Z Y0 (g.1 6 b) = some (.inr ((List.range (A 2 b)).map (fun k => g.1 14 (A 3 (6 * b + k))))) from cl_at hg (Or.inr (Or.inl ⟨by decide, by decide, by omega⟩))) (by rw [cl_lenM]; omega) 0 (g.1 14 z) ((cl_getM (by omega)).trans (congrArg (fun q => some (g.1 14 q)) hz))) gX4_sendFirst_Jx4a65c_get_915e3 rfl (by decide +kernel) ⟨Nat.le_of_ble_eq_true rfl, Nat.le_of_ble_eq_true rfl⟩ (cl_rcL hg (Or.inr (Or.inl ⟨by decide, by decide, by omega⟩)) rfl) rfl rfl (Nat.le_of_ble_eq_true rfl) dX4_sendFirst_17 ⟨by first | exact Nat.le_of_ble_eq_true rfl | omega | (simp; done) | (simp; omega), by first | exact Nat.le_of_ble_eq_true rfl | omega | (simp; done) | (simp; omega)⟩ (fun r3 Y1 hr => ?_)
    obtain ⟨rfl, rfl⟩ := hr
    refine hv_cast (ci := 1) C rfl ((cl_at hg (Or.inr (Or.inr (Or.inr ⟨Or.inl rfl, by omega⟩)))).trans rfl) (by decide +kernel) dX4_sendFirst_20 ?_
    refine hv_astore_n (lv1 := [(0, .ref (g.1 0 0)), (1, .ref (g.1 5 b)), (2, .ref (g.1 14 z))]) C dX4_sendFirst_23 rfl (by decide) [1, 2, 0] rfl ?_
    refine hv_aload_n C dX4_sendFirst_24 rfl 2 rfl ?_
    refine hc_get (kd := 14) (i := z) (f := 8) (v := .int (nI ((A 24 z) - 1))) C hg (Or.inr (Or.inr (Or.inr ⟨Or.inl rfl, by omega⟩))) rfl rfl hinX0 (by decide) (by decide +kernel) rfl rfl dX4_sendFirst_25 ?_
    refine hv_aload_n C dX4_sendFirst_28 rfl 0 rfl ?_
    refine hc_get (kd := 0) (i := 0) (f := 5) (v := .int (nI (A 16 0))) C hg (Or.inl ⟨by decide, rfl⟩) rfl rfl hinX4 (by decide) (by decide +kernel) rfl rfl dX4_sendFirst_29 ?_
    refine hv_icmpN_ne (tgt := 37) C dX4_sendFirst_32 (by decide) (by omega) (by omega) (fun h4 => ?_) (fun h4 => ?_)
    · skip
      refine hv_aload_n C dX4_sendFirst_37 rfl 1 rfl ?_
      refine hv_aload_n C dX4_sendFirst_38 rfl 2 rfl ?_
      refine hc_get (kd := 14) (i := z) (f := 1) (v := .ref (g.1 5 (A 17 z))) C hg (Or.inr (Or.inr (Or.inr ⟨Or.inl rfl, by omega⟩))) rfl rfl hinX0 (by decide) (by decide +kernel) rfl rfl dX4_sendFirst_39 ?_
      refine hv_callVr (As := [.ref (g.1 5 (A 17 z))]) (rest := []) (n := 1) C (c_X1_canalTowards l w g A Z Y0 hg b (A 17 z) hb b1 (hZ.1 b hb)) gX4_sendFirst_X1_canalTowards rfl (by decide +kernel) ⟨Nat.le_of_ble_eq_true rfl, Nat.le_of_ble_eq_true rfl⟩ (cl_rc hg (Or.inr (Or.inl ⟨by decide, by decide, by omega⟩)) rfl rfl) rfl rfl (Nat.le_of_ble_eq_true rfl) dX4_sendFirst_42 ⟨by first | exact Nat.le_of_ble_eq_true rfl | omega | (simp; done) | (simp; omega), by first | exact Nat.le_of_ble_eq_true rfl | omega | (simp; done) | (simp; omega)⟩ (fun r5 Y1 hr => ?_)
      obtain ⟨rfl, rfl⟩ := hr
      obtain ⟨-, e2, e3⟩ := i5 b (A 17 z) hb b1
      rcases hc : A 12 (8 * b + A 17 z) with _ | j
      · refine hv_topV (cl_r0 rfl) ?_
        refine hv_astore_nN (lv1 := [(0, .ref (g.1 0 0)), (1, .ref (g.1 5 b)), (2, .ref (g.1 14 z)), (3, .null)]) C dX4_sendFirst_45 rfl (by decide) [1, 2, 3, 0] rfl ?_
        refine hv_aload_nN C dX4_sendFirst_46 rfl 3 rfl ?_
        refine hv_ifnullN (tgt := 57) C dX4_sendFirst_47 (by decide) ?_
        refine hv_iconst (v := nI 0) C dX4_sendFirst_57 (by decide) ?_
        exact hv_zret C hret (by decide) dX4_sendFirst_58 (by first | exact Nat.le_refl _ | decide | omega | (simp; done) | (simp; omega)) (by first | exact Nat.le_refl _ | decide | omega | (simp; done) | (simp; omega)) (by have h0 : f_way A b = 0 := (by rw [fw_def hz hc rfl]; (try simp only [Nat.add_sub_cancel]); (repeat' split) <;> first | rfl | omega | (exfalso; omega)); exact ⟨by rw [b2_f (fun q => q h0)], cl_Aeq (f_send_0 h0).symm⟩)
      · refine hv_topV (cl_r1 (Nat.succ_ne_zero j)) ?_
        rw [Nat.add_sub_cancel]
        rw [hc] at e2 e3
        obtain ⟨e4, e5⟩ := e3 (Nat.succ_ne_zero j)
        rw [Nat.add_sub_cancel] at e5
        have hj : j < A 4 0 := by omega
        obtain ⟨g1, g2, g3, g4, g5, g6, g7⟩ := i4 j hj
        refine hv_astore_n (lv1 := [(0, .ref (g.1 0 0)), (1, .ref (g.1 5 b)), (2, .ref (g.1 14 z)), (3, .ref (g.1 13 j))]) C dX4_sendFirst_45 rfl (by decide) [1, 2, 3, 0] rfl ?_
        refine hv_aload_n C dX4_sendFirst_46 rfl 3 rfl ?_
        refine hv_ifnullR C dX4_sendFirst_47 ?_
        refine hv_aload_n C dX4_sendFirst_50 rfl 3 rfl ?_
        refine hv_callVr (As := []) (rest := []) (n := 0) C (c_X2_isPassable l w g A Z Y0 hg j hj g1 (by omega) (by omega) (i1 _ g1).2.1) gX4_sendFirst_X2_isPassable rfl (by decide +kernel) ⟨Nat.le_of_ble_eq_true rfl, Nat.le_of_ble_eq_true rfl⟩ (cl_rc hg (Or.inr (Or.inr (Or.inl ⟨rfl, by omega⟩))) rfl rfl) rfl rfl (Nat.le_of_ble_eq_true rfl) dX4_sendFirst_51 ⟨by first | exact Nat.le_of_ble_eq_true rfl | omega | (simp; done) | (simp; omega), by first | exact Nat.le_of_ble_eq_true rfl | omega | (simp; done) | (simp; omega)⟩ (fun r6 Y1 hr => ?_)
        obtain ⟨rfl, rfl⟩ := hr
        refine hv_ifb_ne (tgt := 59) C dX4_sendFirst_54 (by decide) (fun h7 => ?_) (fun h7 => ?_)
        · skip
          refine hv_aload_n C dX4_sendFirst_59 rfl 3 rfl ?_
          refine hv_aload_n C dX4_sendFirst_60 rfl 1 rfl ?_
          refine hv_callVr (As := [.ref (g.1 5 b)]) (rest := []) (n := 1) C (c_X2_otherEnd l w g A Z Y0 hg j b hj g1 hb) gX4_sendFirst_X2_otherEnd rfl (by decide +kernel) ⟨Nat.le_of_ble_eq_true rfl, Nat.le_of_ble_eq_true rfl⟩ (cl_rc hg (Or.inr (Or.inr (Or.inl ⟨rfl, by omega⟩))) rfl rfl) rfl rfl (Nat.le_of_ble_eq_true rfl) dX4_sendFirst_61 ⟨by first | exact Nat.le_of_ble_eq_true rfl | omega | (simp; done) | (simp; omega), by first | exact Nat.le_of_ble_eq_true rfl | omega | (simp; done) | (simp; omega)⟩ (fun r8 Y1 hr => ?_)
          obtain ⟨rfl, rfl⟩ := hr
          obtain ⟨t, ht⟩ : ∃ t, f_bey A j b = t := ⟨_, rfl⟩
          rw [ht]
          have ht8 : t < 8 := ht ▸ f_bey_lt g1 g2
          obtain ⟨o1, o2, o3, o4, o5⟩ := i1 t ht8
          refine hv_astore (lv1 := [(0, .ref (g.1 0 0)), (1, .ref (g.1 5 b)), (2, .ref (g.1 14 z)), (3, .ref (g.1 13 j)), (4, .ref (g.1 5 t))]) C dX4_sendFirst_64 (by decide) [1, 2, 3, 4, 0] rfl ?_
          refine hv_aload_n C dX4_sendFirst_66 rfl 0 rfl ?_
          refine hv_aload C dX4_sendFirst_67 4 rfl ?_
          refine hv_aload_n C dX4_sendFirst_69 rfl 2 rfl ?_
          refine hv_callVr (As := [.ref (g.1 5 t), .ref (g.1 14 z)]) (rest := []) (n := 2) C (c_X4_takesIn l w g A Z Y0 hg t z ht8 a1 b1 o5 o4 i7) gX4_sendFirst_X4_takesIn rfl (by decide +kernel) ⟨Nat.le_of_ble_eq_true rfl, Nat.le_of_ble_eq_true rfl⟩ (cl_rc hg (Or.inl ⟨by decide, rfl⟩) rfl rfl) rfl rfl (Nat.le_of_ble_eq_true rfl) dX4_sendFirst_70 ⟨by first | exact Nat.le_of_ble_eq_true rfl | omega | (simp; done) | (simp; omega), by first | exact Nat.le_of_ble_eq_true rfl | omega | (simp; done) | (simp; omega)⟩ (fun r9 Y1 hr => ?_)
          obtain ⟨rfl, rfl⟩ := hr
          refine hv_ifb_ne (tgt := 78) C dX4_sendFirst_73 (by decide) (fun h10 => ?_) (fun h10 => ?_)
          · skip
            have htb : t ≠ b := by rw [← ht]; unfold f_bey; split <;> omega
            have hw : f_way A b = j + 1 := by rw [fw_def (t := t) hz hc (show f_bey A (j + 1 - 1) b = t from ht), Nat.add_sub_cancel, if_neg (by omega), if_neg (by omega), if_pos (by assumption)]
            have hq0 := cl_q0 (ad := g.1) (by omega) hz
            have h26 : ∀ i, i < 8 → A 2 i ≤ 6 := fun i hi => (i1 i hi).2.2.2.2
            have hel6 : ∀ i, i < 8 → ∀ k, k < A 2 i → ∃ fs : List Value, cl_Y w g A Z Y0 (g.1 14 (A 3 (6 * i + k))) = some (.inl (.inr (1, fs))) := fun i hi k hk => ⟨_, cl_at hg (Or.inr (Or.inr (Or.inr ⟨Or.inl rfl, (i2 i k hi hk).1⟩)))⟩
            refine hv_aload_n C dX4_sendFirst_78 rfl 1 rfl ?_
            refine hc_get (kd := 5) (i := b) (f := 1) (v := .ref (g.1 6 b)) C hg (Or.inr (Or.inl ⟨by decide, by decide, by omega⟩)) rfl rfl hinX1 (by decide) (by decide +kernel) rfl rfl dX4_sendFirst_79 ?_
            refine hv_iconst (v := nI 0) C dX4_sendFirst_82 (by decide) ?_
            refine hv_callVr (As := [.int (nI 0)]) (rest := []) (n := 1) C (c_Jx4a65c_remove_915e3 l w (cl_Y w g A Z Y0) (g.1 6 b) (g.1 14 z) 1 ((List.range (A 2 b - 1)).map (fun k => g.1 14 (A 3 (6 * b + (k + 1))))) (show cl_Y w g A Z Y0 (g.1 6 b) = some (.inr (g.1 14 z :: ((List.range (A 2 b - 1)).map (fun k => g.1 14 (A 3 (6 * b + (k + 1))))))) from (cl_at hg (Or.inr (Or.inl ⟨by decide, by decide, hb⟩))).trans (congrArg (fun q => some (Sum.inr q)) hq0)) (by rw [← hq0, cl_lenM]; omega) (Or.inl rfl) (fun y hy => by rw [← hq0] at hy; obtain ⟨k, hk, rfl⟩ := List.mem_map.mp hy; exact hel6 b hb k (List.mem_range.mp hk))) gX4_sendFirst_Jx4a65c_remove_915e3 rfl (by decide +kernel) ⟨Nat.le_of_ble_eq_true rfl, Nat.le_of_ble_eq_true rfl⟩ (cl_rcL hg (Or.inr (Or.inl ⟨by decide, by decide, by omega⟩)) rfl) rfl rfl (Nat.le_of_ble_eq_true rfl) dX4_sendFirst_83 ⟨by first | exact Nat.le_of_ble_eq_true rfl | omega | (simp; done) | (simp; omega), by first | exact Nat.le_of_ble_eq_true rfl | omega | (simp; done) | (simp; omega)⟩ (fun r11 Y1 hr => ?_)
            obtain ⟨rfl, rfl⟩ := hr
            refine hv_fin ?_ (cl_shift hg hb h26) rfl
            refine hv_pop C dX4_sendFirst_86 rfl ?_
            refine hv_aload_n C dX4_sendFirst_87 rfl 0 rfl ?_
            refine hv_dup C dX4_sendFirst_88 rfl ?_
            refine hc_get (kd := 0) (i := 0) (f := 4) (v := .int (nI (A 10 0))) C hg (Or.inl ⟨by decide, rfl⟩) rfl rfl hinX4 (by decide) (by decide +kernel) rfl rfl dX4_sendFirst_89 ?_
            refine hv_aload_n C dX4_sendFirst_92 rfl 3 rfl ?_
            refine hv_callVr (As := []) (rest := [.int (nI (A 10 0)), .ref (g.1 0 0)]) (n := 0) C (c_X2_lockThrough l w g (f_shift A b) Z Y0 hg j hj g1 g2 g3 g6 (fun b hb => (i1 b hb).2.1) (show A 8 j + 5 ≤ A 0 (A 5 j) from by omega)) gX4_sendFirst_X2_lockThrough rfl (by decide +kernel) ⟨Nat.le_of_ble_eq_true rfl, Nat.le_of_ble_eq_true rfl⟩ (cl_rc hg (Or.inr (Or.inr (Or.inl ⟨rfl, by omega⟩))) rfl rfl) rfl rfl (Nat.le_of_ble_eq_true rfl) dX4_sendFirst_93 ⟨by first | exact Nat.le_of_ble_eq_true rfl | omega | (simp; done) | (simp; omega), by first | exact Nat.le_of_ble_eq_true rfl | omega | (simp; done) | (simp; omega)⟩ (fun r12 Y1 hr => ?_)
            obtain ⟨rfl, rfl⟩ := hr
            refine hv_iaddN C dX4_sendFirst_96 ?_
            refine hc_put (kd := 0) (i := 0) (f := 4) (A' := (au (au (f_lock (f_shift A b) j) 10 0 (f_shift A b 10 0)) 10 0 ((A 10 0) + (f_lock (f_shift A b) j 10 0 - f_shift A b 10 0)))) (Z' := Z) (ty := .int) C hg (Or.inl ⟨by decide, rfl⟩) rfl rfl hinX4 tyX4 tyX4_ok nmX4 (by decide) (by decide +kernel) rfl rfl (by decide +kernel) rfl (by rfl) (by show 4 < 6; decide) (by simp [cl_cell, au]) cu_10 dX4_sendFirst_97 ?_
            refine hv_fin ?_ (cl_Aeq (lock_c (f_shift A b) j)) rfl
            refine hv_aload_n C dX4_sendFirst_100 rfl 2 rfl ?_
            refine hv_aload C dX4_sendFirst_101 4 rfl ?_
            refine hv_aload_n C dX4_sendFirst_103 rfl 0 rfl ?_
            refine hc_get (kd := 0) (i := 0) (f := 5) (v := .int (nI (A 16 0))) C hg (Or.inl ⟨by decide, rfl⟩) rfl rfl hinX4 (by decide) (by decide +kernel) rfl rfl dX4_sendFirst_104 ?_
            refine hv_callVv (As := [.ref (g.1 5 t), .int (nI (A 16 0))]) (rest := []) (n := 2) C (c_X0_comeTo l w g (f_lock (f_shift A b) j) Z Y0 hg z t (A 16 0) a1 ht8 b1 a4 b9 b5 rfl) gX4_sendFirst_X0_comeTo rfl (by decide +kernel) ⟨Nat.le_of_ble_eq_true rfl, Nat.le_of_ble_eq_true rfl⟩ (cl_rc hg (Or.inr (Or.inr (Or.inr ⟨Or.inl rfl, by omega⟩))) rfl rfl) rfl rfl (Nat.le_of_ble_eq_true rfl) dX4_sendFirst_107 ⟨by first | exact Nat.le_of_ble_eq_true rfl | omega | (simp; done) | (simp; omega), by first | exact Nat.le_of_ble_eq_true rfl | omega | (simp; done) | (simp; omega)⟩ (fun Y1 hr => ?_)
            subst hr
            by_cases c1 : t = A 17 z
            · refine hv_fin (Y1 := cl_Y w g (au (f_come (f_lock (f_shift A b) j) z t) 21 z 1) Z Y0) ?_ (cl_Aeq (if_pos c1)) rfl
              refine hv_aload_n C dX4_sendFirst_110 rfl 2 rfl ?_
              refine hc_get (kd := 14) (i := z) (f := 7) (v := .int (nI 1)) C hg (Or.inr (Or.inr (Or.inr ⟨Or.inl rfl, by omega⟩))) rfl rfl hinX0 (by decide) (by decide +kernel) rfl (by simp [au]) dX4_sendFirst_111 ?_
              refine hv_ifN_ne (tgt := 127) C dX4_sendFirst_114 (by decide) (by omega) (fun _ => ?_) (fun h => absurd h (by decide))
              refine hv_iconst (v := nI 1) C dX4_sendFirst_127 (by decide) ?_
              exact hv_zret C hret (by decide) dX4_sendFirst_128 (by first | exact Nat.le_refl _ | decide | omega | (simp; done) | (simp; omega)) (by first | exact Nat.le_refl _ | decide | omega | (simp; done) | (simp; omega)) (by have h1 : f_way A b ≠ 0 := (by omega); exact ⟨by rw [b2_t h1], cl_Aeq ((f_pass_1 hz ht c1).trans (by simp only [f_send_1 h1, hw, Nat.add_sub_cancel]))⟩)
            · by_cases c2 : A 18 z - 1 = 0
              · refine hv_fin (Y1 := cl_Y w g (au (f_come (f_lock (f_shift A b) j) z t) 21 z 2) Z Y0) ?_ (cl_Aeq ((if_neg c1).trans (if_pos c2))) rfl
                refine hv_aload_n C dX4_sendFirst_110 rfl 2 rfl ?_
                refine hc_get (kd := 14) (i := z) (f := 7) (v := .int (nI 2)) C hg (Or.inr (Or.inr (Or.inr ⟨Or.inl rfl, by omega⟩))) rfl rfl hinX0 (by decide) (by decide +kernel) rfl (by simp [au]) dX4_sendFirst_111 ?_
                refine hv_ifN_ne (tgt := 127) C dX4_sendFirst_114 (by decide) (by omega) (fun _ => ?_) (fun h => absurd h (by decide))
                refine hv_iconst (v := nI 1) C dX4_sendFirst_127 (by decide) ?_
                exact hv_zret C hret (by decide) dX4_sendFirst_128 (by first | exact Nat.le_refl _ | decide | omega | (simp; done) | (simp; omega)) (by first | exact Nat.le_refl _ | decide | omega | (simp; done) | (simp; omega)) (by have h1 : f_way A b ≠ 0 := (by omega); exact ⟨by rw [b2_t h1], cl_Aeq ((f_pass_2 hz ht c1 c2).trans (by simp only [f_send_1 h1, hw, Nat.add_sub_cancel]))⟩)
              · refine hv_fin (Y1 := cl_Y w g (f_come (f_lock (f_shift A b) j) z t) Z Y0) ?_ (cl_Aeq ((if_neg c1).trans (if_neg c2))) rfl
                refine hv_aload_n C dX4_sendFirst_110 rfl 2 rfl ?_
                refine hc_get (kd := 14) (i := z) (f := 7) (v := .int (nI 0)) C hg (Or.inr (Or.inr (Or.inr ⟨Or.inl rfl, by omega⟩))) rfl rfl hinX0 (by decide) (by decide +kernel) rfl (congrArg (fun q : Nat => some (Value.int (nI q))) (show (f_come (f_lock (f_shift A b) j) z t) 21 z = 0 from a2)) dX4_sendFirst_111 ?_
                refine hv_ifN_ne (tgt := 127) C dX4_sendFirst_114 (by decide) (by omega) (fun h => absurd h (by decide)) (fun _ => ?_)
                have hft : (f_come (f_lock (f_shift A b) j) z t) 2 t = A 2 t := f_shift_2 htb
                have hf2 : ∀ i, i < 8 → (f_come (f_lock (f_shift A b) j) z t) 2 i ≤ 6 := fun i hi => ((I_shift hI hb).1 i hi).2.2.2.2
                have hf3 : ∀ k, k < A 2 t → (f_come (f_lock (f_shift A b) j) z t) 3 (6 * t + k) = A 3 (6 * t + k) := by
                  intro k hk
                  show f_shift A b 3 (6 * t + k) = _
                  simp only [f_shift]
                  rw [if_neg (by omega), if_neg (by omega)]
                refine hv_aload C dX4_sendFirst_117 4 rfl ?_
                refine hc_get (kd := 5) (i := t) (f := 1) (v := .ref (g.1 6 t)) C hg (Or.inr (Or.inl ⟨by decide, by decide, by omega⟩)) rfl rfl hinX1 (by decide) (by decide +kernel) rfl rfl dX4_sendFirst_119 ?_
                refine hv_aload_n C dX4_sendFirst_122 rfl 2 rfl ?_
                refine hv_callVr (As := [.ref (g.1 14 z)]) (rest := []) (n := 1) C (c_Jx4a65c_add_9ea2d l w (cl_Y w g (f_come (f_lock (f_shift A b) j) z t) Z Y0) (g.1 6 t) (g.1 14 z) 1 10 _ ((List.range ((f_come (f_lock (f_shift A b) j) z t) 2 t)).map (fun k => g.1 14 ((f_come (f_lock (f_shift A b) j) z t) 3 (6 * t + k)))) (show cl_Y w g (f_come (f_lock (f_shift A b) j) z t) Z Y0 (g.1 6 t) = some (.inr ((List.range ((f_come (f_lock (f_shift A b) j) z t) 2 t)).map (fun k => g.1 14 ((f_come (f_lock (f_shift A b) j) z t) 3 (6 * t + k))))) from cl_at hg (Or.inr (Or.inl ⟨by decide, by decide, ht8⟩))) ((cl_at hg (Or.inr (Or.inr (Or.inr ⟨Or.inl rfl, a1⟩)))).trans rfl) (by rw [cl_lenM, hft]; omega) (by rw [cl_lenM, hft]; omega) (Or.inl rfl) (fun y hy => by obtain ⟨k, hk, rfl⟩ := List.mem_map.mp hy; have hk2 := List.mem_range.mp hk; rw [hft] at hk2; exact ⟨_, cl_at hg (Or.inr (Or.inr (Or.inr ⟨Or.inl rfl, by rw [hf3 k hk2]; exact (i2 t k ht8 hk2).1⟩)))⟩)) gX4_sendFirst_Jx4a65c_add_9ea2d rfl (by decide +kernel) ⟨Nat.le_of_ble_eq_true rfl, Nat.le_of_ble_eq_true rfl⟩ (cl_rcL hg (Or.inr (Or.inl ⟨by decide, by decide, by omega⟩)) rfl) rfl rfl (Nat.le_of_ble_eq_true rfl) dX4_sendFirst_123 ⟨by first | exact Nat.le_of_ble_eq_true rfl | omega | (simp; done) | (simp; omega), by first | exact Nat.le_of_ble_eq_true rfl | omega | (simp; done) | (simp; omega)⟩ (fun r17 Y1 hr => ?_)
                obtain ⟨rfl, rfl⟩ := hr
                refine hv_fin (Y1 := cl_Y w g (f_join (f_come (f_lock (f_shift A b) j) z t) z t) Z Y0) ?_ (cl_joinY hg ht8 hf2 (by rw [hft]; omega)) rfl
                refine hv_pop C dX4_sendFirst_126 rfl ?_
                refine hv_iconst (v := nI 1) C dX4_sendFirst_127 (by decide) ?_
                exact hv_zret C hret (by decide) dX4_sendFirst_128 (by first | exact Nat.le_refl _ | decide | omega | (simp; done) | (simp; omega)) (by first | exact Nat.le_refl _ | decide | omega | (simp; done) | (simp; omega)) (by have h1 : f_way A b ≠ 0 := (by omega); exact ⟨by rw [b2_t h1], cl_Aeq ((f_pass_3 hz ht c1 c2).trans (by simp only [f_send_1 h1, hw, Nat.add_sub_cancel]))⟩)
          · skip
            refine hv_iconst (v := nI 0) C dX4_sendFirst_76 (by decide) ?_
            exact hv_zret C hret (by decide) dX4_sendFirst_77 (by first | exact Nat.le_refl _ | decide | omega | (simp; done) | (simp; omega)) (by first | exact Nat.le_refl _ | decide | omega | (simp; done) | (simp; omega)) (by have h0 : f_way A b = 0 := (by rw [fw_def hz hc (show f_bey A (j + 1 - 1) b = t from ht)]; (try simp only [Nat.add_sub_cancel]); (repeat' split) <;> first | rfl | omega | (exfalso; omega)); exact ⟨by rw [b2_f (fun q => q h0)], cl_Aeq (f_send_0 h0).symm⟩)
        · skip
          refine hv_iconst (v := nI 0) C dX4_sendFirst_57 (by decide) ?_
          exact hv_zret C hret (by decide) dX4_sendFirst_58 (by first | exact Nat.le_refl _ | decide | omega | (simp; done) | (simp; omega)) (by first | exact Nat.le_refl _ | decide | omega | (simp; done) | (simp; omega)) (by have h0 : f_way A b = 0 := (by rw [fw_def hz hc rfl]; (try simp only [Nat.add_sub_cancel]); (repeat' split) <;> first | rfl | omega | (exfalso; omega)); exact ⟨by rw [b2_f (fun q => q h0)], cl_Aeq (f_send_0 h0).symm⟩)
    · skip
      refine hv_iconst (v := nI 0) C dX4_sendFirst_35 (by decide) ?_
      exact hv_zret C hret (by decide) dX4_sendFirst_36 (by first | exact Nat.le_refl _ | decide | omega | (simp; done) | (simp; omega)) (by first | exact Nat.le_refl _ | decide | omega | (simp; done) | (simp; omega)) (by have h0 : f_way A b = 0 := (by show (if _ then _ else _) = _; rw [hz, if_neg (by omega), if_pos (by omega)]); exact ⟨by rw [b2_f (fun q => q h0)], cl_Aeq (f_send_0 h0).symm⟩)
  · skip
    refine hv_iconst (v := nI 0) C dX4_sendFirst_10 (by decide) ?_
    exact hv_zret C hret (by decide) dX4_sendFirst_11 (by first | exact Nat.le_refl _ | decide | omega | (simp; done) | (simp; omega)) (by first | exact Nat.le_refl _ | decide | omega | (simp; done) | (simp; omega)) (by have h0 : f_way A b = 0 := if_pos (by omega); exact ⟨by rw [b2_f (fun q => q h0)], cl_Aeq (f_send_0 h0).symm⟩)
set_option maxRecDepth 100000 in
set_option maxHeartbeats 4000000 in
theorem c_X4_tickBarges (l : Launch) (w : hv_W) (g : cl_g) (A Z : ab_A) (Y0 : hv_H) (hg : cl_ok g (A 4 0) (A 15 0)) (hI : ab_I A) (hZ : cl_Z A Z) (ht : A 16 0 < 2000) : hv_Mr l yX4_tickBarges wsX4_tickBarges ({ frames := 8, cells := 8, slots := 80, locals := 195 }) w [.ref (g.1 0 0)] (cl_Y w g A Z Y0) (fun r Y1 => r = .int (nI (f_sent (f_tk A) 8)) ∧ Y1 = cl_Y w g (f_sends (f_tk A) 8) Z Y0) := by
  refine hv_ofV (cc := cX4_tickBarges) (own := RX4) (by decide) rfl rfl (Nat.le_of_ble_eq_true rfl) rfl ?_
  intro p e s m below meth c C hret hnm
  have hinX4 : ∀ x ∈ wsX40, x ∈ wsX4_tickBarges := by decide +kernel
  have hIt := I_tk hI ht
  refine hv_aload_n C dX4_tickBarges_0 rfl 0 rfl ?_
  refine hv_dup C dX4_tickBarges_1 rfl ?_
  refine hc_get (kd := 0) (i := 0) (f := 5) (v := .int (nI (A 16 0))) C hg (Or.inl ⟨by decide, rfl⟩) rfl rfl hinX4 (by decide) (by decide +kernel) rfl rfl dX4_tickBarges_2 ?_
  refine hv_iconst (v := nI 1) C dX4_tickBarges_5 (by decide) ?_
  refine hv_iaddN C dX4_tickBarges_6 ?_
  refine hc_put (kd := 0) (i := 0) (f := 5) (A' := (au A 16 0 ((A 16 0) + 1))) (Z' := Z) (ty := .int) C hg (Or.inl ⟨by decide, rfl⟩) rfl rfl hinX4 tyX4 tyX4_ok nmX4 (by decide) (by decide +kernel) rfl rfl (by decide +kernel) rfl (by rfl) (by show 5 < 6; decide) (by simp [cl_cell, au]) cu_16 dX4_tickBarges_7 ?_
  refine hv_iconst (v := nI 0) C dX4_tickBarges_10 (by decide) ?_
  refine hv_istore_n (lv1 := [(0, .ref (g.1 0 0)), (1, .int (nI 0))]) C dX4_tickBarges_11 rfl (by decide) [1, 0] rfl ?_
  refine hv_iconst (v := nI 0) C dX4_tickBarges_12 (by decide) ?_
  refine hv_istore_n (lv1 := [(0, .ref (g.1 0 0)), (1, .int (nI 0)), (2, .int (nI 0))]) C dX4_tickBarges_13 rfl (by decide) [1, 2, 0] rfl ?_
  refine hv_loopC 8 (fun k => k) (fun k => 10 * k) (fun k => cl_Y w g (f_sends (f_tk A) k) Z Y0) (fun k => [(0, .ref (g.1 0 0)), (1, .int (nI (f_sent (f_tk A) k))), (2, .int (nI k))]) ?_ ?_
  · skip
    have hgk : cl_ok g (f_sends (f_tk A) 8 4 0) (f_sends (f_tk A) 8 15 0) := by rw [f_sends_k _ _ (by decide), f_sends_k _ _ (by decide)]; exact hg
    refine hv_iload_n C dX4_tickBarges_14 rfl 2 rfl ?_
    refine hv_bipush (v := nI 8) C dX4_tickBarges_15 (by decide) ?_
    refine hv_icmpN_ge (tgt := 42) C dX4_tickBarges_17 (by decide) (by omega) (by omega) (fun _ => ?_) (fun h => absurd h (by decide))
    refine hv_iload_n C dX4_tickBarges_42 rfl 1 rfl ?_
    exact hv_iret C hret dX4_tickBarges_43 (by first | exact Nat.le_refl _ | decide | omega | (simp; done) | (simp; omega)) (by first | exact Nat.le_refl _ | decide | omega | (simp; done) | (simp; omega)) ⟨rfl, rfl⟩
  · intro k hk ih
    have hIk := I_sends hIt (n := k) (by omega)
    have hgk : cl_ok g (f_sends (f_tk A) k 4 0) (f_sends (f_tk A) k 15 0) := by rw [f_sends_k _ _ (by decide), f_sends_k _ _ (by decide)]; exact hg
    have hZk : cl_Z (f_sends (f_tk A) k) Z := ⟨hZ.1, fun q hq => by rw [f_sends_k _ _ (by decide)]; exact hZ.2 q hq⟩
    have h16k : 1 ≤ f_sends (f_tk A) k 16 0 := by rw [f_sends_k _ _ (by decide)]; exact Nat.le_add_left 1 _
    refine hv_iload_n C dX4_tickBarges_14 rfl 2 rfl ?_
    refine hv_bipush (v := nI 8) C dX4_tickBarges_15 (by decide) ?_
    refine hv_icmpN_ge (tgt := 42) C dX4_tickBarges_17 (by decide) (by omega) (by omega) (fun h2 => ?_) (fun h2 => ?_)
    · skip
      exact absurd h2 (by omega)
    · skip
      refine hv_aload_n C dX4_tickBarges_20 rfl 0 rfl ?_
      refine hv_aload_n C dX4_tickBarges_21 rfl 0 rfl ?_
      refine hc_get (kd := 0) (i := 0) (f := 0) (v := .ref (g.1 1 0)) C hgk (Or.inl ⟨by decide, rfl⟩) rfl rfl hinX4 (by decide) (by decide +kernel) rfl rfl dX4_tickBarges_22 ?_
      refine hv_iload_n C dX4_tickBarges_25 rfl 2 rfl ?_
      refine hc_bas (j := k) C hgk (by omega) dX4_tickBarges_26 ?_
      refine hv_callVr (As := [.ref (g.1 5 k)]) (rest := []) (n := 1) C (c_X4_sendFirst l w g (f_sends (f_tk A) k) Z Y0 hgk hIk hZk k hk h16k) gX4_tickBarges_X4_sendFirst rfl (by decide +kernel) ⟨Nat.le_of_ble_eq_true rfl, Nat.le_of_ble_eq_true rfl⟩ (cl_rc hgk (Or.inl ⟨by decide, rfl⟩) rfl rfl) rfl rfl (Nat.le_of_ble_eq_true rfl) dX4_tickBarges_27 ⟨by first | exact Nat.le_of_ble_eq_true rfl | omega | (simp; done) | (simp; omega), by first | exact Nat.le_of_ble_eq_true rfl | omega | (simp; done) | (simp; omega)⟩ (fun r3 Y1 hr => ?_)
      obtain ⟨rfl, rfl⟩ := hr
      refine hv_ifb_eq (tgt := 36) C dX4_tickBarges_30 (by decide) (fun h4 => ?_) (fun h4 => ?_)
      · skip
        refine hv_iinc (v := nI (k + 1)) (lv1 := [(0, .ref (g.1 0 0)), (1, .int (nI (f_sent (f_tk A) k))), (2, .int (nI (k + 1)))]) C dX4_tickBarges_36 (k := 2) rfl (nI_1 _) (by decide) [1, 2, 0] rfl ?_
        refine hv_goto (tgt := 14) C dX4_tickBarges_39 (by decide) ?_
        exact hv_sub (lv1 := [(0, .ref (g.1 0 0)), (1, .int (nI (f_sent (f_tk A) k))), (2, .int (nI (k + 1)))]) [0, 1, 2] rfl (hv_fin ih rfl (by rw [f_sent_0 (Decidable.byContradiction h4)]))
      · skip
        refine hv_iinc (v := nI (f_sent (f_tk A) k + 1)) (lv1 := [(0, .ref (g.1 0 0)), (1, .int (nI (f_sent (f_tk A) k + 1))), (2, .int (nI k))]) C dX4_tickBarges_33 (k := 1) rfl (nI_1 _) (by decide) [1, 0, 2] rfl ?_
        refine hv_iinc (v := nI (k + 1)) (lv1 := [(0, .ref (g.1 0 0)), (1, .int (nI (f_sent (f_tk A) k + 1))), (2, .int (nI (k + 1)))]) C dX4_tickBarges_36 (k := 2) rfl (nI_1 _) (by decide) [1, 2, 0] rfl ?_
        refine hv_goto (tgt := 14) C dX4_tickBarges_39 (by decide) ?_
        exact hv_sub (lv1 := [(0, .ref (g.1 0 0)), (1, .int (nI (f_sent (f_tk A) k + 1))), (2, .int (nI (k + 1)))]) [0, 1, 2] rfl (hv_fin ih rfl (by rw [f_sent_1 h4]))
theorem f_moves_k (A : ab_A) (n : Nat) {k : Nat} (h : k = 4 ∨ k = 15) : f_moves A n k = A k := by
  induction n with
  | zero => rfl
  | succ n ih =>
    show f_sends (f_tk (f_moves A n)) 8 k = _
    rw [f_sends_k _ _ (by omega), ← ih]
    rcases h with rfl | rfl <;> rfl
set_option maxRecDepth 100000 in
set_option maxHeartbeats 4000000 in
theorem c_X4_move (l : Launch) (w : hv_W) (g : cl_g) (A Z : ab_A) (Y0 : hv_H) (hg : cl_ok g (A 4 0) (A 15 0)) (hlt : l.stackTraces = false) (hI : ab_I A) (hZ : cl_Z A Z) (hF : cl_F g Y0) (x : Int32)  : hv_Nr l yX4_move wsX4_move ({ frames := 9, cells := 401, slots := 4006, locals := 217 }) w [.ref (g.1 0 0), .int (x)] (cl_Y w g A Z Y0) (fun r Y1 => (q_move A x).1 = 0 ∧ r = .int (q_move A x).2.1 ∧ cl_S w (g.1 0 0) Y0 (q_move A x).2.2 Y1) (fun E Y1 => ec 4 E (q_move A x).1 ∧ Y1 = cl_Y w g A Z Y0) := by
  refine hv_ofVx (cc := cX4_move) (own := RX4) (by decide) rfl rfl (Nat.le_of_ble_eq_true rfl) rfl ?_
  intro p e s m below meth c C hret hex
  have hinX4 : ∀ x ∈ wsX40, x ∈ wsX4_move := by decide +kernel
  refine hv_iload_n C dX4_move_0 rfl 1 rfl ?_
  refine hv_iconst (v := nI 1) C dX4_move_1 (by decide) ?_
  refine hv_bipush (v := nI 50) C dX4_move_2 (by decide) ?_
  refine hv_callSvx (As := [.int (x), .int (nI 1), .int (nI 50)]) (rest := []) (n := 3) C (c_X4_requireRange l w hlt (cl_Y w g A Z Y0) x 1 50 (by decide) (by decide)) gX4_move_X4_requireRange rfl (by decide +kernel) ⟨Nat.le_of_ble_eq_true rfl, Nat.le_of_ble_eq_true rfl⟩ rfl rfl (Nat.le_of_ble_eq_true rfl) dX4_move_4 ⟨by first | exact Nat.le_of_ble_eq_true rfl | omega | (simp; done) | (simp; omega), by first | exact Nat.le_of_ble_eq_true rfl | omega | (simp; done) | (simp; omega)⟩ (fun E Y1 h => ⟨(Or.inl ⟨h.1, (by first | (simp [q_move, h.2.1]; done) | (unfold q_move; (repeat' split) <;> simp_all))⟩), h.2.2⟩) hex (by first | exact Nat.le_of_ble_eq_true rfl | omega) (by first | exact Nat.le_of_ble_eq_true rfl | omega) (fun Y1 hr => ?_)
  obtain ⟨⟨t, hx⟩, rfl⟩ := hr
  obtain ⟨ht, ht2, rfl⟩ := rg_s (by decide) (by decide) hx
  have h2000 := hI.2.2.2.2.2.2.2.1
  refine hv_iload_n C dX4_move_7 rfl 1 rfl ?_
  refine hv_sipush (v := nI 2000) C dX4_move_8 (by decide) ?_
  refine hv_aload_n C dX4_move_11 rfl 0 rfl ?_
  refine hc_get (kd := 0) (i := 0) (f := 5) (v := .int (nI (A 16 0))) C hg (Or.inl ⟨by decide, rfl⟩) rfl rfl hinX4 (by decide) (by decide +kernel) rfl rfl dX4_move_12 ?_
  refine hv_isubN C dX4_move_15 (by omega) ?_
  refine hv_icmpN_le (tgt := 29) C dX4_move_16 (by decide) (by omega) (by omega) (fun h2 => ?_) (fun h2 => ?_)
  · skip
    refine hv_iconst (v := nI 0) C dX4_move_29 (by decide) ?_
    refine hv_istore_n (lv1 := [(0, .ref (g.1 0 0)), (1, .int (nI t)), (2, .int (nI 0))]) C dX4_move_30 rfl (by decide) [1, 2, 0] rfl ?_
    refine hv_iconst (v := nI 0) C dX4_move_31 (by decide) ?_
    refine hv_istore_n (lv1 := [(0, .ref (g.1 0 0)), (1, .int (nI t)), (2, .int (nI 0)), (3, .int (nI 0))]) C dX4_move_32 rfl (by decide) [1, 2, 3, 0] rfl ?_
    refine hv_loopC t (fun k => 1 + 8 * k) (fun k => 6 + 80 * k) (fun k => cl_Y w g (f_moves A k) Z Y0) (fun k => [(0, .ref (g.1 0 0)), (1, .int (nI t)), (2, .int (nI (f_moved A k))), (3, .int (nI k))]) ?_ ?_
    · skip
      have hgk : cl_ok g (f_moves A t 4 0) (f_moves A t 15 0) := by rw [f_moves_k A t (by decide), f_moves_k A t (by decide)]; exact hg
      have hZk : cl_Z (f_moves A t) Z := ⟨hZ.1, fun q hq => by rw [f_moves_k A t (by decide)]; exact hZ.2 q hq⟩
      refine hv_iload_n C dX4_move_33 rfl 3 rfl ?_
      refine hv_iload_n C dX4_move_34 rfl 1 rfl ?_
      refine hv_icmpN_ge (tgt := 51) C dX4_move_35 (by decide) (by omega) (by omega) (fun h3 => ?_) (fun h3 => ?_)
      · skip
        refine hv_iload_n C dX4_move_51 rfl 2 rfl ?_
        exact hv_iretx C hret dX4_move_52 (by first | exact Nat.le_refl _ | decide | omega | (simp; done) | (simp; omega)) (by first | exact Nat.le_refl _ | decide | omega | (simp; done) | (simp; omega)) (by rw [show q_move A (nI t) = (0, nI (f_moved A t), f_moves A t) from by simp only [q_move, hx]; rw [if_neg (by omega)]]; exact ⟨rfl, rfl, ⟨g, Z, hgk, hZk, hF, rfl, rfl⟩⟩)
      · skip
        exact absurd h3 (by omega)
    · intro k hk ih
      have hgk : cl_ok g (f_moves A k 4 0) (f_moves A k 15 0) := by rw [f_moves_k A k (by decide), f_moves_k A k (by decide)]; exact hg
      have hZk : cl_Z (f_moves A k) Z := ⟨hZ.1, fun q hq => by rw [f_moves_k A k (by decide)]; exact hZ.2 q hq⟩
      have hIk := I_moves (n := k) hI (by omega)
      have h16k := f_moves_16 A k
      refine hv_iload_n C dX4_move_33 rfl 3 rfl ?_
      refine hv_iload_n C dX4_move_34 rfl 1 rfl ?_
      refine hv_icmpN_ge (tgt := 51) C dX4_move_35 (by decide) (by omega) (by omega) (fun h4 => ?_) (fun h4 => ?_)
      · skip
        exact absurd h4 (by omega)
      · skip
        refine hv_iload_n C dX4_move_38 rfl 2 rfl ?_
        refine hv_aload_n C dX4_move_39 rfl 0 rfl ?_
        refine hv_callVr (As := []) (rest := [.int (nI (f_moved A k))]) (n := 0) C (c_X4_tickBarges l w g (f_moves A k) Z Y0 hgk hIk hZk (by rw [h16k]; omega)) gX4_move_X4_tickBarges rfl (by decide +kernel) ⟨Nat.le_of_ble_eq_true rfl, Nat.le_of_ble_eq_true rfl⟩ (cl_rc hgk (Or.inl ⟨by decide, rfl⟩) rfl rfl) rfl rfl (Nat.le_of_ble_eq_true rfl) dX4_move_40 ⟨by first | exact Nat.le_of_ble_eq_true rfl | omega | (simp; done) | (simp; omega), by first | exact Nat.le_of_ble_eq_true rfl | omega | (simp; done) | (simp; omega)⟩ (fun r5 Y1 hr => ?_)
        obtain ⟨rfl, rfl⟩ := hr
        refine hv_iaddN C dX4_move_43 ?_
        refine hv_istore_n (lv1 := [(0, .ref (g.1 0 0)), (1, .int (nI t)), (2, .int (nI ((f_moved A k) + (f_sent (f_tk (f_moves A k)) 8)))), (3, .int (nI k))]) C dX4_move_44 rfl (by decide) [1, 2, 0, 3] rfl ?_
        refine hv_iinc (v := nI (k + 1)) (lv1 := [(0, .ref (g.1 0 0)), (1, .int (nI t)), (2, .int (nI ((f_moved A k) + (f_sent (f_tk (f_moves A k)) 8)))), (3, .int (nI (k + 1)))]) C dX4_move_45 (k := 3) rfl (nI_1 _) (by decide) [1, 2, 3, 0] rfl ?_
        refine hv_goto (tgt := 33) C dX4_move_48 (by decide) ?_
        exact ih
  · skip
    exact hv_throw (ik := 51) (is := 122) (ic := 55) (cls := hv_IS) (text := "too many ticks") (names := hv_RE) C hlt (by decide) (by decide) (by decide +kernel) (by decide +kernel) rfl (by decide) (by decide +kernel) (by decide +kernel) (by decide +kernel) dX4_move_19 dX4_move_22 dX4_move_23 dX4_move_25 dX4_move_28 hex (by decide) (Nat.le_of_ble_eq_true rfl) (Nat.le_of_ble_eq_true rfl) (Nat.le_of_ble_eq_true rfl) (Nat.le_of_ble_eq_true rfl) (Nat.le_of_ble_eq_true rfl) ⟨(Or.inr ⟨rfl, (by simp only [q_move, hx]; rw [if_pos (by omega)])⟩), rfl⟩
