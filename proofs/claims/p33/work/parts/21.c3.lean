theorem cl_Zeq {w : hv_W} {g : cl_g} {A Z Z' : ab_A} {Y0 : hv_H} (h : Z = Z') : cl_Y w g A Z Y0 = cl_Y w g A Z' Y0 := by rw [h]
theorem cl_Aeq {w : hv_W} {g : cl_g} {A A' Z : ab_A} {Y0 : hv_H} (h : A = A') : cl_Y w g A Z Y0 = cl_Y w g A' Z Y0 := by rw [h]
theorem z_ext {Z Z' : ab_A} (h1 : ∀ k, Z 1 k = Z' 1 k) (h2 : ∀ k, Z 2 k = Z' 2 k) (h : ∀ s k, s ≠ 1 → s ≠ 2 → Z s k = Z' s k) : Z = Z' := by
  funext s k
  by_cases q1 : s = 1
  · subst q1; exact h1 k
  · by_cases q2 : s = 2
    · subst q2; exact h2 k
    · exact h s k q1 q2
def f_zr (A Z : ab_A) (b j n : Nat) : ab_A := fun s k => if s = 1 then (if k / 8 = b ∧ k % 8 < n then (f_stp A b (k % 8) j (Z 1 k, Z 2 k)).1 else Z 1 k) else if s = 2 then (if k / 8 = b ∧ k % 8 < n then (f_stp A b (k % 8) j (Z 1 k, Z 2 k)).2 else Z 2 k) else Z s k
theorem zr_1 (A Z : ab_A) (b j n k : Nat) : f_zr A Z b j n 1 k = if k / 8 = b ∧ k % 8 < n then (f_stp A b (k % 8) j (Z 1 k, Z 2 k)).1 else Z 1 k := rfl
theorem zr_2 (A Z : ab_A) (b j n k : Nat) : f_zr A Z b j n 2 k = if k / 8 = b ∧ k % 8 < n then (f_stp A b (k % 8) j (Z 1 k, Z 2 k)).2 else Z 2 k := rfl
theorem zr_x (A Z : ab_A) (b j n : Nat) {s : Nat} (k : Nat) (h1 : s ≠ 1) (h2 : s ≠ 2) : f_zr A Z b j n s k = Z s k := by simp [f_zr, h1, h2]
theorem zr_0 (A Z : ab_A) (b j : Nat) : Z = f_zr A Z b j 0 := by
  refine z_ext (fun k => ?_) (fun k => ?_) (fun s k h1 h2 => (zr_x _ _ _ _ _ _ h1 h2).symm)
  · rw [zr_1, if_neg (by omega)]
  · rw [zr_2, if_neg (by omega)]
theorem zr_o {b o k : Nat} (ho : o < 8) (hk : k ≠ 8 * b + o) : (k / 8 = b ∧ k % 8 < o + 1) ↔ (k / 8 = b ∧ k % 8 < o) := by omega
theorem zr_n {A Z : ab_A} {b j o : Nat} (ho : o < 8) (h : ¬ f_cnd A b o j (Z 1 (8 * b + o), Z 2 (8 * b + o))) : f_zr A Z b j o = f_zr A Z b j (o + 1) := by
  have e1 : (8 * b + o) / 8 = b := by omega
  have e2 : (8 * b + o) % 8 = o := by omega
  refine z_ext (fun k => ?_) (fun k => ?_) (fun s k h1 h2 => by rw [zr_x _ _ _ _ _ _ h1 h2, zr_x _ _ _ _ _ _ h1 h2])
  · rw [zr_1, zr_1]
    by_cases hk : k = 8 * b + o
    · subst hk
      rw [if_neg (by omega), if_pos (by omega), e2, f_stp_n h]
    · simp only [zr_o ho hk]
  · rw [zr_2, zr_2]
    by_cases hk : k = 8 * b + o
    · subst hk
      rw [if_neg (by omega), if_pos (by omega), e2, f_stp_n h]
    · simp only [zr_o ho hk]
theorem zr_y {A Z : ab_A} {b j o d : Nat} (ho : o < 8) (hbo : b ≠ o) (h9 : A 9 j ≠ 0) (hat : A 5 j = b ∨ A 6 j = b) (h11 : A 11 (8 * f_bey A j b + o) ≠ 0) (hd : d = A 11 (8 * f_bey A j b + o) - 1 + f_cost A j) (h0 : Z 1 (8 * b + o) = 0 ↔ Z 2 (8 * b + o) = 0) : f_of (f_zr A Z b j o) b o d j = f_zr A Z b j (o + 1) := by
  subst hd
  have e1 : (8 * b + o) / 8 = b := by omega
  have e2 : (8 * b + o) % 8 = o := by omega
  have ez : f_zr A Z b j o 1 (8 * b + o) = Z 1 (8 * b + o) := by rw [zr_1, if_neg (by omega)]
  unfold f_of
  rw [ez]
  by_cases hc : A 11 (8 * f_bey A j b + o) - 1 + f_cost A j ≤ 40 ∧ (Z 1 (8 * b + o) = 0 ∨ A 11 (8 * f_bey A j b + o) - 1 + f_cost A j < Z 1 (8 * b + o) - 1)
  · rw [if_pos hc]
    have hcn : f_cnd A b o j (Z 1 (8 * b + o), Z 2 (8 * b + o)) := ⟨hbo, ⟨h9, hat⟩, h11, hc.1, hc.2.imp h0.mp id⟩
    refine z_ext (fun k => ?_) (fun k => ?_) (fun s k h1 h2 => by rw [au_k _ h2, au_k _ h1, zr_x _ _ _ _ _ _ h1 h2, zr_x _ _ _ _ _ _ h1 h2])
    · rw [au_k _ (by decide), zr_1]
      by_cases hk : k = 8 * b + o
      · subst hk
        rw [au_s, if_pos (by omega), e2, f_stp_y hcn]
      · rw [au_i _ hk, zr_1]
        simp only [zr_o ho hk]
    · rw [zr_2]
      by_cases hk : k = 8 * b + o
      · subst hk
        rw [au_s, if_pos (by omega), e2, f_stp_y hcn]
      · rw [au_i _ hk, au_k _ (by decide), zr_2]
        simp only [zr_o ho hk]
  · rw [if_neg hc]
    exact zr_n ho (fun q => hc ⟨q.2.2.2.1, q.2.2.2.2.imp h0.mpr id⟩)
theorem f_ent_00 (A : ab_A) {b o : Nat} (h : b ≠ o) (n : Nat) : (f_ent A b o n).1 = 0 ↔ (f_ent A b o n).2 = 0 := by
  induction n with
  | zero => simp [f_ent, h]
  | succ n ih =>
    show (f_stp A b o n (f_ent A b o n)).1 = 0 ↔ (f_stp A b o n (f_ent A b o n)).2 = 0
    by_cases hc : f_cnd A b o n (f_ent A b o n)
    · rw [f_stp_y hc]
      simp
    · rw [f_stp_n hc]
      exact ih
set_option maxRecDepth 100000 in
set_option maxHeartbeats 4000000 in
theorem c_X1_hearNeighbour (l : Launch) (w : hv_W) (g : cl_g) (A Z : ab_A) (Y0 : hv_H) (hg : cl_ok g (A 4 0) (A 15 0)) (hI : ab_I A) (hZ0 : (∀ i, i < 8 → Z 0 i ≤ 1)) (b e0 j : Nat) (hb : b < 8) (he : e0 < 8) (hj : j < A 4 0) (hat2 : A 5 j = b ∨ A 6 j = b) (hbe : f_bey A j b = e0) (h9 : A 9 j ≠ 0) (h1 : ∀ o, o < 8 → Z 1 (8 * b + o) ≤ 41) (h0 : ∀ o, o < 8 → b ≠ o → (Z 1 (8 * b + o) = 0 ↔ Z 2 (8 * b + o) = 0)) : hv_Mv l yX1_hearNeighbour wsX1_hearNeighbour ({ frames := 2, cells := 0, slots := 0, locals := 40 }) w [.ref (g.1 5 b), .ref (g.1 5 e0), .ref (g.1 13 j)] (cl_Y w g A Z Y0) (fun Y1 => Y1 = cl_Y w g A (f_zr A Z b j 8) Y0) := by
  refine hv_ofV (cc := cX1_hearNeighbour) (own := RX1) (by decide) rfl rfl (Nat.le_of_ble_eq_true rfl) rfl ?_
  intro p e s m below meth c C hret hnm
  have hinX1 : ∀ x ∈ wsX10, x ∈ wsX1_hearNeighbour := by decide +kernel
  have hinX3 : ∀ x ∈ wsX30, x ∈ wsX1_hearNeighbour := by decide +kernel
  obtain ⟨g1, g2, g3, g4, g5, g6, g7⟩ := hI.2.2.2.2.1 j hj
  have hco := f_cost_le hI hj
  have hzb := hZ0 b hb
  have hze := hZ0 e0 he
  refine hv_aload_n C dX1_hearNeighbour_0 rfl 2 rfl ?_
  refine hv_callVr (As := []) (rest := []) (n := 0) C (c_X2_costNow l w g A Z Y0 hg j hj (by omega) (by omega) (fun b hb => (hI.1 b hb).2.1)) gX1_hearNeighbour_X2_costNow rfl (by decide +kernel) ⟨Nat.le_of_ble_eq_true rfl, Nat.le_of_ble_eq_true rfl⟩ (cl_rc hg (Or.inr (Or.inr (Or.inl ⟨rfl, by omega⟩))) rfl rfl) rfl rfl (Nat.le_of_ble_eq_true rfl) dX1_hearNeighbour_1 ⟨by first | exact Nat.le_of_ble_eq_true rfl | omega | (simp; done) | (simp; omega), by first | exact Nat.le_of_ble_eq_true rfl | omega | (simp; done) | (simp; omega)⟩ (fun r1 Y1 hr => ?_)
  obtain ⟨rfl, rfl⟩ := hr
  refine hv_istore_n (lv1 := [(0, .ref (g.1 5 b)), (1, .ref (g.1 5 e0)), (2, .ref (g.1 13 j)), (3, .int (nI (f_cost A j)))]) C dX1_hearNeighbour_4 rfl (by decide) [1, 2, 3, 0] rfl ?_
  refine hv_iconst (v := nI 0) C dX1_hearNeighbour_5 (by decide) ?_
  refine hv_istore (lv1 := [(0, .ref (g.1 5 b)), (1, .ref (g.1 5 e0)), (2, .ref (g.1 13 j)), (3, .int (nI (f_cost A j))), (4, .int (nI 0))]) C dX1_hearNeighbour_6 (by decide) [1, 2, 3, 4, 0] rfl ?_
  refine hv_fin ?_ (cl_Zeq (zr_0 A Z b j)) rfl
  refine hv_loop 8 (fun o => cl_Y w g A (f_zr A Z b j o) Y0) (fun o => [(0, .ref (g.1 5 b)), (1, .ref (g.1 5 e0)), (2, .ref (g.1 13 j)), (3, .int (nI (f_cost A j))), (4, .int (nI o))]) ?_ ?_
  · skip
    refine hv_iload C dX1_hearNeighbour_8 4 rfl ?_
    refine hv_bipush (v := nI 8) C dX1_hearNeighbour_10 (by decide) ?_
    refine hv_icmpN_ge (tgt := 62) C dX1_hearNeighbour_12 (by decide) (by omega) (by omega) (fun _ => ?_) (fun h => absurd h (by decide))
    exact hv_vret C hret dX1_hearNeighbour_62 (by first | exact Nat.le_refl _ | decide | omega | (simp; done) | (simp; omega)) (by first | exact Nat.le_refl _ | decide | omega | (simp; done) | (simp; omega)) rfl
  · intro o ho ih
    have h11o := (hI.2.2.2.2.2.1 e0 o he ho).1
    have h1o := h1 o ho
    refine hv_iload C dX1_hearNeighbour_8 4 rfl ?_
    refine hv_bipush (v := nI 8) C dX1_hearNeighbour_10 (by decide) ?_
    refine hv_icmpN_ge (tgt := 62) C dX1_hearNeighbour_12 (by decide) (by omega) (by omega) (fun h3 => ?_) (fun h3 => ?_)
    · skip
      exact absurd h3 (by omega)
    · skip
      refine hv_aload_n C dX1_hearNeighbour_15 rfl 1 rfl ?_
      refine hc_get (kd := 5) (i := e0) (f := 4) (v := .ref (g.1 (7 + Z 0 e0) e0)) C hg (Or.inr (Or.inl ⟨by decide, by decide, by omega⟩)) rfl rfl hinX1 (by decide) (by decide +kernel) rfl rfl dX1_hearNeighbour_16 ?_
      refine hc_get (kd := (7 + Z 0 (e0))) (i := e0) (f := 0) (v := .ref (g.1 (9 + Z 0 e0) e0)) C hg (Or.inr (Or.inl ⟨by omega, by omega, by omega⟩)) (cl_t (show Z 0 e0 ≤ 1 from by omega)) rfl hinX3 (by decide) (by decide +kernel) rfl rfl dX1_hearNeighbour_19 ?_
      refine hv_iload C dX1_hearNeighbour_22 4 rfl ?_
      refine hc_iald (kd := 9 + Z 0 e0) (i := e0) (j := o) (x := (nI (A 11 (8 * e0 + o)) + (-1))) C hg (Or.inr (Or.inl ⟨by omega, by omega, by omega⟩)) (cl_td (show Z 0 e0 ≤ 1 from by omega)) (by decide) (by omega) (if_pos (by omega)) dX1_hearNeighbour_24 ?_
      refine hv_istore (lv1 := [(0, .ref (g.1 5 b)), (1, .ref (g.1 5 e0)), (2, .ref (g.1 13 j)), (3, .int (nI (f_cost A j))), (4, .int (nI o)), (5, .int (nI (A 11 (8 * e0 + o)) + (-1)))]) C dX1_hearNeighbour_25 (by decide) [1, 2, 3, 4, 5, 0] rfl ?_
      refine hv_iload C dX1_hearNeighbour_27 4 rfl ?_
      refine hv_aload_n C dX1_hearNeighbour_29 rfl 0 rfl ?_
      refine hc_get (kd := 5) (i := b) (f := 0) (v := .int (nI b)) C hg (Or.inr (Or.inl ⟨by decide, by decide, by omega⟩)) rfl rfl hinX1 (by decide) (by decide +kernel) rfl rfl dX1_hearNeighbour_30 ?_
      refine hv_icmpN_eq (tgt := 56) C dX1_hearNeighbour_33 (by decide) (by omega) (by omega) (fun h4 => ?_) (fun h4 => ?_)
      · skip
        refine hv_iinc (v := nI (o + 1)) (lv1 := [(0, .ref (g.1 5 b)), (1, .ref (g.1 5 e0)), (2, .ref (g.1 13 j)), (3, .int (nI (f_cost A j))), (4, .int (nI (o + 1))), (5, .int (nI (A 11 (8 * e0 + o)) + (-1)))]) C dX1_hearNeighbour_56 (k := 4) rfl (nI_1 _) (by decide) [1, 2, 3, 4, 0, 5] rfl ?_
        refine hv_goto (tgt := 8) C dX1_hearNeighbour_59 (by decide) ?_
        exact hv_sub (lv1 := [(0, .ref (g.1 5 b)), (1, .ref (g.1 5 e0)), (2, .ref (g.1 13 j)), (3, .int (nI (f_cost A j))), (4, .int (nI (o + 1)))]) [0, 1, 2, 3, 4] rfl (hv_fin ih (cl_Zeq (zr_n (by omega) (fun q => by obtain ⟨q1, q2, q3, q4, q5⟩ := q; rw [hbe] at q3; omega))) rfl)
      · skip
        refine hv_iload C dX1_hearNeighbour_36 5 rfl ?_
        refine hv_iconst (v := nI 0 + (-1)) C dX1_hearNeighbour_38 (by decide) ?_
        refine hv_icmpE_eq (tgt := 56) C dX1_hearNeighbour_39 (by decide) (by omega) (by omega) (fun h5 => ?_) (fun h5 => ?_)
        · skip
          refine hv_iinc (v := nI (o + 1)) (lv1 := [(0, .ref (g.1 5 b)), (1, .ref (g.1 5 e0)), (2, .ref (g.1 13 j)), (3, .int (nI (f_cost A j))), (4, .int (nI (o + 1))), (5, .int (nI (A 11 (8 * e0 + o)) + (-1)))]) C dX1_hearNeighbour_56 (k := 4) rfl (nI_1 _) (by decide) [1, 2, 3, 4, 0, 5] rfl ?_
          refine hv_goto (tgt := 8) C dX1_hearNeighbour_59 (by decide) ?_
          exact hv_sub (lv1 := [(0, .ref (g.1 5 b)), (1, .ref (g.1 5 e0)), (2, .ref (g.1 13 j)), (3, .int (nI (f_cost A j))), (4, .int (nI (o + 1)))]) [0, 1, 2, 3, 4] rfl (hv_fin ih (cl_Zeq (zr_n (by omega) (fun q => by obtain ⟨q1, q2, q3, q4, q5⟩ := q; rw [hbe] at q3; omega))) rfl)
        · skip
          refine hv_aload_n C dX1_hearNeighbour_42 rfl 0 rfl ?_
          refine hc_get (kd := 5) (i := b) (f := 5) (v := .ref (g.1 (8 - Z 0 b) b)) C hg (Or.inr (Or.inl ⟨by decide, by decide, by omega⟩)) rfl rfl hinX1 (by decide) (by decide +kernel) rfl rfl dX1_hearNeighbour_43 ?_
          refine hv_iload C dX1_hearNeighbour_46 4 rfl ?_
          refine hv_iload C dX1_hearNeighbour_48 5 rfl ?_
          refine hv_top (nI_em (by omega)) ?_
          refine hv_iload_n C dX1_hearNeighbour_50 rfl 3 rfl ?_
          refine hv_iaddN C dX1_hearNeighbour_51 ?_
          refine hv_aload_n C dX1_hearNeighbour_52 rfl 2 rfl ?_
          refine hv_callVv (As := [.int (nI o), .int (nI (((A 11 (8 * e0 + o)) - 1) + (f_cost A j))), .ref (g.1 13 j)]) (rest := []) (n := 3) C (c_X3_offer l w g A (f_zr A Z b j o) Y0 hg b o (((A 11 (8 * e0 + o)) - 1) + (f_cost A j)) j (by omega) (by omega) (by omega) hj (hZ0 b hb) (by rw [zr_1, if_neg (by omega)]; exact h1o)) gX1_hearNeighbour_X3_offer rfl (by decide +kernel) ⟨Nat.le_of_ble_eq_true rfl, Nat.le_of_ble_eq_true rfl⟩ (cl_rc (kd := 8 - Z 0 b) (i := b) hg (Or.inr (Or.inl ⟨by omega, by omega, by omega⟩)) (cl_x (show Z 0 b ≤ 1 from by omega)) rfl) rfl rfl (Nat.le_of_ble_eq_true rfl) dX1_hearNeighbour_53 ⟨by first | exact Nat.le_of_ble_eq_true rfl | omega | (simp; done) | (simp; omega), by first | exact Nat.le_of_ble_eq_true rfl | omega | (simp; done) | (simp; omega)⟩ (fun Y1 hr => ?_)
          subst hr
          refine hv_iinc (v := nI (o + 1)) (lv1 := [(0, .ref (g.1 5 b)), (1, .ref (g.1 5 e0)), (2, .ref (g.1 13 j)), (3, .int (nI (f_cost A j))), (4, .int (nI (o + 1))), (5, .int (nI (A 11 (8 * e0 + o)) + (-1)))]) C dX1_hearNeighbour_56 (k := 4) rfl (nI_1 _) (by decide) [1, 2, 3, 4, 0, 5] rfl ?_
          refine hv_goto (tgt := 8) C dX1_hearNeighbour_59 (by decide) ?_
          exact hv_sub (lv1 := [(0, .ref (g.1 5 b)), (1, .ref (g.1 5 e0)), (2, .ref (g.1 13 j)), (3, .int (nI (f_cost A j))), (4, .int (nI (o + 1)))]) [0, 1, 2, 3, 4] rfl (hv_fin ih (cl_Zeq (zr_y (by omega) (by omega) h9 hat2 (by rw [hbe]; omega) (by rw [hbe]) (h0 o (by omega) (by omega)))) rfl)
def f_zc (Z : ab_A) (n : Nat) : ab_A := fun s k => if s = 1 then (if k / 8 < n then (if k / 8 = k % 8 then 1 else 0) else Z 1 k) else if s = 2 then (if k / 8 < n then 0 else Z 2 k) else Z s k
theorem zc_0 (Z : ab_A) : Z = f_zc Z 0 := by
  refine z_ext (fun k => ?_) (fun k => ?_) (fun s k h1 h2 => by simp [f_zc, h1, h2])
  · show Z 1 k = (if k / 8 < 0 then (if k / 8 = k % 8 then 1 else 0) else Z 1 k)
    rw [if_neg (show ¬ k / 8 < 0 by omega)]
  · show Z 2 k = (if k / 8 < 0 then 0 else Z 2 k)
    rw [if_neg (by omega)]
theorem zc_cl {w : hv_W} {g : cl_g} {A Z : ab_A} {Y0 : hv_H} {n k i : Nat} (hg : cl_ok g n k) (hi : i < 8) (hz : Z 0 i ≤ 1) : tb_Y w (cl_Y w g A (f_zc Z i) Y0) (g.1 (10 - Z 0 i) i) (g.1 (12 - Z 0 i) i) (fun j => if j < 8 then nI (f_zc Z i 1 (8 * i + j)) + (-1) else 0) (fun j => if j < 8 then cl_r g.1 (f_zc Z i 2 (8 * i + j)) else none) i 8 = cl_Y w g A (f_zc Z (i + 1)) Y0 := by
  have h1 : cl_in n k (10 - Z 0 i) i := Or.inr (Or.inl ⟨by omega, by omega, hi⟩)
  have h2 : cl_in n k (12 - Z 0 i) i := Or.inr (Or.inl ⟨by omega, by omega, hi⟩)
  unfold tb_Y
  rw [cl_up (A' := A) (Z' := fun s q => if s = 1 then f_zc Z (i + 1) 1 q else f_zc Z i s q) hg h1 ?_ ?_, cl_up (A' := A) (Z' := f_zc Z (i + 1)) hg h2 ?_ ?_]
  · refine (cl_xc (Z := f_zc Z (i + 1)) hz).trans ?_
    refine cR_ext (fun q => ?_)
    by_cases hq : q < 8
    · rw [if_pos hq, if_pos hq]
      show cl_r g.1 (if (8 * i + q) / 8 < i + 1 then 0 else Z 2 (8 * i + q)) = none
      rw [if_pos (by omega)]
      rfl
    · rw [if_neg hq, if_neg hq]
      exact (if_neg hq).symm
  · intro kd' i' hin hne
    refine cl_cellZ (fun _ => rfl) (fun _ j _ => rfl) (fun h j hj => ?_) (fun _ _ => rfl)
    show (if (8 * i' + j) / 8 < i + 1 then 0 else Z 2 (8 * i' + j)) = (if (8 * i' + j) / 8 < i then 0 else Z 2 (8 * i' + j))
    have hii : i' ≠ i := by
      intro q
      subst q
      have hz0 : (kd' = 11 ∧ Z 0 i' ≠ 0) ∨ (kd' = 12 ∧ Z 0 i' = 0) := h
      exact hne ⟨by omega, rfl⟩
    by_cases q : i' < i
    · rw [if_pos (by omega), if_pos (by omega)]
    · rw [if_neg (by omega), if_neg (by omega)]
  · refine (cl_xd (Z := fun s q => if s = 1 then f_zc Z (i + 1) 1 q else f_zc Z i s q) hz).trans ?_
    refine cI_ext (fun q => ?_)
    by_cases hq : q < 8
    · rw [if_pos hq, if_pos hq]
      show nI (if (8 * i + q) / 8 < i + 1 then (if (8 * i + q) / 8 = (8 * i + q) % 8 then 1 else 0) else Z 1 (8 * i + q)) + (-1) = _
      rw [if_pos (show (8 * i + q) / 8 < i + 1 by omega)]
      by_cases h : q = i
      · rw [if_pos h, if_pos (by omega)]
      · rw [if_neg h, if_neg (by omega)]
    · rw [if_neg hq, if_neg hq]
      exact (if_neg hq).symm
  · intro kd' i' hin hne
    refine cl_cellZ (fun _ => rfl) (fun h j hj => ?_) (fun _ j _ => rfl) (fun _ _ => rfl)
    show (if (8 * i' + j) / 8 < i + 1 then (if (8 * i' + j) / 8 = (8 * i' + j) % 8 then 1 else 0) else Z 1 (8 * i' + j)) = (if (8 * i' + j) / 8 < i then (if (8 * i' + j) / 8 = (8 * i' + j) % 8 then 1 else 0) else Z 1 (8 * i' + j))
    have hii : i' ≠ i := by
      intro q
      subst q
      have hz0 : (kd' = 9 ∧ Z 0 i' ≠ 0) ∨ (kd' = 10 ∧ Z 0 i' = 0) := h
      exact hne ⟨by omega, rfl⟩
    by_cases q : i' < i
    · rw [if_pos (show (8 * i' + j) / 8 < i + 1 by omega), if_pos (show (8 * i' + j) / 8 < i by omega)]
    · rw [if_neg (show ¬ (8 * i' + j) / 8 < i + 1 by omega), if_neg (show ¬ (8 * i' + j) / 8 < i by omega)]
def f_zn (A Z : ab_A) (n : Nat) : ab_A := fun s k => if s = 1 then (if k / 8 < 8 then (f_ent A (k / 8) (k % 8) n).1 else Z 1 k) else if s = 2 then (if k / 8 < 8 then (f_ent A (k / 8) (k % 8) n).2 else Z 2 k) else Z s k
theorem zn_1 (A Z : ab_A) (n k : Nat) : f_zn A Z n 1 k = if k / 8 < 8 then (f_ent A (k / 8) (k % 8) n).1 else Z 1 k := rfl
theorem zn_2 (A Z : ab_A) (n k : Nat) : f_zn A Z n 2 k = if k / 8 < 8 then (f_ent A (k / 8) (k % 8) n).2 else Z 2 k := rfl
theorem zn_x (A Z : ab_A) (n : Nat) {s : Nat} (k : Nat) (h1 : s ≠ 1) (h2 : s ≠ 2) : f_zn A Z n s k = Z s k := by simp [f_zn, h1, h2]
theorem zn_0 (A Z : ab_A) : f_zc Z 8 = f_zn A Z 0 := by
  refine z_ext (fun k => ?_) (fun k => ?_) (fun s k h1 h2 => by simp [f_zc, f_zn, h1, h2])
  · rfl
  · rfl
theorem zn_n {A Z : ab_A} {j : Nat} (h : A 9 j = 0) : f_zn A Z j = f_zn A Z (j + 1) := by
  have e : ∀ b o, f_ent A b o (j + 1) = f_ent A b o j := fun b o => f_stp_n (fun q => q.2.1.1 h)
  refine z_ext (fun k => ?_) (fun k => ?_) (fun s k h1 h2 => by rw [zn_x _ _ _ _ h1 h2, zn_x _ _ _ _ h1 h2])
  · rw [zn_1, zn_1, e]
  · rw [zn_2, zn_2, e]
theorem zn_row {A Z : ab_A} {b o n : Nat} (hb : b < 8) (ho : o < 8) : f_zn A Z n 1 (8 * b + o) = (f_ent A b o n).1 ∧ f_zn A Z n 2 (8 * b + o) = (f_ent A b o n).2 := by
  have e1 : (8 * b + o) / 8 = b := by omega
  have e2 : (8 * b + o) % 8 = o := by omega
  rw [zn_1, zn_2, e1, e2, if_pos hb, if_pos hb]
  exact ⟨rfl, rfl⟩
theorem zn_y {A Z : ab_A} {j : Nat} (h5 : A 5 j < 8) (h6 : A 6 j < 8) (h56 : A 5 j ≠ A 6 j) : f_zr A (f_zr A (f_zn A Z j) (A 5 j) j 8) (A 6 j) j 8 = f_zn A Z (j + 1) := by
  have key : ∀ k, (f_zr A (f_zr A (f_zn A Z j) (A 5 j) j 8) (A 6 j) j 8 1 k, f_zr A (f_zr A (f_zn A Z j) (A 5 j) j 8) (A 6 j) j 8 2 k) = (f_zn A Z (j + 1) 1 k, f_zn A Z (j + 1) 2 k) := by
    intro k
    have hk8 : k % 8 < 8 := by omega
    generalize hW : f_zr A (f_zn A Z j) (A 5 j) j 8 = W
    have hin1 : W 1 k = if k / 8 = A 5 j ∧ k % 8 < 8 then (f_stp A (A 5 j) (k % 8) j (f_zn A Z j 1 k, f_zn A Z j 2 k)).1 else f_zn A Z j 1 k := by rw [← hW]; rfl
    have hin2 : W 2 k = if k / 8 = A 5 j ∧ k % 8 < 8 then (f_stp A (A 5 j) (k % 8) j (f_zn A Z j 1 k, f_zn A Z j 2 k)).2 else f_zn A Z j 2 k := by rw [← hW]; rfl
    rw [zr_1, zr_2, zn_1 A Z (j + 1), zn_2 A Z (j + 1)]
    by_cases q6 : k / 8 = A 6 j
    · have q5 : k / 8 ≠ A 5 j := by omega
      have h8 : k / 8 < 8 := by omega
      rw [if_neg (fun z => q5 z.1)] at hin1 hin2
      rw [if_pos (c := k / 8 = A 6 j ∧ k % 8 < 8) ⟨q6, hk8⟩, if_pos (c := k / 8 = A 6 j ∧ k % 8 < 8) ⟨q6, hk8⟩, hin1, hin2, if_pos (c := k / 8 < 8) h8, if_pos (c := k / 8 < 8) h8, zn_1, zn_2, if_pos h8, if_pos h8, ← q6]
      rfl
    · rw [if_neg (c := k / 8 = A 6 j ∧ k % 8 < 8) (fun z => q6 z.1), if_neg (c := k / 8 = A 6 j ∧ k % 8 < 8) (fun z => q6 z.1)]
      by_cases q5 : k / 8 = A 5 j
      · have h8 : k / 8 < 8 := by omega
        rw [if_pos ⟨q5, hk8⟩] at hin1 hin2
        rw [hin1, hin2, if_pos (c := k / 8 < 8) h8, if_pos (c := k / 8 < 8) h8, zn_1, zn_2, if_pos h8, if_pos h8, ← q5]
        rfl
      · rw [if_neg (fun z => q5 z.1)] at hin1 hin2
        rw [hin1, hin2, zn_1, zn_2]
        by_cases h8 : k / 8 < 8
        · have e : f_ent A (k / 8) (k % 8) (j + 1) = f_ent A (k / 8) (k % 8) j := f_stp_n (fun z => by
            rcases z.2.1.2 with z | z
            · exact q5 z.symm
            · exact q6 z.symm)
          simp only [if_pos h8, e]
        · simp only [if_neg h8]
  refine z_ext (fun k => (Prod.mk.inj (key k)).1) (fun k => (Prod.mk.inj (key k)).2) (fun s k h1 h2 => by rw [zr_x _ _ _ _ _ _ h1 h2, zr_x _ _ _ _ _ _ h1 h2, zn_x _ _ _ _ h1 h2, zn_x _ _ _ _ h1 h2])
set_option maxRecDepth 100000 in
set_option maxHeartbeats 4000000 in
theorem c_X4_prepareNextTables (l : Launch) (w : hv_W) (g : cl_g) (A Z : ab_A) (Y0 : hv_H) (hg : cl_ok g (A 4 0) (A 15 0)) (hI : ab_I A) (hZ0 : (∀ i, i < 8 → Z 0 i ≤ 1)) : hv_Mv l yX4_prepareNextTables wsX4_prepareNextTables ({ frames := 4, cells := 0, slots := 0, locals := 104 }) w [.ref (g.1 0 0)] (cl_Y w g A Z Y0) (fun Y1 => Y1 = cl_Y w g A (f_zn A Z (A 4 0)) Y0) := by
  refine hv_ofV (cc := cX4_prepareNextTables) (own := RX4) (by decide) rfl rfl (Nat.le_of_ble_eq_true rfl) rfl ?_
  intro p e s m below meth c C hret hnm
  have hinX1 : ∀ x ∈ wsX10, x ∈ wsX4_prepareNextTables := by decide +kernel
  have hinX2 : ∀ x ∈ wsX20, x ∈ wsX4_prepareNextTables := by decide +kernel
  have hinX4 : ∀ x ∈ wsX40, x ∈ wsX4_prepareNextTables := by decide +kernel
  have h14 := hI.2.2.2.1
  refine hv_iconst (v := nI 0) C dX4_prepareNextTables_0 (by decide) ?_
  refine hv_istore_n (lv1 := [(0, .ref (g.1 0 0)), (1, .int (nI 0))]) C dX4_prepareNextTables_1 rfl (by decide) [1, 0] rfl ?_
  refine hv_fin ?_ (cl_Zeq (zc_0 Z)) rfl
  refine hv_loop 8 (fun i => cl_Y w g A (f_zc Z i) Y0) (fun i => [(0, .ref (g.1 0 0)), (1, .int (nI i))]) ?_ ?_
  · skip
    refine hv_iload_n C dX4_prepareNextTables_2 rfl 1 rfl ?_
    refine hv_bipush (v := nI 8) C dX4_prepareNextTables_3 (by decide) ?_
    refine hv_icmpN_ge (tgt := 27) C dX4_prepareNextTables_5 (by decide) (by omega) (by omega) (fun _ => ?_) (fun h => absurd h (by decide))
    refine hv_iconst (v := nI 0) C dX4_prepareNextTables_27 (by decide) ?_
    refine hv_istore_n (lv1 := [(0, .ref (g.1 0 0)), (1, .int (nI 0))]) C dX4_prepareNextTables_28 rfl (by decide) [1, 0] rfl ?_
    refine hv_fin ?_ (cl_Zeq (zn_0 A Z)) rfl
    refine hv_loop (A 4 0) (fun j => cl_Y w g A (f_zn A Z j) Y0) (fun j => [(0, .ref (g.1 0 0)), (1, .int (nI j))]) ?_ ?_
    · skip
      refine hv_iload_n C dX4_prepareNextTables_29 rfl 1 rfl ?_
      refine hv_aload_n C dX4_prepareNextTables_30 rfl 0 rfl ?_
      refine hc_get (kd := 0) (i := 0) (f := 1) (v := .ref (g.1 2 0)) C hg (Or.inl ⟨by decide, rfl⟩) rfl rfl hinX4 (by decide) (by decide +kernel) rfl rfl dX4_prepareNextTables_31 ?_
      refine hv_callVr (As := []) (rest := [.int (nI (A 4 0))]) (n := 0) C (c_Jx4a65c_size_8abf5 l w (cl_Y w g A (f_zn A Z (A 4 0)) Y0) (g.1 2 0) ((List.range (A 4 0)).map (g.1 13)) (show cl_Y w g A (f_zn A Z (A 4 0)) Y0 (g.1 2 0) = some (.inr ((List.range (A 4 0)).map (g.1 13))) from cl_at hg (Or.inl ⟨by decide, rfl⟩))) gX4_prepareNextTables_Jx4a65c_size_8abf5 rfl (by decide +kernel) ⟨Nat.le_of_ble_eq_true rfl, Nat.le_of_ble_eq_true rfl⟩ (cl_rcL hg (Or.inl ⟨by decide, rfl⟩) rfl) rfl rfl (Nat.le_of_ble_eq_true rfl) dX4_prepareNextTables_34 ⟨by first | exact Nat.le_of_ble_eq_true rfl | omega | (simp; done) | (simp; omega), by first | exact Nat.le_of_ble_eq_true rfl | omega | (simp; done) | (simp; omega)⟩ (fun r2 Y1 hr => ?_)
      obtain ⟨rfl, rfl⟩ := hr
      refine hv_top (y := nI (A 4 0)) (by rw [cl_lenM]) ?_
      refine hv_icmpN_ge (tgt := 89) C dX4_prepareNextTables_37 (by decide) (by omega) (by omega) (fun h3 => ?_) (fun h3 => ?_)
      · skip
        exact hv_vret C hret dX4_prepareNextTables_89 (by first | exact Nat.le_refl _ | decide | omega | (simp; done) | (simp; omega)) (by first | exact Nat.le_refl _ | decide | omega | (simp; done) | (simp; omega)) rfl
      · skip
        exact absurd h3 (by omega)
    · intro j hj ih2
      obtain ⟨g1, g2, g3, g4, g5, g6, g7⟩ := hI.2.2.2.2.1 j hj
      refine hv_iload_n C dX4_prepareNextTables_29 rfl 1 rfl ?_
      refine hv_aload_n C dX4_prepareNextTables_30 rfl 0 rfl ?_
      refine hc_get (kd := 0) (i := 0) (f := 1) (v := .ref (g.1 2 0)) C hg (Or.inl ⟨by decide, rfl⟩) rfl rfl hinX4 (by decide) (by decide +kernel) rfl rfl dX4_prepareNextTables_31 ?_
      refine hv_callVr (As := []) (rest := [.int (nI j)]) (n := 0) C (c_Jx4a65c_size_8abf5 l w (cl_Y w g A (f_zn A Z j) Y0) (g.1 2 0) ((List.range (A 4 0)).map (g.1 13)) (show cl_Y w g A (f_zn A Z j) Y0 (g.1 2 0) = some (.inr ((List.range (A 4 0)).map (g.1 13))) from cl_at hg (Or.inl ⟨by decide, rfl⟩))) gX4_prepareNextTables_Jx4a65c_size_8abf5 rfl (by decide +kernel) ⟨Nat.le_of_ble_eq_true rfl, Nat.le_of_ble_eq_true rfl⟩ (cl_rcL hg (Or.inl ⟨by decide, rfl⟩) rfl) rfl rfl (Nat.le_of_ble_eq_true rfl) dX4_prepareNextTables_34 ⟨by first | exact Nat.le_of_ble_eq_true rfl | omega | (simp; done) | (simp; omega), by first | exact Nat.le_of_ble_eq_true rfl | omega | (simp; done) | (simp; omega)⟩ (fun r4 Y1 hr => ?_)
      obtain ⟨rfl, rfl⟩ := hr
      refine hv_top (y := nI (A 4 0)) (by rw [cl_lenM]) ?_
      refine hv_icmpN_ge (tgt := 89) C dX4_prepareNextTables_37 (by decide) (by omega) (by omega) (fun h5 => ?_) (fun h5 => ?_)
      · skip
        exact absurd h5 (by omega)
      · skip
        refine hv_aload_n C dX4_prepareNextTables_40 rfl 0 rfl ?_
        refine hc_get (kd := 0) (i := 0) (f := 1) (v := .ref (g.1 2 0)) C hg (Or.inl ⟨by decide, rfl⟩) rfl rfl hinX4 (by decide) (by decide +kernel) rfl rfl dX4_prepareNextTables_41 ?_
        refine hv_iload_n C dX4_prepareNextTables_44 rfl 1 rfl ?_
        refine hv_callVr (As := [.int (nI j)]) (rest := []) (n := 1) C (c_Jx4a65c_get_915e3 l w (cl_Y w g A (f_zn A Z j) Y0) (g.1 2 0) ((List.range (A 4 0)).map (g.1 13)) (show cl_Y w g A (f_zn A Z j) Y0 (g.1 2 0) = some (.inr ((List.range (A 4 0)).map (g.1 13))) from cl_at hg (Or.inl ⟨by decide, rfl⟩)) (by rw [cl_lenM]; omega) j (g.1 13 j) (cl_getM (by omega))) gX4_prepareNextTables_Jx4a65c_get_915e3 rfl (by decide +kernel) ⟨Nat.le_of_ble_eq_true rfl, Nat.le_of_ble_eq_true rfl⟩ (cl_rcL hg (Or.inl ⟨by decide, rfl⟩) rfl) rfl rfl (Nat.le_of_ble_eq_true rfl) dX4_prepareNextTables_45 ⟨by first | exact Nat.le_of_ble_eq_true rfl | omega | (simp; done) | (simp; omega), by first | exact Nat.le_of_ble_eq_true rfl | omega | (simp; done) | (simp; omega)⟩ (fun r6 Y1 hr => ?_)
        obtain ⟨rfl, rfl⟩ := hr
        refine hv_cast (ci := 3) C rfl ((cl_at hg (Or.inr (Or.inr (Or.inl ⟨rfl, by omega⟩)))).trans rfl) (by decide +kernel) dX4_prepareNextTables_48 ?_
        refine hv_astore_n (lv1 := [(0, .ref (g.1 0 0)), (1, .int (nI j)), (2, .ref (g.1 13 j))]) C dX4_prepareNextTables_51 rfl (by decide) [1, 2, 0] rfl ?_
        refine hv_aload_n C dX4_prepareNextTables_52 rfl 2 rfl ?_
        refine hc_get (kd := 13) (i := j) (f := 5) (v := .int (nI (A 9 j))) C hg (Or.inr (Or.inr (Or.inl ⟨rfl, by omega⟩))) rfl rfl hinX2 (by decide) (by decide +kernel) rfl rfl dX4_prepareNextTables_53 ?_
        refine hv_ifN_eq (tgt := 83) C dX4_prepareNextTables_56 (by decide) (by omega) (fun h7 => ?_) (fun h7 => ?_)
        · skip
          refine hv_iinc (v := nI (j + 1)) (lv1 := [(0, .ref (g.1 0 0)), (1, .int (nI (j + 1))), (2, .ref (g.1 13 j))]) C dX4_prepareNextTables_83 (k := 1) rfl (nI_1 _) (by decide) [1, 0, 2] rfl ?_
          refine hv_goto (tgt := 29) C dX4_prepareNextTables_86 (by decide) ?_
          exact hv_sub (lv1 := [(0, .ref (g.1 0 0)), (1, .int (nI (j + 1)))]) [0, 1] rfl (hv_fin ih2 (cl_Zeq (zn_n h7)) rfl)
        · skip
          refine hv_aload_n C dX4_prepareNextTables_59 rfl 2 rfl ?_
          refine hc_get (kd := 13) (i := j) (f := 1) (v := .ref (g.1 5 (A 5 j))) C hg (Or.inr (Or.inr (Or.inl ⟨rfl, by omega⟩))) rfl rfl hinX2 (by decide) (by decide +kernel) rfl rfl dX4_prepareNextTables_60 ?_
          refine hv_aload_n C dX4_prepareNextTables_63 rfl 2 rfl ?_
          refine hc_get (kd := 13) (i := j) (f := 2) (v := .ref (g.1 5 (A 6 j))) C hg (Or.inr (Or.inr (Or.inl ⟨rfl, by omega⟩))) rfl rfl hinX2 (by decide) (by decide +kernel) rfl rfl dX4_prepareNextTables_64 ?_
          refine hv_aload_n C dX4_prepareNextTables_67 rfl 2 rfl ?_
          refine hv_callVv (As := [.ref (g.1 5 (A 6 j)), .ref (g.1 13 j)]) (rest := []) (n := 2) C (c_X1_hearNeighbour l w g A (f_zn A Z j) Y0 hg hI hZ0 (A 5 j) (A 6 j) j g1 g2 hj (Or.inl rfl) (by unfold f_bey; rw [if_pos rfl]) h7 (fun o ho => by rw [(zn_row g1 ho).1]; exact (f_ent_le A _ _ _).1) (fun o ho hbo => by rw [(zn_row g1 ho).1, (zn_row g1 ho).2]; exact f_ent_00 A hbo j)) gX4_prepareNextTables_X1_hearNeighbour rfl (by decide +kernel) ⟨Nat.le_of_ble_eq_true rfl, Nat.le_of_ble_eq_true rfl⟩ (cl_rc hg (Or.inr (Or.inl ⟨by decide, by decide, by omega⟩)) rfl rfl) rfl rfl (Nat.le_of_ble_eq_true rfl) dX4_prepareNextTables_68 ⟨by first | exact Nat.le_of_ble_eq_true rfl | omega | (simp; done) | (simp; omega), by first | exact Nat.le_of_ble_eq_true rfl | omega | (simp; done) | (simp; omega)⟩ (fun Y1 hr => ?_)
          subst hr
          refine hv_aload_n C dX4_prepareNextTables_71 rfl 2 rfl ?_
          refine hc_get (kd := 13) (i := j) (f := 2) (v := .ref (g.1 5 (A 6 j))) C hg (Or.inr (Or.inr (Or.inl ⟨rfl, by omega⟩))) rfl rfl hinX2 (by decide) (by decide +kernel) rfl rfl dX4_prepareNextTables_72 ?_
          refine hv_aload_n C dX4_prepareNextTables_75 rfl 2 rfl ?_
          refine hc_get (kd := 13) (i := j) (f := 1) (v := .ref (g.1 5 (A 5 j))) C hg (Or.inr (Or.inr (Or.inl ⟨rfl, by omega⟩))) rfl rfl hinX2 (by decide) (by decide +kernel) rfl rfl dX4_prepareNextTables_76 ?_
          refine hv_aload_n C dX4_prepareNextTables_79 rfl 2 rfl ?_
          refine hv_callVv (As := [.ref (g.1 5 (A 5 j)), .ref (g.1 13 j)]) (rest := []) (n := 2) C (c_X1_hearNeighbour l w g A (f_zr A (f_zn A Z j) (A 5 j) j 8) Y0 hg hI hZ0 (A 6 j) (A 5 j) j g2 g1 hj (Or.inr rfl) (by unfold f_bey; rw [if_neg g3]) h7 (fun o ho => by rw [zr_1, if_neg (by omega), (zn_row g2 ho).1]; exact (f_ent_le A _ _ _).1) (fun o ho hbo => by rw [zr_1, zr_2, if_neg (by omega), if_neg (by omega), (zn_row g2 ho).1, (zn_row g2 ho).2]; exact f_ent_00 A hbo j)) gX4_prepareNextTables_X1_hearNeighbour rfl (by decide +kernel) ⟨Nat.le_of_ble_eq_true rfl, Nat.le_of_ble_eq_true rfl⟩ (cl_rc hg (Or.inr (Or.inl ⟨by decide, by decide, by omega⟩)) rfl rfl) rfl rfl (Nat.le_of_ble_eq_true rfl) dX4_prepareNextTables_80 ⟨by first | exact Nat.le_of_ble_eq_true rfl | omega | (simp; done) | (simp; omega), by first | exact Nat.le_of_ble_eq_true rfl | omega | (simp; done) | (simp; omega)⟩ (fun Y1 hr => ?_)
          subst hr
          refine hv_iinc (v := nI (j + 1)) (lv1 := [(0, .ref (g.1 0 0)), (1, .int (nI (j + 1))), (2, .ref (g.1 13 j))]) C dX4_prepareNextTables_83 (k := 1) rfl (nI_1 _) (by decide) [1, 0, 2] rfl ?_
          refine hv_goto (tgt := 29) C dX4_prepareNextTables_86 (by decide) ?_
          exact hv_sub (lv1 := [(0, .ref (g.1 0 0)), (1, .int (nI (j + 1)))]) [0, 1] rfl (hv_fin ih2 (cl_Zeq (zn_y g1 g2 g3)) rfl)
  · intro i hi ih
    have hzi := hZ0 i hi
    refine hv_iload_n C dX4_prepareNextTables_2 rfl 1 rfl ?_
    refine hv_bipush (v := nI 8) C dX4_prepareNextTables_3 (by decide) ?_
    refine hv_icmpN_ge (tgt := 27) C dX4_prepareNextTables_5 (by decide) (by omega) (by omega) (fun h10 => ?_) (fun h10 => ?_)
    · skip
      exact absurd h10 (by omega)
    · skip
      refine hv_aload_n C dX4_prepareNextTables_8 rfl 0 rfl ?_
      refine hc_get (kd := 0) (i := 0) (f := 0) (v := .ref (g.1 1 0)) C hg (Or.inl ⟨by decide, rfl⟩) rfl rfl hinX4 (by decide) (by decide +kernel) rfl rfl dX4_prepareNextTables_9 ?_
      refine hv_iload_n C dX4_prepareNextTables_12 rfl 1 rfl ?_
      refine hc_bas (j := i) C hg (by omega) dX4_prepareNextTables_13 ?_
      refine hc_get (kd := 5) (i := i) (f := 5) (v := .ref (g.1 (8 - Z 0 i) i)) C hg (Or.inr (Or.inl ⟨by decide, by decide, by omega⟩)) rfl rfl hinX1 (by decide) (by decide +kernel) rfl rfl dX4_prepareNextTables_14 ?_
      refine hv_iload_n C dX4_prepareNextTables_17 rfl 1 rfl ?_
      refine hv_callVv (As := [.int (nI i)]) (rest := []) (n := 1) C (c_X3_clearFor l w (cl_Y w g A (f_zc Z i) Y0) (g.1 (8 - Z 0 i) i) (g.1 (10 - Z 0 i) i) (g.1 (12 - Z 0 i) i) i (fun j => if j < 8 then nI ((f_zc Z i) 1 (8 * i + j)) + (-1) else 0) (fun j => if j < 8 then cl_r g.1 ((f_zc Z i) 2 (8 * i + j)) else none) ((cl_at hg (Or.inr (Or.inl ⟨by omega, by omega, by omega⟩))).trans (congrArg some (cl_x (Z := (f_zc Z i)) (show Z 0 i ≤ 1 from hzi)))) ((cl_at hg (Or.inr (Or.inl ⟨by omega, by omega, by omega⟩))).trans (congrArg some (cl_xd (Z := (f_zc Z i)) (show Z 0 i ≤ 1 from hzi)))) ((cl_at hg (Or.inr (Or.inl ⟨by omega, by omega, by omega⟩))).trans (congrArg some (cl_xc (Z := (f_zc Z i)) (show Z 0 i ≤ 1 from hzi)))) hi) gX4_prepareNextTables_X3_clearFor rfl (by decide +kernel) ⟨Nat.le_of_ble_eq_true rfl, Nat.le_of_ble_eq_true rfl⟩ (cl_rc hg (Or.inr (Or.inl ⟨by omega, by omega, by omega⟩)) (cl_x (show Z 0 i ≤ 1 from hzi)) rfl) rfl rfl (Nat.le_of_ble_eq_true rfl) dX4_prepareNextTables_18 ⟨by first | exact Nat.le_of_ble_eq_true rfl | omega | (simp; done) | (simp; omega), by first | exact Nat.le_of_ble_eq_true rfl | omega | (simp; done) | (simp; omega)⟩ (fun Y1 hr => ?_)
      subst hr
      refine hv_fin ?_ (zc_cl hg hi hzi) rfl
      refine hv_iinc (v := nI (i + 1)) (lv1 := [(0, .ref (g.1 0 0)), (1, .int (nI (i + 1)))]) C dX4_prepareNextTables_21 (k := 1) rfl (nI_1 _) (by decide) [1, 0] rfl ?_
      refine hv_goto (tgt := 2) C dX4_prepareNextTables_24 (by decide) ?_
      exact ih
def f_df (A Z : ab_A) (b : Nat) : Nat → Nat
  | 0 => 0
  | o + 1 => f_df A Z b o + b2 (A 11 (8 * b + o) ≠ Z 1 (8 * b + o) ∨ A 12 (8 * b + o) ≠ Z 2 (8 * b + o))
theorem f_df_le (A Z : ab_A) (b n : Nat) : f_df A Z b n ≤ n := by
  induction n with
  | zero => exact Nat.le_refl _
  | succ n ih =>
    have := b2_le (q := A 11 (8 * b + n) ≠ Z 1 (8 * b + n) ∨ A 12 (8 * b + n) ≠ Z 2 (8 * b + n))
    show f_df A Z b n + b2 _ ≤ n + 1
    omega
theorem f_df_1 {A Z : ab_A} {b o : Nat} (h : A 11 (8 * b + o) ≠ Z 1 (8 * b + o) ∨ A 12 (8 * b + o) ≠ Z 2 (8 * b + o)) : f_df A Z b (o + 1) = f_df A Z b o + 1 := by
  show f_df A Z b o + b2 _ = _
  rw [b2_t h]
theorem f_df_0 {A Z : ab_A} {b o : Nat} (h : ¬ (A 11 (8 * b + o) ≠ Z 1 (8 * b + o) ∨ A 12 (8 * b + o) ≠ Z 2 (8 * b + o))) : f_df A Z b (o + 1) = f_df A Z b o := by
  show f_df A Z b o + b2 _ = _
  rw [b2_f h]
  rfl
theorem cl_r_inj {g : cl_g} {n k x y : Nat} (hg : cl_ok g n k) (hx : x ≤ n) (hy : y ≤ n) : cl_r g.1 x = cl_r g.1 y ↔ x = y := by
  constructor
  · intro h
    unfold cl_r at h
    by_cases h1 : x = 0
    · rw [if_pos h1] at h
      by_cases h2 : y = 0
      · omega
      · rw [if_neg h2] at h; cases h
    · rw [if_neg h1] at h
      by_cases h2 : y = 0
      · rw [if_pos h2] at h; cases h
      · rw [if_neg h2] at h
        have := (cl_inj hg (by unfold cl_in; omega) (by unfold cl_in; omega) (Option.some.inj h)).2
        omega
  · intro h; rw [h]
set_option maxRecDepth 100000 in
set_option maxHeartbeats 4000000 in
theorem c_X3_countDifferences (l : Launch) (w : hv_W) (g : cl_g) (A Z : ab_A) (Y0 : hv_H) (hg : cl_ok g (A 4 0) (A 15 0)) (hI : ab_I A) (b : Nat) (hb : b < 8) (hz : Z 0 b ≤ 1) (h1 : ∀ o, o < 8 → Z 1 (8 * b + o) ≤ 41) (h2 : ∀ o, o < 8 → Z 2 (8 * b + o) ≤ A 4 0) : hv_Mr l yX3_countDifferences wsX3_countDifferences ({ frames := 0, cells := 0, slots := 0, locals := 0 }) w [.ref (g.1 (7 + Z 0 b) b), .ref (g.1 (8 - Z 0 b) b)] (cl_Y w g A Z Y0) (fun r Y1 => r = .int (nI (f_df A Z b 8)) ∧ Y1 = cl_Y w g A Z Y0) := by
  refine hv_ofV (cc := cX3_countDifferences) (own := RX3) (by decide) rfl rfl (Nat.le_of_ble_eq_true rfl) rfl ?_
  intro p e s m below meth c C hret hnm
  have hinX3 : ∀ x ∈ wsX30, x ∈ wsX3_countDifferences := by decide +kernel
  refine hv_iconst (v := nI 0) C dX3_countDifferences_0 (by decide) ?_
  refine hv_istore_n (lv1 := [(0, .ref (g.1 (7 + Z 0 b) b)), (1, .ref (g.1 (8 - Z 0 b) b)), (2, .int (nI 0))]) C dX3_countDifferences_1 rfl (by decide) [1, 2, 0] rfl ?_
  refine hv_iconst (v := nI 0) C dX3_countDifferences_2 (by decide) ?_
  refine hv_istore_n (lv1 := [(0, .ref (g.1 (7 + Z 0 b) b)), (1, .ref (g.1 (8 - Z 0 b) b)), (2, .int (nI 0)), (3, .int (nI 0))]) C dX3_countDifferences_3 rfl (by decide) [1, 2, 3, 0] rfl ?_
  refine hv_loop 8 (fun o => cl_Y w g A Z Y0) (fun o => [(0, .ref (g.1 (7 + Z 0 b) b)), (1, .ref (g.1 (8 - Z 0 b) b)), (2, .int (nI (f_df A Z b o))), (3, .int (nI o))]) ?_ ?_
  · skip
    refine hv_iload_n C dX3_countDifferences_4 rfl 3 rfl ?_
    refine hv_bipush (v := nI 8) C dX3_countDifferences_5 (by decide) ?_
    refine hv_icmpN_ge (tgt := 49) C dX3_countDifferences_7 (by decide) (by omega) (by omega) (fun _ => ?_) (fun h => absurd h (by decide))
    refine hv_iload_n C dX3_countDifferences_49 rfl 2 rfl ?_
    exact hv_iret C hret dX3_countDifferences_50 (by first | exact Nat.le_refl _ | decide | omega | (simp; done) | (simp; omega)) (by first | exact Nat.le_refl _ | decide | omega | (simp; done) | (simp; omega)) ⟨rfl, rfl⟩
  · intro o ho ih
    have h11o := (hI.2.2.2.2.2.1 b o hb ho).1
    have h12o := (hI.2.2.2.2.2.1 b o hb ho).2.1
    have h1o := h1 o ho
    have h2o := h2 o ho
    refine hv_iload_n C dX3_countDifferences_4 rfl 3 rfl ?_
    refine hv_bipush (v := nI 8) C dX3_countDifferences_5 (by decide) ?_
    refine hv_icmpN_ge (tgt := 49) C dX3_countDifferences_7 (by decide) (by omega) (by omega) (fun h2 => ?_) (fun h2 => ?_)
    · skip
      exact absurd h2 (by omega)
    · skip
      refine hv_aload_n C dX3_countDifferences_10 rfl 0 rfl ?_
      refine hc_get (kd := (7 + Z 0 (b))) (i := b) (f := 0) (v := .ref (g.1 (9 + Z 0 b) b)) C hg (Or.inr (Or.inl ⟨by omega, by omega, by omega⟩)) (cl_t (show Z 0 b ≤ 1 from by omega)) rfl hinX3 (by decide) (by decide +kernel) rfl rfl dX3_countDifferences_11 ?_
      refine hv_iload_n C dX3_countDifferences_14 rfl 3 rfl ?_
      refine hc_iald (kd := 9 + Z 0 b) (i := b) (j := o) (x := (nI (A 11 (8 * b + o)) + (-1))) C hg (Or.inr (Or.inl ⟨by omega, by omega, by omega⟩)) (cl_td (show Z 0 b ≤ 1 from by omega)) (by decide) (by omega) (if_pos (by omega)) dX3_countDifferences_15 ?_
      refine hv_aload_n C dX3_countDifferences_16 rfl 1 rfl ?_
      refine hc_get (kd := (8 - Z 0 (b))) (i := b) (f := 0) (v := .ref (g.1 (10 - Z 0 b) b)) C hg (Or.inr (Or.inl ⟨by omega, by omega, by omega⟩)) (cl_x (show Z 0 b ≤ 1 from by omega)) rfl hinX3 (by decide) (by decide +kernel) rfl rfl dX3_countDifferences_17 ?_
      refine hv_iload_n C dX3_countDifferences_20 rfl 3 rfl ?_
      refine hc_iald (kd := 10 - Z 0 b) (i := b) (j := o) (x := (nI (Z 1 (8 * b + o)) + (-1))) C hg (Or.inr (Or.inl ⟨by omega, by omega, by omega⟩)) (cl_xd (show Z 0 b ≤ 1 from by omega)) (by decide) (by omega) (if_pos (by omega)) dX3_countDifferences_21 ?_
      refine hv_icmpE_ne (tgt := 40) C dX3_countDifferences_22 (by decide) (by omega) (by omega) (fun h3 => ?_) (fun h3 => ?_)
      · skip
        refine hv_iinc (v := nI (f_df A Z b o + 1)) (lv1 := [(0, .ref (g.1 (7 + Z 0 b) b)), (1, .ref (g.1 (8 - Z 0 b) b)), (2, .int (nI (f_df A Z b o + 1))), (3, .int (nI o))]) C dX3_countDifferences_40 (k := 2) rfl (nI_1 _) (by decide) [1, 2, 0, 3] rfl ?_
        refine hv_iinc (v := nI (o + 1)) (lv1 := [(0, .ref (g.1 (7 + Z 0 b) b)), (1, .ref (g.1 (8 - Z 0 b) b)), (2, .int (nI (f_df A Z b o + 1))), (3, .int (nI (o + 1)))]) C dX3_countDifferences_43 (k := 3) rfl (nI_1 _) (by decide) [1, 2, 3, 0] rfl ?_
        refine hv_goto (tgt := 4) C dX3_countDifferences_46 (by decide) ?_
        exact hv_sub (lv1 := [(0, .ref (g.1 (7 + Z 0 b) b)), (1, .ref (g.1 (8 - Z 0 b) b)), (2, .int (nI (f_df A Z b o + 1))), (3, .int (nI (o + 1)))]) [0, 1, 2, 3] rfl (hv_fin ih rfl (by rw [f_df_1 (Or.inl h3)]))
      · skip
        refine hv_aload_n C dX3_countDifferences_25 rfl 0 rfl ?_
        refine hc_get (kd := (7 + Z 0 (b))) (i := b) (f := 1) (v := .ref (g.1 (11 + Z 0 b) b)) C hg (Or.inr (Or.inl ⟨by omega, by omega, by omega⟩)) (cl_t (show Z 0 b ≤ 1 from by omega)) rfl hinX3 (by decide) (by decide +kernel) rfl rfl dX3_countDifferences_26 ?_
        refine hv_iload_n C dX3_countDifferences_29 rfl 3 rfl ?_
        refine hc_aald (kd := 11 + Z 0 b) (i := b) (j := o) (x := cl_r g.1 (A 12 (8 * b + o))) C 4 (show (hv_T w)[4]? = some (hv_c w 4, .object RX2) from rfl) hg (Or.inr (Or.inl ⟨by omega, by omega, by omega⟩)) (cl_tc (show Z 0 b ≤ 1 from by omega)) (by decide) (by omega) (if_pos (by omega)) dX3_countDifferences_30 ?_
        refine hv_aload_n C dX3_countDifferences_31 rfl 1 rfl ?_
        refine hc_get (kd := (8 - Z 0 (b))) (i := b) (f := 1) (v := .ref (g.1 (12 - Z 0 b) b)) C hg (Or.inr (Or.inl ⟨by omega, by omega, by omega⟩)) (cl_x (show Z 0 b ≤ 1 from by omega)) rfl hinX3 (by decide) (by decide +kernel) rfl rfl dX3_countDifferences_32 ?_
        refine hv_iload_n C dX3_countDifferences_35 rfl 3 rfl ?_
        refine hc_aald (kd := 12 - Z 0 b) (i := b) (j := o) (x := cl_r g.1 (Z 2 (8 * b + o))) C 4 (show (hv_T w)[4]? = some (hv_c w 4, .object RX2) from rfl) hg (Or.inr (Or.inl ⟨by omega, by omega, by omega⟩)) (cl_xc (show Z 0 b ≤ 1 from by omega)) (by decide) (by omega) (if_pos (by omega)) dX3_countDifferences_36 ?_
        refine hv_acmp_eq (tgt := 43) C dX3_countDifferences_37 (by decide) (fun h4 => ?_) (fun h4 => ?_)
        · skip
          refine hv_iinc (v := nI (o + 1)) (lv1 := [(0, .ref (g.1 (7 + Z 0 b) b)), (1, .ref (g.1 (8 - Z 0 b) b)), (2, .int (nI (f_df A Z b o))), (3, .int (nI (o + 1)))]) C dX3_countDifferences_43 (k := 3) rfl (nI_1 _) (by decide) [1, 2, 3, 0] rfl ?_
          refine hv_goto (tgt := 4) C dX3_countDifferences_46 (by decide) ?_
          exact hv_sub (lv1 := [(0, .ref (g.1 (7 + Z 0 b) b)), (1, .ref (g.1 (8 - Z 0 b) b)), (2, .int (nI (f_df A Z b o))), (3, .int (nI (o + 1)))]) [0, 1, 2, 3] rfl (hv_fin ih rfl (by rw [f_df_0 (fun q => q.elim (fun z => z h3) (fun z => z ((cl_r_inj hg h12o h2o).mp h4)))]))
        · skip
          refine hv_iinc (v := nI (f_df A Z b o + 1)) (lv1 := [(0, .ref (g.1 (7 + Z 0 b) b)), (1, .ref (g.1 (8 - Z 0 b) b)), (2, .int (nI (f_df A Z b o + 1))), (3, .int (nI o))]) C dX3_countDifferences_40 (k := 2) rfl (nI_1 _) (by decide) [1, 2, 0, 3] rfl ?_
          refine hv_iinc (v := nI (o + 1)) (lv1 := [(0, .ref (g.1 (7 + Z 0 b) b)), (1, .ref (g.1 (8 - Z 0 b) b)), (2, .int (nI (f_df A Z b o + 1))), (3, .int (nI (o + 1)))]) C dX3_countDifferences_43 (k := 3) rfl (nI_1 _) (by decide) [1, 2, 3, 0] rfl ?_
          refine hv_goto (tgt := 4) C dX3_countDifferences_46 (by decide) ?_
          exact hv_sub (lv1 := [(0, .ref (g.1 (7 + Z 0 b) b)), (1, .ref (g.1 (8 - Z 0 b) b)), (2, .int (nI (f_df A Z b o + 1))), (3, .int (nI (o + 1)))]) [0, 1, 2, 3] rfl (hv_fin ih rfl (by rw [f_df_1 (Or.inr (fun q => h4 ((cl_r_inj hg h12o h2o).mpr q)))]))
def f_dfs (A Z : ab_A) : Nat → Nat
  | 0 => 0
  | b + 1 => f_dfs A Z b + f_df A Z b 8
theorem f_dfs_chg (A Z : ab_A) (i : Nat) (hi : i ≤ 8) : f_dfs A (f_zn A Z (A 4 0)) i = f_chg A (8 * i) := by
  induction i with
  | zero => rfl
  | succ i ih =>
    have h : ∀ o, o ≤ 8 → f_chg A (8 * i + o) = f_chg A (8 * i) + f_df A (f_zn A Z (A 4 0)) i o := by
      intro o
      induction o with
      | zero => intro _; rfl
      | succ o iho =>
        intro ho
        have h1 := iho (by omega)
        obtain ⟨e1, e2⟩ := zn_row (A := A) (Z := Z) (b := i) (o := o) (n := A 4 0) (by omega) (by omega)
        have e3 : (8 * i + o) / 8 = i := by omega
        have e4 : (8 * i + o) % 8 = o := by omega
        show f_chg A (8 * i + o) + b2 (f_nf A (8 * i + o) ≠ A 11 (8 * i + o) ∨ f_nb A (8 * i + o) ≠ A 12 (8 * i + o)) = f_chg A (8 * i) + (f_df A (f_zn A Z (A 4 0)) i o + b2 (A 11 (8 * i + o) ≠ f_zn A Z (A 4 0) 1 (8 * i + o) ∨ A 12 (8 * i + o) ≠ f_zn A Z (A 4 0) 2 (8 * i + o)))
        rw [h1, e1, e2]
        have e5 : b2 (f_nf A (8 * i + o) ≠ A 11 (8 * i + o) ∨ f_nb A (8 * i + o) ≠ A 12 (8 * i + o)) = b2 (A 11 (8 * i + o) ≠ (f_ent A i o (A 4 0)).1 ∨ A 12 (8 * i + o) ≠ (f_ent A i o (A 4 0)).2) := by
          unfold f_nf f_nb
          rw [e3, e4]
          unfold b2
          by_cases q : (f_ent A i o (A 4 0)).1 ≠ A 11 (8 * i + o) ∨ (f_ent A i o (A 4 0)).2 ≠ A 12 (8 * i + o)
          · rw [if_pos q, if_pos (q.imp Ne.symm Ne.symm)]
          · rw [if_neg q, if_neg (fun z => q (z.imp Ne.symm Ne.symm))]
        rw [e5]
        omega
    show f_dfs A (f_zn A Z (A 4 0)) i + f_df A (f_zn A Z (A 4 0)) i 8 = f_chg A (8 * i + 8)
    rw [ih (by omega), h 8 (by omega)]
set_option maxRecDepth 100000 in
set_option maxHeartbeats 4000000 in
theorem c_X4_countNextChanges (l : Launch) (w : hv_W) (g : cl_g) (A Z : ab_A) (Y0 : hv_H) (hg : cl_ok g (A 4 0) (A 15 0)) (hI : ab_I A) (hZ0 : (∀ i, i < 8 → Z 0 i ≤ 1)) (hz1 : ∀ k, k < 64 → Z 1 k ≤ 41) (hz2 : ∀ k, k < 64 → Z 2 k ≤ A 4 0) : hv_Mr l yX4_countNextChanges wsX4_countNextChanges ({ frames := 1, cells := 0, slots := 0, locals := 23 }) w [.ref (g.1 0 0)] (cl_Y w g A Z Y0) (fun r Y1 => r = .int (nI (f_dfs A Z 8)) ∧ Y1 = cl_Y w g A Z Y0) := by
  refine hv_ofV (cc := cX4_countNextChanges) (own := RX4) (by decide) rfl rfl (Nat.le_of_ble_eq_true rfl) rfl ?_
  intro p e s m below meth c C hret hnm
  have hinX1 : ∀ x ∈ wsX10, x ∈ wsX4_countNextChanges := by decide +kernel
  have hinX4 : ∀ x ∈ wsX40, x ∈ wsX4_countNextChanges := by decide +kernel
  refine hv_iconst (v := nI 0) C dX4_countNextChanges_0 (by decide) ?_
  refine hv_istore_n (lv1 := [(0, .ref (g.1 0 0)), (1, .int (nI 0))]) C dX4_countNextChanges_1 rfl (by decide) [1, 0] rfl ?_
  refine hv_iconst (v := nI 0) C dX4_countNextChanges_2 (by decide) ?_
  refine hv_istore_n (lv1 := [(0, .ref (g.1 0 0)), (1, .int (nI 0)), (2, .int (nI 0))]) C dX4_countNextChanges_3 rfl (by decide) [1, 2, 0] rfl ?_
  refine hv_loop 8 (fun i => cl_Y w g A Z Y0) (fun i => [(0, .ref (g.1 0 0)), (1, .int (nI (f_dfs A Z i))), (2, .int (nI i))]) ?_ ?_
  · skip
    refine hv_iload_n C dX4_countNextChanges_4 rfl 2 rfl ?_
    refine hv_bipush (v := nI 8) C dX4_countNextChanges_5 (by decide) ?_
    refine hv_icmpN_ge (tgt := 40) C dX4_countNextChanges_7 (by decide) (by omega) (by omega) (fun _ => ?_) (fun h => absurd h (by decide))
    refine hv_iload_n C dX4_countNextChanges_40 rfl 1 rfl ?_
    exact hv_iret C hret dX4_countNextChanges_41 (by first | exact Nat.le_refl _ | decide | omega | (simp; done) | (simp; omega)) (by first | exact Nat.le_refl _ | decide | omega | (simp; done) | (simp; omega)) ⟨rfl, rfl⟩
  · intro i hi ih
    have hzi := hZ0 i hi
    refine hv_iload_n C dX4_countNextChanges_4 rfl 2 rfl ?_
    refine hv_bipush (v := nI 8) C dX4_countNextChanges_5 (by decide) ?_
    refine hv_icmpN_ge (tgt := 40) C dX4_countNextChanges_7 (by decide) (by omega) (by omega) (fun h2 => ?_) (fun h2 => ?_)
    · skip
      exact absurd h2 (by omega)
    · skip
      refine hv_iload_n C dX4_countNextChanges_10 rfl 1 rfl ?_
      refine hv_aload_n C dX4_countNextChanges_11 rfl 0 rfl ?_
      refine hc_get (kd := 0) (i := 0) (f := 0) (v := .ref (g.1 1 0)) C hg (Or.inl ⟨by decide, rfl⟩) rfl rfl hinX4 (by decide) (by decide +kernel) rfl rfl dX4_countNextChanges_12 ?_
      refine hv_iload_n C dX4_countNextChanges_15 rfl 2 rfl ?_
      refine hc_bas (j := i) C hg (by omega) dX4_countNextChanges_16 ?_
      refine hc_get (kd := 5) (i := i) (f := 4) (v := .ref (g.1 (7 + Z 0 i) i)) C hg (Or.inr (Or.inl ⟨by decide, by decide, by omega⟩)) rfl rfl hinX1 (by decide) (by decide +kernel) rfl rfl dX4_countNextChanges_17 ?_
      refine hv_aload_n C dX4_countNextChanges_20 rfl 0 rfl ?_
      refine hc_get (kd := 0) (i := 0) (f := 0) (v := .ref (g.1 1 0)) C hg (Or.inl ⟨by decide, rfl⟩) rfl rfl hinX4 (by decide) (by decide +kernel) rfl rfl dX4_countNextChanges_21 ?_
      refine hv_iload_n C dX4_countNextChanges_24 rfl 2 rfl ?_
      refine hc_bas (j := i) C hg (by omega) dX4_countNextChanges_25 ?_
      refine hc_get (kd := 5) (i := i) (f := 5) (v := .ref (g.1 (8 - Z 0 i) i)) C hg (Or.inr (Or.inl ⟨by decide, by decide, by omega⟩)) rfl rfl hinX1 (by decide) (by decide +kernel) rfl rfl dX4_countNextChanges_26 ?_
      refine hv_callVr (As := [.ref (g.1 (8 - Z 0 i) i)]) (rest := [.int (nI (f_dfs A Z i))]) (n := 1) C (c_X3_countDifferences l w g A Z Y0 hg hI i hi hzi (fun o ho => hz1 (8 * i + o) (by omega)) (fun o ho => hz2 (8 * i + o) (by omega))) gX4_countNextChanges_X3_countDifferences rfl (by decide +kernel) ⟨Nat.le_of_ble_eq_true rfl, Nat.le_of_ble_eq_true rfl⟩ (cl_rc (kd := 7 + Z 0 i) (i := i) hg (Or.inr (Or.inl ⟨by omega, by omega, by omega⟩)) (cl_t (show Z 0 i ≤ 1 from by omega)) rfl) rfl rfl (Nat.le_of_ble_eq_true rfl) dX4_countNextChanges_29 ⟨by first | exact Nat.le_of_ble_eq_true rfl | omega | (simp; done) | (simp; omega), by first | exact Nat.le_of_ble_eq_true rfl | omega | (simp; done) | (simp; omega)⟩ (fun r3 Y1 hr => ?_)
      obtain ⟨rfl, rfl⟩ := hr
      refine hv_iaddN C dX4_countNextChanges_32 ?_
      refine hv_istore_n (lv1 := [(0, .ref (g.1 0 0)), (1, .int (nI ((f_dfs A Z i) + (f_df A Z i 8)))), (2, .int (nI i))]) C dX4_countNextChanges_33 rfl (by decide) [1, 0, 2] rfl ?_
      refine hv_iinc (v := nI (i + 1)) (lv1 := [(0, .ref (g.1 0 0)), (1, .int (nI ((f_dfs A Z i) + (f_df A Z i 8)))), (2, .int (nI (i + 1)))]) C dX4_countNextChanges_34 (k := 2) rfl (nI_1 _) (by decide) [1, 2, 0] rfl ?_
      refine hv_goto (tgt := 4) C dX4_countNextChanges_37 (by decide) ?_
      exact ih
def f_tuA (A Z : ab_A) (b : Nat) : ab_A := fun k i => if k = 11 then (if i / 8 = b then Z 1 i else A 11 i) else if k = 12 then (if i / 8 = b then Z 2 i else A 12 i) else A k i
def f_tuZ (A Z : ab_A) (b : Nat) : ab_A := fun s i => if s = 0 then (if i = b then 1 - Z 0 b else Z 0 i) else if s = 1 then (if i / 8 = b then A 11 i else Z 1 i) else if s = 2 then (if i / 8 = b then A 12 i else Z 2 i) else Z s i
theorem cl_cellT {w : hv_W} {ad : Nat → Nat → Nat} {A A' Z Z' : ab_A} {kd i : Nat} (hA : ∀ k, k ≠ 11 → k ≠ 12 → k ≠ 13 → k ≠ 14 → A' k = A k) (h5 : kd = 5 → Z' 0 i = Z 0 i)
    (h9 : kd = 9 → ∀ j, j < 8 → (if Z' 0 i = 0 then A' 11 (8 * i + j) else Z' 1 (8 * i + j)) = (if Z 0 i = 0 then A 11 (8 * i + j) else Z 1 (8 * i + j)))
    (h10 : kd = 10 → ∀ j, j < 8 → (if Z' 0 i = 0 then Z' 1 (8 * i + j) else A' 11 (8 * i + j)) = (if Z 0 i = 0 then Z 1 (8 * i + j) else A 11 (8 * i + j)))
    (h11 : kd = 11 → ∀ j, j < 8 → (if Z' 0 i = 0 then A' 12 (8 * i + j) else Z' 2 (8 * i + j)) = (if Z 0 i = 0 then A 12 (8 * i + j) else Z 2 (8 * i + j)))
    (h12 : kd = 12 → ∀ j, j < 8 → (if Z' 0 i = 0 then Z' 2 (8 * i + j) else A' 12 (8 * i + j)) = (if Z 0 i = 0 then Z 2 (8 * i + j) else A 12 (8 * i + j)))
    (h4 : kd = 4 → ∀ j, Z' 3 j = Z 3 j) : cl_cell w ad A' Z' kd i = cl_cell w ad A Z kd i := by
  unfold cl_cell
  simp only [hA 0 (by decide) (by decide) (by decide) (by decide), hA 1 (by decide) (by decide) (by decide) (by decide), hA 2 (by decide) (by decide) (by decide) (by decide), hA 3 (by decide) (by decide) (by decide) (by decide), hA 4 (by decide) (by decide) (by decide) (by decide), hA 5 (by decide) (by decide) (by decide) (by decide), hA 6 (by decide) (by decide) (by decide) (by decide), hA 7 (by decide) (by decide) (by decide) (by decide), hA 8 (by decide) (by decide) (by decide) (by decide), hA 9 (by decide) (by decide) (by decide) (by decide), hA 10 (by decide) (by decide) (by decide) (by decide), hA 15 (by decide) (by decide) (by decide) (by decide), hA 16 (by decide) (by decide) (by decide) (by decide), hA 17 (by decide) (by decide) (by decide) (by decide), hA 18 (by decide) (by decide) (by decide) (by decide), hA 19 (by decide) (by decide) (by decide) (by decide), hA 20 (by decide) (by decide) (by decide) (by decide), hA 21 (by decide) (by decide) (by decide) (by decide), hA 22 (by decide) (by decide) (by decide) (by decide), hA 23 (by decide) (by decide) (by decide) (by decide), hA 24 (by decide) (by decide) (by decide) (by decide)]
  split <;> first | with_reducible rfl | skip
  · exact cI_ext (fun j => by rw [h4 rfl])
  · rw [h5 rfl]
  · refine cI_ext (fun j => ?_)
    by_cases hj : j < 8
    · rw [if_pos hj, if_pos hj, h9 rfl j hj]
    · rw [if_neg hj, if_neg hj]
  · refine cI_ext (fun j => ?_)
    by_cases hj : j < 8
    · rw [if_pos hj, if_pos hj, h10 rfl j hj]
    · rw [if_neg hj, if_neg hj]
  · refine cR_ext (fun j => ?_)
    by_cases hj : j < 8
    · rw [if_pos hj, if_pos hj, h11 rfl j hj]
    · rw [if_neg hj, if_neg hj]
  · refine cR_ext (fun j => ?_)
    by_cases hj : j < 8
    · rw [if_pos hj, if_pos hj, h12 rfl j hj]
    · rw [if_neg hj, if_neg hj]
theorem cl_turn {w : hv_W} {ad : Nat → Nat → Nat} {A Z : ab_A} {n k b : Nat} (hz : Z 0 b ≤ 1) : ∀ kd' i', cl_in n k kd' i' → ¬ (kd' = 5 ∧ i' = b) → cl_cell w ad (f_tuA A Z b) (f_tuZ A Z b) kd' i' = cl_cell w ad A Z kd' i' := by
  intro kd' i' hin hne
  have eA : ∀ j, j < 8 → f_tuA A Z b 11 (8 * i' + j) = if i' = b then Z 1 (8 * i' + j) else A 11 (8 * i' + j) := by
    intro j hj
    show (if (8 * i' + j) / 8 = b then _ else _) = _
    rw [show (8 * i' + j) / 8 = i' by omega]
  have eA2 : ∀ j, j < 8 → f_tuA A Z b 12 (8 * i' + j) = if i' = b then Z 2 (8 * i' + j) else A 12 (8 * i' + j) := by
    intro j hj
    show (if (8 * i' + j) / 8 = b then _ else _) = _
    rw [show (8 * i' + j) / 8 = i' by omega]
  have eZ : ∀ j, j < 8 → f_tuZ A Z b 1 (8 * i' + j) = if i' = b then A 11 (8 * i' + j) else Z 1 (8 * i' + j) := by
    intro j hj
    show (if (8 * i' + j) / 8 = b then _ else _) = _
    rw [show (8 * i' + j) / 8 = i' by omega]
  have eZ2 : ∀ j, j < 8 → f_tuZ A Z b 2 (8 * i' + j) = if i' = b then A 12 (8 * i' + j) else Z 2 (8 * i' + j) := by
    intro j hj
    show (if (8 * i' + j) / 8 = b then _ else _) = _
    rw [show (8 * i' + j) / 8 = i' by omega]
  have e0 : f_tuZ A Z b 0 i' = if i' = b then 1 - Z 0 b else Z 0 i' := rfl
  refine cl_cellT (fun k h1 h2 _ _ => ?_) (fun h => ?_) (fun h j hj => ?_) (fun h j hj => ?_) (fun h j hj => ?_) (fun h j hj => ?_) (fun _ j => rfl)
  · funext i
    simp [f_tuA, h1, h2]
  · rw [e0, if_neg (fun q => hne ⟨h, q⟩)]
  all_goals
    rw [e0]
    by_cases hb : i' = b
    · subst hb
      rcases (show Z 0 i' = 0 ∨ Z 0 i' = 1 by omega) with q | q <;> simp [eA j hj, eA2 j hj, eZ j hj, eZ2 j hj, q]
    · simp [eA j hj, eA2 j hj, eZ j hj, eZ2 j hj, hb]
set_option maxRecDepth 100000 in
set_option maxHeartbeats 4000000 in
theorem c_X1_turnTable (l : Launch) (w : hv_W) (g : cl_g) (A Z : ab_A) (Y0 : hv_H) (hg : cl_ok g (A 4 0) (A 15 0)) (b : Nat) (hb : b < 8) (hz : Z 0 b ≤ 1) : hv_Mv l yX1_turnTable wsX1_turnTable ({ frames := 0, cells := 0, slots := 0, locals := 0 }) w [.ref (g.1 5 b)] (cl_Y w g A Z Y0) (fun Y1 => Y1 = cl_Y w g (f_tuA A Z b) (f_tuZ A Z b) Y0) := by
  refine hv_ofV (cc := cX1_turnTable) (own := RX1) (by decide) rfl rfl (Nat.le_of_ble_eq_true rfl) rfl ?_
  intro p e s m below meth c C hret hnm
  have hinX1 : ∀ x ∈ wsX10, x ∈ wsX1_turnTable := by decide +kernel
  have hin5 : cl_in (A 4 0) (A 15 0) 5 b := Or.inr (Or.inl ⟨by decide, by decide, hb⟩)
  refine hv_aload_n C dX1_turnTable_0 rfl 0 rfl ?_
  refine hc_get (kd := 5) (i := b) (f := 4) (v := .ref (g.1 (7 + Z 0 b) b)) C hg (Or.inr (Or.inl ⟨by decide, by decide, by omega⟩)) rfl rfl hinX1 (by decide) (by decide +kernel) rfl rfl dX1_turnTable_1 ?_
  refine hv_astore_n (lv1 := [(0, .ref (g.1 5 b)), (1, .ref (g.1 (7 + Z 0 b) b))]) C dX1_turnTable_4 rfl (by decide) [1, 0] rfl ?_
  refine hv_aload_n C dX1_turnTable_5 rfl 0 rfl ?_
  refine hv_aload_n C dX1_turnTable_6 rfl 0 rfl ?_
  refine hc_get (kd := 5) (i := b) (f := 5) (v := .ref (g.1 (8 - Z 0 b) b)) C hg (Or.inr (Or.inl ⟨by decide, by decide, by omega⟩)) rfl rfl hinX1 (by decide) (by decide +kernel) rfl rfl dX1_turnTable_7 ?_
  refine hv_putf (k := 4) C hinX1 tyX1 tyX1_ok nmX1 (show vwCl[2]? = some (RX1, TX1, 6) from rfl) ((cl_at hg hin5).trans rfl) (by decide) (by decide +kernel) (fun _ h => h) rfl (ty := .object "LockgateRouter$Table") (by decide +kernel) (by rfl) (by rfl) (by show 4 < 6; decide) dX1_turnTable_10 ?_
  refine hv_aload_n C dX1_turnTable_13 rfl 0 rfl ?_
  refine hv_aload_n C dX1_turnTable_14 rfl 1 rfl ?_
  refine hv_putf (k := 5) C hinX1 tyX1 tyX1_ok nmX1 (show vwCl[2]? = some (RX1, TX1, 6) from rfl) hv_up_s (by decide) (by decide +kernel) (fun _ h => h) rfl (ty := .object "LockgateRouter$Table") (by decide +kernel) (by rfl) (by rfl) (by show 5 < 6; decide) dX1_turnTable_15 ?_
  refine hv_fin (Y1 := cl_Y w g (f_tuA A Z b) (f_tuZ A Z b) Y0) ?_ (hv_upup.trans (cl_up hg hin5 ?_ (cl_turn hz))) rfl
  · exact hv_vret C hret dX1_turnTable_18 (Nat.le_refl _) (Nat.le_refl _) rfl
  · have e0 : f_tuZ A Z b 0 b = 1 - Z 0 b := by simp [f_tuZ]
    show (Sum.inl (Sum.inr (2, [Value.int (nI b), Value.ref (g.1 6 b), Value.int (nI (A 0 b)), Value.int (nI (A 1 b)), Value.ref (g.1 (7 + f_tuZ A Z b 0 b) b), Value.ref (g.1 (8 - f_tuZ A Z b 0 b) b)])) : hv_E) = Sum.inl (Sum.inr (2, [Value.int (nI b), Value.ref (g.1 6 b), Value.int (nI (A 0 b)), Value.int (nI (A 1 b)), Value.ref (g.1 (8 - Z 0 b) b), Value.ref (g.1 (7 + Z 0 b) b)]))
    rw [e0, show 7 + (1 - Z 0 b) = 8 - Z 0 b by omega, show 8 - (1 - Z 0 b) = 7 + Z 0 b by omega]
