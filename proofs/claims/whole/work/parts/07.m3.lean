/-- the step's condition -/
def f_cnd (A : ab_A) (b o j : Nat) (q : Nat × Nat) : Prop := b ≠ o ∧ (A 9 j ≠ 0 ∧ (A 5 j = b ∨ A 6 j = b)) ∧ A 11 (8 * f_bey A j b + o) ≠ 0 ∧ A 11 (8 * f_bey A j b + o) - 1 + f_cost A j ≤ 40 ∧ (q.2 = 0 ∨ A 11 (8 * f_bey A j b + o) - 1 + f_cost A j < q.1 - 1)
theorem f_stp_y {A : ab_A} {b o j : Nat} {q : Nat × Nat} (h : f_cnd A b o j q) : f_stp A b o j q = (A 11 (8 * f_bey A j b + o) - 1 + f_cost A j + 1, j + 1) := if_pos h
theorem f_stp_n {A : ab_A} {b o j : Nat} {q : Nat × Nat} (h : ¬ f_cnd A b o j q) : f_stp A b o j q = q := if_neg h
theorem f_ent_eq (A : ab_A) {b o : Nat} (h : b = o) (n : Nat) : f_ent A b o n = (1, 0) := by
  induction n with
  | zero => simp [f_ent, h]
  | succ n ih =>
    show f_stp A b o n (f_ent A b o n) = _
    rw [f_stp_n (fun q => q.1 h)]
    exact ih
theorem f_ent_le (A : ab_A) (b o n : Nat) : (f_ent A b o n).1 ≤ 41 ∧ (f_ent A b o n).2 ≤ n ∧ ((f_ent A b o n).2 ≠ 0 → 1 ≤ (f_ent A b o n).1) := by
  induction n with
  | zero => unfold f_ent; split <;> simp
  | succ n ih =>
    obtain ⟨h1, h2, h3⟩ := ih
    show (f_stp A b o n (f_ent A b o n)).1 ≤ 41 ∧ (f_stp A b o n (f_ent A b o n)).2 ≤ n + 1 ∧ ((f_stp A b o n (f_ent A b o n)).2 ≠ 0 → 1 ≤ (f_stp A b o n (f_ent A b o n)).1)
    by_cases hc : f_cnd A b o n (f_ent A b o n)
    · rw [f_stp_y hc]
      obtain ⟨-, -, -, c4, -⟩ := hc
      dsimp only
      omega
    · rw [f_stp_n hc]
      exact ⟨h1, by omega, h3⟩
theorem f_nf_le (A : ab_A) (k : Nat) : f_nf A k ≤ 41 := (f_ent_le A _ _ _).1
theorem f_nb_le (A : ab_A) (k : Nat) : f_nb A k ≤ A 4 0 := (f_ent_le A _ _ _).2.1
def f_lk (A : ab_A) (k j : Nat) : ab_A := au (au (f_look A k) 13 k (f_ent A (k / 8) (k % 8) j).1) 14 k (f_ent A (k / 8) (k % 8) j).2
theorem f_lk_0 {A : ab_A} {k : Nat} (h : k / 8 ≠ k % 8) : au (au (f_look A k) 13 k 0) 14 k 0 = f_lk A k 0 := by
  unfold f_lk f_ent
  rw [if_neg h]
theorem f_lk_e {A : ab_A} {k : Nat} (h : k / 8 = k % 8) (n : Nat) : au (au (f_look A k) 13 k (0 + 1)) 14 k 0 = f_lk A k n := by
  unfold f_lk
  rw [f_ent_eq A h]
theorem f_lk_n {A : ab_A} {k j : Nat} (h : ¬ f_cnd A (k / 8) (k % 8) j (f_ent A (k / 8) (k % 8) j)) : f_lk A k j = f_lk A k (j + 1) := by
  unfold f_lk
  rw [show f_ent A (k / 8) (k % 8) (j + 1) = f_stp A (k / 8) (k % 8) j (f_ent A (k / 8) (k % 8) j) from rfl, f_stp_n h]
theorem f_lk_y {A : ab_A} {k j v : Nat} (h : f_cnd A (k / 8) (k % 8) j (f_ent A (k / 8) (k % 8) j)) (hv : v = A 11 (8 * f_bey A j (k / 8) + k % 8) - 1 + f_cost A j + 1) : au (au (f_lk A k j) 13 k v) 14 k (j + 1) = f_lk A k (j + 1) := by
  subst hv
  unfold f_lk
  rw [show f_ent A (k / 8) (k % 8) (j + 1) = f_stp A (k / 8) (k % 8) j (f_ent A (k / 8) (k % 8) j) from rfl, f_stp_y h]
  funext a i
  simp only [au]
  (repeat' split) <;> first | rfl | omega
theorem f_look_0 (A : ab_A) : f_look A 0 = A := by
  funext k i
  simp [f_look]
theorem f_lk_end (A : ab_A) (k : Nat) : f_lk A k (A 4 0) = f_look A (k + 1) := by
  funext a i
  unfold f_lk
  simp only [au, f_look]
  have e1 : f_nf A k = (f_ent A (k / 8) (k % 8) (A 4 0)).1 := rfl
  have e2 : f_nb A k = (f_ent A (k / 8) (k % 8) (A 4 0)).2 := rfl
  rw [← e1, ← e2]
  (repeat' split) <;> first | rfl | omega | (exfalso; omega) | (subst_vars; first | rfl | omega)
theorem nI_em {x : Nat} (h : 1 ≤ x) : (nI x + (-1) : Int32) = nI (x - 1) := by
  obtain ⟨y, rfl⟩ : ∃ y, x = y + 1 := ⟨x - 1, by omega⟩
  rw [nI_eS]
  rfl
theorem f_bey_lt {A : ab_A} {j b : Nat} (h5 : A 5 j < 8) (h6 : A 6 j < 8) : f_bey A j b < 8 := by unfold f_bey; split <;> assumption
theorem f_dear_le (A : ab_A) (b : Nat) : f_dear A b ≤ 10 := by unfold f_dear; split <;> split <;> omega
theorem f_chg_le (A : ab_A) (n : Nat) : f_chg A n ≤ n := by
  induction n with
  | zero => exact Nat.le_refl _
  | succ n ih =>
    have := b2_le (q := f_nf A n ≠ A 11 n ∨ f_nb A n ≠ A 12 n)
    show f_chg A n + b2 (f_nf A n ≠ A 11 n ∨ f_nb A n ≠ A 12 n) ≤ n + 1
    omega
set_option maxRecDepth 100000 in
set_option maxHeartbeats 4000000 in
theorem c_X5_looksOn (l : Launch) (w : hv_W) (g : md_g) (hg : md_ok g) (A : ab_A) (th : Nat) (Y0 : hv_H) (h4 : A 4 0 ≤ 14) (hW : ∀ j, j < A 4 0 → A 5 j < 8 ∧ A 6 j < 8 ∧ A 7 j ≤ 9 ∧ A 9 j ≤ 1) (h0 : ∀ b, b < 8 → A 0 b ≤ 200) (h11 : ∀ k, k < 64 → A 11 k ≤ 41) (h12 : ∀ k, k < 64 → A 12 k ≤ A 4 0) : hv_Mr l yX5_looksOn wsX5_looksOn ({ frames := 2, cells := 0, slots := 0, locals := 42 }) w [.ref (g.1)] (md_Y w g A th Y0) (fun r Y1 => r = .int (nI (f_chg A 64)) ∧ Y1 = md_Y w g (f_look A 64) th Y0) := by
  refine hv_ofV (cc := cX5_looksOn) (own := RX5) (by decide) rfl rfl (Nat.le_of_ble_eq_true rfl) rfl ?_
  intro p e s m below meth c C hret _
  have hin : ∀ x ∈ wsX50, x ∈ wsX5_looksOn := by decide +kernel
  refine hv_iconst (v := nI 0) C dX5_looksOn_0 (by decide) ?_
  refine hv_istore_n (lv1 := [(0, .ref (g.1)), (1, .int (nI 0))]) C dX5_looksOn_1 rfl (by decide) [1, 0] rfl ?_
  refine hv_iconst (v := nI 0) C dX5_looksOn_2 (by decide) ?_
  refine hv_istore_n (lv1 := [(0, .ref (g.1)), (1, .int (nI 0)), (2, .int (nI 0))]) C dX5_looksOn_3 rfl (by decide) [1, 2, 0] rfl ?_
  refine hv_fin ?_ (md_eq (f_look_0 A).symm) rfl
  refine hv_loop 64 (fun i => md_Y w g (f_look A i) th Y0) (fun i => [(0, .ref (g.1)), (1, .int (nI (f_chg A i))), (2, .int (nI i))]) ?_ ?_
  · skip
    refine hv_iload_n C dX5_looksOn_4 rfl 2 rfl ?_
    refine hv_bipush (v := nI 64) C dX5_looksOn_5 (by decide) ?_
    refine hv_icmpN_ge (tgt := 230) C dX5_looksOn_7 (by decide) (by omega) (by omega) (fun _ => ?_) (fun h => absurd h (by decide))
    refine hv_iload_n C dX5_looksOn_230 rfl 1 rfl ?_
    exact hv_iret C hret dX5_looksOn_231 (by first | exact Nat.le_refl _ | decide) (by first | exact Nat.le_refl _ | decide) ⟨rfl, rfl⟩
  · intro i hi ih
    have hcl := f_chg_le A i
    have hi11 := h11 i hi
    have hi12 := h12 i hi
    have hnf := f_nf_le A i
    have hnb := f_nb_le A i
    refine hv_iload_n C dX5_looksOn_4 rfl 2 rfl ?_
    refine hv_bipush (v := nI 64) C dX5_looksOn_5 (by decide) ?_
    refine hv_icmpN_ge (tgt := 230) C dX5_looksOn_7 (by decide) (by omega) (by omega) (fun h2 => ?_) (fun h2 => ?_)
    · skip
      exact absurd h2 (by omega)
    · skip
      refine hv_iload_n C dX5_looksOn_10 rfl 2 rfl ?_
      refine hv_bipush (v := nI 8) C dX5_looksOn_11 (by decide) ?_
      refine hv_idivN C dX5_looksOn_13 (by omega) (by omega) (by omega) ?_
      refine hv_istore_n (lv1 := [(0, .ref (g.1)), (1, .int (nI (f_chg A i))), (2, .int (nI i)), (3, .int (nI (i / 8)))]) C dX5_looksOn_14 rfl (by decide) [1, 2, 3, 0] rfl ?_
      refine hv_iload_n C dX5_looksOn_15 rfl 2 rfl ?_
      refine hv_bipush (v := nI 8) C dX5_looksOn_16 (by decide) ?_
      refine hv_iremN C dX5_looksOn_18 (by omega) (by omega) (by omega) ?_
      refine hv_istore (lv1 := [(0, .ref (g.1)), (1, .int (nI (f_chg A i))), (2, .int (nI i)), (3, .int (nI (i / 8))), (4, .int (nI (i % 8)))]) C dX5_looksOn_19 (by decide) [1, 2, 3, 4, 0] rfl ?_
      refine hv_join (α := Unit) (pcJ := 186) (fun _ => md_Y w g (f_lk A i (A 4 0)) th Y0) (fun _ => [(0, .ref (g.1)), (1, .int (nI (f_chg A i))), (2, .int (nI i))]) (fun _ => []) (fun _ => True) ?_ ?_
      · rintro ⟨⟩ -
        refine hv_iload_n C dX5_looksOn_186 rfl 1 rfl ?_
        refine hv_join (α := Nat) (pcJ := 222) (fun _ => md_Y w g (f_lk A i (A 4 0)) th Y0) (fun _ => [(0, .ref (g.1)), (1, .int (nI (f_chg A i))), (2, .int (nI i))]) (fun t => .int (nI t) :: [.int (nI (f_chg A i))]) (fun t => t = b2 (f_nf A i ≠ A 11 i ∨ f_nb A i ≠ A 12 i)) ?_ ?_
        · rintro _ rfl
          refine hv_iaddN C dX5_looksOn_222 ?_
          refine hv_istore_n (lv1 := [(0, .ref (g.1)), (1, .int (nI ((f_chg A i) + (b2 (f_nf A i ≠ A 11 i ∨ f_nb A i ≠ A 12 i))))), (2, .int (nI i))]) C dX5_looksOn_223 rfl (by decide) [1, 0, 2] rfl ?_
          refine hv_iinc (v := nI (i + 1)) (lv1 := [(0, .ref (g.1)), (1, .int (nI ((f_chg A i) + (b2 (f_nf A i ≠ A 11 i ∨ f_nb A i ≠ A 12 i))))), (2, .int (nI (i + 1)))]) C dX5_looksOn_224 (k := 2) rfl (nI_1 _) (by decide) [1, 2, 0] rfl ?_
          refine hv_goto (tgt := 4) C dX5_looksOn_227 (by decide) ?_
          exact hv_fin ih (md_eq (f_lk_end A i)) rfl
        · intro k4
          refine hv_aload_n C dX5_looksOn_187 rfl 0 rfl ?_
          refine hm_get (k := 13) (v := .ref (g.2.1 13)) C hin (by decide) (by decide +kernel) rfl rfl dX5_looksOn_188 ?_
          refine hv_iload_n C dX5_looksOn_191 rfl 2 rfl ?_
          refine hm_iald (k := 13) (n := i) (x := (nI (f_nf A i) + (-1))) C hg (by decide) (by decide) (show i < 64 from by omega) (by simp [md_S, md_e, md_neg, f_lk, au, f_nf]) dX5_looksOn_192 ?_
          refine hv_aload_n C dX5_looksOn_193 rfl 0 rfl ?_
          refine hm_get (k := 11) (v := .ref (g.2.1 11)) C hin (by decide) (by decide +kernel) rfl rfl dX5_looksOn_194 ?_
          refine hv_iload_n C dX5_looksOn_197 rfl 2 rfl ?_
          refine hm_iald (k := 11) (n := i) (x := (nI (A 11 i) + (-1))) C hg (by decide) (by decide) (show i < 64 from by omega) rfl dX5_looksOn_198 ?_
          refine hv_icmpE_ne (tgt := 217) C dX5_looksOn_199 (by decide) (by omega) (by omega) (fun h5 => ?_) (fun h5 => ?_)
          · skip
            refine hv_iconst (v := nI 1) C dX5_looksOn_217 (by decide) ?_
            refine hv_goto (tgt := 222) C dX5_looksOn_218 (by decide) ?_
            exact k4 _ (b2_t (by omega)).symm
          · skip
            refine hv_aload_n C dX5_looksOn_202 rfl 0 rfl ?_
            refine hm_get (k := 14) (v := .ref (g.2.1 14)) C hin (by decide) (by decide +kernel) rfl rfl dX5_looksOn_203 ?_
            refine hv_iload_n C dX5_looksOn_206 rfl 2 rfl ?_
            refine hm_iald (k := 14) (n := i) (x := (nI (f_nb A i) + (-1))) C hg (by decide) (by decide) (show i < 64 from by omega) (by simp [md_S, md_e, md_neg, f_lk, au, f_nb]) dX5_looksOn_207 ?_
            refine hv_aload_n C dX5_looksOn_208 rfl 0 rfl ?_
            refine hm_get (k := 12) (v := .ref (g.2.1 12)) C hin (by decide) (by decide +kernel) rfl rfl dX5_looksOn_209 ?_
            refine hv_iload_n C dX5_looksOn_212 rfl 2 rfl ?_
            refine hm_iald (k := 12) (n := i) (x := (nI (A 12 i) + (-1))) C hg (by decide) (by decide) (show i < 64 from by omega) rfl dX5_looksOn_213 ?_
            refine hv_icmpE_eq (tgt := 221) C dX5_looksOn_214 (by decide) (by omega) (by omega) (fun h6 => ?_) (fun h6 => ?_)
            · skip
              refine hv_iconst (v := nI 0) C dX5_looksOn_221 (by decide) ?_
              exact k4 _ (b2_f (by omega)).symm
            · skip
              refine hv_iconst (v := nI 1) C dX5_looksOn_217 (by decide) ?_
              refine hv_goto (tgt := 222) C dX5_looksOn_218 (by decide) ?_
              exact k4 _ (b2_t (by omega)).symm
      · intro k3
        by_cases he : i / 8 = i % 8
        · skip
          refine hv_aload_n C dX5_looksOn_21 rfl 0 rfl ?_
          refine hm_get (k := 13) (v := .ref (g.2.1 13)) C hin (by decide) (by decide +kernel) rfl rfl dX5_looksOn_22 ?_
          refine hv_iload_n C dX5_looksOn_25 rfl 2 rfl ?_
          refine hv_iload_n C dX5_looksOn_26 rfl 3 rfl ?_
          refine hv_iload C dX5_looksOn_27 4 rfl ?_
          refine hv_icmpN_ne (tgt := 36) C dX5_looksOn_29 (by decide) (by omega) (by omega) (fun h7 => ?_) (fun h7 => ?_)
          · skip
            exact absurd he h7
          · skip
            refine hv_iconst (v := nI 0) C dX5_looksOn_32 (by decide) ?_
            refine hv_goto (tgt := 37) C dX5_looksOn_33 (by decide) ?_
            refine hm_iast (k := 13) (n := i) (v := 0 + 1) C hg (by decide) (by decide) (show i < 64 from by omega) (nI_eS _) dX5_looksOn_37 ?_
            refine hv_aload_n C dX5_looksOn_38 rfl 0 rfl ?_
            refine hm_get (k := 14) (v := .ref (g.2.1 14)) C hin (by decide) (by decide +kernel) rfl rfl dX5_looksOn_39 ?_
            refine hv_iload_n C dX5_looksOn_42 rfl 2 rfl ?_
            refine hv_iconst (v := nI 0 + (-1)) C dX5_looksOn_43 (by decide) ?_
            refine hm_iast (k := 14) (n := i) (v := 0) C hg (by decide) (by decide) (show i < 64 from by omega) rfl dX5_looksOn_44 ?_
            refine hv_iconst (v := nI 0) C dX5_looksOn_45 (by decide) ?_
            refine hv_istore (lv1 := [(0, .ref (g.1)), (1, .int (nI (f_chg A i))), (2, .int (nI i)), (3, .int (nI (i / 8))), (4, .int (nI (i % 8))), (5, .int (nI 0))]) C dX5_looksOn_46 (by decide) [1, 2, 3, 4, 5, 0] rfl ?_
            refine hv_iload C dX5_looksOn_48 5 rfl ?_
            refine hv_aload_n C dX5_looksOn_50 rfl 0 rfl ?_
            refine hm_get (k := 4) (v := .int (nI (A 4 0))) C hin (by decide) (by decide +kernel) rfl rfl dX5_looksOn_51 ?_
            refine hv_icmpN_ge (tgt := 186) C dX5_looksOn_54 (by decide) (by omega) (by omega) (fun h8 => ?_) (fun h8 => ?_)
            · skip
              refine hv_sub (lv1 := [(0, .ref (g.1)), (1, .int (nI (f_chg A i))), (2, .int (nI i))]) [0, 1, 2] rfl ?_
              exact hv_fin (k3 () trivial) (md_eq (f_lk_e he _)) rfl
            · skip
              refine hv_iload_n C dX5_looksOn_57 rfl 3 rfl ?_
              refine hv_iload C dX5_looksOn_58 4 rfl ?_
              refine hv_icmpN_eq (tgt := 186) C dX5_looksOn_60 (by decide) (by omega) (by omega) (fun h9 => ?_) (fun h9 => ?_)
              · skip
                refine hv_sub (lv1 := [(0, .ref (g.1)), (1, .int (nI (f_chg A i))), (2, .int (nI i))]) [0, 1, 2] rfl ?_
                exact hv_fin (k3 () trivial) (md_eq (f_lk_e he _)) rfl
              · skip
                exact absurd he h9
        · skip
          refine hv_aload_n C dX5_looksOn_21 rfl 0 rfl ?_
          refine hm_get (k := 13) (v := .ref (g.2.1 13)) C hin (by decide) (by decide +kernel) rfl rfl dX5_looksOn_22 ?_
          refine hv_iload_n C dX5_looksOn_25 rfl 2 rfl ?_
          refine hv_iload_n C dX5_looksOn_26 rfl 3 rfl ?_
          refine hv_iload C dX5_looksOn_27 4 rfl ?_
          refine hv_icmpN_ne (tgt := 36) C dX5_looksOn_29 (by decide) (by omega) (by omega) (fun h10 => ?_) (fun h10 => ?_)
          · skip
            refine hv_iconst (v := nI 0 + (-1)) C dX5_looksOn_36 (by decide) ?_
            refine hm_iast (k := 13) (n := i) (v := 0) C hg (by decide) (by decide) (show i < 64 from by omega) rfl dX5_looksOn_37 ?_
            refine hv_aload_n C dX5_looksOn_38 rfl 0 rfl ?_
            refine hm_get (k := 14) (v := .ref (g.2.1 14)) C hin (by decide) (by decide +kernel) rfl rfl dX5_looksOn_39 ?_
            refine hv_iload_n C dX5_looksOn_42 rfl 2 rfl ?_
            refine hv_iconst (v := nI 0 + (-1)) C dX5_looksOn_43 (by decide) ?_
            refine hm_iast (k := 14) (n := i) (v := 0) C hg (by decide) (by decide) (show i < 64 from by omega) rfl dX5_looksOn_44 ?_
            refine hv_iconst (v := nI 0) C dX5_looksOn_45 (by decide) ?_
            refine hv_istore (lv1 := [(0, .ref (g.1)), (1, .int (nI (f_chg A i))), (2, .int (nI i)), (3, .int (nI (i / 8))), (4, .int (nI (i % 8))), (5, .int (nI 0))]) C dX5_looksOn_46 (by decide) [1, 2, 3, 4, 5, 0] rfl ?_
            refine hv_fin ?_ (md_eq (f_lk_0 he)) rfl
            refine hv_loop (A 4 0) (fun j => md_Y w g (f_lk A i j) th Y0) (fun j => [(0, .ref (g.1)), (1, .int (nI (f_chg A i))), (2, .int (nI i)), (3, .int (nI (i / 8))), (4, .int (nI (i % 8))), (5, .int (nI j))]) ?_ ?_
            · skip
              refine hv_iload C dX5_looksOn_48 5 rfl ?_
              refine hv_aload_n C dX5_looksOn_50 rfl 0 rfl ?_
              refine hm_get (k := 4) (v := .int (nI (A 4 0))) C hin (by decide) (by decide +kernel) rfl rfl dX5_looksOn_51 ?_
              refine hv_icmpN_ge (tgt := 186) C dX5_looksOn_54 (by decide) (by omega) (by omega) (fun h11 => ?_) (fun h11 => ?_)
              · skip
                refine hv_sub (lv1 := [(0, .ref (g.1)), (1, .int (nI (f_chg A i))), (2, .int (nI i))]) [0, 1, 2] rfl ?_
                exact hv_fin (k3 () trivial) rfl rfl
              · skip
                exact absurd h11 (by omega)
            · intro j hj ihj
              obtain ⟨hj5, hj6, hj7, hj9⟩ := hW j hj
              have hby := f_bey_lt (b := i / 8) hj5 hj6
              have hd5 := f_dear_le A (A 5 j)
              have hd6 := f_dear_le A (A 6 j)
              have hco : f_cost A j ≤ 29 := by unfold f_cost; omega
              obtain ⟨hel, hej, hep⟩ := f_ent_le A (i / 8) (i % 8) j
              refine hv_iload C dX5_looksOn_48 5 rfl ?_
              refine hv_aload_n C dX5_looksOn_50 rfl 0 rfl ?_
              refine hm_get (k := 4) (v := .int (nI (A 4 0))) C hin (by decide) (by decide +kernel) rfl rfl dX5_looksOn_51 ?_
              refine hv_icmpN_ge (tgt := 186) C dX5_looksOn_54 (by decide) (by omega) (by omega) (fun h12 => ?_) (fun h12 => ?_)
              · skip
                exact absurd h12 (by omega)
              · skip
                refine hv_iload_n C dX5_looksOn_57 rfl 3 rfl ?_
                refine hv_iload C dX5_looksOn_58 4 rfl ?_
                refine hv_icmpN_eq (tgt := 186) C dX5_looksOn_60 (by decide) (by omega) (by omega) (fun h13 => ?_) (fun h13 => ?_)
                · skip
                  exact absurd h13 he
                · skip
                  refine hv_join (α := Nat) (pcJ := 88) (fun _ => md_Y w g (f_lk A i j) th Y0) (fun _ => [(0, .ref (g.1)), (1, .int (nI (f_chg A i))), (2, .int (nI i)), (3, .int (nI (i / 8))), (4, .int (nI (i % 8))), (5, .int (nI j))]) (fun t => .int (nI t) :: []) (fun t => t = b2 (A 9 j ≠ 0 ∧ (A 5 j = i / 8 ∨ A 6 j = i / 8))) ?_ ?_
                  · rintro _ rfl
                    refine hv_istore (lv1 := [(0, .ref (g.1)), (1, .int (nI (f_chg A i))), (2, .int (nI i)), (3, .int (nI (i / 8))), (4, .int (nI (i % 8))), (5, .int (nI j)), (6, .int (nI (b2 (A 9 j ≠ 0 ∧ (A 5 j = i / 8 ∨ A 6 j = i / 8)))))]) C dX5_looksOn_88 (by decide) [1, 2, 3, 4, 5, 6, 0] rfl ?_
                    refine hv_join (α := Nat) (pcJ := 117) (fun _ => md_Y w g (f_lk A i j) th Y0) (fun _ => [(0, .ref (g.1)), (1, .int (nI (f_chg A i))), (2, .int (nI i)), (3, .int (nI (i / 8))), (4, .int (nI (i % 8))), (5, .int (nI j)), (6, .int (nI (b2 (A 9 j ≠ 0 ∧ (A 5 j = i / 8 ∨ A 6 j = i / 8)))))]) (fun t => .int (nI t + (-1)) :: []) (fun t => t = if A 9 j ≠ 0 ∧ (A 5 j = i / 8 ∨ A 6 j = i / 8) then A 11 (8 * f_bey A j (i / 8) + i % 8) else 0) ?_ ?_
                    · intro T hT
                      have hT41 : T ≤ 41 := by rw [hT]; split; exact h11 _ (by omega); omega
                      refine hv_istore (lv1 := [(0, .ref (g.1)), (1, .int (nI (f_chg A i))), (2, .int (nI i)), (3, .int (nI (i / 8))), (4, .int (nI (i % 8))), (5, .int (nI j)), (6, .int (nI (b2 (A 9 j ≠ 0 ∧ (A 5 j = i / 8 ∨ A 6 j = i / 8))))), (7, .int (nI (T) + (-1)))]) C dX5_looksOn_117 (by decide) [1, 2, 3, 4, 5, 6, 7, 0] rfl ?_
                      rcases T with _ | T
                      · skip
                        refine hv_iload C dX5_looksOn_119 7 rfl ?_
                        refine hv_aload_n C dX5_looksOn_121 rfl 0 rfl ?_
                        refine hv_iload C dX5_looksOn_122 5 rfl ?_
                        refine hv_callVr (As := [.int (nI j)]) (rest := [.int (nI (0) + (-1))]) (n := 1) C (c_X5_costOf l w g hg (f_lk A i j) th Y0 j (by omega) hj5 hj6 h0) gX5_looksOn_X5_costOf rfl (by decide +kernel) ⟨Nat.le_of_ble_eq_true rfl, Nat.le_of_ble_eq_true rfl⟩ (hv_rcO md_o rfl) rfl rfl (Nat.le_of_ble_eq_true rfl) dX5_looksOn_124 ⟨by first | exact Nat.le_of_ble_eq_true rfl | omega, by first | exact Nat.le_of_ble_eq_true rfl | omega⟩ (fun r15 Y1 hr => ?_)
                        obtain ⟨rfl, rfl⟩ := hr
                        refine hv_iadd C dX5_looksOn_127 ?_
                        refine hv_istore (lv1 := [(0, .ref (g.1)), (1, .int (nI (f_chg A i))), (2, .int (nI i)), (3, .int (nI (i / 8))), (4, .int (nI (i % 8))), (5, .int (nI j)), (6, .int (nI (b2 (A 9 j ≠ 0 ∧ (A 5 j = i / 8 ∨ A 6 j = i / 8))))), (7, .int (nI (0) + (-1))), (8, .int ((nI (0) + (-1)) + (nI (f_cost A j))))]) C dX5_looksOn_128 (by decide) [1, 2, 3, 4, 5, 6, 7, 8, 0] rfl ?_
                        refine hv_iload C dX5_looksOn_130 7 rfl ?_
                        refine hv_iconst (v := nI 0 + (-1)) C dX5_looksOn_132 (by decide) ?_
                        refine hv_icmpE_eq (tgt := 180) C dX5_looksOn_133 (by decide) (by omega) (by omega) (fun _ => ?_) (fun h => absurd h (by decide))
                        refine hv_iinc (v := nI (j + 1)) (lv1 := [(0, .ref (g.1)), (1, .int (nI (f_chg A i))), (2, .int (nI i)), (3, .int (nI (i / 8))), (4, .int (nI (i % 8))), (5, .int (nI (j + 1))), (6, .int (nI (b2 (A 9 j ≠ 0 ∧ (A 5 j = i / 8 ∨ A 6 j = i / 8))))), (7, .int (nI (0) + (-1))), (8, .int ((nI (0) + (-1)) + (nI (f_cost A j))))]) C dX5_looksOn_180 (k := 5) rfl (nI_1 _) (by decide) [1, 2, 3, 4, 5, 0, 6, 7, 8] rfl ?_
                        refine hv_goto (tgt := 48) C dX5_looksOn_183 (by decide) ?_
                        refine hv_sub (lv1 := [(0, .ref (g.1)), (1, .int (nI (f_chg A i))), (2, .int (nI i)), (3, .int (nI (i / 8))), (4, .int (nI (i % 8))), (5, .int (nI (j + 1)))]) [0, 1, 2, 3, 4, 5] rfl ?_
                        exact hv_fin ihj (md_eq (f_lk_n (fun q => by obtain ⟨q1, q2, q3, q4, q5⟩ := q; split at hT <;> omega))) rfl
                      · skip
                        refine hv_iload C dX5_looksOn_119 7 rfl ?_
                        refine hv_top (nI_eS T) ?_
                        refine hv_aload_n C dX5_looksOn_121 rfl 0 rfl ?_
                        refine hv_iload C dX5_looksOn_122 5 rfl ?_
                        refine hv_callVr (As := [.int (nI j)]) (rest := [.int (nI T)]) (n := 1) C (c_X5_costOf l w g hg (f_lk A i j) th Y0 j (by omega) hj5 hj6 h0) gX5_looksOn_X5_costOf rfl (by decide +kernel) ⟨Nat.le_of_ble_eq_true rfl, Nat.le_of_ble_eq_true rfl⟩ (hv_rcO md_o rfl) rfl rfl (Nat.le_of_ble_eq_true rfl) dX5_looksOn_124 ⟨by first | exact Nat.le_of_ble_eq_true rfl | omega, by first | exact Nat.le_of_ble_eq_true rfl | omega⟩ (fun r17 Y1 hr => ?_)
                        obtain ⟨rfl, rfl⟩ := hr
                        refine hv_iaddN C dX5_looksOn_127 ?_
                        refine hv_istore (lv1 := [(0, .ref (g.1)), (1, .int (nI (f_chg A i))), (2, .int (nI i)), (3, .int (nI (i / 8))), (4, .int (nI (i % 8))), (5, .int (nI j)), (6, .int (nI (b2 (A 9 j ≠ 0 ∧ (A 5 j = i / 8 ∨ A 6 j = i / 8))))), (7, .int (nI (T + 1) + (-1))), (8, .int (nI (T + f_cost A j)))]) C dX5_looksOn_128 (by decide) [1, 2, 3, 4, 5, 6, 7, 8, 0] rfl ?_
                        refine hv_iload C dX5_looksOn_130 7 rfl ?_
                        refine hv_iconst (v := nI 0 + (-1)) C dX5_looksOn_132 (by decide) ?_
                        refine hv_icmpE_eq (tgt := 180) C dX5_looksOn_133 (by decide) (by omega) (by omega) (fun h18 => ?_) (fun h18 => ?_)
                        · skip
                          exact absurd h18 (by omega)
                        · skip
                          refine hv_iload C dX5_looksOn_136 8 rfl ?_
                          refine hv_bipush (v := nI 40) C dX5_looksOn_138 (by decide) ?_
                          refine hv_icmpN_gt (tgt := 180) C dX5_looksOn_140 (by decide) (by omega) (by omega) (fun h19 => ?_) (fun h19 => ?_)
                          · skip
                            refine hv_iinc (v := nI (j + 1)) (lv1 := [(0, .ref (g.1)), (1, .int (nI (f_chg A i))), (2, .int (nI i)), (3, .int (nI (i / 8))), (4, .int (nI (i % 8))), (5, .int (nI (j + 1))), (6, .int (nI (b2 (A 9 j ≠ 0 ∧ (A 5 j = i / 8 ∨ A 6 j = i / 8))))), (7, .int (nI (T + 1) + (-1))), (8, .int (nI (T + f_cost A j)))]) C dX5_looksOn_180 (k := 5) rfl (nI_1 _) (by decide) [1, 2, 3, 4, 5, 0, 6, 7, 8] rfl ?_
                            refine hv_goto (tgt := 48) C dX5_looksOn_183 (by decide) ?_
                            refine hv_sub (lv1 := [(0, .ref (g.1)), (1, .int (nI (f_chg A i))), (2, .int (nI i)), (3, .int (nI (i / 8))), (4, .int (nI (i % 8))), (5, .int (nI (j + 1)))]) [0, 1, 2, 3, 4, 5] rfl ?_
                            exact hv_fin ihj (md_eq (f_lk_n (fun q => by obtain ⟨q1, q2, q3, q4, q5⟩ := q; split at hT <;> omega))) rfl
                          · skip
                            refine hv_aload_n C dX5_looksOn_143 rfl 0 rfl ?_
                            refine hm_get (k := 14) (v := .ref (g.2.1 14)) C hin (by decide) (by decide +kernel) rfl rfl dX5_looksOn_144 ?_
                            refine hv_iload_n C dX5_looksOn_147 rfl 2 rfl ?_
                            refine hm_iald (k := 14) (n := i) (x := (nI ((f_ent A (i / 8) (i % 8) j).2) + (-1))) C hg (by decide) (by decide) (show i < 64 from by omega) (by simp [md_S, md_e, md_neg, f_lk, au]) dX5_looksOn_148 ?_
                            refine hv_iconst (v := nI 0 + (-1)) C dX5_looksOn_149 (by decide) ?_
                            refine hv_icmpE_eq (tgt := 164) C dX5_looksOn_150 (by decide) (by omega) (by omega) (fun h20 => ?_) (fun h20 => ?_)
                            · skip
                              refine hv_aload_n C dX5_looksOn_164 rfl 0 rfl ?_
                              refine hm_get (k := 13) (v := .ref (g.2.1 13)) C hin (by decide) (by decide +kernel) rfl rfl dX5_looksOn_165 ?_
                              refine hv_iload_n C dX5_looksOn_168 rfl 2 rfl ?_
                              refine hv_iload C dX5_looksOn_169 8 rfl ?_
                              refine hm_iast (k := 13) (n := i) (v := T + f_cost A j + 1) C hg (by decide) (by decide) (show i < 64 from by omega) (nI_eS _) dX5_looksOn_171 ?_
                              refine hv_aload_n C dX5_looksOn_172 rfl 0 rfl ?_
                              refine hm_get (k := 14) (v := .ref (g.2.1 14)) C hin (by decide) (by decide +kernel) rfl rfl dX5_looksOn_173 ?_
                              refine hv_iload_n C dX5_looksOn_176 rfl 2 rfl ?_
                              refine hv_iload C dX5_looksOn_177 5 rfl ?_
                              refine hm_iast (k := 14) (n := i) (v := j + 1) C hg (by decide) (by decide) (show i < 64 from by omega) (nI_eS _) dX5_looksOn_179 ?_
                              refine hv_iinc (v := nI (j + 1)) (lv1 := [(0, .ref (g.1)), (1, .int (nI (f_chg A i))), (2, .int (nI i)), (3, .int (nI (i / 8))), (4, .int (nI (i % 8))), (5, .int (nI (j + 1))), (6, .int (nI (b2 (A 9 j ≠ 0 ∧ (A 5 j = i / 8 ∨ A 6 j = i / 8))))), (7, .int (nI (T + 1) + (-1))), (8, .int (nI (T + f_cost A j)))]) C dX5_looksOn_180 (k := 5) rfl (nI_1 _) (by decide) [1, 2, 3, 4, 5, 0, 6, 7, 8] rfl ?_
                              refine hv_goto (tgt := 48) C dX5_looksOn_183 (by decide) ?_
                              refine hv_sub (lv1 := [(0, .ref (g.1)), (1, .int (nI (f_chg A i))), (2, .int (nI i)), (3, .int (nI (i / 8))), (4, .int (nI (i % 8))), (5, .int (nI (j + 1)))]) [0, 1, 2, 3, 4, 5] rfl ?_
                              exact hv_fin ihj (md_eq (f_lk_y (by unfold f_cnd; split at hT <;> first | (refine ⟨he, by assumption, ?_, ?_, ?_⟩ <;> omega) | omega) (by split at hT <;> omega))) rfl
                            · skip
                              refine hv_iload C dX5_looksOn_153 8 rfl ?_
                              refine hv_aload_n C dX5_looksOn_155 rfl 0 rfl ?_
                              refine hm_get (k := 13) (v := .ref (g.2.1 13)) C hin (by decide) (by decide +kernel) rfl rfl dX5_looksOn_156 ?_
                              refine hv_iload_n C dX5_looksOn_159 rfl 2 rfl ?_
                              refine hm_iald (k := 13) (n := i) (x := (nI ((f_ent A (i / 8) (i % 8) j).1 - 1))) C hg (by decide) (by decide) (show i < 64 from by omega) (by simp only [md_S, md_e, md_neg, f_lk, au]; simp; exact nI_em (hep (by assumption))) dX5_looksOn_160 ?_
                              refine hv_icmpN_ge (tgt := 180) C dX5_looksOn_161 (by decide) (by omega) (by omega) (fun h21 => ?_) (fun h21 => ?_)
                              · skip
                                refine hv_iinc (v := nI (j + 1)) (lv1 := [(0, .ref (g.1)), (1, .int (nI (f_chg A i))), (2, .int (nI i)), (3, .int (nI (i / 8))), (4, .int (nI (i % 8))), (5, .int (nI (j + 1))), (6, .int (nI (b2 (A 9 j ≠ 0 ∧ (A 5 j = i / 8 ∨ A 6 j = i / 8))))), (7, .int (nI (T + 1) + (-1))), (8, .int (nI (T + f_cost A j)))]) C dX5_looksOn_180 (k := 5) rfl (nI_1 _) (by decide) [1, 2, 3, 4, 5, 0, 6, 7, 8] rfl ?_
                                refine hv_goto (tgt := 48) C dX5_looksOn_183 (by decide) ?_
                                refine hv_sub (lv1 := [(0, .ref (g.1)), (1, .int (nI (f_chg A i))), (2, .int (nI i)), (3, .int (nI (i / 8))), (4, .int (nI (i % 8))), (5, .int (nI (j + 1)))]) [0, 1, 2, 3, 4, 5] rfl ?_
                                exact hv_fin ihj (md_eq (f_lk_n (fun q => by obtain ⟨q1, q2, q3, q4, q5⟩ := q; split at hT <;> omega))) rfl
                              · skip
                                refine hv_aload_n C dX5_looksOn_164 rfl 0 rfl ?_
                                refine hm_get (k := 13) (v := .ref (g.2.1 13)) C hin (by decide) (by decide +kernel) rfl rfl dX5_looksOn_165 ?_
                                refine hv_iload_n C dX5_looksOn_168 rfl 2 rfl ?_
                                refine hv_iload C dX5_looksOn_169 8 rfl ?_
                                refine hm_iast (k := 13) (n := i) (v := T + f_cost A j + 1) C hg (by decide) (by decide) (show i < 64 from by omega) (nI_eS _) dX5_looksOn_171 ?_
                                refine hv_aload_n C dX5_looksOn_172 rfl 0 rfl ?_
                                refine hm_get (k := 14) (v := .ref (g.2.1 14)) C hin (by decide) (by decide +kernel) rfl rfl dX5_looksOn_173 ?_
                                refine hv_iload_n C dX5_looksOn_176 rfl 2 rfl ?_
                                refine hv_iload C dX5_looksOn_177 5 rfl ?_
                                refine hm_iast (k := 14) (n := i) (v := j + 1) C hg (by decide) (by decide) (show i < 64 from by omega) (nI_eS _) dX5_looksOn_179 ?_
                                refine hv_iinc (v := nI (j + 1)) (lv1 := [(0, .ref (g.1)), (1, .int (nI (f_chg A i))), (2, .int (nI i)), (3, .int (nI (i / 8))), (4, .int (nI (i % 8))), (5, .int (nI (j + 1))), (6, .int (nI (b2 (A 9 j ≠ 0 ∧ (A 5 j = i / 8 ∨ A 6 j = i / 8))))), (7, .int (nI (T + 1) + (-1))), (8, .int (nI (T + f_cost A j)))]) C dX5_looksOn_180 (k := 5) rfl (nI_1 _) (by decide) [1, 2, 3, 4, 5, 0, 6, 7, 8] rfl ?_
                                refine hv_goto (tgt := 48) C dX5_looksOn_183 (by decide) ?_
                                refine hv_sub (lv1 := [(0, .ref (g.1)), (1, .int (nI (f_chg A i))), (2, .int (nI i)), (3, .int (nI (i / 8))), (4, .int (nI (i % 8))), (5, .int (nI (j + 1)))]) [0, 1, 2, 3, 4, 5] rfl ?_
                                exact hv_fin ihj (md_eq (f_lk_y (by unfold f_cnd; split at hT <;> first | (refine ⟨he, by assumption, ?_, ?_, ?_⟩ <;> omega) | omega) (by split at hT <;> omega))) rfl
                    · intro kt
                      refine hv_iload C dX5_looksOn_90 6 rfl ?_
                      refine hv_ifb_eq (tgt := 116) C dX5_looksOn_92 (by decide) (fun h22 => ?_) (fun h22 => ?_)
                      · skip
                        refine hv_iconst (v := nI 0 + (-1)) C dX5_looksOn_116 (by decide) ?_
                        exact kt _ (by first | rw [if_pos h22] | rw [if_neg h22])
                      · skip
                        refine hv_aload_n C dX5_looksOn_95 rfl 0 rfl ?_
                        refine hm_get (k := 11) (v := .ref (g.2.1 11)) C hin (by decide) (by decide +kernel) rfl rfl dX5_looksOn_96 ?_
                        refine hv_bipush (v := nI 8) C dX5_looksOn_99 (by decide) ?_
                        refine hv_aload_n C dX5_looksOn_101 rfl 0 rfl ?_
                        refine hv_iload C dX5_looksOn_102 5 rfl ?_
                        refine hv_iload_n C dX5_looksOn_104 rfl 3 rfl ?_
                        refine hv_callVr (As := [.int (nI j), .int (nI (i / 8))]) (rest := [.int (nI 8), .ref (g.2.1 11)]) (n := 2) C (c_X5_beyond l w g hg (f_lk A i j) th Y0 j (i / 8) (by omega) hj5 (by omega)) gX5_looksOn_X5_beyond rfl (by decide +kernel) ⟨Nat.le_of_ble_eq_true rfl, Nat.le_of_ble_eq_true rfl⟩ (hv_rcO md_o rfl) rfl rfl (Nat.le_of_ble_eq_true rfl) dX5_looksOn_105 ⟨by first | exact Nat.le_of_ble_eq_true rfl | omega, by first | exact Nat.le_of_ble_eq_true rfl | omega⟩ (fun r23 Y1 hr => ?_)
                        obtain ⟨rfl, rfl⟩ := hr
                        refine hv_imulN C dX5_looksOn_108 ?_
                        refine hv_iload C dX5_looksOn_109 4 rfl ?_
                        refine hv_iaddN C dX5_looksOn_111 ?_
                        refine hm_iald (k := 11) (n := (8 * (f_bey A j (i / 8))) + (i % 8)) (x := (nI (A 11 ((8 * (f_bey A j (i / 8))) + (i % 8))) + (-1))) C hg (by decide) (by decide) (show (8 * (f_bey A j (i / 8))) + (i % 8) < 64 from by omega) rfl dX5_looksOn_112 ?_
                        refine hv_goto (tgt := 117) C dX5_looksOn_113 (by decide) ?_
                        exact kt _ (by first | rw [if_pos h22] | rw [if_neg h22])
                  · intro k14
                    refine hv_aload_n C dX5_looksOn_63 rfl 0 rfl ?_
                    refine hm_get (k := 9) (v := .ref (g.2.1 9)) C hin (by decide) (by decide +kernel) rfl rfl dX5_looksOn_64 ?_
                    refine hv_iload C dX5_looksOn_67 5 rfl ?_
                    refine hm_zald (n := j) (x := (nI (A 9 j))) C hg (show j < 14 from by omega) rfl dX5_looksOn_69 ?_
                    refine hv_ifN_eq (tgt := 87) C dX5_looksOn_70 (by decide) (by omega) (fun h24 => ?_) (fun h24 => ?_)
                    · skip
                      refine hv_iconst (v := nI 0) C dX5_looksOn_87 (by decide) ?_
                      exact k14 _ (b2_f (by omega)).symm
                    · skip
                      refine hv_aload_n C dX5_looksOn_73 rfl 0 rfl ?_
                      refine hv_iload C dX5_looksOn_74 5 rfl ?_
                      refine hv_iload_n C dX5_looksOn_76 rfl 3 rfl ?_
                      refine hv_callVr (As := [.int (nI j), .int (nI (i / 8))]) (rest := []) (n := 2) C (c_X5_isAt l w g hg (f_lk A i j) th Y0 j (i / 8) (by omega) hj5 hj6 (by omega)) gX5_looksOn_X5_isAt rfl (by decide +kernel) ⟨Nat.le_of_ble_eq_true rfl, Nat.le_of_ble_eq_true rfl⟩ (hv_rcO md_o rfl) rfl rfl (Nat.le_of_ble_eq_true rfl) dX5_looksOn_77 ⟨by first | exact Nat.le_of_ble_eq_true rfl | omega, by first | exact Nat.le_of_ble_eq_true rfl | omega⟩ (fun r25 Y1 hr => ?_)
                      obtain ⟨rfl, rfl⟩ := hr
                      refine hv_top (y := nI (b2 (A 5 j = i / 8 ∨ A 6 j = i / 8))) rfl ?_
                      refine hv_ifb_eq (tgt := 87) C dX5_looksOn_80 (by decide) (fun h26 => ?_) (fun h26 => ?_)
                      · skip
                        refine hv_iconst (v := nI 0) C dX5_looksOn_87 (by decide) ?_
                        exact k14 _ (b2_f (by omega)).symm
                      · skip
                        refine hv_iconst (v := nI 1) C dX5_looksOn_83 (by decide) ?_
                        refine hv_goto (tgt := 88) C dX5_looksOn_84 (by decide) ?_
                        exact k14 _ (b2_t (by omega)).symm
          · skip
            exact absurd h10 he
set_option maxRecDepth 100000 in
set_option maxHeartbeats 4000000 in
theorem c_X5_areStill (l : Launch) (w : hv_W) (g : md_g) (hg : md_ok g) (A : ab_A) (th : Nat) (Y0 : hv_H) (h4 : A 4 0 ≤ 14) (hW : ∀ j, j < A 4 0 → A 5 j < 8 ∧ A 6 j < 8 ∧ A 7 j ≤ 9 ∧ A 9 j ≤ 1) (h0 : ∀ b, b < 8 → A 0 b ≤ 200) (h11 : ∀ k, k < 64 → A 11 k ≤ 41) (h12 : ∀ k, k < 64 → A 12 k ≤ A 4 0) : hv_Mr l yX5_areStill wsX5_areStill ({ frames := 3, cells := 0, slots := 0, locals := 70 }) w [.ref (g.1)] (md_Y w g A th Y0) (fun r Y1 => r = .int (nI (b2 (f_chg A 64 = 0))) ∧ Y1 = md_Y w g (f_look A 64) 0 Y0) := by
  refine hv_ofV (cc := cX5_areStill) (own := RX5) (by decide) rfl rfl (Nat.le_of_ble_eq_true rfl) rfl ?_
  intro p e s m below meth c C hret _
  have hin : ∀ x ∈ wsX50, x ∈ wsX5_areStill := by decide +kernel
  refine hv_aload_n C dX5_areStill_0 rfl 0 rfl ?_
  refine hv_iconst (v := nI 0) C dX5_areStill_1 (by decide) ?_
  refine hm_putT (n := 0) C rfl hin (by decide +kernel) dX5_areStill_2 ?_
  refine hv_aload_n C dX5_areStill_5 rfl 0 rfl ?_
  refine hv_callVr (As := []) (rest := []) (n := 0) C (c_X5_looksOn l w g hg A 0 Y0 h4 hW h0 h11 h12) gX5_areStill_X5_looksOn rfl (by decide +kernel) ⟨Nat.le_of_ble_eq_true rfl, Nat.le_of_ble_eq_true rfl⟩ (hv_rcO md_o rfl) rfl rfl (Nat.le_of_ble_eq_true rfl) dX5_areStill_6 ⟨by first | exact Nat.le_of_ble_eq_true rfl | omega, by first | exact Nat.le_of_ble_eq_true rfl | omega⟩ (fun r1 Y1 hr => ?_)
  obtain ⟨rfl, rfl⟩ := hr
  have hcl := f_chg_le A 64
  refine hv_ifN_ne (tgt := 16) C dX5_areStill_9 (by decide) (by omega) (fun h2 => ?_) (fun h2 => ?_)
  · skip
    refine hv_iconst (v := nI 0) C dX5_areStill_16 (by decide) ?_
    exact hv_zret C hret (by decide) dX5_areStill_17 (by first | exact Nat.le_refl _ | decide) (by first | exact Nat.le_refl _ | decide) ⟨by first | (rw [b2_t (by omega)]) | (rw [b2_f (by omega)]), rfl⟩
  · skip
    refine hv_iconst (v := nI 1) C dX5_areStill_12 (by decide) ?_
    refine hv_goto (tgt := 17) C dX5_areStill_13 (by decide) ?_
    exact hv_zret C hret (by decide) dX5_areStill_17 (by first | exact Nat.le_refl _ | decide) (by first | exact Nat.le_refl _ | decide) ⟨by first | (rw [b2_t (by omega)]) | (rw [b2_f (by omega)]), rfl⟩
