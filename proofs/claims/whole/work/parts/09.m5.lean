theorem fw_def {A : ab_A} {b z c t : Nat} (hz : A 3 (6 * b) = z) (hc : A 12 (8 * b + A 17 z) = c) (ht : f_bey A (c - 1) b = t) : f_way A b = if A 2 b = 0 then 0 else if A 24 z = A 16 0 + 1 ∨ c = 0 ∨ ¬ (A 9 (c - 1) ≠ 0 ∧ A 8 (c - 1) + 5 ≤ A 0 (A 5 (c - 1))) then 0 else if t = A 17 z ∨ (A 2 t < 6 ∧ (A 2 t < A 1 t ∨ A 16 0 % 2 = 0)) then c else 0 := by
  subst hz
  subst hc
  subst ht
  rfl
theorem fw_facts {A : ab_A} {b : Nat} (hI : ab_I A) (hb : b < 8) (h : f_way A b ≠ 0) : ∃ z c t, A 3 (6 * b) = z ∧ f_way A b = c + 1 ∧ f_bey A c b = t ∧ 1 ≤ A 2 b ∧ A 2 b ≤ 6 ∧ z < A 15 0 ∧ A 15 0 ≤ 40 ∧ A 12 (8 * b + A 17 z) = c + 1 ∧ c < A 4 0 ∧ A 4 0 ≤ 14 ∧ A 5 c < 8 ∧ A 6 c < 8 ∧ A 5 c ≠ A 6 c ∧ A 8 c ≤ 9 ∧ (A 5 c = b ∨ A 6 c = b) ∧ t < 8 ∧ t ≠ b ∧ A 8 c + 5 ≤ A 0 (A 5 c) ∧ (t = A 17 z ∨ A 2 t < 6) ∧ A 24 z ≠ A 16 0 + 1 ∧ A 17 z < 8 ∧ 1 ≤ A 18 z ∧ A 18 z ≤ 20 ∧ A 23 z < 256 ∧ A 22 z = b ∧ A 21 z = 0 := by
  obtain ⟨i1, i2, i2b, i3, i4, i5, i6, i7, i8, i9⟩ := hI
  obtain ⟨z, hz⟩ : ∃ z, A 3 (6 * b) = z := ⟨_, rfl⟩
  obtain ⟨c, hc⟩ : ∃ c, A 12 (8 * b + A 17 z) = c := ⟨_, rfl⟩
  have hd := fw_def hz hc rfl
  rw [hd] at h
  split at h
  · exact absurd rfl h
  · rename_i m0
    split at h
    · exact absurd rfl h
    · rename_i m1
      split at h
      · rename_i m2
        have hc0 : c ≠ 0 := h
        obtain ⟨c, rfl⟩ : ∃ x, c = x + 1 := ⟨c - 1, by omega⟩
        rw [Nat.add_sub_cancel] at m1 m2
        rw [if_neg m0, if_neg (by rw [Nat.add_sub_cancel]; exact m1), if_pos (by rw [Nat.add_sub_cancel]; exact m2)] at hd
        obtain ⟨a1, a2, a3, a4, a5⟩ := i2 b 0 hb (by omega)
        rw [Nat.add_zero, hz] at a1 a2 a3 a4 a5
        obtain ⟨b1, b2, b3, b4, b5, b6⟩ := i8 z a1
        obtain ⟨-, e2, e3⟩ := i5 b (A 17 z) hb b1
        rw [hc] at e2 e3
        obtain ⟨e4, e5⟩ := e3 (by omega)
        rw [Nat.add_sub_cancel] at e5
        obtain ⟨g1, g2, g3, g4, g5, g6, g7⟩ := i4 c (by omega)
        have hm := i1 b hb
        have hbt : f_bey A c b < 8 := f_bey_lt g1 g2
        have htb : f_bey A c b ≠ b := by unfold f_bey; split <;> omega
        exact ⟨z, c, _, hz, hd, rfl, by omega, by omega, a1, i6, hc, by omega, i3, g1, g2, g3, g6, e5, hbt, htb, by omega, by omega, by omega, b1, a4, b2, b5, a3, a2⟩
      · exact absurd rfl h
def f_sh (A : ab_A) (b n : Nat) : ab_A := fun k i => if k = 2 ∧ i = b then A 2 b - 1 else if k = 3 ∧ 6 * b ≤ i ∧ i < 6 * b + n then A 3 (i + 1) else A k i
theorem f_sh_0 (A : ab_A) (b : Nat) : au A 2 b (A 2 b - 1) = f_sh A b 0 := by
  funext k i
  simp only [au, f_sh]
  (repeat' split) <;> first | rfl | omega | (exfalso; omega) | simp_all
theorem f_sh_s (A : ab_A) (b n : Nat) : au (f_sh A b n) 3 (6 * b + n) (A 3 (6 * b + n + 1)) = f_sh A b (n + 1) := by
  funext k i
  simp only [au, f_sh]
  (repeat' split) <;> first | rfl | omega | (exfalso; omega) | (simp_all; done) | (subst_vars; first | rfl | omega)
theorem f_sh_n (A : ab_A) (b n : Nat) : f_sh A b n 3 (6 * b + n + 1) = A 3 (6 * b + n + 1) := by
  simp [f_sh]
  omega
theorem f_pass_1 {A : ab_A} {b c z t : Nat} (hz : A 3 (6 * b) = z) (ht : f_bey A c b = t) (h : t = A 17 z) : au (f_come (f_lock (f_shift A b) c) z t) 21 z 1 = f_pass A b c := by
  subst hz
  subst ht
  exact (if_pos h).symm
theorem f_come_18 (A : ab_A) (z t : Nat) : f_come A z t 18 z = A 18 z - 1 := by simp [f_come, au]
theorem f_pass_2 {A : ab_A} {b c z t : Nat} (hz : A 3 (6 * b) = z) (ht : f_bey A c b = t) (h : t ≠ A 17 z) (h2 : A 18 z - 1 = 0) : au (f_come (f_lock (f_shift A b) c) z t) 21 z 2 = f_pass A b c := by
  subst hz
  subst ht
  have e : f_come (f_lock (f_shift A b) c) (A 3 (6 * b)) (f_bey A c b) 18 (A 3 (6 * b)) = 0 := by rw [f_come_18]; exact h2
  exact ((if_neg h).trans (if_pos e)).symm
theorem f_pass_3 {A : ab_A} {b c z t : Nat} (hz : A 3 (6 * b) = z) (ht : f_bey A c b = t) (h : t ≠ A 17 z) (h2 : A 18 z - 1 ≠ 0) : f_join (f_come (f_lock (f_shift A b) c) z t) z t = f_pass A b c := by
  subst hz
  subst ht
  have e : f_come (f_lock (f_shift A b) c) (A 3 (6 * b)) (f_bey A c b) 18 (A 3 (6 * b)) ≠ 0 := by rw [f_come_18]; exact h2
  exact ((if_neg h).trans (if_neg e)).symm
theorem f_shift_2 {A : ab_A} {b t : Nat} (h : t ≠ b) : f_shift A b 2 t = A 2 t := by simp [f_shift, h]
set_option maxRecDepth 100000 in
set_option maxHeartbeats 4000000 in
theorem c_X5_wayFrom (l : Launch) (w : hv_W) (g : md_g) (hg : md_ok g) (A : ab_A) (th : Nat) (Y0 : hv_H) (b : Nat) (hb : b < 8) (hI : ab_I A) : hv_Mr l yX5_wayFrom wsX5_wayFrom ({ frames := 1, cells := 0, slots := 0, locals := 22 }) w [.ref (g.1), .int (nI b)] (md_Y w g A th Y0) (fun r Y1 => r = .int (nI (f_way A b) + (-1)) ∧ Y1 = md_Y w g A th Y0) := by
  refine hv_ofV (cc := cX5_wayFrom) (own := RX5) (by decide) rfl rfl (Nat.le_of_ble_eq_true rfl) rfl ?_
  intro p e s m below meth c C hret _
  have hin : ∀ x ∈ wsX50, x ∈ wsX5_wayFrom := by decide +kernel
  obtain ⟨i1, i2, i2b, i3, i4, i5, i6, i7, i8, i9⟩ := hI
  have hm6 := i1 b hb
  refine hv_aload_n C dX5_wayFrom_0 rfl 0 rfl ?_
  refine hm_get (k := 2) (v := .ref (g.2.1 2)) C hin (by decide) (by decide +kernel) rfl rfl dX5_wayFrom_1 ?_
  refine hv_iload_n C dX5_wayFrom_4 rfl 1 rfl ?_
  refine hm_iald (k := 2) (n := b) (x := (nI (A 2 b))) C hg (by decide) (by decide) (show b < 8 from by omega) rfl dX5_wayFrom_5 ?_
  refine hv_ifN_ne (tgt := 11) C dX5_wayFrom_6 (by decide) (by omega) (fun h1 => ?_) (fun h1 => ?_)
  · skip
    obtain ⟨z, hz⟩ : ∃ z, A 3 (6 * b) = z := ⟨_, rfl⟩
    obtain ⟨a1, a2, a3, a4, a5⟩ := i2 b 0 hb (by omega)
    rw [Nat.add_zero, hz] at a1 a2 a3 a4 a5
    obtain ⟨b1, b9, b3, b4, b5, b6⟩ := i8 z a1
    refine hv_aload_n C dX5_wayFrom_11 rfl 0 rfl ?_
    refine hm_get (k := 3) (v := .ref (g.2.1 3)) C hin (by decide) (by decide +kernel) rfl rfl dX5_wayFrom_12 ?_
    refine hv_bipush (v := nI 6) C dX5_wayFrom_15 (by decide) ?_
    refine hv_iload_n C dX5_wayFrom_17 rfl 1 rfl ?_
    refine hv_imulN C dX5_wayFrom_18 ?_
    refine hm_iald (k := 3) (n := 6 * b) (x := (nI z)) C hg (by decide) (by decide) (show 6 * b < 48 from by omega) (congrArg nI hz) dX5_wayFrom_19 ?_
    refine hv_istore_n (lv1 := [(0, .ref (g.1)), (1, .int (nI b)), (2, .int (nI z))]) C dX5_wayFrom_20 rfl (by decide) [1, 2, 0] rfl ?_
    obtain ⟨c, hc⟩ : ∃ c, A 12 (8 * b + A 17 z) = c := ⟨_, rfl⟩
    obtain ⟨-, e2, e3⟩ := i5 b (A 17 z) hb b1
    rw [hc] at e2 e3
    refine hv_aload_n C dX5_wayFrom_21 rfl 0 rfl ?_
    refine hm_get (k := 12) (v := .ref (g.2.1 12)) C hin (by decide) (by decide +kernel) rfl rfl dX5_wayFrom_22 ?_
    refine hv_bipush (v := nI 8) C dX5_wayFrom_25 (by decide) ?_
    refine hv_iload_n C dX5_wayFrom_27 rfl 1 rfl ?_
    refine hv_imulN C dX5_wayFrom_28 ?_
    refine hv_aload_n C dX5_wayFrom_29 rfl 0 rfl ?_
    refine hm_get (k := 17) (v := .ref (g.2.1 17)) C hin (by decide) (by decide +kernel) rfl rfl dX5_wayFrom_30 ?_
    refine hv_iload_n C dX5_wayFrom_33 rfl 2 rfl ?_
    refine hm_iald (k := 17) (n := z) (x := (nI (A 17 z))) C hg (by decide) (by decide) (show z < 40 from by omega) rfl dX5_wayFrom_34 ?_
    refine hv_iaddN C dX5_wayFrom_35 ?_
    refine hm_iald (k := 12) (n := (8 * b) + (A 17 z)) (x := (nI (c) + (-1))) C hg (by decide) (by decide) (show (8 * b) + (A 17 z) < 64 from by omega) (congrArg (fun q : Nat => (nI q + (-1) : Int32)) hc) dX5_wayFrom_36 ?_
    refine hv_istore_n (lv1 := [(0, .ref (g.1)), (1, .int (nI b)), (2, .int (nI z)), (3, .int (nI (c) + (-1)))]) C dX5_wayFrom_37 rfl (by decide) [1, 2, 3, 0] rfl ?_
    refine hv_aload_n C dX5_wayFrom_38 rfl 0 rfl ?_
    refine hm_get (k := 24) (v := .ref (g.2.1 24)) C hin (by decide) (by decide +kernel) rfl rfl dX5_wayFrom_39 ?_
    refine hv_iload_n C dX5_wayFrom_42 rfl 2 rfl ?_
    refine hm_iald (k := 24) (n := z) (x := (nI (A 24 z) + (-1))) C hg (by decide) (by decide) (show z < 40 from by omega) rfl dX5_wayFrom_43 ?_
    refine hv_aload_n C dX5_wayFrom_44 rfl 0 rfl ?_
    refine hm_get (k := 16) (v := .int (nI (A 16 0))) C hin (by decide) (by decide +kernel) rfl rfl dX5_wayFrom_45 ?_
    refine hv_top (nI_eS _).symm ?_
    refine hv_icmpE_eq (tgt := 64) C dX5_wayFrom_48 (by decide) (by omega) (by omega) (fun h2 => ?_) (fun h2 => ?_)
    · skip
      refine hv_iconst (v := nI 0 + (-1)) C dX5_wayFrom_64 (by decide) ?_
      exact hv_iret C hret dX5_wayFrom_65 (by first | exact Nat.le_refl _ | decide) (by first | exact Nat.le_refl _ | decide) ⟨by rw [show f_way A b = 0 from by rw [fw_def hz hc rfl]; (repeat' split) <;> first | rfl | omega | (exfalso; omega)], rfl⟩
    · skip
      refine hv_iload_n C dX5_wayFrom_51 rfl 3 rfl ?_
      refine hv_iconst (v := nI 0 + (-1)) C dX5_wayFrom_52 (by decide) ?_
      refine hv_icmpE_eq (tgt := 64) C dX5_wayFrom_53 (by decide) (by omega) (by omega) (fun h3 => ?_) (fun h3 => ?_)
      · skip
        refine hv_iconst (v := nI 0 + (-1)) C dX5_wayFrom_64 (by decide) ?_
        exact hv_iret C hret dX5_wayFrom_65 (by first | exact Nat.le_refl _ | decide) (by first | exact Nat.le_refl _ | decide) ⟨by rw [show f_way A b = 0 from by rw [fw_def hz hc rfl]; (repeat' split) <;> first | rfl | omega | (exfalso; omega)], rfl⟩
      · skip
        refine hv_aload_n C dX5_wayFrom_56 rfl 0 rfl ?_
        refine hv_iload_n C dX5_wayFrom_57 rfl 3 rfl ?_
        obtain ⟨g1, g2, g3, g4, g5, g6, g7⟩ := i4 (c - 1) (by omega)
        refine hv_top (nI_em (by omega)) ?_
        refine hv_callVr (As := [.int (nI (c - 1))]) (rest := []) (n := 1) C (c_X5_goes l w g hg A th Y0 (c - 1) (by omega) g1 (by omega) (by omega) (i1 _ g1).2.1) gX5_wayFrom_X5_goes rfl (by decide +kernel) ⟨Nat.le_of_ble_eq_true rfl, Nat.le_of_ble_eq_true rfl⟩ (hv_rcO md_o rfl) rfl rfl (Nat.le_of_ble_eq_true rfl) dX5_wayFrom_58 ⟨by first | exact Nat.le_of_ble_eq_true rfl | omega, by first | exact Nat.le_of_ble_eq_true rfl | omega⟩ (fun r4 Y1 hr => ?_)
        obtain ⟨rfl, rfl⟩ := hr
        refine hv_ifb_ne (tgt := 66) C dX5_wayFrom_61 (by decide) (fun h5 => ?_) (fun h5 => ?_)
        · skip
          refine hv_aload_n C dX5_wayFrom_66 rfl 0 rfl ?_
          refine hv_iload_n C dX5_wayFrom_67 rfl 3 rfl ?_
          refine hv_top (nI_em (by omega)) ?_
          refine hv_iload_n C dX5_wayFrom_68 rfl 1 rfl ?_
          refine hv_callVr (As := [.int (nI (c - 1)), .int (nI b)]) (rest := []) (n := 2) C (c_X5_beyond l w g hg A th Y0 (c - 1) b (by omega) g1 (by omega)) gX5_wayFrom_X5_beyond rfl (by decide +kernel) ⟨Nat.le_of_ble_eq_true rfl, Nat.le_of_ble_eq_true rfl⟩ (hv_rcO md_o rfl) rfl rfl (Nat.le_of_ble_eq_true rfl) dX5_wayFrom_69 ⟨by first | exact Nat.le_of_ble_eq_true rfl | omega, by first | exact Nat.le_of_ble_eq_true rfl | omega⟩ (fun r6 Y1 hr => ?_)
          obtain ⟨rfl, rfl⟩ := hr
          obtain ⟨t, ht⟩ : ∃ t, f_bey A (c - 1) b = t := ⟨_, rfl⟩
          rw [ht]
          have ht8 : t < 8 := ht ▸ f_bey_lt g1 g2
          obtain ⟨o1, o2, o3, o4, o5⟩ := i1 t ht8
          refine hv_istore (lv1 := [(0, .ref (g.1)), (1, .int (nI b)), (2, .int (nI z)), (3, .int (nI (c) + (-1))), (4, .int (nI t))]) C dX5_wayFrom_72 (by decide) [1, 2, 3, 4, 0] rfl ?_
          refine hv_join (α := Nat) (pcJ := 128) (fun _ => md_Y w g A th Y0) (fun _ => [(0, .ref (g.1)), (1, .int (nI b)), (2, .int (nI z)), (3, .int (nI (c) + (-1))), (4, .int (nI t))]) (fun t9 => .int (nI t9) :: []) (fun t9 => t9 = b2 (t = A 17 z ∨ (A 2 t < 6 ∧ (A 2 t < A 1 t ∨ A 16 0 % 2 = 0)))) ?_ ?_
          · rintro _ rfl
            refine hv_istore (lv1 := [(0, .ref (g.1)), (1, .int (nI b)), (2, .int (nI z)), (3, .int (nI (c) + (-1))), (4, .int (nI t)), (5, .int (nI (b2 (t = A 17 z ∨ (A 2 t < 6 ∧ (A 2 t < A 1 t ∨ A 16 0 % 2 = 0))))))]) C dX5_wayFrom_128 (by decide) [1, 2, 3, 4, 5, 0] rfl ?_
            refine hv_iload C dX5_wayFrom_130 5 rfl ?_
            refine hv_ifb_eq (tgt := 139) C dX5_wayFrom_132 (by decide) (fun h8 => ?_) (fun h8 => ?_)
            · skip
              refine hv_iconst (v := nI 0 + (-1)) C dX5_wayFrom_139 (by decide) ?_
              exact hv_iret C hret dX5_wayFrom_140 (by first | exact Nat.le_refl _ | decide) (by first | exact Nat.le_refl _ | decide) ⟨by rw [show f_way A b = 0 from by rw [fw_def hz hc ht]; (repeat' split) <;> first | rfl | omega | (exfalso; omega)], rfl⟩
            · skip
              refine hv_iload_n C dX5_wayFrom_135 rfl 3 rfl ?_
              refine hv_goto (tgt := 140) C dX5_wayFrom_136 (by decide) ?_
              exact hv_iret C hret dX5_wayFrom_140 (by first | exact Nat.le_refl _ | decide) (by first | exact Nat.le_refl _ | decide) ⟨by rw [show f_way A b = c from by rw [fw_def hz hc ht]; (repeat' split) <;> first | rfl | omega | (exfalso; omega)], rfl⟩
          · intro k7
            refine hv_iload C dX5_wayFrom_74 4 rfl ?_
            refine hv_aload_n C dX5_wayFrom_76 rfl 0 rfl ?_
            refine hm_get (k := 17) (v := .ref (g.2.1 17)) C hin (by decide) (by decide +kernel) rfl rfl dX5_wayFrom_77 ?_
            refine hv_iload_n C dX5_wayFrom_80 rfl 2 rfl ?_
            refine hm_iald (k := 17) (n := z) (x := (nI (A 17 z))) C hg (by decide) (by decide) (show z < 40 from by omega) rfl dX5_wayFrom_81 ?_
            refine hv_icmpN_eq (tgt := 123) C dX5_wayFrom_82 (by decide) (by omega) (by omega) (fun h9 => ?_) (fun h9 => ?_)
            · skip
              refine hv_iconst (v := nI 1) C dX5_wayFrom_123 (by decide) ?_
              refine hv_goto (tgt := 128) C dX5_wayFrom_124 (by decide) ?_
              exact k7 _ (b2_t (by omega)).symm
            · skip
              refine hv_aload_n C dX5_wayFrom_85 rfl 0 rfl ?_
              refine hm_get (k := 2) (v := .ref (g.2.1 2)) C hin (by decide) (by decide +kernel) rfl rfl dX5_wayFrom_86 ?_
              refine hv_iload C dX5_wayFrom_89 4 rfl ?_
              refine hm_iald (k := 2) (n := t) (x := (nI (A 2 t))) C hg (by decide) (by decide) (show t < 8 from by omega) rfl dX5_wayFrom_91 ?_
              refine hv_bipush (v := nI 6) C dX5_wayFrom_92 (by decide) ?_
              refine hv_icmpN_ge (tgt := 127) C dX5_wayFrom_94 (by decide) (by omega) (by omega) (fun h10 => ?_) (fun h10 => ?_)
              · skip
                refine hv_iconst (v := nI 0) C dX5_wayFrom_127 (by decide) ?_
                exact k7 _ (b2_f (by omega)).symm
              · skip
                refine hv_aload_n C dX5_wayFrom_97 rfl 0 rfl ?_
                refine hm_get (k := 2) (v := .ref (g.2.1 2)) C hin (by decide) (by decide +kernel) rfl rfl dX5_wayFrom_98 ?_
                refine hv_iload C dX5_wayFrom_101 4 rfl ?_
                refine hm_iald (k := 2) (n := t) (x := (nI (A 2 t))) C hg (by decide) (by decide) (show t < 8 from by omega) rfl dX5_wayFrom_103 ?_
                refine hv_aload_n C dX5_wayFrom_104 rfl 0 rfl ?_
                refine hm_get (k := 1) (v := .ref (g.2.1 1)) C hin (by decide) (by decide +kernel) rfl rfl dX5_wayFrom_105 ?_
                refine hv_iload C dX5_wayFrom_108 4 rfl ?_
                refine hm_iald (k := 1) (n := t) (x := (nI (A 1 t))) C hg (by decide) (by decide) (show t < 8 from by omega) rfl dX5_wayFrom_110 ?_
                refine hv_icmpN_lt (tgt := 123) C dX5_wayFrom_111 (by decide) (by omega) (by omega) (fun h11 => ?_) (fun h11 => ?_)
                · skip
                  refine hv_iconst (v := nI 1) C dX5_wayFrom_123 (by decide) ?_
                  refine hv_goto (tgt := 128) C dX5_wayFrom_124 (by decide) ?_
                  exact k7 _ (b2_t (by omega)).symm
                · skip
                  refine hv_aload_n C dX5_wayFrom_114 rfl 0 rfl ?_
                  refine hm_get (k := 16) (v := .int (nI (A 16 0))) C hin (by decide) (by decide +kernel) rfl rfl dX5_wayFrom_115 ?_
                  refine hv_iconst (v := nI 2) C dX5_wayFrom_118 (by decide) ?_
                  refine hv_iremN C dX5_wayFrom_119 (by omega) (by omega) (by omega) ?_
                  refine hv_ifN_ne (tgt := 127) C dX5_wayFrom_120 (by decide) (by omega) (fun h12 => ?_) (fun h12 => ?_)
                  · skip
                    refine hv_iconst (v := nI 0) C dX5_wayFrom_127 (by decide) ?_
                    exact k7 _ (b2_f (by omega)).symm
                  · skip
                    refine hv_iconst (v := nI 1) C dX5_wayFrom_123 (by decide) ?_
                    refine hv_goto (tgt := 128) C dX5_wayFrom_124 (by decide) ?_
                    exact k7 _ (b2_t (by omega)).symm
        · skip
          refine hv_iconst (v := nI 0 + (-1)) C dX5_wayFrom_64 (by decide) ?_
          exact hv_iret C hret dX5_wayFrom_65 (by first | exact Nat.le_refl _ | decide) (by first | exact Nat.le_refl _ | decide) ⟨by rw [show f_way A b = 0 from by rw [fw_def hz hc rfl]; (repeat' split) <;> first | rfl | omega | (exfalso; omega)], rfl⟩
  · skip
    refine hv_iconst (v := nI 0 + (-1)) C dX5_wayFrom_9 (by decide) ?_
    exact hv_iret C hret dX5_wayFrom_10 (by first | exact Nat.le_refl _ | decide) (by first | exact Nat.le_refl _ | decide) ⟨by rw [show f_way A b = 0 from if_pos (by omega)], rfl⟩
set_option maxRecDepth 100000 in
set_option maxHeartbeats 4000000 in
theorem c_X5_passes (l : Launch) (w : hv_W) (g : md_g) (hg : md_ok g) (A : ab_A) (th : Nat) (Y0 : hv_H) (b j : Nat) (hb : b < 8) (hI : ab_I A) (hw : f_way A b = j + 1) : hv_Mv l yX5_passes wsX5_passes ({ frames := 1, cells := 0, slots := 0, locals := 23 }) w [.ref (g.1), .int (nI b), .int (nI j)] (md_Y w g A th Y0) (fun Y1 => Y1 = md_Y w g (f_pass A b j) th Y0) := by
  refine hv_ofV (cc := cX5_passes) (own := RX5) (by decide) rfl rfl (Nat.le_of_ble_eq_true rfl) rfl ?_
  intro p e s m below meth c C hret _
  have hin : ∀ x ∈ wsX50, x ∈ wsX5_passes := by decide +kernel
  obtain ⟨z, c1, t, hz, hc1, ht, m1, m6, z15, k40, hc, c4, k14, g1, g2, g3, g6, gb, t8, htb, hwa, hfr, hca, z8, l1, l20, n256, -, -⟩ := fw_facts hI hb (by omega)
  obtain rfl : j = c1 := by omega
  have q6 := (hI.1 (A 6 j) g2).2.1
  refine hv_aload_n C dX5_passes_0 rfl 0 rfl ?_
  refine hm_get (k := 3) (v := .ref (g.2.1 3)) C hin (by decide) (by decide +kernel) rfl rfl dX5_passes_1 ?_
  refine hv_bipush (v := nI 6) C dX5_passes_4 (by decide) ?_
  refine hv_iload_n C dX5_passes_6 rfl 1 rfl ?_
  refine hv_imulN C dX5_passes_7 ?_
  refine hm_iald (k := 3) (n := 6 * b) (x := (nI z)) C hg (by decide) (by decide) (show 6 * b < 48 from by omega) (congrArg nI hz) dX5_passes_8 ?_
  refine hv_istore_n (lv1 := [(0, .ref (g.1)), (1, .int (nI b)), (2, .int (nI j)), (3, .int (nI z))]) C dX5_passes_9 rfl (by decide) [1, 2, 3, 0] rfl ?_
  refine hv_aload_n C dX5_passes_10 rfl 0 rfl ?_
  refine hv_iload_n C dX5_passes_11 rfl 2 rfl ?_
  refine hv_iload_n C dX5_passes_12 rfl 1 rfl ?_
  refine hv_callVr (As := [.int (nI j), .int (nI b)]) (rest := []) (n := 2) C (c_X5_beyond l w g hg A th Y0 j b (by omega) g1 (by omega)) gX5_passes_X5_beyond rfl (by decide +kernel) ⟨Nat.le_of_ble_eq_true rfl, Nat.le_of_ble_eq_true rfl⟩ (hv_rcO md_o rfl) rfl rfl (Nat.le_of_ble_eq_true rfl) dX5_passes_13 ⟨by first | exact Nat.le_of_ble_eq_true rfl | omega, by first | exact Nat.le_of_ble_eq_true rfl | omega⟩ (fun r1 Y1 hr => ?_)
  obtain ⟨rfl, rfl⟩ := hr
  rw [ht]
  refine hv_istore (lv1 := [(0, .ref (g.1)), (1, .int (nI b)), (2, .int (nI j)), (3, .int (nI z)), (4, .int (nI t))]) C dX5_passes_16 (by decide) [1, 2, 3, 4, 0] rfl ?_
  refine hv_aload_n C dX5_passes_18 rfl 0 rfl ?_
  refine hm_get (k := 2) (v := .ref (g.2.1 2)) C hin (by decide) (by decide +kernel) rfl rfl dX5_passes_19 ?_
  refine hv_iload_n C dX5_passes_22 rfl 1 rfl ?_
  refine hv_dup2 C dX5_passes_23 rfl rfl ?_
  refine hm_iald (k := 2) (n := b) (x := (nI (A 2 b))) C hg (by decide) (by decide) (show b < 8 from by omega) rfl dX5_passes_24 ?_
  refine hv_iconst (v := nI 1) C dX5_passes_25 (by decide) ?_
  refine hv_isubN C dX5_passes_26 (by omega) ?_
  refine hm_iast (k := 2) (n := b) (v := (A 2 b) - 1) C hg (by decide) (by decide) (show b < 8 from by omega) rfl dX5_passes_27 ?_
  refine hv_bipush (v := nI 6) C dX5_passes_28 (by decide) ?_
  refine hv_iload_n C dX5_passes_30 rfl 1 rfl ?_
  refine hv_imulN C dX5_passes_31 ?_
  refine hv_istore (lv1 := [(0, .ref (g.1)), (1, .int (nI b)), (2, .int (nI j)), (3, .int (nI z)), (4, .int (nI t)), (5, .int (nI (6 * b)))]) C dX5_passes_32 (by decide) [1, 2, 3, 4, 5, 0] rfl ?_
  refine hv_fin ?_ (md_eq (f_sh_0 A b)) rfl
  refine hv_loop (A 2 b - 1) (fun i => md_Y w g (f_sh A b i) th Y0) (fun i => [(0, .ref (g.1)), (1, .int (nI b)), (2, .int (nI j)), (3, .int (nI z)), (4, .int (nI t)), (5, .int (nI (6 * b + i)))]) ?_ ?_
  · skip
    refine hv_iload C dX5_passes_34 5 rfl ?_
    refine hv_bipush (v := nI 6) C dX5_passes_36 (by decide) ?_
    refine hv_iload_n C dX5_passes_38 rfl 1 rfl ?_
    refine hv_imulN C dX5_passes_39 ?_
    refine hv_aload_n C dX5_passes_40 rfl 0 rfl ?_
    refine hm_get (k := 2) (v := .ref (g.2.1 2)) C hin (by decide) (by decide +kernel) rfl rfl dX5_passes_41 ?_
    refine hv_iload_n C dX5_passes_44 rfl 1 rfl ?_
    refine hm_iald (k := 2) (n := b) (x := (nI (A 2 b - 1))) C hg (by decide) (by decide) (show b < 8 from by omega) (by simp [md_S, md_e, md_neg, f_sh, f_shift]) dX5_passes_45 ?_
    refine hv_iaddN C dX5_passes_46 ?_
    refine hv_icmpN_ge (tgt := 72) C dX5_passes_47 (by decide) (by omega) (by omega) (fun h2 => ?_) (fun h2 => ?_)
    · skip
      refine hv_aload_n C dX5_passes_72 rfl 0 rfl ?_
      refine hm_get (k := 0) (v := .ref (g.2.1 0)) C hin (by decide) (by decide +kernel) rfl rfl dX5_passes_73 ?_
      refine hv_aload_n C dX5_passes_76 rfl 0 rfl ?_
      refine hm_get (k := 5) (v := .ref (g.2.1 5)) C hin (by decide) (by decide +kernel) rfl rfl dX5_passes_77 ?_
      refine hv_iload_n C dX5_passes_80 rfl 2 rfl ?_
      refine hm_iald (k := 5) (n := j) (x := (nI (A 5 j))) C hg (by decide) (by decide) (show j < 14 from by omega) rfl dX5_passes_81 ?_
      refine hv_dup2 C dX5_passes_82 rfl rfl ?_
      refine hm_iald (k := 0) (n := A 5 j) (x := (nI (A 0 (A 5 j)))) C hg (by decide) (by decide) (show A 5 j < 8 from by omega) rfl dX5_passes_83 ?_
      refine hv_aload_n C dX5_passes_84 rfl 0 rfl ?_
      refine hm_get (k := 8) (v := .ref (g.2.1 8)) C hin (by decide) (by decide +kernel) rfl rfl dX5_passes_85 ?_
      refine hv_iload_n C dX5_passes_88 rfl 2 rfl ?_
      refine hm_iald (k := 8) (n := j) (x := (nI (A 8 j))) C hg (by decide) (by decide) (show j < 14 from by omega) rfl dX5_passes_89 ?_
      refine hv_isubN C dX5_passes_90 (by omega) ?_
      refine hm_iast (k := 0) (n := A 5 j) (v := (A 0 (A 5 j)) - (A 8 j)) C hg (by decide) (by decide) (show A 5 j < 8 from by omega) rfl dX5_passes_91 ?_
      refine hv_aload_n C dX5_passes_92 rfl 0 rfl ?_
      refine hv_aload_n C dX5_passes_93 rfl 0 rfl ?_
      refine hm_get (k := 6) (v := .ref (g.2.1 6)) C hin (by decide) (by decide +kernel) rfl rfl dX5_passes_94 ?_
      refine hv_iload_n C dX5_passes_97 rfl 2 rfl ?_
      refine hm_iald (k := 6) (n := j) (x := (nI (A 6 j))) C hg (by decide) (by decide) (show j < 14 from by omega) rfl dX5_passes_98 ?_
      refine hv_aload_n C dX5_passes_99 rfl 0 rfl ?_
      refine hm_get (k := 8) (v := .ref (g.2.1 8)) C hin (by decide) (by decide +kernel) rfl rfl dX5_passes_100 ?_
      refine hv_iload_n C dX5_passes_103 rfl 2 rfl ?_
      refine hm_iald (k := 8) (n := j) (x := (nI (A 8 j))) C hg (by decide) (by decide) (show j < 14 from by omega) rfl dX5_passes_104 ?_
      refine hv_callVv (As := [.int (nI (A 6 j)), .int (nI (A 8 j))]) (rest := []) (n := 2) C (c_X5_pours l w g hg (au (f_shift A b) 0 (A 5 j) ((A 0 (A 5 j)) - (A 8 j))) th Y0 (A 6 j) (A 8 j) (by omega) (by rw [show (au (f_shift A b) 0 (A 5 j) ((A 0 (A 5 j)) - (A 8 j))) 0 (A 6 j) = A 0 (A 6 j) from by simp [au, f_shift, Ne.symm g3]]; omega)) gX5_passes_X5_pours rfl (by decide +kernel) ⟨Nat.le_of_ble_eq_true rfl, Nat.le_of_ble_eq_true rfl⟩ (hv_rcO md_o rfl) rfl rfl (Nat.le_of_ble_eq_true rfl) dX5_passes_105 ⟨by first | exact Nat.le_of_ble_eq_true rfl | omega, by first | exact Nat.le_of_ble_eq_true rfl | omega⟩ (fun Y1 hr => ?_)
      subst hr
      refine hv_aload_n C dX5_passes_108 rfl 0 rfl ?_
      refine hm_get (k := 19) (v := .ref (g.2.1 19)) C hin (by decide) (by decide +kernel) rfl rfl dX5_passes_109 ?_
      refine hv_iload_n C dX5_passes_112 rfl 3 rfl ?_
      refine hv_dup2 C dX5_passes_113 rfl rfl ?_
      refine hm_iald (k := 19) (n := z) (x := (nI (A 19 z))) C hg (by decide) (by decide) (show z < 40 from by omega) rfl dX5_passes_114 ?_
      refine hv_iconst (v := nI 1) C dX5_passes_115 (by decide) ?_
      refine hv_iaddN C dX5_passes_116 ?_
      refine hm_iast (k := 19) (n := z) (v := (A 19 z) + 1) C hg (by decide) (by decide) (show z < 40 from by omega) rfl dX5_passes_117 ?_
      refine hv_aload_n C dX5_passes_118 rfl 0 rfl ?_
      refine hm_get (k := 18) (v := .ref (g.2.1 18)) C hin (by decide) (by decide +kernel) rfl rfl dX5_passes_119 ?_
      refine hv_iload_n C dX5_passes_122 rfl 3 rfl ?_
      refine hv_dup2 C dX5_passes_123 rfl rfl ?_
      refine hm_iald (k := 18) (n := z) (x := (nI (A 18 z))) C hg (by decide) (by decide) (show z < 40 from by omega) rfl dX5_passes_124 ?_
      refine hv_iconst (v := nI 1) C dX5_passes_125 (by decide) ?_
      refine hv_isubN C dX5_passes_126 (by omega) ?_
      refine hm_iast (k := 18) (n := z) (v := (A 18 z) - 1) C hg (by decide) (by decide) (show z < 40 from by omega) rfl dX5_passes_127 ?_
      refine hv_aload_n C dX5_passes_128 rfl 0 rfl ?_
      refine hm_get (k := 20) (v := .ref (g.2.1 20)) C hin (by decide) (by decide +kernel) rfl rfl dX5_passes_129 ?_
      refine hv_iload_n C dX5_passes_132 rfl 3 rfl ?_
      refine hv_dup2 C dX5_passes_133 rfl rfl ?_
      refine hm_iald (k := 20) (n := z) (x := (nI (A 20 z))) C hg (by decide) (by decide) (show z < 40 from by omega) rfl dX5_passes_134 ?_
      refine hv_aload_n C dX5_passes_135 rfl 0 rfl ?_
      refine hm_get (k := 23) (v := .ref (g.2.1 23)) C hin (by decide) (by decide +kernel) rfl rfl dX5_passes_136 ?_
      refine hv_iload_n C dX5_passes_139 rfl 3 rfl ?_
      refine hm_iald (k := 23) (n := z) (x := (nI (A 23 z))) C hg (by decide) (by decide) (show z < 40 from by omega) rfl dX5_passes_140 ?_
      refine hv_iload C dX5_passes_141 4 rfl ?_
      refine hv_ishr C dX5_passes_143 ?_
      refine hv_top (nb_shr (by omega) (by omega)) ?_
      refine hv_iconst (v := nI 1) C dX5_passes_144 (by decide) ?_
      refine hv_iand C dX5_passes_145 ?_
      refine hv_top (nb_and1 (by have := Nat.div_le_self (A 23 z) (2 ^ t); omega)) ?_
      refine hv_iaddN C dX5_passes_146 ?_
      refine hm_iast (k := 20) (n := z) (v := (A 20 z) + (((A 23 z) / 2 ^ t) % 2)) C hg (by decide) (by decide) (show z < 40 from by omega) rfl dX5_passes_147 ?_
      refine hv_aload_n C dX5_passes_148 rfl 0 rfl ?_
      refine hm_get (k := 23) (v := .ref (g.2.1 23)) C hin (by decide) (by decide +kernel) rfl rfl dX5_passes_149 ?_
      refine hv_iload_n C dX5_passes_152 rfl 3 rfl ?_
      refine hv_dup2 C dX5_passes_153 rfl rfl ?_
      refine hm_iald (k := 23) (n := z) (x := (nI (A 23 z))) C hg (by decide) (by decide) (show z < 40 from by omega) rfl dX5_passes_154 ?_
      refine hv_iconst (v := nI 1) C dX5_passes_155 (by decide) ?_
      refine hv_iload C dX5_passes_156 4 rfl ?_
      refine hv_ishl C dX5_passes_158 ?_
      refine hv_top (nb_shl t (by omega)) ?_
      refine hv_ior C dX5_passes_159 ?_
      refine hv_top (nb_or _ _) ?_
      refine hm_iast (k := 23) (n := z) (v := (A 23 z) ||| (2 ^ t)) C hg (by decide) (by decide) (show z < 40 from by omega) rfl dX5_passes_160 ?_
      refine hv_aload_n C dX5_passes_161 rfl 0 rfl ?_
      refine hm_get (k := 22) (v := .ref (g.2.1 22)) C hin (by decide) (by decide +kernel) rfl rfl dX5_passes_162 ?_
      refine hv_iload_n C dX5_passes_165 rfl 3 rfl ?_
      refine hv_iload C dX5_passes_166 4 rfl ?_
      refine hm_iast (k := 22) (n := z) (v := t) C hg (by decide) (by decide) (show z < 40 from by omega) rfl dX5_passes_168 ?_
      refine hv_aload_n C dX5_passes_169 rfl 0 rfl ?_
      refine hm_get (k := 24) (v := .ref (g.2.1 24)) C hin (by decide) (by decide +kernel) rfl rfl dX5_passes_170 ?_
      refine hv_iload_n C dX5_passes_173 rfl 3 rfl ?_
      refine hv_aload_n C dX5_passes_174 rfl 0 rfl ?_
      refine hm_get (k := 16) (v := .int (nI (A 16 0))) C hin (by decide) (by decide +kernel) rfl rfl dX5_passes_175 ?_
      refine hm_iast (k := 24) (n := z) (v := A 16 0 + 1) C hg (by decide) (by decide) (show z < 40 from by omega) (nI_eS _) dX5_passes_178 ?_
      refine hv_iload C dX5_passes_179 4 rfl ?_
      refine hv_aload_n C dX5_passes_181 rfl 0 rfl ?_
      refine hm_get (k := 17) (v := .ref (g.2.1 17)) C hin (by decide) (by decide +kernel) rfl rfl dX5_passes_182 ?_
      refine hv_iload_n C dX5_passes_185 rfl 3 rfl ?_
      refine hm_iald (k := 17) (n := z) (x := (nI (A 17 z))) C hg (by decide) (by decide) (show z < 40 from by omega) rfl dX5_passes_186 ?_
      refine hv_icmpN_ne (tgt := 200) C dX5_passes_187 (by decide) (by omega) (by omega) (fun h4 => ?_) (fun h4 => ?_)
      · skip
        refine hv_aload_n C dX5_passes_200 rfl 0 rfl ?_
        refine hm_get (k := 18) (v := .ref (g.2.1 18)) C hin (by decide) (by decide +kernel) rfl rfl dX5_passes_201 ?_
        refine hv_iload_n C dX5_passes_204 rfl 3 rfl ?_
        refine hm_iald (k := 18) (n := z) (x := (nI ((A 18 z) - 1))) C hg (by decide) (by decide) (show z < 40 from by omega) (by simp [md_S, md_e, md_neg, au]) dX5_passes_205 ?_
        refine hv_ifN_ne (tgt := 219) C dX5_passes_206 (by decide) (by omega) (fun h5 => ?_) (fun h5 => ?_)
        · skip
          refine hv_aload_n C dX5_passes_219 rfl 0 rfl ?_
          refine hv_iload_n C dX5_passes_220 rfl 3 rfl ?_
          refine hv_iload C dX5_passes_221 4 rfl ?_
          refine hv_callVv (As := [.int (nI z), .int (nI t)]) (rest := []) (n := 2) C (c_X5_joins l w g hg (au (au (au (au (au (au (f_lock (f_shift A b) j) 19 z ((A 19 z) + 1)) 18 z ((A 18 z) - 1)) 20 z ((A 20 z) + (((A 23 z) / 2 ^ t) % 2))) 23 z ((A 23 z) ||| (2 ^ t))) 22 z t) 24 z (A 16 0 + 1)) th Y0 z t (by omega) (by rw [show (au (au (au (au (au (au (f_lock (f_shift A b) j) 19 z ((A 19 z) + 1)) 18 z ((A 18 z) - 1)) 20 z ((A 20 z) + (((A 23 z) / 2 ^ t) % 2))) 23 z ((A 23 z) ||| (2 ^ t))) 22 z t) 24 z (A 16 0 + 1)) 2 t = A 2 t from f_shift_2 htb]; omega)) gX5_passes_X5_joins rfl (by decide +kernel) ⟨Nat.le_of_ble_eq_true rfl, Nat.le_of_ble_eq_true rfl⟩ (hv_rcO md_o rfl) rfl rfl (Nat.le_of_ble_eq_true rfl) dX5_passes_223 ⟨by first | exact Nat.le_of_ble_eq_true rfl | omega, by first | exact Nat.le_of_ble_eq_true rfl | omega⟩ (fun Y1 hr => ?_)
          subst hr
          exact hv_vret C hret dX5_passes_226 (by first | exact Nat.le_refl _ | decide) (by first | exact Nat.le_refl _ | decide) (md_eq (f_pass_3 hz ht (by omega) (by omega)))
        · skip
          refine hv_aload_n C dX5_passes_209 rfl 0 rfl ?_
          refine hm_get (k := 21) (v := .ref (g.2.1 21)) C hin (by decide) (by decide +kernel) rfl rfl dX5_passes_210 ?_
          refine hv_iload_n C dX5_passes_213 rfl 3 rfl ?_
          refine hv_iconst (v := nI 2) C dX5_passes_214 (by decide) ?_
          refine hm_iast (k := 21) (n := z) (v := 2) C hg (by decide) (by decide) (show z < 40 from by omega) rfl dX5_passes_215 ?_
          refine hv_goto (tgt := 226) C dX5_passes_216 (by decide) ?_
          exact hv_vret C hret dX5_passes_226 (by first | exact Nat.le_refl _ | decide) (by first | exact Nat.le_refl _ | decide) (md_eq (f_pass_2 hz ht (by omega) (by omega)))
      · skip
        refine hv_aload_n C dX5_passes_190 rfl 0 rfl ?_
        refine hm_get (k := 21) (v := .ref (g.2.1 21)) C hin (by decide) (by decide +kernel) rfl rfl dX5_passes_191 ?_
        refine hv_iload_n C dX5_passes_194 rfl 3 rfl ?_
        refine hv_iconst (v := nI 1) C dX5_passes_195 (by decide) ?_
        refine hm_iast (k := 21) (n := z) (v := 1) C hg (by decide) (by decide) (show z < 40 from by omega) rfl dX5_passes_196 ?_
        refine hv_goto (tgt := 226) C dX5_passes_197 (by decide) ?_
        exact hv_vret C hret dX5_passes_226 (by first | exact Nat.le_refl _ | decide) (by first | exact Nat.le_refl _ | decide) (md_eq (f_pass_1 hz ht h4))
    · skip
      exact absurd h2 (by omega)
  · intro i hi ih
    refine hv_iload C dX5_passes_34 5 rfl ?_
    refine hv_bipush (v := nI 6) C dX5_passes_36 (by decide) ?_
    refine hv_iload_n C dX5_passes_38 rfl 1 rfl ?_
    refine hv_imulN C dX5_passes_39 ?_
    refine hv_aload_n C dX5_passes_40 rfl 0 rfl ?_
    refine hm_get (k := 2) (v := .ref (g.2.1 2)) C hin (by decide) (by decide +kernel) rfl rfl dX5_passes_41 ?_
    refine hv_iload_n C dX5_passes_44 rfl 1 rfl ?_
    refine hm_iald (k := 2) (n := b) (x := (nI (A 2 b - 1))) C hg (by decide) (by decide) (show b < 8 from by omega) (by simp [md_S, md_e, md_neg, f_sh, f_shift]) dX5_passes_45 ?_
    refine hv_iaddN C dX5_passes_46 ?_
    refine hv_icmpN_ge (tgt := 72) C dX5_passes_47 (by decide) (by omega) (by omega) (fun h7 => ?_) (fun h7 => ?_)
    · skip
      exact absurd h7 (by omega)
    · skip
      refine hv_aload_n C dX5_passes_50 rfl 0 rfl ?_
      refine hm_get (k := 3) (v := .ref (g.2.1 3)) C hin (by decide) (by decide +kernel) rfl rfl dX5_passes_51 ?_
      refine hv_iload C dX5_passes_54 5 rfl ?_
      refine hv_aload_n C dX5_passes_56 rfl 0 rfl ?_
      refine hm_get (k := 3) (v := .ref (g.2.1 3)) C hin (by decide) (by decide +kernel) rfl rfl dX5_passes_57 ?_
      refine hv_iload C dX5_passes_60 5 rfl ?_
      refine hv_iconst (v := nI 1) C dX5_passes_62 (by decide) ?_
      refine hv_iaddN C dX5_passes_63 ?_
      refine hm_iald (k := 3) (n := (6 * b + i) + 1) (x := (nI (A 3 (6 * b + i + 1)))) C hg (by decide) (by decide) (show (6 * b + i) + 1 < 48 from by omega) (congrArg nI (f_sh_n A b i)) dX5_passes_64 ?_
      refine hm_iast (k := 3) (n := 6 * b + i) (v := A 3 (6 * b + i + 1)) C hg (by decide) (by decide) (show 6 * b + i < 48 from by omega) rfl dX5_passes_65 ?_
      refine hv_iinc (v := nI (6 * b + i + 1)) (lv1 := [(0, .ref (g.1)), (1, .int (nI b)), (2, .int (nI j)), (3, .int (nI z)), (4, .int (nI t)), (5, .int (nI (6 * b + i + 1)))]) C dX5_passes_66 (k := 5) rfl (nI_1 _) (by decide) [1, 2, 3, 4, 5, 0] rfl ?_
      refine hv_goto (tgt := 34) C dX5_passes_69 (by decide) ?_
      exact hv_fin ih (md_eq (f_sh_s A b i)) rfl
