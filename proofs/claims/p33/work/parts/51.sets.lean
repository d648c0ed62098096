theorem nI_or (a b : Nat) : (nI a ||| nI b : Int32) = nI (a ||| b) := by
  apply Int32.toBitVec_inj.mp
  rw [Int32.toBitVec_or]
  exact (BitVec.ofNat_or).symm
theorem nI_orp {a k : Nat} (c : Nat) (h : a < 2 ^ k) : (nI a ||| nI (c * 2 ^ k) : Int32) = nI (a + c * 2 ^ k) := by
  rw [nI_or]
  congr 1
  have h1 := Nat.two_pow_add_eq_or_of_lt h c
  rw [Nat.mul_comm c, Nat.add_comm, h1, Nat.or_comm]
theorem out_k {A : ab_A} (hI : ab_I A) (b d n : Nat) {k : Nat} (h : k = 0 ∨ k = 1 ∨ k = 4 ∨ k = 5 ∨ k = 6 ∨ k = 7 ∨ k = 8 ∨ k = 9 ∨ k = 10 ∨ k = 11 ∨ k = 12 ∨ k = 16 ∨ k = 19 ∨ k = 20) : f_out A b d n k = A k := by
  have hz := hI.2.2.2.2.2.2.2.2.2 (A 15 0) (Nat.le_refl _)
  unfold f_out
  split <;> (funext i; rcases h with rfl | rfl | rfl | rfl | rfl | rfl | rfl | rfl | rfl | rfl | rfl | rfl | rfl | rfl <;> simp [f_join, f_out0, au])
theorem out_15 (A : ab_A) (b d n : Nat) : f_out A b d n 15 0 = A 15 0 + 1 := by
  unfold f_out
  split <;> simp [f_join, f_out0, au]
theorem out_17 (A : ab_A) (b d n i : Nat) : f_out A b d n 17 i = if i = A 15 0 then d else A 17 i := by
  unfold f_out
  split <;> simp [f_join, f_out0, au]
theorem out_18 (A : ab_A) (b d n i : Nat) : f_out A b d n 18 i = if i = A 15 0 then n else A 18 i := by
  unfold f_out
  split <;> simp [f_join, f_out0, au]
theorem out_21 (A : ab_A) (b d n : Nat) : f_out A b d n 21 (A 15 0) = b2 (b = d) := by
  unfold f_out
  by_cases h : b = d
  · rw [if_pos h, b2_t h]; simp [f_out0, au, h]
  · rw [if_neg h, b2_f h]; simp [f_join, f_out0, au, h]
theorem out_2 (A : ab_A) (b d n : Nat) : f_out A b d n 2 b = A 2 b + b2 (b ≠ d) := by
  unfold f_out
  by_cases h : b = d
  · rw [if_pos h, b2_f (fun q => q h)]; simp [f_out0, au]
  · rw [if_neg h, b2_t h]; simp [f_join, f_out0, au]
theorem out_3 (A : ab_A) {b d : Nat} (n : Nat) (h : b ≠ d) : f_out A b d n 3 (6 * b + A 2 b) = A 15 0 := by
  unfold f_out
  rw [if_neg h]
  simp [f_join, f_out0, au]
theorem L_out {A : ab_A} {F : Nat → Nat → Int32} {M b d n : Nat} (h : zLI A F M) (hb : b < 8) (hd : d < 8) (hn : 1 ≤ n) (hn2 : n ≤ 20) (hc : ¬ (A 15 0 = 40 ∨ (A 2 b = 6 ∧ b ≠ d))) : zLI (f_out A b d n) (Fu (Fu F 1 (A 15 0) (nI (d + 8 * n))) 2 1 (nI (A 15 0 + 1))) M := by
  obtain ⟨hI, hJ, ⟨hM, hM2⟩, hG, hB, hc0, hc1, hc2⟩ := h
  have hz := hI.2.2.2.2.2.2.2.2.2 (A 15 0) (Nat.le_refl _)
  have e4 := out_k hI b d n (k := 4) (by omega)
  refine ⟨I_out hI hb hd hn hn2 (by omega) (fun q z => hc (Or.inr ⟨z, q⟩)), J_out hI hJ hb hn, ⟨?_, hM2⟩, fun j hj => ?_, fun k hk => ?_, ?_, ?_, ?_⟩
  · rw [out_k hI b d n (k := 0) (by omega), out_k hI b d n (k := 10) (by omega)]; exact hM
  · rw [Fu_k _ _ _ (by decide), Fu_k _ _ _ (by decide)]
    rw [e4] at hj
    rw [hG j hj]
    unfold f_code
    rw [out_k hI b d n (k := 5) (by omega), out_k hI b d n (k := 6) (by omega), out_k hI b d n (k := 7) (by omega), out_k hI b d n (k := 8) (by omega), out_k hI b d n (k := 9) (by omega)]
  · rw [Fu_k _ _ _ (by decide), out_17, out_18, out_k hI b d n (k := 19) (by omega)]
    rw [out_15] at hk
    by_cases hk2 : k = A 15 0
    · subst hk2
      rw [if_pos rfl, if_pos rfl, Fu_s, hz.1]
      exact ⟨rfl, by omega⟩
    · rw [if_neg hk2, if_neg hk2, Fu_i _ _ hk2]
      exact hB k (by omega)
  · rw [Fu_i _ _ (by decide), Fu_k _ _ _ (by decide), e4]; exact hc0
  · rw [Fu_s, out_15]
  · rw [Fu_i _ _ (by decide), Fu_k _ _ _ (by decide), out_k hI b d n (k := 16) (by omega)]; exact hc2
set_option maxRecDepth 100000 in
set_option maxHeartbeats 4000000 in
theorem c_L_sets (l : Launch) (w : hv_W) (o : Nat) (q : Nat → Nat) (iv : Nat → Option Nat) (F : Nat → Nat → Int32) (A : ab_A) (Y : hv_H) (hq : lok q iv) (hS : zLS w o iv F A Y) {M x y : Nat} (hlt : l.stackTraces = false) (hL : zLI A F M) (hx : x < 2 ^ 31) (hy : y < 2 ^ 31) : hv_Mr l yL_sets wsL_sets ({ frames := 11, cells := 16, slots := 220, locals := 270 }) w [.ref (o), .int (nI x), .int (nI y), .ref (q 1), .ref (q 2)] Y (fun r Y1 => r = .int (nI 1) ∧ zPost w o iv M Y1) := by
  refine hv_ofV (cc := cL_sets) (own := RL) (by decide) rfl rfl (Nat.le_of_ble_eq_true rfl) rfl ?_
  intro p e s m below meth c C hret hnm
  obtain ⟨hI, hJ, ⟨hM, hM2⟩, hG, hB, hc0, hc1, hc2⟩ := id hL
  have h15 := hI.2.2.2.2.2.2.1
  have hb : x % 8 < 8 := by omega
  have hd : y % 8 < 8 := by omega
  have hb2 := (hI.1 (x % 8) hb).2.2.2.2
  refine hv_iload_n C dL_sets_0 rfl 1 rfl ?_
  refine hv_bipush (v := nI 8) C dL_sets_1 (by decide) ?_
  refine hv_iremN C dL_sets_3 (by omega) (by omega) (by omega) ?_
  refine hv_istore (lv1 := [(0, .ref (o)), (1, .int (nI x)), (2, .int (nI y)), (3, .ref (q 1)), (4, .ref (q 2)), (5, .int (nI (x % 8)))]) C dL_sets_4 (by decide) [1, 2, 3, 4, 5, 0] rfl ?_
  refine hv_iload_n C dL_sets_6 rfl 2 rfl ?_
  refine hv_bipush (v := nI 8) C dL_sets_7 (by decide) ?_
  refine hv_iremN C dL_sets_9 (by omega) (by omega) (by omega) ?_
  refine hv_istore (lv1 := [(0, .ref (o)), (1, .int (nI x)), (2, .int (nI y)), (3, .ref (q 1)), (4, .ref (q 2)), (5, .int (nI (x % 8))), (6, .int (nI (y % 8)))]) C dL_sets_10 (by decide) [1, 2, 3, 4, 5, 6, 0] rfl ?_
  refine hv_iconst (v := nI 1) C dL_sets_12 (by decide) ?_
  refine hv_iload_n C dL_sets_13 rfl 2 rfl ?_
  refine hv_bipush (v := nI 8) C dL_sets_14 (by decide) ?_
  refine hv_idivN C dL_sets_16 (by omega) (by omega) (by omega) ?_
  refine hv_bipush (v := nI 20) C dL_sets_17 (by decide) ?_
  refine hv_iremN C dL_sets_19 (by omega) (by omega) (by omega) ?_
  refine hv_iaddN C dL_sets_20 ?_
  refine hv_istore (lv1 := [(0, .ref (o)), (1, .int (nI x)), (2, .int (nI y)), (3, .ref (q 1)), (4, .ref (q 2)), (5, .int (nI (x % 8))), (6, .int (nI (y % 8))), (7, .int (nI (1 + ((y / 8) % 20))))]) C dL_sets_21 (by decide) [1, 2, 3, 4, 5, 6, 7, 0] rfl ?_
  refine hv_aload_n C dL_sets_23 rfl 0 rfl ?_
  refine hv_iload C dL_sets_24 5 rfl ?_
  refine hv_callVr (As := [.int (nI (x % 8))]) (rest := []) (n := 1) C (k_queue l w o (lY w iv F) A Y hS hI (x % 8) hb) gL_sets_X4_queue rfl (by decide +kernel) ⟨(Nat.le_of_ble_eq_true rfl), (Nat.le_of_ble_eq_true rfl)⟩ (zLS_rc hS) rfl rfl (Nat.le_of_ble_eq_true rfl) dL_sets_26 ⟨by first | exact Nat.le_of_ble_eq_true rfl | omega | (simp; done) | (simp; omega), by first | exact Nat.le_of_ble_eq_true rfl | omega | (simp; done) | (simp; omega)⟩ (fun r1 Y1 hr => ?_)
  obtain ⟨rfl, hy9⟩ := hr; obtain rfl := hy9.symm
  refine hv_istore (lv1 := [(0, .ref (o)), (1, .int (nI x)), (2, .int (nI y)), (3, .ref (q 1)), (4, .ref (q 2)), (5, .int (nI (x % 8))), (6, .int (nI (y % 8))), (7, .int (nI (1 + ((y / 8) % 20)))), (8, .int (nI (A 2 (x % 8))))]) C dL_sets_29 (by decide) [1, 2, 3, 4, 5, 6, 7, 8, 0] rfl ?_
  refine hv_join (α := Nat) (pcJ := 59) (fun _ => Y) (fun _ => [(0, .ref (o)), (1, .int (nI x)), (2, .int (nI y)), (3, .ref (q 1)), (4, .ref (q 2)), (5, .int (nI (x % 8))), (6, .int (nI (y % 8))), (7, .int (nI (1 + ((y / 8) % 20)))), (8, .int (nI (A 2 (x % 8))))]) (fun t9 => .int (nI t9) :: []) (fun t9 => t9 = b2 (A 15 0 < 40 ∧ (x % 8 = y % 8 ∨ A 2 (x % 8) < 6))) ?_ ?_
  · rintro _ rfl
    refine hv_istore (lv1 := [(0, .ref (o)), (1, .int (nI x)), (2, .int (nI y)), (3, .ref (q 1)), (4, .ref (q 2)), (5, .int (nI (x % 8))), (6, .int (nI (y % 8))), (7, .int (nI (1 + ((y / 8) % 20)))), (8, .int (nI (A 2 (x % 8)))), (9, .int (nI (b2 (A 15 0 < 40 ∧ (x % 8 = y % 8 ∨ A 2 (x % 8) < 6)))))]) C dL_sets_59 (by decide) [1, 2, 3, 4, 5, 6, 7, 8, 9, 0] rfl ?_
    refine hv_aload_n C dL_sets_61 rfl 0 rfl ?_
    refine hv_iconst (v := nI 1) C dL_sets_62 (by decide) ?_
    refine hv_iload C dL_sets_63 5 rfl ?_
    refine hv_iload C dL_sets_65 6 rfl ?_
    refine hv_iload C dL_sets_67 7 rfl ?_
    refine hv_iconst (v := nI 0) C dL_sets_69 (by decide) ?_
    refine hv_callSrH (As := [.ref (o), .int (nI 1), .int (nI (x % 8)), .int (nI (y % 8)), .int (nI (1 + ((y / 8) % 20))), .int (nI 0)]) (rest := []) (n := 6) C (c_L_askOut l w o iv F A Y hlt hS hI (x % 8) (y % 8) (1 + y / 8 % 20) hb hd (by omega) (by omega)) gL_sets_L_asks rfl (by decide +kernel) ⟨(Nat.le_of_ble_eq_true rfl), (Nat.le_of_ble_eq_true rfl)⟩ rfl rfl (Nat.le_of_ble_eq_true rfl) dL_sets_70 ⟨by first | exact Nat.le_of_ble_eq_true rfl | omega | (simp; done), by first | exact Nat.le_of_ble_eq_true rfl | omega | (simp; done)⟩ (fun r9 Y9 hr => ?_)
    rcases hr with ⟨hc, rfl, hS9⟩ | ⟨hc, rfl, hS9⟩
    · skip
      refine hv_istore (lv1 := [(0, .ref (o)), (1, .int (nI x)), (2, .int (nI y)), (3, .ref (q 1)), (4, .ref (q 2)), (5, .int (nI (x % 8))), (6, .int (nI (y % 8))), (7, .int (nI (1 + ((y / 8) % 20)))), (8, .int (nI (A 2 (x % 8)))), (9, .int (nI (b2 (A 15 0 < 40 ∧ (x % 8 = y % 8 ∨ A 2 (x % 8) < 6))))), (10, .int (-108))]) C dL_sets_73 (by decide) [1, 2, 3, 4, 5, 6, 7, 8, 9, 10, 0] rfl ?_
      refine hv_iload C dL_sets_75 9 rfl ?_
      refine hv_ifb_ne (tgt := 104) C dL_sets_77 (by decide) (fun h3 => ?_) (fun h3 => ?_)
      · skip
        exact absurd h3 (by omega)
      · skip
        refine hv_iload C dL_sets_80 10 rfl ?_
        refine hv_bipush (v := (-108)) C dL_sets_82 (by decide) ?_
        refine hv_icmp_ne (tgt := 102) C dL_sets_84 (by decide) (fun h4 => ?_) (fun h4 => ?_)
        · skip
          exact absurd rfl h4
        · skip
          refine hv_aload_n C dL_sets_87 rfl 0 rfl ?_
          refine hv_iload C dL_sets_88 5 rfl ?_
          refine hv_callVr (As := [.int (nI (x % 8))]) (rest := []) (n := 1) C (k_queue l w o (lY w iv F) A Y9 hS9 hI (x % 8) hb) gL_sets_X4_queue rfl (by decide +kernel) ⟨(Nat.le_of_ble_eq_true rfl), (Nat.le_of_ble_eq_true rfl)⟩ (zLS_rc hS9) rfl rfl (Nat.le_of_ble_eq_true rfl) dL_sets_90 ⟨by first | exact Nat.le_of_ble_eq_true rfl | omega | (simp; done) | (simp; omega), by first | exact Nat.le_of_ble_eq_true rfl | omega | (simp; done) | (simp; omega)⟩ (fun r5 Y1 hr => ?_)
          obtain ⟨rfl, hy9⟩ := hr; obtain rfl := hy9.symm
          refine hv_iload C dL_sets_93 8 rfl ?_
          refine hv_icmpN_ne (tgt := 102) C dL_sets_95 (by decide) (by omega) (by omega) (fun h6 => ?_) (fun h6 => ?_)
          · skip
            exact absurd rfl h6
          · skip
            refine hv_iconst (v := nI 1) C dL_sets_98 (by decide) ?_
            refine hv_goto (tgt := 103) C dL_sets_99 (by decide) ?_
            exact hv_zret C hret (by decide) dL_sets_103 (by first | exact Nat.le_refl _ | decide | omega | (simp; done) | (simp; omega)) (by first | exact Nat.le_refl _ | decide | omega | (simp; done) | (simp; omega)) ⟨rfl, F, A, hS9, hL⟩
    · skip
      have hI2 := I_out hI hb hd (n := (1 + y / 8 % 20)) (by omega) (by omega) (by omega) (fun q z => hc (Or.inr ⟨z, q⟩))
      have e15 := out_15 A (x % 8) (y % 8) (1 + y / 8 % 20)
      have e21 := out_21 A (x % 8) (y % 8) (1 + y / 8 % 20)
      have e2 := out_2 A (x % 8) (y % 8) (1 + y / 8 % 20)
      have hz := hI.2.2.2.2.2.2.2.2.2 (A 15 0) (Nat.le_refl _)
      have e19 : f_out A (x % 8) (y % 8) (1 + y / 8 % 20) 19 (A 15 0) = 0 := by rw [out_k hI _ _ _ (by omega)]; exact hz.1
      have e20 : f_out A (x % 8) (y % 8) (1 + y / 8 % 20) 20 (A 15 0) = 0 := by rw [out_k hI _ _ _ (by omega)]; exact hz.2
      have hj9 : A 15 0 < f_out A (x % 8) (y % 8) (1 + y / 8 % 20) 15 0 := by omega
      have hbb := b2_le (q := x % 8 ≠ y % 8)
      have hbb2 := b2_le (q := x % 8 = y % 8)
      refine hv_istore (lv1 := [(0, .ref (o)), (1, .int (nI x)), (2, .int (nI y)), (3, .ref (q 1)), (4, .ref (q 2)), (5, .int (nI (x % 8))), (6, .int (nI (y % 8))), (7, .int (nI (1 + ((y / 8) % 20)))), (8, .int (nI (A 2 (x % 8)))), (9, .int (nI (b2 (A 15 0 < 40 ∧ (x % 8 = y % 8 ∨ A 2 (x % 8) < 6))))), (10, .int (nI (A 15 0)))]) C dL_sets_73 (by decide) [1, 2, 3, 4, 5, 6, 7, 8, 9, 10, 0] rfl ?_
      refine hv_iload C dL_sets_75 9 rfl ?_
      refine hv_ifb_ne (tgt := 104) C dL_sets_77 (by decide) (fun h7 => ?_) (fun h7 => ?_)
      · skip
        refine hv_aload_n C dL_sets_104 rfl 3 rfl ?_
        refine hv_aload C dL_sets_105 4 rfl ?_
        refine hv_iconst (v := nI 1) C dL_sets_107 (by decide) ?_
        refine hl_ald (k := 2) (i := 1) (x := (nI (A 15 0))) C hS9 hq (by decide) (show 1 < 3 by omega) hc1 dL_sets_108 ?_
        refine hv_iload C dL_sets_109 6 rfl ?_
        refine hv_iload C dL_sets_111 7 rfl ?_
        refine hv_iconst (v := nI 3) C dL_sets_113 (by decide) ?_
        refine hv_ishl C dL_sets_114 ?_
        refine hv_top (y := nI ((1 + y / 8 % 20) * 2 ^ 3)) (pk_shlN _ 3 (by decide) (by omega)) ?_
        refine hv_ior C dL_sets_115 ?_
        refine hv_top (y := nI ((y % 8) + 8 * (1 + y / 8 % 20))) ((nI_orp _ (by omega)).trans (congrArg nI (by omega))) ?_
        refine hl_ast (k := 1) (i := A 15 0) (v := (nI ((y % 8) + 8 * (1 + y / 8 % 20)))) C hS9 hq (by decide) (show A 15 0 < 40 by omega) dL_sets_116 (fun Y8 hS9 => ?_)
        refine hv_aload C dL_sets_117 4 rfl ?_
        refine hv_iconst (v := nI 1) C dL_sets_119 (by decide) ?_
        refine hv_dup2 C dL_sets_120 rfl rfl ?_
        refine hl_ald (k := 2) (i := 1) (x := (nI (A 15 0))) C hS9 hq (by decide) (show 1 < 3 by omega) (by rw [Fu_k _ _ _ (by decide)]; exact hc1) dL_sets_121 ?_
        refine hv_iconst (v := nI 1) C dL_sets_122 (by decide) ?_
        refine hv_iaddN C dL_sets_123 ?_
        refine hl_ast (k := 2) (i := 1) (v := (nI ((A 15 0) + 1))) C hS9 hq (by decide) (show 1 < 3 by omega) dL_sets_124 (fun Y10 hS11 => ?_)
        have hS12 : zLS w o iv (Fu (Fu F 1 (A 15 0) (nI ((y % 8) + 8 * (1 + y / 8 % 20)))) 2 1 (nI (A 15 0 + 1))) (f_out A (x % 8) (y % 8) (1 + y / 8 % 20)) Y10 := hS11
        refine hv_iload C dL_sets_125 10 rfl ?_
        refine hv_aload C dL_sets_127 4 rfl ?_
        refine hv_iconst (v := nI 1) C dL_sets_129 (by decide) ?_
        refine hl_ald (k := 2) (i := 1) (x := (nI (A 15 0 + 1))) C hS12 hq (by decide) (show 1 < 3 by omega) (Fu_s _ _ _ _) dL_sets_130 ?_
        refine hv_iconst (v := nI 1) C dL_sets_131 (by decide) ?_
        refine hv_isubN C dL_sets_132 (by omega) ?_
        refine hv_icmpN_ne (tgt := 223) C dL_sets_133 (by decide) (by omega) (by omega) (fun h13 => ?_) (fun h13 => ?_)
        · skip
          exact absurd (by omega) h13
        · skip
          refine hv_aload_n C dL_sets_136 rfl 0 rfl ?_
          refine hv_iload C dL_sets_137 10 rfl ?_
          refine hv_callVr (As := [.int (nI (A 15 0))]) (rest := []) (n := 1) C (k_state l w o (lY w iv (Fu (Fu F 1 (A 15 0) (nI ((y % 8) + 8 * (1 + y / 8 % 20)))) 2 1 (nI (A 15 0 + 1)))) (f_out A (x % 8) (y % 8) (1 + y / 8 % 20)) Y10 hS12 hI2 (A 15 0) hj9) gL_sets_X4_state rfl (by decide +kernel) ⟨(Nat.le_of_ble_eq_true rfl), (Nat.le_of_ble_eq_true rfl)⟩ (zLS_rc hS12) rfl rfl (Nat.le_of_ble_eq_true rfl) dL_sets_139 ⟨by first | exact Nat.le_of_ble_eq_true rfl | omega | (simp; done) | (simp; omega), by first | exact Nat.le_of_ble_eq_true rfl | omega | (simp; done) | (simp; omega)⟩ (fun r14 Y1 hr => ?_)
          obtain ⟨rfl, hy9⟩ := hr; obtain rfl := hy9.symm
          refine hv_join (α := Nat) (pcJ := 154) (fun _ => Y10) (fun _ => [(0, .ref (o)), (1, .int (nI x)), (2, .int (nI y)), (3, .ref (q 1)), (4, .ref (q 2)), (5, .int (nI (x % 8))), (6, .int (nI (y % 8))), (7, .int (nI (1 + ((y / 8) % 20)))), (8, .int (nI (A 2 (x % 8)))), (9, .int (nI (b2 (A 15 0 < 40 ∧ (x % 8 = y % 8 ∨ A 2 (x % 8) < 6))))), (10, .int (nI (A 15 0)))]) (fun t9 => .int (nI t9) :: [.int (nI (f_out A (x % 8) (y % 8) (1 + y / 8 % 20) 21 (A 15 0)))]) (fun t9 => t9 = b2 (x % 8 = y % 8)) ?_ ?_
          · rintro _ rfl
            refine hv_icmp_ne (tgt := 223) C dL_sets_154 (by decide) (fun h16 => ?_) (fun h16 => ?_)
            · skip
              exact absurd (congrArg nI e21) h16
            · skip
              refine hv_aload_n C dL_sets_157 rfl 0 rfl ?_
              refine hv_iload C dL_sets_158 10 rfl ?_
              refine hv_callVr (As := [.int (nI (A 15 0))]) (rest := []) (n := 1) C (k_hops l w o (lY w iv (Fu (Fu F 1 (A 15 0) (nI ((y % 8) + 8 * (1 + y / 8 % 20)))) 2 1 (nI (A 15 0 + 1)))) (f_out A (x % 8) (y % 8) (1 + y / 8 % 20)) Y10 hS12 hI2 (A 15 0) hj9) gL_sets_X4_hops rfl (by decide +kernel) ⟨(Nat.le_of_ble_eq_true rfl), (Nat.le_of_ble_eq_true rfl)⟩ (zLS_rc hS12) rfl rfl (Nat.le_of_ble_eq_true rfl) dL_sets_160 ⟨by first | exact Nat.le_of_ble_eq_true rfl | omega | (simp; done) | (simp; omega), by first | exact Nat.le_of_ble_eq_true rfl | omega | (simp; done) | (simp; omega)⟩ (fun r17 Y1 hr => ?_)
              obtain ⟨rfl, hy9⟩ := hr; obtain rfl := hy9.symm
              refine hv_ifN_ne (tgt := 223) C dL_sets_163 (by decide) (by omega) (fun h18 => ?_) (fun h18 => ?_)
              · skip
                exact absurd e19 h18
              · skip
                refine hv_aload_n C dL_sets_166 rfl 0 rfl ?_
                refine hv_iload C dL_sets_167 10 rfl ?_
                refine hv_callVr (As := [.int (nI (A 15 0))]) (rest := []) (n := 1) C (k_repeats l w o (lY w iv (Fu (Fu F 1 (A 15 0) (nI ((y % 8) + 8 * (1 + y / 8 % 20)))) 2 1 (nI (A 15 0 + 1)))) (f_out A (x % 8) (y % 8) (1 + y / 8 % 20)) Y10 hS12 hI2 (A 15 0) hj9) gL_sets_X4_repeats rfl (by decide +kernel) ⟨(Nat.le_of_ble_eq_true rfl), (Nat.le_of_ble_eq_true rfl)⟩ (zLS_rc hS12) rfl rfl (Nat.le_of_ble_eq_true rfl) dL_sets_169 ⟨by first | exact Nat.le_of_ble_eq_true rfl | omega | (simp; done) | (simp; omega), by first | exact Nat.le_of_ble_eq_true rfl | omega | (simp; done) | (simp; omega)⟩ (fun r19 Y1 hr => ?_)
                obtain ⟨rfl, hy9⟩ := hr; obtain rfl := hy9.symm
                refine hv_ifN_ne (tgt := 223) C dL_sets_172 (by decide) (by omega) (fun h20 => ?_) (fun h20 => ?_)
                · skip
                  exact absurd e20 h20
                · skip
                  refine hv_aload_n C dL_sets_175 rfl 0 rfl ?_
                  refine hv_iload C dL_sets_176 5 rfl ?_
                  refine hv_callVr (As := [.int (nI (x % 8))]) (rest := []) (n := 1) C (k_queue l w o (lY w iv (Fu (Fu F 1 (A 15 0) (nI ((y % 8) + 8 * (1 + y / 8 % 20)))) 2 1 (nI (A 15 0 + 1)))) (f_out A (x % 8) (y % 8) (1 + y / 8 % 20)) Y10 hS12 hI2 (x % 8) hb) gL_sets_X4_queue rfl (by decide +kernel) ⟨(Nat.le_of_ble_eq_true rfl), (Nat.le_of_ble_eq_true rfl)⟩ (zLS_rc hS12) rfl rfl (Nat.le_of_ble_eq_true rfl) dL_sets_178 ⟨by first | exact Nat.le_of_ble_eq_true rfl | omega | (simp; done) | (simp; omega), by first | exact Nat.le_of_ble_eq_true rfl | omega | (simp; done) | (simp; omega)⟩ (fun r21 Y1 hr => ?_)
                  obtain ⟨rfl, hy9⟩ := hr; obtain rfl := hy9.symm
                  refine hv_iload C dL_sets_181 8 rfl ?_
                  refine hv_join (α := Nat) (pcJ := 195) (fun _ => Y10) (fun _ => [(0, .ref (o)), (1, .int (nI x)), (2, .int (nI y)), (3, .ref (q 1)), (4, .ref (q 2)), (5, .int (nI (x % 8))), (6, .int (nI (y % 8))), (7, .int (nI (1 + ((y / 8) % 20)))), (8, .int (nI (A 2 (x % 8)))), (9, .int (nI (b2 (A 15 0 < 40 ∧ (x % 8 = y % 8 ∨ A 2 (x % 8) < 6))))), (10, .int (nI (A 15 0)))]) (fun t9 => .int (nI t9) :: [.int (nI (A 2 (x % 8))), .int (nI (f_out A (x % 8) (y % 8) (1 + y / 8 % 20) 2 (x % 8)))]) (fun t9 => t9 = b2 (x % 8 ≠ y % 8)) ?_ ?_
                  · rintro _ rfl
                    refine hv_iaddN C dL_sets_195 ?_
                    refine hv_icmpN_ne (tgt := 223) C dL_sets_196 (by decide) (by omega) (by omega) (fun h23 => ?_) (fun h23 => ?_)
                    · skip
                      exact absurd e2 h23
                    · skip
                      refine hv_iload C dL_sets_199 5 rfl ?_
                      refine hv_iload C dL_sets_201 6 rfl ?_
                      refine hv_icmpN_eq (tgt := 219) C dL_sets_203 (by decide) (by omega) (by omega) (fun h24 => ?_) (fun h24 => ?_)
                      · skip
                        refine hv_iconst (v := nI 1) C dL_sets_219 (by decide) ?_
                        refine hv_goto (tgt := 224) C dL_sets_220 (by decide) ?_
                        exact hv_zret C hret (by decide) dL_sets_224 (by first | exact Nat.le_refl _ | decide | omega | (simp; done) | (simp; omega)) (by first | exact Nat.le_refl _ | decide | omega | (simp; done) | (simp; omega)) ⟨rfl, _, _, hS12, L_out hL hb hd (by omega) (by omega) hc⟩
                      · skip
                        refine hv_aload_n C dL_sets_206 rfl 0 rfl ?_
                        refine hv_iload C dL_sets_207 5 rfl ?_
                        refine hv_iload C dL_sets_209 8 rfl ?_
                        refine hv_callVr (As := [.int (nI (x % 8)), .int (nI (A 2 (x % 8)))]) (rest := []) (n := 2) C (k_queued l w o (lY w iv (Fu (Fu F 1 (A 15 0) (nI ((y % 8) + 8 * (1 + y / 8 % 20)))) 2 1 (nI (A 15 0 + 1)))) (f_out A (x % 8) (y % 8) (1 + y / 8 % 20)) Y10 hS12 hI2 (x % 8) hb (A 2 (x % 8)) (by omega)) gL_sets_X4_queued rfl (by decide +kernel) ⟨(Nat.le_of_ble_eq_true rfl), (Nat.le_of_ble_eq_true rfl)⟩ (zLS_rc hS12) rfl rfl (Nat.le_of_ble_eq_true rfl) dL_sets_211 ⟨by first | exact Nat.le_of_ble_eq_true rfl | omega | (simp; done) | (simp; omega), by first | exact Nat.le_of_ble_eq_true rfl | omega | (simp; done) | (simp; omega)⟩ (fun r25 Y1 hr => ?_)
                        obtain ⟨rfl, hy9⟩ := hr; obtain rfl := hy9.symm
                        refine hv_top (y := nI (A 15 0)) (by rw [if_pos (by rw [e2, b2_t h24]; omega), out_3 A _ h24]) ?_
                        refine hv_iload C dL_sets_214 10 rfl ?_
                        refine hv_icmpN_ne (tgt := 223) C dL_sets_216 (by decide) (by omega) (by omega) (fun h26 => ?_) (fun h26 => ?_)
                        · skip
                          exact absurd rfl h26
                        · skip
                          refine hv_iconst (v := nI 1) C dL_sets_219 (by decide) ?_
                          refine hv_goto (tgt := 224) C dL_sets_220 (by decide) ?_
                          exact hv_zret C hret (by decide) dL_sets_224 (by first | exact Nat.le_refl _ | decide | omega | (simp; done) | (simp; omega)) (by first | exact Nat.le_refl _ | decide | omega | (simp; done) | (simp; omega)) ⟨rfl, _, _, hS12, L_out hL hb hd (by omega) (by omega) hc⟩
                  · intro k22
                    refine hv_iload C dL_sets_183 5 rfl ?_
                    refine hv_iload C dL_sets_185 6 rfl ?_
                    refine hv_icmpN_ne (tgt := 194) C dL_sets_187 (by decide) (by omega) (by omega) (fun h27 => ?_) (fun h27 => ?_)
                    · skip
                      refine hv_iconst (v := nI 1) C dL_sets_194 (by decide) ?_
                      exact k22 _ (b2_t (by omega)).symm
                    · skip
                      refine hv_iconst (v := nI 0) C dL_sets_190 (by decide) ?_
                      refine hv_goto (tgt := 195) C dL_sets_191 (by decide) ?_
                      exact k22 _ (b2_f (by omega)).symm
          · intro k15
            refine hv_iload C dL_sets_142 5 rfl ?_
            refine hv_iload C dL_sets_144 6 rfl ?_
            refine hv_icmpN_ne (tgt := 153) C dL_sets_146 (by decide) (by omega) (by omega) (fun h28 => ?_) (fun h28 => ?_)
            · skip
              refine hv_iconst (v := nI 0) C dL_sets_153 (by decide) ?_
              exact k15 _ (b2_f (by omega)).symm
            · skip
              refine hv_iconst (v := nI 1) C dL_sets_149 (by decide) ?_
              refine hv_goto (tgt := 154) C dL_sets_150 (by decide) ?_
              exact k15 _ (b2_t (by omega)).symm
      · skip
        exact absurd (by omega) h7
  · intro k2
    refine hv_aload C dL_sets_31 4 rfl ?_
    refine hv_iconst (v := nI 1) C dL_sets_33 (by decide) ?_
    refine hl_ald (k := 2) (i := 1) (x := (nI (A 15 0))) C hS hq (by decide) (show 1 < 3 by omega) hc1 dL_sets_34 ?_
    refine hv_bipush (v := nI 40) C dL_sets_35 (by decide) ?_
    refine hv_icmpN_ge (tgt := 58) C dL_sets_37 (by decide) (by omega) (by omega) (fun h29 => ?_) (fun h29 => ?_)
    · skip
      refine hv_iconst (v := nI 0) C dL_sets_58 (by decide) ?_
      exact k2 _ (b2_f (by omega)).symm
    · skip
      refine hv_iload C dL_sets_40 5 rfl ?_
      refine hv_iload C dL_sets_42 6 rfl ?_
      refine hv_icmpN_eq (tgt := 54) C dL_sets_44 (by decide) (by omega) (by omega) (fun h30 => ?_) (fun h30 => ?_)
      · skip
        refine hv_iconst (v := nI 1) C dL_sets_54 (by decide) ?_
        refine hv_goto (tgt := 59) C dL_sets_55 (by decide) ?_
        exact k2 _ (b2_t (by omega)).symm
      · skip
        refine hv_iload C dL_sets_47 8 rfl ?_
        refine hv_bipush (v := nI 6) C dL_sets_49 (by decide) ?_
        refine hv_icmpN_ge (tgt := 58) C dL_sets_51 (by decide) (by omega) (by omega) (fun h31 => ?_) (fun h31 => ?_)
        · skip
          refine hv_iconst (v := nI 0) C dL_sets_58 (by decide) ?_
          exact k2 _ (b2_f (by omega)).symm
        · skip
          refine hv_iconst (v := nI 1) C dL_sets_54 (by decide) ?_
          refine hv_goto (tgt := 59) C dL_sets_55 (by decide) ?_
          exact k2 _ (b2_t (by omega)).symm
