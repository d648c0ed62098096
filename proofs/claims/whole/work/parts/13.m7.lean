theorem md_ans_0 (x : Int32) (A : ab_A) : md_ans (0, x, A) = .int x := rfl
set_option maxRecDepth 100000 in
set_option maxHeartbeats 4000000 in
theorem c_X5_cheapest (l : Launch) (w : hv_W) (g : md_g) (hg : md_ok g) (A : ab_A) (th : Nat) (Y0 : hv_H) (x y : Int32) (hI : ab_I A) : hv_Mr l yX5_cheapest wsX5_cheapest ({ frames := 3, cells := 0, slots := 0, locals := 64 }) w [.ref (g.1), .int (x), .int (y)] (md_Y w g A th Y0) (fun r Y1 => md_P w g Y0 (q_cheapest A x y) r Y1) := by
  refine hv_ofV (cc := cX5_cheapest) (own := RX5) (by decide) rfl rfl (Nat.le_of_ble_eq_true rfl) rfl ?_
  intro p e s m below meth c C hret _
  have hin : ∀ x ∈ wsX50, x ∈ wsX5_cheapest := by decide +kernel
  rcases hx : ix 8 x with _ | b
  · skip
    refine hv_aload_n C dX5_cheapest_0 rfl 0 rfl ?_
    refine hv_iload_n C dX5_cheapest_1 rfl 1 rfl ?_
    refine hv_iload_n C dX5_cheapest_2 rfl 2 rfl ?_
    refine hv_callVr (As := [.int (x), .int (y)]) (rest := []) (n := 2) C (c_X5_areAsked l w g hg A th Y0 ((x)) ((y))) gX5_cheapest_X5_areAsked rfl (by decide +kernel) ⟨Nat.le_of_ble_eq_true rfl, Nat.le_of_ble_eq_true rfl⟩ (hv_rcO md_o rfl) rfl rfl (Nat.le_of_ble_eq_true rfl) dX5_cheapest_3 ⟨by first | exact Nat.le_of_ble_eq_true rfl | omega, by first | exact Nat.le_of_ble_eq_true rfl | omega⟩ (fun r1 Y1 hr => ?_)
    obtain ⟨rfl, rfl⟩ := hr
    rw [if_neg (show ¬ ((nI 0 ≤ x ∧ x ≤ nI 7) ∧ (nI 0 ≤ y ∧ y ≤ nI 7)) from (fun q => (ix_8n hx) q.1))]
    refine hv_ifb_ne (tgt := 11) C dX5_cheapest_6 (by decide) (fun h => absurd h (fun q => (ix_8n hx) q.1)) (fun _ => ?_)
    refine hv_iconst (v := nI 0) C dX5_cheapest_9 (by decide) ?_
    exact hv_iret C hret dX5_cheapest_10 (by first | exact Nat.le_refl _ | decide) (by first | exact Nat.le_refl _ | decide) ⟨by simp_all [q_cheapest, md_ans], by simp_all [q_cheapest]⟩
  · skip
    obtain ⟨hb, rfl⟩ := ix_y hx
    rcases hy : ix 8 y with _ | o
    · skip
      refine hv_aload_n C dX5_cheapest_0 rfl 0 rfl ?_
      refine hv_iload_n C dX5_cheapest_1 rfl 1 rfl ?_
      refine hv_iload_n C dX5_cheapest_2 rfl 2 rfl ?_
      refine hv_callVr (As := [.int (nI b), .int (y)]) (rest := []) (n := 2) C (c_X5_areAsked l w g hg A th Y0 ((nI b)) ((y))) gX5_cheapest_X5_areAsked rfl (by decide +kernel) ⟨Nat.le_of_ble_eq_true rfl, Nat.le_of_ble_eq_true rfl⟩ (hv_rcO md_o rfl) rfl rfl (Nat.le_of_ble_eq_true rfl) dX5_cheapest_3 ⟨by first | exact Nat.le_of_ble_eq_true rfl | omega, by first | exact Nat.le_of_ble_eq_true rfl | omega⟩ (fun r3 Y1 hr => ?_)
      obtain ⟨rfl, rfl⟩ := hr
      rw [if_neg (show ¬ ((nI 0 ≤ nI b ∧ nI b ≤ nI 7) ∧ (nI 0 ≤ y ∧ y ≤ nI 7)) from (fun q => (ix_8n hy) q.2))]
      refine hv_ifb_ne (tgt := 11) C dX5_cheapest_6 (by decide) (fun h => absurd h (fun q => (ix_8n hy) q.2)) (fun _ => ?_)
      refine hv_iconst (v := nI 0) C dX5_cheapest_9 (by decide) ?_
      exact hv_iret C hret dX5_cheapest_10 (by first | exact Nat.le_refl _ | decide) (by first | exact Nat.le_refl _ | decide) ⟨by simp_all [q_cheapest, md_ans], by simp_all [q_cheapest]⟩
    · skip
      obtain ⟨ho, rfl⟩ := ix_y hy
      have hW := hI.2.2.2.2.1
      have h14 := hI.2.2.2.1
      refine hv_aload_n C dX5_cheapest_0 rfl 0 rfl ?_
      refine hv_iload_n C dX5_cheapest_1 rfl 1 rfl ?_
      refine hv_iload_n C dX5_cheapest_2 rfl 2 rfl ?_
      refine hv_callVr (As := [.int (nI b), .int (nI o)]) (rest := []) (n := 2) C (c_X5_areAsked l w g hg A th Y0 ((nI b)) ((nI o))) gX5_cheapest_X5_areAsked rfl (by decide +kernel) ⟨Nat.le_of_ble_eq_true rfl, Nat.le_of_ble_eq_true rfl⟩ (hv_rcO md_o rfl) rfl rfl (Nat.le_of_ble_eq_true rfl) dX5_cheapest_3 ⟨by first | exact Nat.le_of_ble_eq_true rfl | omega, by first | exact Nat.le_of_ble_eq_true rfl | omega⟩ (fun r5 Y1 hr => ?_)
      obtain ⟨rfl, rfl⟩ := hr
      rw [if_pos (show ((nI 0 ≤ nI b ∧ nI b ≤ nI 7) ∧ (nI 0 ≤ nI o ∧ nI o ≤ nI 7)) from ⟨(ix_8c hb), (ix_8c ho)⟩)]
      refine hv_ifb_ne (tgt := 11) C dX5_cheapest_6 (by decide) (fun _ => ?_) (fun h => absurd ⟨(ix_8c hb), (ix_8c ho)⟩ h)
      refine hv_iconst (v := nI 0) C dX5_cheapest_11 (by decide) ?_
      refine hv_istore_n (lv1 := [(0, .ref (g.1)), (1, .int (nI b)), (2, .int (nI o)), (3, .int (nI 0))]) C dX5_cheapest_12 rfl (by decide) [1, 2, 3, 0] rfl ?_
      refine hv_fin ?_ (md_eq (f_c0_0 A o).symm) rfl
      refine hv_loop 8 (fun i => md_Y w g (f_c0 A o i) 0 Y0) (fun i => [(0, .ref (g.1)), (1, .int (nI b)), (2, .int (nI o)), (3, .int (nI i))]) ?_ ?_
      · skip
        refine hv_iload_n C dX5_cheapest_13 rfl 3 rfl ?_
        refine hv_bipush (v := nI 8) C dX5_cheapest_14 (by decide) ?_
        refine hv_icmpN_ge (tgt := 41) C dX5_cheapest_16 (by decide) (by omega) (by omega) (fun _ => ?_) (fun h => absurd h (by decide))
        refine hv_iconst (v := nI 0) C dX5_cheapest_41 (by decide) ?_
        refine hv_istore_n (lv1 := [(0, .ref (g.1)), (1, .int (nI b)), (2, .int (nI o)), (3, .int (nI 0))]) C dX5_cheapest_42 rfl (by decide) [1, 2, 3, 0] rfl ?_
        refine hv_fin ?_ (md_eq (f_c0_8 A o)) rfl
        refine hv_loop (8 * A 4 0) (fun i => md_Y w g (f_cm A o i) 0 Y0) (fun i => [(0, .ref (g.1)), (1, .int (nI b)), (2, .int (nI o)), (3, .int (nI i))]) ?_ ?_
        · skip
          refine hv_iload_n C dX5_cheapest_43 rfl 3 rfl ?_
          refine hv_bipush (v := nI 8) C dX5_cheapest_44 (by decide) ?_
          refine hv_aload_n C dX5_cheapest_46 rfl 0 rfl ?_
          refine hm_get (k := 4) (v := .int (nI (A 4 0))) C hin (by decide) (by decide +kernel) rfl rfl dX5_cheapest_47 ?_
          refine hv_imulN C dX5_cheapest_50 ?_
          refine hv_icmpN_ge (tgt := 205) C dX5_cheapest_51 (by decide) (by omega) (by omega) (fun h8 => ?_) (fun h8 => ?_)
          · skip
            refine hv_aload_n C dX5_cheapest_205 rfl 0 rfl ?_
            refine hm_get (k := 13) (v := .ref (g.2.1 13)) C hin (by decide) (by decide +kernel) rfl rfl dX5_cheapest_206 ?_
            refine hv_iload_n C dX5_cheapest_209 rfl 1 rfl ?_
            refine hm_iald (k := 13) (n := b) (x := (nI (f_mr A o (8 * A 4 0) b) + (-1))) C hg (by decide) (by decide) (show b < 64 from by omega) (f_cm_13 (by omega)) dX5_cheapest_210 ?_
            have hTle : f_mr A o (8 * A 4 0) b ≤ 3249 := by
              by_cases hn0 : A 4 0 = 0
              · rw [hn0]; show (if b = o then 1 else 0) ≤ 3249; split <;> omega
              · have h3 := f_mr_le hI hn0 o (8 * A 4 0) b; omega
            by_cases hz : f_mr A o (8 * A 4 0) b = 0
            · skip
              refine hv_top (y := nI 0 + (-1)) (by rw [hz]) ?_
              refine hv_bipush (v := nI 40) C dX5_cheapest_211 (by decide) ?_
              refine hv_icmp_le (tgt := 220) C dX5_cheapest_213 (by decide) (fun h9 => ?_) (fun h9 => ?_)
              · skip
                refine hv_aload_n C dX5_cheapest_220 rfl 0 rfl ?_
                refine hm_get (k := 13) (v := .ref (g.2.1 13)) C hin (by decide) (by decide +kernel) rfl rfl dX5_cheapest_221 ?_
                refine hv_iload_n C dX5_cheapest_224 rfl 1 rfl ?_
                refine hm_iald (k := 13) (n := b) (x := (nI (0) + (-1))) C hg (by decide) (by decide) (show b < 64 from by omega) (by rw [f_cm_13 hb, hz]) dX5_cheapest_225 ?_
                exact hv_iret C hret dX5_cheapest_226 (by first | exact Nat.le_refl _ | decide) (by first | exact Nat.le_refl _ | decide) ⟨by simp only [q_cheapest, hx, hy]; rw [md_ans_0]; rw [hz]; rfl, by simp only [q_cheapest, hx, hy]⟩
              · skip
                exact absurd (by decide) h9
            · skip
              refine hv_top (nI_em (by omega)) ?_
              refine hv_bipush (v := nI 40) C dX5_cheapest_211 (by decide) ?_
              refine hv_icmpN_le (tgt := 220) C dX5_cheapest_213 (by decide) (by omega) (by omega) (fun h10 => ?_) (fun h10 => ?_)
              · skip
                refine hv_aload_n C dX5_cheapest_220 rfl 0 rfl ?_
                refine hm_get (k := 13) (v := .ref (g.2.1 13)) C hin (by decide) (by decide +kernel) rfl rfl dX5_cheapest_221 ?_
                refine hv_iload_n C dX5_cheapest_224 rfl 1 rfl ?_
                refine hm_iald (k := 13) (n := b) (x := (nI (f_mr A o (8 * A 4 0) b) + (-1))) C hg (by decide) (by decide) (show b < 64 from by omega) (f_cm_13 (by omega)) dX5_cheapest_225 ?_
                exact hv_iret C hret dX5_cheapest_226 (by first | exact Nat.le_refl _ | decide) (by first | exact Nat.le_refl _ | decide) ⟨by simp only [q_cheapest, hx, hy]; rw [md_ans_0]; rw [if_pos (by omega)], by simp only [q_cheapest, hx, hy]⟩
              · skip
                refine hv_iconst (v := nI 0 + (-1)) C dX5_cheapest_216 (by decide) ?_
                refine hv_goto (tgt := 226) C dX5_cheapest_217 (by decide) ?_
                exact hv_iret C hret dX5_cheapest_226 (by first | exact Nat.le_refl _ | decide) (by first | exact Nat.le_refl _ | decide) ⟨by simp only [q_cheapest, hx, hy]; rw [md_ans_0]; rw [if_neg (by omega)], by simp only [q_cheapest, hx, hy]⟩
          · skip
            exact absurd h8 (by omega)
        · intro i hi ih
          have hn0 : A 4 0 ≠ 0 := by omega
          obtain ⟨j, hj⟩ : ∃ j, i % A 4 0 = j := ⟨_, rfl⟩
          have hjl : j < A 4 0 := hj ▸ Nat.mod_lt i (by omega)
          obtain ⟨g1, g2, g3, g4, g5, g6, g7⟩ := hW j hjl
          have hco := f_cost_le hI hjl
          have hU := f_mr_le hI hn0 o i (A 5 j)
          have hD := f_mr_le hI hn0 o i (A 6 j)
          refine hv_iload_n C dX5_cheapest_43 rfl 3 rfl ?_
          refine hv_bipush (v := nI 8) C dX5_cheapest_44 (by decide) ?_
          refine hv_aload_n C dX5_cheapest_46 rfl 0 rfl ?_
          refine hm_get (k := 4) (v := .int (nI (A 4 0))) C hin (by decide) (by decide +kernel) rfl rfl dX5_cheapest_47 ?_
          refine hv_imulN C dX5_cheapest_50 ?_
          refine hv_icmpN_ge (tgt := 205) C dX5_cheapest_51 (by decide) (by omega) (by omega) (fun h11 => ?_) (fun h11 => ?_)
          · skip
            exact absurd h11 (by omega)
          · skip
            refine hv_iload_n C dX5_cheapest_54 rfl 3 rfl ?_
            refine hv_aload_n C dX5_cheapest_55 rfl 0 rfl ?_
            refine hm_get (k := 4) (v := .int (nI (A 4 0))) C hin (by decide) (by decide +kernel) rfl rfl dX5_cheapest_56 ?_
            refine hv_iremN C dX5_cheapest_59 (by omega) (by omega) (by omega) ?_
            refine hv_top (congrArg nI hj) ?_
            refine hv_istore (lv1 := [(0, .ref (g.1)), (1, .int (nI b)), (2, .int (nI o)), (3, .int (nI i)), (4, .int (nI j))]) C dX5_cheapest_60 (by decide) [1, 2, 3, 4, 0] rfl ?_
            refine hv_aload_n C dX5_cheapest_62 rfl 0 rfl ?_
            refine hm_get (k := 13) (v := .ref (g.2.1 13)) C hin (by decide) (by decide +kernel) rfl rfl dX5_cheapest_63 ?_
            refine hv_aload_n C dX5_cheapest_66 rfl 0 rfl ?_
            refine hm_get (k := 5) (v := .ref (g.2.1 5)) C hin (by decide) (by decide +kernel) rfl rfl dX5_cheapest_67 ?_
            refine hv_iload C dX5_cheapest_70 4 rfl ?_
            refine hm_iald (k := 5) (n := j) (x := (nI (A 5 j))) C hg (by decide) (by decide) (show j < 14 from by omega) rfl dX5_cheapest_72 ?_
            refine hm_iald (k := 13) (n := A 5 j) (x := (nI (f_mr A o i (A 5 j)) + (-1))) C hg (by decide) (by decide) (show A 5 j < 64 from by omega) (f_cm_13 (by omega)) dX5_cheapest_73 ?_
            refine hv_istore (lv1 := [(0, .ref (g.1)), (1, .int (nI b)), (2, .int (nI o)), (3, .int (nI i)), (4, .int (nI j)), (5, .int (nI (f_mr A o i (A 5 j)) + (-1)))]) C dX5_cheapest_74 (by decide) [1, 2, 3, 4, 5, 0] rfl ?_
            refine hv_aload_n C dX5_cheapest_76 rfl 0 rfl ?_
            refine hm_get (k := 13) (v := .ref (g.2.1 13)) C hin (by decide) (by decide +kernel) rfl rfl dX5_cheapest_77 ?_
            refine hv_aload_n C dX5_cheapest_80 rfl 0 rfl ?_
            refine hm_get (k := 6) (v := .ref (g.2.1 6)) C hin (by decide) (by decide +kernel) rfl rfl dX5_cheapest_81 ?_
            refine hv_iload C dX5_cheapest_84 4 rfl ?_
            refine hm_iald (k := 6) (n := j) (x := (nI (A 6 j))) C hg (by decide) (by decide) (show j < 14 from by omega) rfl dX5_cheapest_86 ?_
            refine hm_iald (k := 13) (n := A 6 j) (x := (nI (f_mr A o i (A 6 j)) + (-1))) C hg (by decide) (by decide) (show A 6 j < 64 from by omega) (f_cm_13 (by omega)) dX5_cheapest_87 ?_
            refine hv_istore (lv1 := [(0, .ref (g.1)), (1, .int (nI b)), (2, .int (nI o)), (3, .int (nI i)), (4, .int (nI j)), (5, .int (nI (f_mr A o i (A 5 j)) + (-1))), (6, .int (nI (f_mr A o i (A 6 j)) + (-1)))]) C dX5_cheapest_88 (by decide) [1, 2, 3, 4, 5, 6, 0] rfl ?_
            refine hv_aload_n C dX5_cheapest_90 rfl 0 rfl ?_
            refine hv_iload C dX5_cheapest_91 4 rfl ?_
            refine hv_callVr (As := [.int (nI j)]) (rest := []) (n := 1) C (c_X5_costOf l w g hg (f_cm A o i) 0 Y0 j (by omega) g1 g2 (fun b hb => (hI.1 b hb).2.1)) gX5_cheapest_X5_costOf rfl (by decide +kernel) ⟨Nat.le_of_ble_eq_true rfl, Nat.le_of_ble_eq_true rfl⟩ (hv_rcO md_o rfl) rfl rfl (Nat.le_of_ble_eq_true rfl) dX5_cheapest_93 ⟨by first | exact Nat.le_of_ble_eq_true rfl | omega, by first | exact Nat.le_of_ble_eq_true rfl | omega⟩ (fun r12 Y1 hr => ?_)
            obtain ⟨rfl, rfl⟩ := hr
            refine hv_istore (lv1 := [(0, .ref (g.1)), (1, .int (nI b)), (2, .int (nI o)), (3, .int (nI i)), (4, .int (nI j)), (5, .int (nI (f_mr A o i (A 5 j)) + (-1))), (6, .int (nI (f_mr A o i (A 6 j)) + (-1))), (7, .int (nI (f_cost A j)))]) C dX5_cheapest_96 (by decide) [1, 2, 3, 4, 5, 6, 7, 0] rfl ?_
            refine hv_aload_n C dX5_cheapest_98 rfl 0 rfl ?_
            refine hm_get (k := 9) (v := .ref (g.2.1 9)) C hin (by decide) (by decide +kernel) rfl rfl dX5_cheapest_99 ?_
            refine hv_iload C dX5_cheapest_102 4 rfl ?_
            refine hm_zald (n := j) (x := (nI (A 9 j))) C hg (show j < 14 from by omega) rfl dX5_cheapest_104 ?_
            refine hv_ifN_eq (tgt := 150) C dX5_cheapest_105 (by decide) (by omega) (fun h13 => ?_) (fun h13 => ?_)
            · skip
              refine hv_aload_n C dX5_cheapest_150 rfl 0 rfl ?_
              refine hm_get (k := 9) (v := .ref (g.2.1 9)) C hin (by decide) (by decide +kernel) rfl rfl dX5_cheapest_151 ?_
              refine hv_iload C dX5_cheapest_154 4 rfl ?_
              refine hm_zald (n := j) (x := (nI (A 9 j))) C hg (show j < 14 from by omega) rfl dX5_cheapest_156 ?_
              refine hv_ifN_eq (tgt := 199) C dX5_cheapest_157 (by decide) (by omega) (fun h14 => ?_) (fun h14 => ?_)
              · skip
                refine hv_iinc (v := nI (i + 1)) (lv1 := [(0, .ref (g.1)), (1, .int (nI b)), (2, .int (nI o)), (3, .int (nI (i + 1))), (4, .int (nI j)), (5, .int (nI (f_mr A o i (A 5 j)) + (-1))), (6, .int (nI (f_mr A o i (A 6 j)) + (-1))), (7, .int (nI (f_cost A j)))]) C dX5_cheapest_199 (k := 3) rfl (nI_1 _) (by decide) [1, 2, 3, 0, 4, 5, 6, 7] rfl ?_
                refine hv_goto (tgt := 43) C dX5_cheapest_202 (by decide) ?_
                exact hv_sub (lv1 := [(0, .ref (g.1)), (1, .int (nI b)), (2, .int (nI o)), (3, .int (nI (i + 1)))]) [0, 1, 2, 3] rfl (hv_fin ih (md_eq (f_cm_n hj (by omega) (by omega))) rfl)
              · skip
                refine hv_iload C dX5_cheapest_160 5 rfl ?_
                refine hv_iconst (v := nI 0 + (-1)) C dX5_cheapest_162 (by decide) ?_
                refine hv_icmpE_eq (tgt := 199) C dX5_cheapest_163 (by decide) (by omega) (by omega) (fun h15 => ?_) (fun h15 => ?_)
                · skip
                  refine hv_iinc (v := nI (i + 1)) (lv1 := [(0, .ref (g.1)), (1, .int (nI b)), (2, .int (nI o)), (3, .int (nI (i + 1))), (4, .int (nI j)), (5, .int (nI (f_mr A o i (A 5 j)) + (-1))), (6, .int (nI (f_mr A o i (A 6 j)) + (-1))), (7, .int (nI (f_cost A j)))]) C dX5_cheapest_199 (k := 3) rfl (nI_1 _) (by decide) [1, 2, 3, 0, 4, 5, 6, 7] rfl ?_
                  refine hv_goto (tgt := 43) C dX5_cheapest_202 (by decide) ?_
                  exact hv_sub (lv1 := [(0, .ref (g.1)), (1, .int (nI b)), (2, .int (nI o)), (3, .int (nI (i + 1)))]) [0, 1, 2, 3] rfl (hv_fin ih (md_eq (f_cm_n hj (by omega) (by omega))) rfl)
                · skip
                  refine hv_iload C dX5_cheapest_166 6 rfl ?_
                  refine hv_iconst (v := nI 0 + (-1)) C dX5_cheapest_168 (by decide) ?_
                  refine hv_icmpE_eq (tgt := 182) C dX5_cheapest_169 (by decide) (by omega) (by omega) (fun h16 => ?_) (fun h16 => ?_)
                  · skip
                    refine hv_aload_n C dX5_cheapest_182 rfl 0 rfl ?_
                    refine hm_get (k := 13) (v := .ref (g.2.1 13)) C hin (by decide) (by decide +kernel) rfl rfl dX5_cheapest_183 ?_
                    refine hv_aload_n C dX5_cheapest_186 rfl 0 rfl ?_
                    refine hm_get (k := 6) (v := .ref (g.2.1 6)) C hin (by decide) (by decide +kernel) rfl rfl dX5_cheapest_187 ?_
                    refine hv_iload C dX5_cheapest_190 4 rfl ?_
                    refine hm_iald (k := 6) (n := j) (x := (nI (A 6 j))) C hg (by decide) (by decide) (show j < 14 from by omega) rfl dX5_cheapest_192 ?_
                    refine hv_iload C dX5_cheapest_193 5 rfl ?_
                    refine hv_top (nI_em (by omega)) ?_
                    refine hv_iload C dX5_cheapest_195 7 rfl ?_
                    refine hv_iaddN C dX5_cheapest_197 ?_
                    refine hm_iast (k := 13) (n := A 6 j) (v := ((f_mr A o i (A 5 j)) - 1) + (f_cost A j) + 1) C hg (by decide) (by decide) (show A 6 j < 64 from by omega) (nI_eS _) dX5_cheapest_198 ?_
                    refine hv_iinc (v := nI (i + 1)) (lv1 := [(0, .ref (g.1)), (1, .int (nI b)), (2, .int (nI o)), (3, .int (nI (i + 1))), (4, .int (nI j)), (5, .int (nI (f_mr A o i (A 5 j)) + (-1))), (6, .int (nI (f_mr A o i (A 6 j)) + (-1))), (7, .int (nI (f_cost A j)))]) C dX5_cheapest_199 (k := 3) rfl (nI_1 _) (by decide) [1, 2, 3, 0, 4, 5, 6, 7] rfl ?_
                    refine hv_goto (tgt := 43) C dX5_cheapest_202 (by decide) ?_
                    exact hv_sub (lv1 := [(0, .ref (g.1)), (1, .int (nI b)), (2, .int (nI o)), (3, .int (nI (i + 1)))]) [0, 1, 2, 3] rfl (hv_fin ih (md_eq (f_cm_d hj (by omega) (by omega) (by omega))) rfl)
                  · skip
                    refine hv_iload C dX5_cheapest_172 5 rfl ?_
                    refine hv_top (nI_em (by omega)) ?_
                    refine hv_iload C dX5_cheapest_174 7 rfl ?_
                    refine hv_iaddN C dX5_cheapest_176 ?_
                    refine hv_iload C dX5_cheapest_177 6 rfl ?_
                    refine hv_top (nI_em (by omega)) ?_
                    refine hv_icmpN_ge (tgt := 199) C dX5_cheapest_179 (by decide) (by omega) (by omega) (fun h17 => ?_) (fun h17 => ?_)
                    · skip
                      refine hv_iinc (v := nI (i + 1)) (lv1 := [(0, .ref (g.1)), (1, .int (nI b)), (2, .int (nI o)), (3, .int (nI (i + 1))), (4, .int (nI j)), (5, .int (nI (f_mr A o i (A 5 j)) + (-1))), (6, .int (nI (f_mr A o i (A 6 j)) + (-1))), (7, .int (nI (f_cost A j)))]) C dX5_cheapest_199 (k := 3) rfl (nI_1 _) (by decide) [1, 2, 3, 0, 4, 5, 6, 7] rfl ?_
                      refine hv_goto (tgt := 43) C dX5_cheapest_202 (by decide) ?_
                      exact hv_sub (lv1 := [(0, .ref (g.1)), (1, .int (nI b)), (2, .int (nI o)), (3, .int (nI (i + 1)))]) [0, 1, 2, 3] rfl (hv_fin ih (md_eq (f_cm_n hj (by omega) (by omega))) rfl)
                    · skip
                      refine hv_aload_n C dX5_cheapest_182 rfl 0 rfl ?_
                      refine hm_get (k := 13) (v := .ref (g.2.1 13)) C hin (by decide) (by decide +kernel) rfl rfl dX5_cheapest_183 ?_
                      refine hv_aload_n C dX5_cheapest_186 rfl 0 rfl ?_
                      refine hm_get (k := 6) (v := .ref (g.2.1 6)) C hin (by decide) (by decide +kernel) rfl rfl dX5_cheapest_187 ?_
                      refine hv_iload C dX5_cheapest_190 4 rfl ?_
                      refine hm_iald (k := 6) (n := j) (x := (nI (A 6 j))) C hg (by decide) (by decide) (show j < 14 from by omega) rfl dX5_cheapest_192 ?_
                      refine hv_iload C dX5_cheapest_193 5 rfl ?_
                      refine hv_top (nI_em (by omega)) ?_
                      refine hv_iload C dX5_cheapest_195 7 rfl ?_
                      refine hv_iaddN C dX5_cheapest_197 ?_
                      refine hm_iast (k := 13) (n := A 6 j) (v := ((f_mr A o i (A 5 j)) - 1) + (f_cost A j) + 1) C hg (by decide) (by decide) (show A 6 j < 64 from by omega) (nI_eS _) dX5_cheapest_198 ?_
                      refine hv_iinc (v := nI (i + 1)) (lv1 := [(0, .ref (g.1)), (1, .int (nI b)), (2, .int (nI o)), (3, .int (nI (i + 1))), (4, .int (nI j)), (5, .int (nI (f_mr A o i (A 5 j)) + (-1))), (6, .int (nI (f_mr A o i (A 6 j)) + (-1))), (7, .int (nI (f_cost A j)))]) C dX5_cheapest_199 (k := 3) rfl (nI_1 _) (by decide) [1, 2, 3, 0, 4, 5, 6, 7] rfl ?_
                      refine hv_goto (tgt := 43) C dX5_cheapest_202 (by decide) ?_
                      exact hv_sub (lv1 := [(0, .ref (g.1)), (1, .int (nI b)), (2, .int (nI o)), (3, .int (nI (i + 1)))]) [0, 1, 2, 3] rfl (hv_fin ih (md_eq (f_cm_d hj (by omega) (by omega) (by omega))) rfl)
            · skip
              refine hv_iload C dX5_cheapest_108 6 rfl ?_
              refine hv_iconst (v := nI 0 + (-1)) C dX5_cheapest_110 (by decide) ?_
              refine hv_icmpE_eq (tgt := 150) C dX5_cheapest_111 (by decide) (by omega) (by omega) (fun h18 => ?_) (fun h18 => ?_)
              · skip
                refine hv_aload_n C dX5_cheapest_150 rfl 0 rfl ?_
                refine hm_get (k := 9) (v := .ref (g.2.1 9)) C hin (by decide) (by decide +kernel) rfl rfl dX5_cheapest_151 ?_
                refine hv_iload C dX5_cheapest_154 4 rfl ?_
                refine hm_zald (n := j) (x := (nI (A 9 j))) C hg (show j < 14 from by omega) rfl dX5_cheapest_156 ?_
                refine hv_ifN_eq (tgt := 199) C dX5_cheapest_157 (by decide) (by omega) (fun h19 => ?_) (fun h19 => ?_)
                · skip
                  refine hv_iinc (v := nI (i + 1)) (lv1 := [(0, .ref (g.1)), (1, .int (nI b)), (2, .int (nI o)), (3, .int (nI (i + 1))), (4, .int (nI j)), (5, .int (nI (f_mr A o i (A 5 j)) + (-1))), (6, .int (nI (f_mr A o i (A 6 j)) + (-1))), (7, .int (nI (f_cost A j)))]) C dX5_cheapest_199 (k := 3) rfl (nI_1 _) (by decide) [1, 2, 3, 0, 4, 5, 6, 7] rfl ?_
                  refine hv_goto (tgt := 43) C dX5_cheapest_202 (by decide) ?_
                  exact hv_sub (lv1 := [(0, .ref (g.1)), (1, .int (nI b)), (2, .int (nI o)), (3, .int (nI (i + 1)))]) [0, 1, 2, 3] rfl (hv_fin ih (md_eq (f_cm_n hj (by omega) (by omega))) rfl)
                · skip
                  refine hv_iload C dX5_cheapest_160 5 rfl ?_
                  refine hv_iconst (v := nI 0 + (-1)) C dX5_cheapest_162 (by decide) ?_
                  refine hv_icmpE_eq (tgt := 199) C dX5_cheapest_163 (by decide) (by omega) (by omega) (fun h20 => ?_) (fun h20 => ?_)
                  · skip
                    refine hv_iinc (v := nI (i + 1)) (lv1 := [(0, .ref (g.1)), (1, .int (nI b)), (2, .int (nI o)), (3, .int (nI (i + 1))), (4, .int (nI j)), (5, .int (nI (f_mr A o i (A 5 j)) + (-1))), (6, .int (nI (f_mr A o i (A 6 j)) + (-1))), (7, .int (nI (f_cost A j)))]) C dX5_cheapest_199 (k := 3) rfl (nI_1 _) (by decide) [1, 2, 3, 0, 4, 5, 6, 7] rfl ?_
                    refine hv_goto (tgt := 43) C dX5_cheapest_202 (by decide) ?_
                    exact hv_sub (lv1 := [(0, .ref (g.1)), (1, .int (nI b)), (2, .int (nI o)), (3, .int (nI (i + 1)))]) [0, 1, 2, 3] rfl (hv_fin ih (md_eq (f_cm_n hj (by omega) (by omega))) rfl)
                  · skip
                    refine hv_iload C dX5_cheapest_166 6 rfl ?_
                    refine hv_iconst (v := nI 0 + (-1)) C dX5_cheapest_168 (by decide) ?_
                    refine hv_icmpE_eq (tgt := 182) C dX5_cheapest_169 (by decide) (by omega) (by omega) (fun h21 => ?_) (fun h21 => ?_)
                    · skip
                      refine hv_aload_n C dX5_cheapest_182 rfl 0 rfl ?_
                      refine hm_get (k := 13) (v := .ref (g.2.1 13)) C hin (by decide) (by decide +kernel) rfl rfl dX5_cheapest_183 ?_
                      refine hv_aload_n C dX5_cheapest_186 rfl 0 rfl ?_
                      refine hm_get (k := 6) (v := .ref (g.2.1 6)) C hin (by decide) (by decide +kernel) rfl rfl dX5_cheapest_187 ?_
                      refine hv_iload C dX5_cheapest_190 4 rfl ?_
                      refine hm_iald (k := 6) (n := j) (x := (nI (A 6 j))) C hg (by decide) (by decide) (show j < 14 from by omega) rfl dX5_cheapest_192 ?_
                      refine hv_iload C dX5_cheapest_193 5 rfl ?_
                      refine hv_top (nI_em (by omega)) ?_
                      refine hv_iload C dX5_cheapest_195 7 rfl ?_
                      refine hv_iaddN C dX5_cheapest_197 ?_
                      refine hm_iast (k := 13) (n := A 6 j) (v := ((f_mr A o i (A 5 j)) - 1) + (f_cost A j) + 1) C hg (by decide) (by decide) (show A 6 j < 64 from by omega) (nI_eS _) dX5_cheapest_198 ?_
                      refine hv_iinc (v := nI (i + 1)) (lv1 := [(0, .ref (g.1)), (1, .int (nI b)), (2, .int (nI o)), (3, .int (nI (i + 1))), (4, .int (nI j)), (5, .int (nI (f_mr A o i (A 5 j)) + (-1))), (6, .int (nI (f_mr A o i (A 6 j)) + (-1))), (7, .int (nI (f_cost A j)))]) C dX5_cheapest_199 (k := 3) rfl (nI_1 _) (by decide) [1, 2, 3, 0, 4, 5, 6, 7] rfl ?_
                      refine hv_goto (tgt := 43) C dX5_cheapest_202 (by decide) ?_
                      exact hv_sub (lv1 := [(0, .ref (g.1)), (1, .int (nI b)), (2, .int (nI o)), (3, .int (nI (i + 1)))]) [0, 1, 2, 3] rfl (hv_fin ih (md_eq (f_cm_d hj (by omega) (by omega) (by omega))) rfl)
                    · skip
                      refine hv_iload C dX5_cheapest_172 5 rfl ?_
                      refine hv_top (nI_em (by omega)) ?_
                      refine hv_iload C dX5_cheapest_174 7 rfl ?_
                      refine hv_iaddN C dX5_cheapest_176 ?_
                      refine hv_iload C dX5_cheapest_177 6 rfl ?_
                      refine hv_top (nI_em (by omega)) ?_
                      refine hv_icmpN_ge (tgt := 199) C dX5_cheapest_179 (by decide) (by omega) (by omega) (fun h22 => ?_) (fun h22 => ?_)
                      · skip
                        refine hv_iinc (v := nI (i + 1)) (lv1 := [(0, .ref (g.1)), (1, .int (nI b)), (2, .int (nI o)), (3, .int (nI (i + 1))), (4, .int (nI j)), (5, .int (nI (f_mr A o i (A 5 j)) + (-1))), (6, .int (nI (f_mr A o i (A 6 j)) + (-1))), (7, .int (nI (f_cost A j)))]) C dX5_cheapest_199 (k := 3) rfl (nI_1 _) (by decide) [1, 2, 3, 0, 4, 5, 6, 7] rfl ?_
                        refine hv_goto (tgt := 43) C dX5_cheapest_202 (by decide) ?_
                        exact hv_sub (lv1 := [(0, .ref (g.1)), (1, .int (nI b)), (2, .int (nI o)), (3, .int (nI (i + 1)))]) [0, 1, 2, 3] rfl (hv_fin ih (md_eq (f_cm_n hj (by omega) (by omega))) rfl)
                      · skip
                        refine hv_aload_n C dX5_cheapest_182 rfl 0 rfl ?_
                        refine hm_get (k := 13) (v := .ref (g.2.1 13)) C hin (by decide) (by decide +kernel) rfl rfl dX5_cheapest_183 ?_
                        refine hv_aload_n C dX5_cheapest_186 rfl 0 rfl ?_
                        refine hm_get (k := 6) (v := .ref (g.2.1 6)) C hin (by decide) (by decide +kernel) rfl rfl dX5_cheapest_187 ?_
                        refine hv_iload C dX5_cheapest_190 4 rfl ?_
                        refine hm_iald (k := 6) (n := j) (x := (nI (A 6 j))) C hg (by decide) (by decide) (show j < 14 from by omega) rfl dX5_cheapest_192 ?_
                        refine hv_iload C dX5_cheapest_193 5 rfl ?_
                        refine hv_top (nI_em (by omega)) ?_
                        refine hv_iload C dX5_cheapest_195 7 rfl ?_
                        refine hv_iaddN C dX5_cheapest_197 ?_
                        refine hm_iast (k := 13) (n := A 6 j) (v := ((f_mr A o i (A 5 j)) - 1) + (f_cost A j) + 1) C hg (by decide) (by decide) (show A 6 j < 64 from by omega) (nI_eS _) dX5_cheapest_198 ?_
                        refine hv_iinc (v := nI (i + 1)) (lv1 := [(0, .ref (g.1)), (1, .int (nI b)), (2, .int (nI o)), (3, .int (nI (i + 1))), (4, .int (nI j)), (5, .int (nI (f_mr A o i (A 5 j)) + (-1))), (6, .int (nI (f_mr A o i (A 6 j)) + (-1))), (7, .int (nI (f_cost A j)))]) C dX5_cheapest_199 (k := 3) rfl (nI_1 _) (by decide) [1, 2, 3, 0, 4, 5, 6, 7] rfl ?_
                        refine hv_goto (tgt := 43) C dX5_cheapest_202 (by decide) ?_
                        exact hv_sub (lv1 := [(0, .ref (g.1)), (1, .int (nI b)), (2, .int (nI o)), (3, .int (nI (i + 1)))]) [0, 1, 2, 3] rfl (hv_fin ih (md_eq (f_cm_d hj (by omega) (by omega) (by omega))) rfl)
              · skip
                refine hv_iload C dX5_cheapest_114 5 rfl ?_
                refine hv_iconst (v := nI 0 + (-1)) C dX5_cheapest_116 (by decide) ?_
                refine hv_icmpE_eq (tgt := 130) C dX5_cheapest_117 (by decide) (by omega) (by omega) (fun h23 => ?_) (fun h23 => ?_)
                · skip
                  refine hv_aload_n C dX5_cheapest_130 rfl 0 rfl ?_
                  refine hm_get (k := 13) (v := .ref (g.2.1 13)) C hin (by decide) (by decide +kernel) rfl rfl dX5_cheapest_131 ?_
                  refine hv_aload_n C dX5_cheapest_134 rfl 0 rfl ?_
                  refine hm_get (k := 5) (v := .ref (g.2.1 5)) C hin (by decide) (by decide +kernel) rfl rfl dX5_cheapest_135 ?_
                  refine hv_iload C dX5_cheapest_138 4 rfl ?_
                  refine hm_iald (k := 5) (n := j) (x := (nI (A 5 j))) C hg (by decide) (by decide) (show j < 14 from by omega) rfl dX5_cheapest_140 ?_
                  refine hv_iload C dX5_cheapest_141 6 rfl ?_
                  refine hv_top (nI_em (by omega)) ?_
                  refine hv_iload C dX5_cheapest_143 7 rfl ?_
                  refine hv_iaddN C dX5_cheapest_145 ?_
                  refine hm_iast (k := 13) (n := A 5 j) (v := ((f_mr A o i (A 6 j)) - 1) + (f_cost A j) + 1) C hg (by decide) (by decide) (show A 5 j < 64 from by omega) (nI_eS _) dX5_cheapest_146 ?_
                  refine hv_goto (tgt := 199) C dX5_cheapest_147 (by decide) ?_
                  refine hv_iinc (v := nI (i + 1)) (lv1 := [(0, .ref (g.1)), (1, .int (nI b)), (2, .int (nI o)), (3, .int (nI (i + 1))), (4, .int (nI j)), (5, .int (nI (f_mr A o i (A 5 j)) + (-1))), (6, .int (nI (f_mr A o i (A 6 j)) + (-1))), (7, .int (nI (f_cost A j)))]) C dX5_cheapest_199 (k := 3) rfl (nI_1 _) (by decide) [1, 2, 3, 0, 4, 5, 6, 7] rfl ?_
                  refine hv_goto (tgt := 43) C dX5_cheapest_202 (by decide) ?_
                  exact hv_sub (lv1 := [(0, .ref (g.1)), (1, .int (nI b)), (2, .int (nI o)), (3, .int (nI (i + 1)))]) [0, 1, 2, 3] rfl (hv_fin ih (md_eq (f_cm_u hj (by omega) (by omega))) rfl)
                · skip
                  refine hv_iload C dX5_cheapest_120 6 rfl ?_
                  refine hv_top (nI_em (by omega)) ?_
                  refine hv_iload C dX5_cheapest_122 7 rfl ?_
                  refine hv_iaddN C dX5_cheapest_124 ?_
                  refine hv_iload C dX5_cheapest_125 5 rfl ?_
                  refine hv_top (nI_em (by omega)) ?_
                  refine hv_icmpN_ge (tgt := 150) C dX5_cheapest_127 (by decide) (by omega) (by omega) (fun h24 => ?_) (fun h24 => ?_)
                  · skip
                    refine hv_aload_n C dX5_cheapest_150 rfl 0 rfl ?_
                    refine hm_get (k := 9) (v := .ref (g.2.1 9)) C hin (by decide) (by decide +kernel) rfl rfl dX5_cheapest_151 ?_
                    refine hv_iload C dX5_cheapest_154 4 rfl ?_
                    refine hm_zald (n := j) (x := (nI (A 9 j))) C hg (show j < 14 from by omega) rfl dX5_cheapest_156 ?_
                    refine hv_ifN_eq (tgt := 199) C dX5_cheapest_157 (by decide) (by omega) (fun h25 => ?_) (fun h25 => ?_)
                    · skip
                      refine hv_iinc (v := nI (i + 1)) (lv1 := [(0, .ref (g.1)), (1, .int (nI b)), (2, .int (nI o)), (3, .int (nI (i + 1))), (4, .int (nI j)), (5, .int (nI (f_mr A o i (A 5 j)) + (-1))), (6, .int (nI (f_mr A o i (A 6 j)) + (-1))), (7, .int (nI (f_cost A j)))]) C dX5_cheapest_199 (k := 3) rfl (nI_1 _) (by decide) [1, 2, 3, 0, 4, 5, 6, 7] rfl ?_
                      refine hv_goto (tgt := 43) C dX5_cheapest_202 (by decide) ?_
                      exact hv_sub (lv1 := [(0, .ref (g.1)), (1, .int (nI b)), (2, .int (nI o)), (3, .int (nI (i + 1)))]) [0, 1, 2, 3] rfl (hv_fin ih (md_eq (f_cm_n hj (by omega) (by omega))) rfl)
                    · skip
                      refine hv_iload C dX5_cheapest_160 5 rfl ?_
                      refine hv_iconst (v := nI 0 + (-1)) C dX5_cheapest_162 (by decide) ?_
                      refine hv_icmpE_eq (tgt := 199) C dX5_cheapest_163 (by decide) (by omega) (by omega) (fun h26 => ?_) (fun h26 => ?_)
                      · skip
                        refine hv_iinc (v := nI (i + 1)) (lv1 := [(0, .ref (g.1)), (1, .int (nI b)), (2, .int (nI o)), (3, .int (nI (i + 1))), (4, .int (nI j)), (5, .int (nI (f_mr A o i (A 5 j)) + (-1))), (6, .int (nI (f_mr A o i (A 6 j)) + (-1))), (7, .int (nI (f_cost A j)))]) C dX5_cheapest_199 (k := 3) rfl (nI_1 _) (by decide) [1, 2, 3, 0, 4, 5, 6, 7] rfl ?_
                        refine hv_goto (tgt := 43) C dX5_cheapest_202 (by decide) ?_
                        exact hv_sub (lv1 := [(0, .ref (g.1)), (1, .int (nI b)), (2, .int (nI o)), (3, .int (nI (i + 1)))]) [0, 1, 2, 3] rfl (hv_fin ih (md_eq (f_cm_n hj (by omega) (by omega))) rfl)
                      · skip
                        refine hv_iload C dX5_cheapest_166 6 rfl ?_
                        refine hv_iconst (v := nI 0 + (-1)) C dX5_cheapest_168 (by decide) ?_
                        refine hv_icmpE_eq (tgt := 182) C dX5_cheapest_169 (by decide) (by omega) (by omega) (fun h27 => ?_) (fun h27 => ?_)
                        · skip
                          refine hv_aload_n C dX5_cheapest_182 rfl 0 rfl ?_
                          refine hm_get (k := 13) (v := .ref (g.2.1 13)) C hin (by decide) (by decide +kernel) rfl rfl dX5_cheapest_183 ?_
                          refine hv_aload_n C dX5_cheapest_186 rfl 0 rfl ?_
                          refine hm_get (k := 6) (v := .ref (g.2.1 6)) C hin (by decide) (by decide +kernel) rfl rfl dX5_cheapest_187 ?_
                          refine hv_iload C dX5_cheapest_190 4 rfl ?_
                          refine hm_iald (k := 6) (n := j) (x := (nI (A 6 j))) C hg (by decide) (by decide) (show j < 14 from by omega) rfl dX5_cheapest_192 ?_
                          refine hv_iload C dX5_cheapest_193 5 rfl ?_
                          refine hv_top (nI_em (by omega)) ?_
                          refine hv_iload C dX5_cheapest_195 7 rfl ?_
                          refine hv_iaddN C dX5_cheapest_197 ?_
                          refine hm_iast (k := 13) (n := A 6 j) (v := ((f_mr A o i (A 5 j)) - 1) + (f_cost A j) + 1) C hg (by decide) (by decide) (show A 6 j < 64 from by omega) (nI_eS _) dX5_cheapest_198 ?_
                          refine hv_iinc (v := nI (i + 1)) (lv1 := [(0, .ref (g.1)), (1, .int (nI b)), (2, .int (nI o)), (3, .int (nI (i + 1))), (4, .int (nI j)), (5, .int (nI (f_mr A o i (A 5 j)) + (-1))), (6, .int (nI (f_mr A o i (A 6 j)) + (-1))), (7, .int (nI (f_cost A j)))]) C dX5_cheapest_199 (k := 3) rfl (nI_1 _) (by decide) [1, 2, 3, 0, 4, 5, 6, 7] rfl ?_
                          refine hv_goto (tgt := 43) C dX5_cheapest_202 (by decide) ?_
                          exact hv_sub (lv1 := [(0, .ref (g.1)), (1, .int (nI b)), (2, .int (nI o)), (3, .int (nI (i + 1)))]) [0, 1, 2, 3] rfl (hv_fin ih (md_eq (f_cm_d hj (by omega) (by omega) (by omega))) rfl)
                        · skip
                          refine hv_iload C dX5_cheapest_172 5 rfl ?_
                          refine hv_top (nI_em (by omega)) ?_
                          refine hv_iload C dX5_cheapest_174 7 rfl ?_
                          refine hv_iaddN C dX5_cheapest_176 ?_
                          refine hv_iload C dX5_cheapest_177 6 rfl ?_
                          refine hv_top (nI_em (by omega)) ?_
                          refine hv_icmpN_ge (tgt := 199) C dX5_cheapest_179 (by decide) (by omega) (by omega) (fun h28 => ?_) (fun h28 => ?_)
                          · skip
                            refine hv_iinc (v := nI (i + 1)) (lv1 := [(0, .ref (g.1)), (1, .int (nI b)), (2, .int (nI o)), (3, .int (nI (i + 1))), (4, .int (nI j)), (5, .int (nI (f_mr A o i (A 5 j)) + (-1))), (6, .int (nI (f_mr A o i (A 6 j)) + (-1))), (7, .int (nI (f_cost A j)))]) C dX5_cheapest_199 (k := 3) rfl (nI_1 _) (by decide) [1, 2, 3, 0, 4, 5, 6, 7] rfl ?_
                            refine hv_goto (tgt := 43) C dX5_cheapest_202 (by decide) ?_
                            exact hv_sub (lv1 := [(0, .ref (g.1)), (1, .int (nI b)), (2, .int (nI o)), (3, .int (nI (i + 1)))]) [0, 1, 2, 3] rfl (hv_fin ih (md_eq (f_cm_n hj (by omega) (by omega))) rfl)
                          · skip
                            refine hv_aload_n C dX5_cheapest_182 rfl 0 rfl ?_
                            refine hm_get (k := 13) (v := .ref (g.2.1 13)) C hin (by decide) (by decide +kernel) rfl rfl dX5_cheapest_183 ?_
                            refine hv_aload_n C dX5_cheapest_186 rfl 0 rfl ?_
                            refine hm_get (k := 6) (v := .ref (g.2.1 6)) C hin (by decide) (by decide +kernel) rfl rfl dX5_cheapest_187 ?_
                            refine hv_iload C dX5_cheapest_190 4 rfl ?_
                            refine hm_iald (k := 6) (n := j) (x := (nI (A 6 j))) C hg (by decide) (by decide) (show j < 14 from by omega) rfl dX5_cheapest_192 ?_
                            refine hv_iload C dX5_cheapest_193 5 rfl ?_
                            refine hv_top (nI_em (by omega)) ?_
                            refine hv_iload C dX5_cheapest_195 7 rfl ?_
                            refine hv_iaddN C dX5_cheapest_197 ?_
                            refine hm_iast (k := 13) (n := A 6 j) (v := ((f_mr A o i (A 5 j)) - 1) + (f_cost A j) + 1) C hg (by decide) (by decide) (show A 6 j < 64 from by omega) (nI_eS _) dX5_cheapest_198 ?_
                            refine hv_iinc (v := nI (i + 1)) (lv1 := [(0, .ref (g.1)), (1, .int (nI b)), (2, .int (nI o)), (3, .int (nI (i + 1))), (4, .int (nI j)), (5, .int (nI (f_mr A o i (A 5 j)) + (-1))), (6, .int (nI (f_mr A o i (A 6 j)) + (-1))), (7, .int (nI (f_cost A j)))]) C dX5_cheapest_199 (k := 3) rfl (nI_1 _) (by decide) [1, 2, 3, 0, 4, 5, 6, 7] rfl ?_
                            refine hv_goto (tgt := 43) C dX5_cheapest_202 (by decide) ?_
                            exact hv_sub (lv1 := [(0, .ref (g.1)), (1, .int (nI b)), (2, .int (nI o)), (3, .int (nI (i + 1)))]) [0, 1, 2, 3] rfl (hv_fin ih (md_eq (f_cm_d hj (by omega) (by omega) (by omega))) rfl)
                  · skip
                    refine hv_aload_n C dX5_cheapest_130 rfl 0 rfl ?_
                    refine hm_get (k := 13) (v := .ref (g.2.1 13)) C hin (by decide) (by decide +kernel) rfl rfl dX5_cheapest_131 ?_
                    refine hv_aload_n C dX5_cheapest_134 rfl 0 rfl ?_
                    refine hm_get (k := 5) (v := .ref (g.2.1 5)) C hin (by decide) (by decide +kernel) rfl rfl dX5_cheapest_135 ?_
                    refine hv_iload C dX5_cheapest_138 4 rfl ?_
                    refine hm_iald (k := 5) (n := j) (x := (nI (A 5 j))) C hg (by decide) (by decide) (show j < 14 from by omega) rfl dX5_cheapest_140 ?_
                    refine hv_iload C dX5_cheapest_141 6 rfl ?_
                    refine hv_top (nI_em (by omega)) ?_
                    refine hv_iload C dX5_cheapest_143 7 rfl ?_
                    refine hv_iaddN C dX5_cheapest_145 ?_
                    refine hm_iast (k := 13) (n := A 5 j) (v := ((f_mr A o i (A 6 j)) - 1) + (f_cost A j) + 1) C hg (by decide) (by decide) (show A 5 j < 64 from by omega) (nI_eS _) dX5_cheapest_146 ?_
                    refine hv_goto (tgt := 199) C dX5_cheapest_147 (by decide) ?_
                    refine hv_iinc (v := nI (i + 1)) (lv1 := [(0, .ref (g.1)), (1, .int (nI b)), (2, .int (nI o)), (3, .int (nI (i + 1))), (4, .int (nI j)), (5, .int (nI (f_mr A o i (A 5 j)) + (-1))), (6, .int (nI (f_mr A o i (A 6 j)) + (-1))), (7, .int (nI (f_cost A j)))]) C dX5_cheapest_199 (k := 3) rfl (nI_1 _) (by decide) [1, 2, 3, 0, 4, 5, 6, 7] rfl ?_
                    refine hv_goto (tgt := 43) C dX5_cheapest_202 (by decide) ?_
                    exact hv_sub (lv1 := [(0, .ref (g.1)), (1, .int (nI b)), (2, .int (nI o)), (3, .int (nI (i + 1)))]) [0, 1, 2, 3] rfl (hv_fin ih (md_eq (f_cm_u hj (by omega) (by omega))) rfl)
      · intro i hi ih
        refine hv_iload_n C dX5_cheapest_13 rfl 3 rfl ?_
        refine hv_bipush (v := nI 8) C dX5_cheapest_14 (by decide) ?_
        refine hv_icmpN_ge (tgt := 41) C dX5_cheapest_16 (by decide) (by omega) (by omega) (fun h29 => ?_) (fun h29 => ?_)
        · skip
          exact absurd h29 (by omega)
        · skip
          refine hv_aload_n C dX5_cheapest_19 rfl 0 rfl ?_
          refine hm_get (k := 13) (v := .ref (g.2.1 13)) C hin (by decide) (by decide +kernel) rfl rfl dX5_cheapest_20 ?_
          refine hv_iload_n C dX5_cheapest_23 rfl 3 rfl ?_
          refine hv_join (α := Nat) (pcJ := 34) (fun _ => md_Y w g (f_c0 A o i) 0 Y0) (fun _ => [(0, .ref (g.1)), (1, .int (nI b)), (2, .int (nI o)), (3, .int (nI i))]) (fun t9 => .int (nI t9 + (-1)) :: [.int (nI i), .ref (g.2.1 13)]) (fun t9 => t9 = if i = o then 1 else 0) ?_ ?_
          · rintro _ rfl
            refine hm_iast (k := 13) (n := i) (v := if i = o then 1 else 0) C hg (by decide) (by decide) (show i < 64 from by omega) rfl dX5_cheapest_34 ?_
            refine hv_iinc (v := nI (i + 1)) (lv1 := [(0, .ref (g.1)), (1, .int (nI b)), (2, .int (nI o)), (3, .int (nI (i + 1)))]) C dX5_cheapest_35 (k := 3) rfl (nI_1 _) (by decide) [1, 2, 3, 0] rfl ?_
            refine hv_goto (tgt := 13) C dX5_cheapest_38 (by decide) ?_
            exact hv_fin ih (md_eq (f_c0_s A o i)) rfl
          · intro kt
            refine hv_iload_n C dX5_cheapest_24 rfl 3 rfl ?_
            refine hv_iload_n C dX5_cheapest_25 rfl 2 rfl ?_
            refine hv_icmpN_ne (tgt := 33) C dX5_cheapest_26 (by decide) (by omega) (by omega) (fun h30 => ?_) (fun h30 => ?_)
            · skip
              refine hv_iconst (v := nI 0 + (-1)) C dX5_cheapest_33 (by decide) ?_
              exact kt _ (by first | rw [if_pos h30] | rw [if_neg h30])
            · skip
              refine hv_iconst (v := nI 0) C dX5_cheapest_29 (by decide) ?_
              refine hv_goto (tgt := 34) C dX5_cheapest_30 (by decide) ?_
              refine hv_top (nI_eS 0).symm ?_
              exact kt _ (by first | rw [if_pos h30] | rw [if_neg h30])
