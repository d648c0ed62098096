theorem zS_new {w : hv_W} {o q : Nat} {Y0 Y : hv_H} {A : ab_A} {e : hv_E} (h : cl_S w o Y0 A Y) (hq : Y q = none) : cl_S w o (hv_up Y0 q e) A (hv_up Y q e) ∧ Y0 q = none := by
  obtain ⟨g, Z, hg, hZ, hF, ho, rfl⟩ := h
  have h1 : g.2 q = none ∧ Y0 q = none := by
    unfold cl_Y at hq
    cases z : g.2 q with
    | none => rw [z] at hq; exact ⟨rfl, hq⟩
    | some x => rw [z] at hq; cases hq
  refine ⟨⟨g, Z, hg, hZ, fun a x ha => ?_, ho, cl_oup h1.1⟩, h1.2⟩
  have hne : a ≠ q := by
    intro y
    rw [y, h1.1] at ha
    cases ha
  rw [hv_up_n hne]
  exact hF a x ha
theorem up_none {Y : hv_H} {a b : Nat} {e : hv_E} (h : hv_up Y a e b = none) : b ≠ a ∧ Y b = none := by
  have hne : b ≠ a := by
    intro y
    rw [y, hv_up_s] at h
    cases h
  rw [hv_up_n hne] at h
  exact ⟨hne, h⟩
def nz (w : hv_W) (N : Nat) : hv_E := .inl (.inl (hv_c w 0, N, .inl (fun _ => 0)))
theorem net_Y {w : hv_W} {q0 q1 q2 q3 q4 : Nat} (h1 : hv_up (fun _ => none) q0 (nz w 14) q1 = none) (h2 : hv_up (hv_up (fun _ => none) q0 (nz w 14)) q1 (nz w 40) q2 = none) (h3 : hv_up (hv_up (hv_up (fun _ => none) q0 (nz w 14)) q1 (nz w 40)) q2 (nz w 3) q3 = none) (h4 : hv_up (hv_up (hv_up (hv_up (fun _ => none) q0 (nz w 14)) q1 (nz w 40)) q2 (nz w 3)) q3 (nz w 64) q4 = none) : ∃ (q : Nat → Nat) (iv : Nat → Option Nat), (q 0 = q0 ∧ q 1 = q1 ∧ q 2 = q2 ∧ q 3 = q3 ∧ q 4 = q4) ∧ lok q iv ∧ hv_up (hv_up (hv_up (hv_up (hv_up (fun _ => none) q0 (nz w 14)) q1 (nz w 40)) q2 (nz w 3)) q3 (nz w 64)) q4 (nz w 64) = lY w iv (fun _ _ => 0) := by
  obtain ⟨a10, -⟩ := up_none h1
  obtain ⟨a21, h2⟩ := up_none h2
  obtain ⟨a20, -⟩ := up_none h2
  obtain ⟨a32, h3⟩ := up_none h3
  obtain ⟨a31, h3⟩ := up_none h3
  obtain ⟨a30, -⟩ := up_none h3
  obtain ⟨a43, h4⟩ := up_none h4
  obtain ⟨a42, h4⟩ := up_none h4
  obtain ⟨a41, h4⟩ := up_none h4
  obtain ⟨a40, -⟩ := up_none h4
  refine ⟨fun k => if k = 0 then q0 else if k = 1 then q1 else if k = 2 then q2 else if k = 3 then q3 else q4, fun a => if a = q4 then some 4 else if a = q3 then some 3 else if a = q2 then some 2 else if a = q1 then some 1 else if a = q0 then some 0 else none, ⟨rfl, rfl, rfl, rfl, rfl⟩, ⟨?_, ?_⟩, ?_⟩
  · intro k hk
    rcases (show k = 0 ∨ k = 1 ∨ k = 2 ∨ k = 3 ∨ k = 4 by omega) with rfl | rfl | rfl | rfl | rfl
    · show (if q0 = q4 then some 4 else if q0 = q3 then some 3 else if q0 = q2 then some 2 else if q0 = q1 then some 1 else if q0 = q0 then some 0 else none) = some 0
      rw [if_neg (Ne.symm a40), if_neg (Ne.symm a30), if_neg (Ne.symm a20), if_neg (Ne.symm a10), if_pos rfl]
    · show (if q1 = q4 then some 4 else if q1 = q3 then some 3 else if q1 = q2 then some 2 else if q1 = q1 then some 1 else if q1 = q0 then some 0 else none) = some 1
      rw [if_neg (Ne.symm a41), if_neg (Ne.symm a31), if_neg (Ne.symm a21), if_pos rfl]
    · show (if q2 = q4 then some 4 else if q2 = q3 then some 3 else if q2 = q2 then some 2 else if q2 = q1 then some 1 else if q2 = q0 then some 0 else none) = some 2
      rw [if_neg (Ne.symm a42), if_neg (Ne.symm a32), if_pos rfl]
    · show (if q3 = q4 then some 4 else if q3 = q3 then some 3 else if q3 = q2 then some 2 else if q3 = q1 then some 1 else if q3 = q0 then some 0 else none) = some 3
      rw [if_neg (Ne.symm a43), if_pos rfl]
    · show (if q4 = q4 then some 4 else if q4 = q3 then some 3 else if q4 = q2 then some 2 else if q4 = q1 then some 1 else if q4 = q0 then some 0 else none) = some 4
      rw [if_pos rfl]
  · intro a k ha
    dsimp only at ha ⊢
    split at ha
    · cases ha; exact ⟨by decide, by assumption⟩
    · split at ha
      · cases ha; exact ⟨by decide, by assumption⟩
      · split at ha
        · cases ha; exact ⟨by decide, by assumption⟩
        · split at ha
          · cases ha; exact ⟨by decide, by assumption⟩
          · split at ha
            · cases ha; exact ⟨by decide, by assumption⟩
            · cases ha
  · funext a
    unfold hv_up lY
    dsimp only
    by_cases e4 : a = q4
    · rw [if_pos e4, if_pos e4]; rfl
    · rw [if_neg e4, if_neg e4]
      by_cases e3 : a = q3
      · rw [if_pos e3, if_pos e3]; rfl
      · rw [if_neg e3, if_neg e3]
        by_cases e2 : a = q2
        · rw [if_pos e2, if_pos e2]; rfl
        · rw [if_neg e2, if_neg e2]
          by_cases e1 : a = q1
          · rw [if_pos e1, if_pos e1]; rfl
          · rw [if_neg e1, if_neg e1]
            by_cases e0 : a = q0
            · rw [if_pos e0, if_pos e0]; rfl
            · rw [if_neg e0, if_neg e0]
theorem L_0 : zLI ab_0 (fun _ _ => 0) 480 := by
  refine ⟨I_0, J_0, ⟨by decide, by decide⟩, fun j hj => ?_, fun k hk => ?_, ?_, ?_, ?_⟩
  · rw [ab0_4] at hj; omega
  · rw [ab0_15] at hk; omega
  · rw [ab0_4]; decide
  · rw [ab0_15]; decide
  · rw [ab0_16]; decide
set_option maxRecDepth 100000 in
set_option maxHeartbeats 4000000 in
theorem c_L_net (l : Launch) (w : hv_W) (Y : hv_H) (at9 : Nat) (hlt : l.stackTraces = false) (hLs : hv_sL w < 2 ^ 31) (hat9 : at9 ≤ 1000) : hv_Mr l yL_net wsL_net ({ frames := 13, cells := 32000, slots := 310000, locals := 360 }) w [.ref (hv_sb w), .int (nI at9)] Y (fun r Y1 => r = .int (nI 1)) := by
  refine hv_ofV (cc := cL_net) (own := RL) (by decide) rfl rfl (Nat.le_of_ble_eq_true rfl) rfl ?_
  intro p e s m below meth c C hret hnm
  have hinX4 : ∀ x ∈ wsX40, x ∈ wsL_net := by decide +kernel
  refine hv_lessV (Y' := fun _ => none) (fun a e h => by cases h) ?_
  refine hv_new (fs := [.null, .null, .null, .null, .int (nI 0), .int (nI 0)]) C hinX4 tyX4 tyX4_ok (by decide +kernel) (by decide +kernel) (by decide +kernel) (show vwCl[5]? = some (RX4, TX4, 6) from rfl) (fun j hj => by rcases (show j = 0 ∨ j = 1 ∨ j = 2 ∨ j = 3 ∨ j = 4 ∨ j = 5 from by omega) with rfl | rfl | rfl | rfl | rfl | rfl <;> rfl) (Nat.le_of_ble_eq_true rfl) (Nat.le_of_ble_eq_true rfl) dL_net_0 (fun o hqo => ?_)
  refine hv_dup C dL_net_3 rfl ?_
  refine hv_callIv (As := []) (rest := [.ref o]) (n := 0) C (c_X4_init l w (fun _ => none) o rfl) gL_net_X4_init rfl (by decide +kernel) (by decide +kernel) (by decide +kernel) rfl (by decide +kernel) ⟨(Nat.le_of_ble_eq_true rfl), (Nat.le_of_ble_eq_true rfl)⟩ rfl rfl (Nat.le_of_ble_eq_true rfl) dL_net_4 ⟨(Nat.le_of_ble_eq_true rfl), (Nat.le_of_ble_eq_true rfl)⟩ (fun Y0 hS0 => ?_)
  refine hv_astore_n (lv1 := [(0, .ref (hv_sb w)), (1, .int (nI at9)), (2, .ref (o))]) C dL_net_7 rfl (by decide) [1, 2, 0] rfl ?_
  refine hv_bipush (v := nI 14) C dL_net_8 (by decide) ?_
  refine hv_newi (N := 14) C (by decide +kernel) (by decide) (by decide) (by decide) (Nat.le_of_ble_eq_true rfl) (Nat.le_of_ble_eq_true rfl) dL_net_10 (fun q0 hn0 => ?_)
  obtain ⟨hS1, hm0⟩ := zS_new (e := nz w 14) hS0 hn0
  refine hv_astore_n (lv1 := [(0, .ref (hv_sb w)), (1, .int (nI at9)), (2, .ref (o)), (3, .ref (q0))]) C dL_net_12 rfl (by decide) [1, 2, 3, 0] rfl ?_
  refine hv_bipush (v := nI 40) C dL_net_13 (by decide) ?_
  refine hv_newi (N := 40) C (by decide +kernel) (by decide) (by decide) (by decide) (Nat.le_of_ble_eq_true rfl) (Nat.le_of_ble_eq_true rfl) dL_net_15 (fun q1 hn1 => ?_)
  obtain ⟨hS2, hm1⟩ := zS_new (e := nz w 40) hS1 hn1
  refine hv_astore (lv1 := [(0, .ref (hv_sb w)), (1, .int (nI at9)), (2, .ref (o)), (3, .ref (q0)), (4, .ref (q1))]) C dL_net_17 (by decide) [1, 2, 3, 4, 0] rfl ?_
  refine hv_iconst (v := nI 3) C dL_net_19 (by decide) ?_
  refine hv_newi (N := 3) C (by decide +kernel) (by decide) (by decide) (by decide) (Nat.le_of_ble_eq_true rfl) (Nat.le_of_ble_eq_true rfl) dL_net_20 (fun q2 hn2 => ?_)
  obtain ⟨hS3, hm2⟩ := zS_new (e := nz w 3) hS2 hn2
  refine hv_astore (lv1 := [(0, .ref (hv_sb w)), (1, .int (nI at9)), (2, .ref (o)), (3, .ref (q0)), (4, .ref (q1)), (5, .ref (q2))]) C dL_net_22 (by decide) [1, 2, 3, 4, 5, 0] rfl ?_
  refine hv_bipush (v := nI 64) C dL_net_24 (by decide) ?_
  refine hv_newi (N := 64) C (by decide +kernel) (by decide) (by decide) (by decide) (Nat.le_of_ble_eq_true rfl) (Nat.le_of_ble_eq_true rfl) dL_net_26 (fun q3 hn3 => ?_)
  obtain ⟨hS4, hm3⟩ := zS_new (e := nz w 64) hS3 hn3
  refine hv_astore (lv1 := [(0, .ref (hv_sb w)), (1, .int (nI at9)), (2, .ref (o)), (3, .ref (q0)), (4, .ref (q1)), (5, .ref (q2)), (6, .ref (q3))]) C dL_net_28 (by decide) [1, 2, 3, 4, 5, 6, 0] rfl ?_
  refine hv_bipush (v := nI 64) C dL_net_30 (by decide) ?_
  refine hv_newi (N := 64) C (by decide +kernel) (by decide) (by decide) (by decide) (Nat.le_of_ble_eq_true rfl) (Nat.le_of_ble_eq_true rfl) dL_net_32 (fun q4 hn4 => ?_)
  obtain ⟨hS5, hm4⟩ := zS_new (e := nz w 64) hS4 hn4
  refine hv_astore (lv1 := [(0, .ref (hv_sb w)), (1, .int (nI at9)), (2, .ref (o)), (3, .ref (q0)), (4, .ref (q1)), (5, .ref (q2)), (6, .ref (q3)), (7, .ref (q4))]) C dL_net_34 (by decide) [1, 2, 3, 4, 5, 6, 7, 0] rfl ?_
  obtain ⟨q, iv, ⟨rfl, rfl, rfl, rfl, rfl⟩, hq, hYe⟩ := net_Y hm1 hm2 hm3 hm4
  rw [hYe] at hS5
  refine hv_iconst (v := nI 0) C dL_net_36 (by decide) ?_
  refine hv_istore (lv1 := [(0, .ref (hv_sb w)), (1, .int (nI at9)), (2, .ref (o)), (3, .ref (q 0)), (4, .ref (q 1)), (5, .ref (q 2)), (6, .ref (q 3)), (7, .ref (q 4)), (8, .int (nI 0))]) C dL_net_37 (by decide) [1, 2, 3, 4, 5, 6, 7, 8, 0] rfl ?_
  refine hv_widen (k := 110 + 407 * 0) (n := 700 + 4046 * 0) (Nat.le_of_ble_eq_true rfl) (Nat.le_of_ble_eq_true rfl) ?_
  refine hv_loopG (σ := hv_H) 76 (fun i => 110 + 407 * i) (fun i => 700 + 4046 * i) (fun _ Y => Y) (fun i _ => [(0, .ref (hv_sb w)), (1, .int (nI at9)), (2, .ref (o)), (3, .ref (q 0)), (4, .ref (q 1)), (5, .ref (q 2)), (6, .ref (q 3)), (7, .ref (q 4)), (8, .int (nI i))]) (fun i Y => zPost w o iv (480 + 200 * i) Y) ?_ ?_ _ ⟨_, _, hS5, L_0⟩
  · rintro Y6 ⟨F1, A1, hS6, hL1⟩
    have hI1 := hL1.1
    refine hv_iload C dL_net_39 8 rfl ?_
    refine hv_bipush (v := nI 76) C dL_net_41 (by decide) ?_
    refine hv_icmpN_ge (tgt := 178) C dL_net_43 (by decide) (by omega) (by omega) (fun _ => ?_) (fun h => absurd h (by decide))
    refine hv_aload_n C dL_net_178 rfl 2 rfl ?_
    refine hv_aload_n C dL_net_179 rfl 3 rfl ?_
    refine hv_aload C dL_net_180 6 rfl ?_
    refine hv_aload C dL_net_182 7 rfl ?_
    refine hv_callSr (As := [.ref (o), .ref (q 0), .ref (q 3), .ref (q 4)]) (rest := []) (n := 4) C (c_L_areWays l w o q iv F1 A1 Y6 hq hS6 hL1) gL_net_L_areWays rfl (by decide +kernel) ⟨(Nat.le_of_ble_eq_true rfl), (Nat.le_of_ble_eq_true rfl)⟩ rfl rfl (Nat.le_of_ble_eq_true rfl) dL_net_184 ⟨by first | exact Nat.le_of_ble_eq_true rfl | omega | (simp; done) | (simp; omega), by first | exact Nat.le_of_ble_eq_true rfl | omega | (simp; done) | (simp; omega)⟩ (fun r9 Y2 hr => ?_)
    obtain ⟨rfl, hS3⟩ := hr
    refine hv_ifN_eq (tgt := 233) C dL_net_187 (by decide) (by omega) (fun h => absurd h (by decide)) (fun _ => ?_)
    refine hv_aload_n C dL_net_190 rfl 2 rfl ?_
    refine hv_aload C dL_net_191 4 rfl ?_
    refine hv_aload C dL_net_193 5 rfl ?_
    refine hv_callSr (As := [.ref (o), .ref (q 1), .ref (q 2)]) (rest := []) (n := 3) C (c_L_areBarges l w o q iv (Fn F1 A1 64) A1 Y2 hq hS3 (L_not hL1)) gL_net_L_areBarges rfl (by decide +kernel) ⟨(Nat.le_of_ble_eq_true rfl), (Nat.le_of_ble_eq_true rfl)⟩ rfl rfl (Nat.le_of_ble_eq_true rfl) dL_net_195 ⟨by first | exact Nat.le_of_ble_eq_true rfl | omega | (simp; done) | (simp; omega), by first | exact Nat.le_of_ble_eq_true rfl | omega | (simp; done) | (simp; omega)⟩ (fun r9 Y5 hr => ?_)
    obtain ⟨rfl, hy9⟩ := hr; obtain rfl := hy9.symm
    refine hv_ifN_eq (tgt := 233) C dL_net_198 (by decide) (by omega) (fun h => absurd h (by decide)) (fun _ => ?_)
    refine hv_aload_n C dL_net_201 rfl 2 rfl ?_
    refine hv_bipush (v := nI 50) C dL_net_202 (by decide) ?_
    have hch := f_chg_le (f_ticks A1 (50 - 1)) 64
    refine hv_callVr (As := [.int (nI 50)]) (rest := []) (n := 1) C (k_settle l w o (lY w iv (Fn F1 A1 64)) A1 Y2 hS3 hI1 50 (by decide) (by decide)) gL_net_X4_settle rfl (by decide +kernel) ⟨(Nat.le_of_ble_eq_true rfl), (Nat.le_of_ble_eq_true rfl)⟩ (zLS_rc hS3) rfl rfl (Nat.le_of_ble_eq_true rfl) dL_net_204 ⟨by first | exact Nat.le_of_ble_eq_true rfl | omega | (simp; done) | (simp; omega), by first | exact Nat.le_of_ble_eq_true rfl | omega | (simp; done) | (simp; omega)⟩ (fun r9 Y7 hr => ?_)
    obtain ⟨rfl, hr⟩ := hr
    have hS8 : zLS w o iv (Fn F1 A1 64) (f_ticks A1 50) Y7 := hr
    refine hv_ifN_lt (tgt := 233) C dL_net_207 (by decide) (by omega) (fun h9 => ?_) (fun h9 => ?_)
    · skip
      exact (h9).elim
    · skip
      refine hv_aload_n C dL_net_210 rfl 2 rfl ?_
      refine hv_callVr (As := []) (rest := []) (n := 0) C (k_areStill l w o (lY w iv (Fn F1 A1 64)) (f_ticks A1 50) Y7 hS8 (I_ticks hI1 50)) gL_net_X4_areStill rfl (by decide +kernel) ⟨(Nat.le_of_ble_eq_true rfl), (Nat.le_of_ble_eq_true rfl)⟩ (zLS_rc hS8) rfl rfl (Nat.le_of_ble_eq_true rfl) dL_net_211 ⟨by first | exact Nat.le_of_ble_eq_true rfl | omega | (simp; done) | (simp; omega), by first | exact Nat.le_of_ble_eq_true rfl | omega | (simp; done) | (simp; omega)⟩ (fun r10 Y11 hr => ?_)
      obtain ⟨rfl, hS12⟩ := hr
      refine hv_ifb_eq (tgt := 229) C dL_net_214 (by decide) (fun h14 => ?_) (fun h14 => ?_)
      · skip
        refine hv_iconst (v := nI 1) C dL_net_229 (by decide) ?_
        refine hv_goto (tgt := 234) C dL_net_230 (by decide) ?_
        exact hv_zret C hret (by decide) dL_net_234 (by first | exact Nat.le_refl _ | decide | omega | (simp; done) | (simp; omega)) (by first | exact Nat.le_refl _ | decide | omega | (simp; done) | (simp; omega)) rfl
      · skip
        refine hv_aload_n C dL_net_217 rfl 2 rfl ?_
        refine hv_aload_n C dL_net_218 rfl 3 rfl ?_
        refine hv_aload C dL_net_219 6 rfl ?_
        refine hv_aload C dL_net_221 7 rfl ?_
        refine hv_callSr (As := [.ref (o), .ref (q 0), .ref (q 3), .ref (q 4)]) (rest := []) (n := 4) C (c_L_areWays l w o q iv (Fn F1 A1 64) (f_ticks A1 50) Y11 hq hS12 (L_ticks (L_not hL1) 50)) gL_net_L_areWays rfl (by decide +kernel) ⟨(Nat.le_of_ble_eq_true rfl), (Nat.le_of_ble_eq_true rfl)⟩ rfl rfl (Nat.le_of_ble_eq_true rfl) dL_net_223 ⟨by first | exact Nat.le_of_ble_eq_true rfl | omega | (simp; done) | (simp; omega), by first | exact Nat.le_of_ble_eq_true rfl | omega | (simp; done) | (simp; omega)⟩ (fun r9 Y15 hr => ?_)
        obtain ⟨rfl, hS16⟩ := hr
        refine hv_ifN_eq (tgt := 233) C dL_net_226 (by decide) (by omega) (fun h => absurd h (by decide)) (fun _ => ?_)
        refine hv_iconst (v := nI 1) C dL_net_229 (by decide) ?_
        refine hv_goto (tgt := 234) C dL_net_230 (by decide) ?_
        exact hv_zret C hret (by decide) dL_net_234 (by first | exact Nat.le_refl _ | decide | omega | (simp; done) | (simp; omega)) (by first | exact Nat.le_refl _ | decide | omega | (simp; done) | (simp; omega)) rfl
  · rintro i Y6 hi ⟨F1, A1, hS6, hL1⟩ ih
    refine hv_iload C dL_net_39 8 rfl ?_
    refine hv_bipush (v := nI 76) C dL_net_41 (by decide) ?_
    refine hv_icmpN_ge (tgt := 178) C dL_net_43 (by decide) (by omega) (by omega) (fun h18 => ?_) (fun h18 => ?_)
    · skip
      exact absurd h18 (by omega)
    · skip
      refine hv_aload_n C dL_net_46 rfl 0 rfl ?_
      refine hv_iload_n C dL_net_47 rfl 1 rfl ?_
      refine hv_iconst (v := nI 3) C dL_net_48 (by decide) ?_
      refine hv_iload C dL_net_49 8 rfl ?_
      refine hv_imulN C dL_net_51 ?_
      refine hv_iaddN C dL_net_52 ?_
      refine hv_iconst (v := nI 1) C dL_net_53 (by decide) ?_
      refine hv_iaddN C dL_net_54 ?_
      refine hv_ldc (v := 1073741824) C (by decide +kernel) dL_net_55 ?_
      refine hv_top (y := nI 1073741824) (by decide) ?_
      refine hv_callSr (As := [.ref (hv_sb w), .int (nI ((at9 + (3 * i)) + 1)), .int (nI 1073741824)]) (rest := []) (n := 3) C (c_L_draw l w Y6 ((at9 + (3 * i)) + 1) (1073741824) (by omega) (by omega) (by omega) hLs) gL_net_L_draw rfl (by decide +kernel) ⟨(Nat.le_of_ble_eq_true rfl), (Nat.le_of_ble_eq_true rfl)⟩ rfl rfl (Nat.le_of_ble_eq_true rfl) dL_net_57 ⟨by first | exact Nat.le_of_ble_eq_true rfl | omega | (simp; done) | (simp; omega), by first | exact Nat.le_of_ble_eq_true rfl | omega | (simp; done) | (simp; omega)⟩ (fun r9 Y9 hr => ?_)
      obtain ⟨⟨v1, hv1, rfl⟩, hy9⟩ := hr; obtain rfl := hy9.symm
      refine hv_istore (lv1 := [(0, .ref (hv_sb w)), (1, .int (nI at9)), (2, .ref (o)), (3, .ref (q 0)), (4, .ref (q 1)), (5, .ref (q 2)), (6, .ref (q 3)), (7, .ref (q 4)), (8, .int (nI i)), (9, .int (nI v1))]) C dL_net_60 (by decide) [1, 2, 3, 4, 5, 6, 7, 8, 9, 0] rfl ?_
      refine hv_aload_n C dL_net_62 rfl 0 rfl ?_
      refine hv_iload_n C dL_net_63 rfl 1 rfl ?_
      refine hv_iconst (v := nI 3) C dL_net_64 (by decide) ?_
      refine hv_iload C dL_net_65 8 rfl ?_
      refine hv_imulN C dL_net_67 ?_
      refine hv_iaddN C dL_net_68 ?_
      refine hv_iconst (v := nI 2) C dL_net_69 (by decide) ?_
      refine hv_iaddN C dL_net_70 ?_
      refine hv_ldc (v := 1073741824) C (by decide +kernel) dL_net_71 ?_
      refine hv_top (y := nI 1073741824) (by decide) ?_
      refine hv_callSr (As := [.ref (hv_sb w), .int (nI ((at9 + (3 * i)) + 2)), .int (nI 1073741824)]) (rest := []) (n := 3) C (c_L_draw l w Y6 ((at9 + (3 * i)) + 2) (1073741824) (by omega) (by omega) (by omega) hLs) gL_net_L_draw rfl (by decide +kernel) ⟨(Nat.le_of_ble_eq_true rfl), (Nat.le_of_ble_eq_true rfl)⟩ rfl rfl (Nat.le_of_ble_eq_true rfl) dL_net_73 ⟨by first | exact Nat.le_of_ble_eq_true rfl | omega | (simp; done) | (simp; omega), by first | exact Nat.le_of_ble_eq_true rfl | omega | (simp; done) | (simp; omega)⟩ (fun r9 Y9 hr => ?_)
      obtain ⟨⟨v2, hv2, rfl⟩, hy9⟩ := hr; obtain rfl := hy9.symm
      refine hv_istore (lv1 := [(0, .ref (hv_sb w)), (1, .int (nI at9)), (2, .ref (o)), (3, .ref (q 0)), (4, .ref (q 1)), (5, .ref (q 2)), (6, .ref (q 3)), (7, .ref (q 4)), (8, .int (nI i)), (9, .int (nI v1)), (10, .int (nI v2))]) C dL_net_76 (by decide) [1, 2, 3, 4, 5, 6, 7, 8, 9, 10, 0] rfl ?_
      refine hv_aload_n C dL_net_78 rfl 2 rfl ?_
      refine hv_join (α := Nat) (pcJ := 114) (fun _ => Y6) (fun _ => [(0, .ref (hv_sb w)), (1, .int (nI at9)), (2, .ref (o)), (3, .ref (q 0)), (4, .ref (q 1)), (5, .ref (q 2)), (6, .ref (q 3)), (7, .ref (q 4)), (8, .int (nI i)), (9, .int (nI v1)), (10, .int (nI v2))]) (fun t7 => .int (nI t7) :: [.ref (o)]) (fun t7 => t7 < 22) ?_ ?_
      · intro wh hwh
        refine hv_iload C dL_net_114 9 rfl ?_
        refine hv_iload C dL_net_116 10 rfl ?_
        refine hv_aload_n C dL_net_118 rfl 3 rfl ?_
        refine hv_aload C dL_net_119 4 rfl ?_
        refine hv_aload C dL_net_121 5 rfl ?_
        refine hv_aload C dL_net_123 6 rfl ?_
        refine hv_aload C dL_net_125 7 rfl ?_
        refine hv_callSr (As := [.ref (o), .int (nI wh), .int (nI v1), .int (nI v2), .ref (q 0), .ref (q 1), .ref (q 2), .ref (q 3), .ref (q 4)]) (rest := []) (n := 9) C (c_L_step l w o q iv F1 A1 Y6 hq hS6 hlt hL1 hwh hv1 hv2 (by omega)) gL_net_L_step rfl (by decide +kernel) ⟨(Nat.le_of_ble_eq_true rfl), (Nat.le_of_ble_eq_true rfl)⟩ rfl rfl (Nat.le_of_ble_eq_true rfl) dL_net_127 ⟨by first | exact Nat.le_of_ble_eq_true rfl | omega | (simp; done) | (simp; omega), by first | exact Nat.le_of_ble_eq_true rfl | omega | (simp; done) | (simp; omega)⟩ (fun r9 Y7 hr => ?_)
        clear hL1 hS6
        obtain ⟨rfl, F1, A1, hS7, hL1⟩ := hr
        have hI1 := hL1.1
        refine hv_ifN_eq (tgt := 170) C dL_net_130 (by decide) (by omega) (fun h => absurd h (by decide)) (fun _ => ?_)
        refine hv_iload C dL_net_133 8 rfl ?_
        refine hv_iconst (v := nI 3) C dL_net_135 (by decide) ?_
        refine hv_iremN C dL_net_136 (by omega) (by omega) (by omega) ?_
        refine hv_iconst (v := nI 2) C dL_net_137 (by decide) ?_
        refine hv_icmpN_ne (tgt := 151) C dL_net_138 (by decide) (by omega) (by omega) (fun h21 => ?_) (fun h21 => ?_)
        · skip
          refine hv_iload C dL_net_151 8 rfl ?_
          refine hv_iconst (v := nI 4) C dL_net_153 (by decide) ?_
          refine hv_iremN C dL_net_154 (by omega) (by omega) (by omega) ?_
          refine hv_iconst (v := nI 3) C dL_net_155 (by decide) ?_
          refine hv_icmpN_ne (tgt := 172) C dL_net_156 (by decide) (by omega) (by omega) (fun h22 => ?_) (fun h22 => ?_)
          · skip
            refine hv_iinc (v := nI (i + 1)) (lv1 := [(0, .ref (hv_sb w)), (1, .int (nI at9)), (2, .ref (o)), (3, .ref (q 0)), (4, .ref (q 1)), (5, .ref (q 2)), (6, .ref (q 3)), (7, .ref (q 4)), (8, .int (nI (i + 1))), (9, .int (nI v1)), (10, .int (nI v2))]) C dL_net_172 (k := 8) rfl (nI_1 _) (by decide) [1, 2, 3, 4, 5, 6, 7, 8, 0, 9, 10] rfl ?_
            refine hv_goto (tgt := 39) C dL_net_175 (by decide) ?_
            refine hv_widen (k := 110 + 407 * (i + 1)) (n := 700 + 4046 * (i + 1)) (by first | (show 110 + 407 * i + 401 ≤ _; omega) | (show 110 + 407 * i + 401 + 6 ≤ _; omega)) (by first | (show 700 + 4046 * i + 4006 ≤ _; omega) | (show 700 + 4046 * i + 4006 + 40 ≤ _; omega)) ?_
            exact hv_sub (lv1 := [(0, .ref (hv_sb w)), (1, .int (nI at9)), (2, .ref (o)), (3, .ref (q 0)), (4, .ref (q 1)), (5, .ref (q 2)), (6, .ref (q 3)), (7, .ref (q 4)), (8, .int (nI (i + 1)))]) [0, 1, 2, 3, 4, 5, 6, 7, 8] rfl (ih _ ⟨F1, A1, hS7, hL1⟩)
          · skip
            refine hv_aload_n C dL_net_159 rfl 2 rfl ?_
            refine hv_aload C dL_net_160 4 rfl ?_
            refine hv_aload C dL_net_162 5 rfl ?_
            refine hv_callSr (As := [.ref (o), .ref (q 1), .ref (q 2)]) (rest := []) (n := 3) C (c_L_areBarges l w o q iv F1 A1 Y7 hq hS7 hL1) gL_net_L_areBarges rfl (by decide +kernel) ⟨(Nat.le_of_ble_eq_true rfl), (Nat.le_of_ble_eq_true rfl)⟩ rfl rfl (Nat.le_of_ble_eq_true rfl) dL_net_164 ⟨by first | exact Nat.le_of_ble_eq_true rfl | omega | (simp; done) | (simp; omega), by first | exact Nat.le_of_ble_eq_true rfl | omega | (simp; done) | (simp; omega)⟩ (fun r9 Y23 hr => ?_)
            obtain ⟨rfl, hy9⟩ := hr; obtain rfl := hy9.symm
            refine hv_ifN_ne (tgt := 172) C dL_net_167 (by decide) (by omega) (fun _ => ?_) (fun h => absurd h (by decide))
            refine hv_iinc (v := nI (i + 1)) (lv1 := [(0, .ref (hv_sb w)), (1, .int (nI at9)), (2, .ref (o)), (3, .ref (q 0)), (4, .ref (q 1)), (5, .ref (q 2)), (6, .ref (q 3)), (7, .ref (q 4)), (8, .int (nI (i + 1))), (9, .int (nI v1)), (10, .int (nI v2))]) C dL_net_172 (k := 8) rfl (nI_1 _) (by decide) [1, 2, 3, 4, 5, 6, 7, 8, 0, 9, 10] rfl ?_
            refine hv_goto (tgt := 39) C dL_net_175 (by decide) ?_
            refine hv_widen (k := 110 + 407 * (i + 1)) (n := 700 + 4046 * (i + 1)) (by first | (show 110 + 407 * i + 401 ≤ _; omega) | (show 110 + 407 * i + 401 + 6 ≤ _; omega)) (by first | (show 700 + 4046 * i + 4006 ≤ _; omega) | (show 700 + 4046 * i + 4006 + 40 ≤ _; omega)) ?_
            exact hv_sub (lv1 := [(0, .ref (hv_sb w)), (1, .int (nI at9)), (2, .ref (o)), (3, .ref (q 0)), (4, .ref (q 1)), (5, .ref (q 2)), (6, .ref (q 3)), (7, .ref (q 4)), (8, .int (nI (i + 1)))]) [0, 1, 2, 3, 4, 5, 6, 7, 8] rfl (ih _ ⟨F1, A1, hS7, hL1⟩)
        · skip
          refine hv_aload_n C dL_net_141 rfl 2 rfl ?_
          refine hv_aload_n C dL_net_142 rfl 3 rfl ?_
          refine hv_aload C dL_net_143 5 rfl ?_
          refine hv_callSr (As := [.ref (o), .ref (q 0), .ref (q 2)]) (rest := []) (n := 3) C (c_L_areCanals l w o q iv F1 A1 Y7 hq hS7 hlt hL1) gL_net_L_areCanals rfl (by decide +kernel) ⟨(Nat.le_of_ble_eq_true rfl), (Nat.le_of_ble_eq_true rfl)⟩ rfl rfl (Nat.le_of_ble_eq_true rfl) dL_net_145 ⟨by first | exact Nat.le_of_ble_eq_true rfl | omega | (simp; done) | (simp; omega), by first | exact Nat.le_of_ble_eq_true rfl | omega | (simp; done) | (simp; omega)⟩ (fun r9 Y25 hr => ?_)
          obtain ⟨rfl, hy9⟩ := hr; obtain rfl := hy9.symm
          refine hv_ifN_eq (tgt := 170) C dL_net_148 (by decide) (by omega) (fun h => absurd h (by decide)) (fun _ => ?_)
          refine hv_iload C dL_net_151 8 rfl ?_
          refine hv_iconst (v := nI 4) C dL_net_153 (by decide) ?_
          refine hv_iremN C dL_net_154 (by omega) (by omega) (by omega) ?_
          refine hv_iconst (v := nI 3) C dL_net_155 (by decide) ?_
          refine hv_icmpN_ne (tgt := 172) C dL_net_156 (by decide) (by omega) (by omega) (fun h27 => ?_) (fun h27 => ?_)
          · skip
            refine hv_iinc (v := nI (i + 1)) (lv1 := [(0, .ref (hv_sb w)), (1, .int (nI at9)), (2, .ref (o)), (3, .ref (q 0)), (4, .ref (q 1)), (5, .ref (q 2)), (6, .ref (q 3)), (7, .ref (q 4)), (8, .int (nI (i + 1))), (9, .int (nI v1)), (10, .int (nI v2))]) C dL_net_172 (k := 8) rfl (nI_1 _) (by decide) [1, 2, 3, 4, 5, 6, 7, 8, 0, 9, 10] rfl ?_
            refine hv_goto (tgt := 39) C dL_net_175 (by decide) ?_
            refine hv_widen (k := 110 + 407 * (i + 1)) (n := 700 + 4046 * (i + 1)) (by first | (show 110 + 407 * i + 401 ≤ _; omega) | (show 110 + 407 * i + 401 + 6 ≤ _; omega)) (by first | (show 700 + 4046 * i + 4006 ≤ _; omega) | (show 700 + 4046 * i + 4006 + 40 ≤ _; omega)) ?_
            exact hv_sub (lv1 := [(0, .ref (hv_sb w)), (1, .int (nI at9)), (2, .ref (o)), (3, .ref (q 0)), (4, .ref (q 1)), (5, .ref (q 2)), (6, .ref (q 3)), (7, .ref (q 4)), (8, .int (nI (i + 1)))]) [0, 1, 2, 3, 4, 5, 6, 7, 8] rfl (ih _ ⟨F1, A1, hS7, hL1⟩)
          · skip
            refine hv_aload_n C dL_net_159 rfl 2 rfl ?_
            refine hv_aload C dL_net_160 4 rfl ?_
            refine hv_aload C dL_net_162 5 rfl ?_
            refine hv_callSr (As := [.ref (o), .ref (q 1), .ref (q 2)]) (rest := []) (n := 3) C (c_L_areBarges l w o q iv F1 A1 Y7 hq hS7 hL1) gL_net_L_areBarges rfl (by decide +kernel) ⟨(Nat.le_of_ble_eq_true rfl), (Nat.le_of_ble_eq_true rfl)⟩ rfl rfl (Nat.le_of_ble_eq_true rfl) dL_net_164 ⟨by first | exact Nat.le_of_ble_eq_true rfl | omega | (simp; done) | (simp; omega), by first | exact Nat.le_of_ble_eq_true rfl | omega | (simp; done) | (simp; omega)⟩ (fun r9 Y28 hr => ?_)
            obtain ⟨rfl, hy9⟩ := hr; obtain rfl := hy9.symm
            refine hv_ifN_ne (tgt := 172) C dL_net_167 (by decide) (by omega) (fun _ => ?_) (fun h => absurd h (by decide))
            refine hv_iinc (v := nI (i + 1)) (lv1 := [(0, .ref (hv_sb w)), (1, .int (nI at9)), (2, .ref (o)), (3, .ref (q 0)), (4, .ref (q 1)), (5, .ref (q 2)), (6, .ref (q 3)), (7, .ref (q 4)), (8, .int (nI (i + 1))), (9, .int (nI v1)), (10, .int (nI v2))]) C dL_net_172 (k := 8) rfl (nI_1 _) (by decide) [1, 2, 3, 4, 5, 6, 7, 8, 0, 9, 10] rfl ?_
            refine hv_goto (tgt := 39) C dL_net_175 (by decide) ?_
            refine hv_widen (k := 110 + 407 * (i + 1)) (n := 700 + 4046 * (i + 1)) (by first | (show 110 + 407 * i + 401 ≤ _; omega) | (show 110 + 407 * i + 401 + 6 ≤ _; omega)) (by first | (show 700 + 4046 * i + 4006 ≤ _; omega) | (show 700 + 4046 * i + 4006 + 40 ≤ _; omega)) ?_
            exact hv_sub (lv1 := [(0, .ref (hv_sb w)), (1, .int (nI at9)), (2, .ref (o)), (3, .ref (q 0)), (4, .ref (q 1)), (5, .ref (q 2)), (6, .ref (q 3)), (7, .ref (q 4)), (8, .int (nI (i + 1)))]) [0, 1, 2, 3, 4, 5, 6, 7, 8] rfl (ih _ ⟨F1, A1, hS7, hL1⟩)
      · intro k19
        refine hv_iload C dL_net_79 8 rfl ?_
        refine hv_bipush (v := nI 9) C dL_net_81 (by decide) ?_
        refine hv_icmpN_ge (tgt := 90) C dL_net_83 (by decide) (by omega) (by omega) (fun h30 => ?_) (fun h30 => ?_)
        · skip
          refine hv_iload C dL_net_90 8 rfl ?_
          refine hv_bipush (v := nI 12) C dL_net_92 (by decide) ?_
          refine hv_icmpN_ge (tgt := 102) C dL_net_94 (by decide) (by omega) (by omega) (fun h31 => ?_) (fun h31 => ?_)
          · skip
            refine hv_aload_n C dL_net_102 rfl 0 rfl ?_
            refine hv_iload_n C dL_net_103 rfl 1 rfl ?_
            refine hv_iconst (v := nI 3) C dL_net_104 (by decide) ?_
            refine hv_iload C dL_net_105 8 rfl ?_
            refine hv_imulN C dL_net_107 ?_
            refine hv_iaddN C dL_net_108 ?_
            refine hv_bipush (v := nI 22) C dL_net_109 (by decide) ?_
            refine hv_callSr (As := [.ref (hv_sb w), .int (nI (at9 + (3 * i))), .int (nI 22)]) (rest := [.ref (o)]) (n := 3) C (c_L_draw l w Y6 (at9 + (3 * i)) (22) (by omega) (by omega) (by omega) hLs) gL_net_L_draw rfl (by decide +kernel) ⟨(Nat.le_of_ble_eq_true rfl), (Nat.le_of_ble_eq_true rfl)⟩ rfl rfl (Nat.le_of_ble_eq_true rfl) dL_net_111 ⟨by first | exact Nat.le_of_ble_eq_true rfl | omega | (simp; done) | (simp; omega), by first | exact Nat.le_of_ble_eq_true rfl | omega | (simp; done) | (simp; omega)⟩ (fun r9 Y9 hr => ?_)
            obtain ⟨⟨v3, hv3, rfl⟩, hy9⟩ := hr; obtain rfl := hy9.symm
            exact k19 _ (by omega)
          · skip
            refine hv_bipush (v := nI 7) C dL_net_97 (by decide) ?_
            refine hv_goto (tgt := 114) C dL_net_99 (by decide) ?_
            exact k19 _ (by omega)
        · skip
          refine hv_iconst (v := nI 0) C dL_net_86 (by decide) ?_
          refine hv_goto (tgt := 114) C dL_net_87 (by decide) ?_
          exact k19 _ (by omega)
