/-! one round of the law: its worlds, its arguments, the comparing ends -/
def ob (w : hv_W) (oo : Nat) (f : Nat → Int64) : hv_H := hv_up (fun _ => none) oo (ob_c w f)
/-- class and reference are both at A -/
def lw_I (w : hv_W) (xo : Nat) (gm : md_g) (oo : Nat) (A : ab_A) (Y : hv_H) : Prop := ab_I A ∧ ∃ (gc : cl_g) (Z : ab_A) (th : Nat) (f : Nat → Int64), cl_ok gc (A 4 0) (A 15 0) ∧ cl_Z A Z ∧ cl_F gc (md_Y w gm A th (ob w oo f)) ∧ gc.1 0 0 = xo ∧ Y = cl_Y w gc A Z (md_Y w gm A th (ob w oo f))
def lw_cx (p : Program) (l : Launch) (s : State) (m : MethodId) (args : Array Value) (meth : Method) (c : Code) (w : hv_W) (b L : Nat) (xs : Nat → Int32) (gm : md_g) (oo : Nat) : Prop := hv_C RL code 7 wsL_law w p s m args meth c ∧ l.stackTraces = false ∧ va_X b L xs s s.heap ∧ b < s.heap.size ∧ hv_b w = s.heap.size ∧ md_ok gm ∧ oo ≠ gm.1 ∧ gm.2.2 oo = none ∧ L ≤ 2560
theorem md_oo {w : hv_W} {g : md_g} {A : ab_A} {th : Nat} {Y0 : hv_H} {oo : Nat} (h1 : oo ≠ g.1) (h2 : g.2.2 oo = none) : md_Y w g A th Y0 oo = Y0 oo := by
  unfold md_Y
  rw [if_neg h1, h2]
theorem md_oup {w : hv_W} {g : md_g} {A : ab_A} {th : Nat} {Y0 : hv_H} {oo : Nat} {e1 : hv_E} (h1 : oo ≠ g.1) (h2 : g.2.2 oo = none) : hv_up (md_Y w g A th Y0) oo e1 = md_Y w g A th (hv_up Y0 oo e1) := by
  funext a
  unfold hv_up md_Y
  by_cases ha : a = oo
  · subst ha
    rw [if_pos rfl, if_neg h1, h2]
    show _ = if a = a then some e1 else Y0 a
    rw [if_pos rfl]
  · rw [if_neg ha]
    by_cases hb : a = g.1
    · rw [if_pos hb, if_pos hb]
    · rw [if_neg hb, if_neg hb]
      cases z : g.2.2 a with
      | none =>
        show Y0 a = if a = oo then some e1 else Y0 a
        rw [if_neg ha]
      | some k => rfl
theorem ob_at {w : hv_W} {oo : Nat} {f : Nat → Int64} : ob w oo f oo = some (ob_c w f) := hv_up_s
theorem ob_upd {w : hv_W} {oo : Nat} {f f' : Nat → Int64} : hv_up (ob w oo f) oo (ob_c w f') = ob w oo f' := hv_upup
theorem md_dom {w : hv_W} {g : md_g} {A A' : ab_A} {th th' : Nat} {Y0 : hv_H} {a : Nat} (h : md_Y w g A th Y0 a = none) : md_Y w g A' th' Y0 a = none := by
  unfold md_Y at h ⊢
  by_cases hb : a = g.1
  · rw [if_pos hb] at h
    cases h
  · rw [if_neg hb] at h ⊢
    cases z : g.2.2 a with
    | none => rw [z] at h; exact h
    | some k => rw [z] at h; cases h
theorem md_F {w : hv_W} {gc : cl_g} {g : md_g} {A A' : ab_A} {th th' : Nat} {Y0 : hv_H} (h : cl_F gc (md_Y w g A th Y0)) : cl_F gc (md_Y w g A' th' Y0) := fun a q ha => md_dom (h a q ha)
theorem md_sw {w : hv_W} {gc : cl_g} {g : md_g} {A A' Z : ab_A} {th : Nat} {Y0 : hv_H} (h : cl_F gc (md_Y w g A th Y0)) : cl_Y w gc A' Z (md_Y w g A th Y0) = md_Y w g A th (cl_Y w gc A' Z Y0) := by
  funext a
  unfold cl_Y
  cases z : gc.2 a with
  | none =>
    show md_Y w g A th Y0 a = md_Y w g A th (fun a => match gc.2 a with | some q => some (cl_cell w gc.1 A' Z q.1 q.2) | none => Y0 a) a
    unfold md_Y
    by_cases hb : a = g.1
    · rw [if_pos hb, if_pos hb]
    · rw [if_neg hb, if_neg hb]
      cases y : g.2.2 a with
      | none => simp only [z]
      | some k => rfl
  | some q =>
    have h1 := h a q z
    unfold md_Y at h1 ⊢
    by_cases hb : a = g.1
    · rw [if_pos hb] at h1
      cases h1
    · rw [if_neg hb] at h1 ⊢
      cases y : g.2.2 a with
      | none => simp only [z]; rw [if_neg hb]
      | some k => rw [y] at h1; cases h1
theorem lw_wr {w : hv_W} {xo : Nat} {gm : md_g} {oo : Nat} {A A' : ab_A} {th : Nat} {f f' : Nat → Int64} {Y1 : hv_H} (h1 : oo ≠ gm.1) (h2 : gm.2.2 oo = none) (hS : cl_S w xo (hv_up (md_Y w gm A th (ob w oo f)) oo (ob_c w f')) A' Y1) : ∃ (gc : cl_g) (Z : ab_A), cl_ok gc (A' 4 0) (A' 15 0) ∧ cl_Z A' Z ∧ cl_F gc (md_Y w gm A th (ob w oo f')) ∧ gc.1 0 0 = xo ∧ Y1 = md_Y w gm A th (cl_Y w gc A' Z (ob w oo f')) := by
  obtain ⟨gc, Z, hg, hZ, hF, hx, rfl⟩ := hS
  rw [md_oup h1 h2, ob_upd] at hF ⊢
  exact ⟨gc, Z, hg, hZ, hF, hx, md_sw hF⟩
theorem lw_back {w : hv_W} {xo : Nat} {gm : md_g} {oo : Nat} {A A' : ab_A} {th th' : Nat} {f' : Nat → Int64} {gc : cl_g} {Z : ab_A} (hI : ab_I A') (hg : cl_ok gc (A' 4 0) (A' 15 0)) (hZ : cl_Z A' Z) (hF : cl_F gc (md_Y w gm A th (ob w oo f'))) (hx : gc.1 0 0 = xo) : lw_I w xo gm oo A' (md_Y w gm A' th' (cl_Y w gc A' Z (ob w oo f'))) := by
  have hF' : cl_F gc (md_Y w gm A' th' (ob w oo f')) := md_F hF
  exact ⟨hI, gc, Z, th', f', hg, hZ, hF', hx, (md_sw hF').symm⟩
section LW
variable {p : Program} {l : Launch} {e : Env} {s : State} {m : MethodId} {args : Array Value} {below : List Frame} {meth : Method} {c : Code} {w : hv_W} {Q : State → Prop} {cells slots : Nat} {Y : hv_H} {lv : List (Nat × Value)} {pc : Nat} {rest : List Value} {Ts : List Cond} {xs : Nat → Int32} {b L i xo oo : Nat} {gm : md_g} {A : ab_A}
/-- script[i + k] -/
theorem lw_arg (C : hv_C RL code 7 Ts w p s m args meth c) (hX : va_X b L xs s s.heap) (hbl : b < s.heap.size) (hbw : hv_b w = s.heap.size) (k : Nat) {kz : Int} (hk : Int32.ofInt kz = nI k) (hik : i + k < L) (hL : L < 2 ^ 31) (h0 : lv[0]? = some (0, .ref b)) (h4 : lv[4]? = some (4, .int (nI i))) (d0 : decode code pc = .ok (.aload_n 0, 1)) (d1 : decode code (pc + 1) = .ok (.iload 4, 2)) (d2 : decode code (pc + 3) = .ok (.iconst kz, 1)) (d3 : decode code (pc + 4) = .ok (.iadd, 1)) (d4 : decode code (pc + 5) = .ok (.iaload, 1)) (kk : hv_V p l e room_1 s m args below meth c w 7 Q cells slots Y lv (pc + 6) (.int (xs (i + k)) :: rest)) : hv_V p l e room_1 s m args below meth c w 7 Q cells slots Y lv pc rest := by
  refine hv_aload_n C d0 rfl 0 h0 ?_
  refine hv_iload C d1 4 h4 ?_
  refine hv_iconst (v := nI k) C d2 hk ?_
  refine hv_iaddN C d3 ?_
  exact hv_sld C hX hbl hbw hik hL d4 kk
abbrev lw_lv (b xo : Nat) (gm : md_g) (oo i : Nat) : List (Nat × Value) := [(0, .ref b), (1, .ref xo), (2, .ref gm.1), (3, .ref oo), (4, .int (nI i))]
/-- an answer as an int is compared -/
theorem lw_tailI (C : hv_C RL code 7 wsL_law w p s m args meth c) (hgm : md_ok gm) {q : sp_R} {A' : ab_A} {Y0' : hv_H} {f : Nat → Int64} {off : Int} (h3 : q.1 ≤ 3) (hoo : md_Y w gm A' q.1 Y0' oo = some (ob_c w f)) (hf : q.1 = 0 → f 0 = q.2.1.toInt64) (hcs : cells ≤ 627379) (hss : slots ≤ 7213967) (d0 : decode code pc = .ok (.istore 6, 2)) (d2 : decode code (pc + 2) = .ok (.aload_n 2, 1)) (d3 : decode code (pc + 3) = .ok (.invokevirtual 98, 3)) (d6 : decode code (pc + 6) = .ok (.iload 5, 2)) (d8 : decode code (pc + 8) = .ok (.if_icmp .eq 5, 3)) (d13 : decode code (pc + 13) = .ok (.iload 5, 2)) (d15 : decode code (pc + 15) = .ok (.ifCond .ne 15, 3)) (d18 : decode code (pc + 18) = .ok (.aload_n 3, 1)) (d19 : decode code (pc + 19) = .ok (.iconst 0, 1)) (d20 : decode code (pc + 20) = .ok (.laload, 1)) (d21 : decode code (pc + 21) = .ok (.iload 6, 2)) (d23 : decode code (pc + 23) = .ok (.i2l, 1)) (d24 : decode code (pc + 24) = .ok (.lcmp, 1)) (d25 : decode code (pc + 25) = .ok (.ifCond .eq 5, 3)) (d30 : decode code (pc + 30) = .ok (.goto off, 3)) (ht : ((pc + 30 : Nat) : Int) + off = ((1701 : Nat) : Int)) (kk : hv_V p l e room_1 s m args below meth c w 7 Q cells slots (md_Y w gm A' q.1 Y0') (lw_lv b xo gm oo i) 1701 []) : hv_V p l e room_1 s m args below meth c w 7 Q cells slots (md_Y w gm A' q.1 Y0') [(0, .ref b), (1, .ref xo), (2, .ref gm.1), (3, .ref oo), (4, .int (nI i)), (5, .int (nI q.1))] pc [.int (if q.1 = 0 then q.2.1 else nI 0)] := by
  refine hv_istore (lv1 := [(0, .ref b), (1, .ref xo), (2, .ref gm.1), (3, .ref oo), (4, .int (nI i)), (5, .int (nI q.1)), (6, .int (if q.1 = 0 then q.2.1 else nI 0))]) C d0 (by decide) [1, 2, 3, 4, 5, 6, 0] rfl ?_
  refine hv_aload_n C d2 rfl 2 rfl ?_
  refine hv_callVr (As := []) (rest := []) (n := 0) C (c_X5_thrown l w gm hgm A' q.1 Y0') gL_law_X5_thrown rfl (by decide +kernel) ⟨Nat.le_of_ble_eq_true rfl, Nat.le_of_ble_eq_true rfl⟩ (hv_rcO md_o rfl) rfl rfl (Nat.le_of_ble_eq_true rfl) d3 ⟨hcs, hss⟩ (fun r Y1 hr => ?_)
  obtain ⟨rfl, rfl⟩ := hr
  refine hv_iload C d6 5 rfl ?_
  refine hv_icmp_eq (tgt := pc + 13) C d8 (by omega) (fun _ => ?_) (fun h => absurd rfl h)
  refine hv_iload C d13 5 rfl ?_
  by_cases h0 : q.1 = 0
  · refine hv_if_ne (tgt := pc + 30) C d15 (by omega) (fun h => absurd (by rw [h0]; rfl) h) (fun _ => ?_)
    refine hv_aload_n C d18 rfl 3 rfl ?_
    refine hv_iconst (v := nI 0) C d19 (by decide) ?_
    refine hv_lald (n := 1) (f := f) C hoo (vp_in_nI (by decide) (by decide)) d20 ?_
    refine hv_iload C d21 6 rfl ?_
    refine hv_top (y := q.2.1) (if_pos h0) ?_
    refine hv_i2l (v := q.2.1.toInt64) C d23 rfl ?_
    refine hv_lcmpE C (by rw [nI_clamp (by decide)]; exact hf h0) d24 ?_
    refine hv_if_eq (tgt := pc + 30) C d25 (by omega) (fun _ => ?_) (fun h => absurd rfl h)
    refine hv_goto (tgt := 1701) C d30 ht ?_
    exact hv_sub (lv1 := lw_lv b xo gm oo i) [0, 1, 2, 3, 4] rfl kk
  · refine hv_if_ne (tgt := pc + 30) C d15 (by omega) (fun _ => ?_) (fun h => absurd ((nI_z (by omega)).mp h) h0)
    refine hv_goto (tgt := 1701) C d30 ht ?_
    exact hv_sub (lv1 := lw_lv b xo gm oo i) [0, 1, 2, 3, 4] rfl kk
/-- .. as a boolean -/
theorem lw_tailB (C : hv_C RL code 7 wsL_law w p s m args meth c) (hgm : md_ok gm) {q : sp_R} {A' : ab_A} {Y0' : hv_H} {f : Nat → Int64} {off : Int} (h3 : q.1 ≤ 3) (hoo : md_Y w gm A' q.1 Y0' oo = some (ob_c w f)) (hf : q.1 = 0 → f 0 = if q.2.1 = 0 then 0 else 1) (hcs : cells ≤ 627379) (hss : slots ≤ 7213967) (d0 : decode code pc = .ok (.istore 6, 2)) (d2 : decode code (pc + 2) = .ok (.aload_n 2, 1)) (d3 : decode code (pc + 3) = .ok (.invokevirtual 98, 3)) (d6 : decode code (pc + 6) = .ok (.iload 5, 2)) (d8 : decode code (pc + 8) = .ok (.if_icmp .eq 5, 3)) (d13 : decode code (pc + 13) = .ok (.iload 5, 2)) (d15 : decode code (pc + 15) = .ok (.ifCond .ne 22, 3)) (d18 : decode code (pc + 18) = .ok (.aload_n 3, 1)) (d19 : decode code (pc + 19) = .ok (.iconst 0, 1)) (d20 : decode code (pc + 20) = .ok (.laload, 1)) (d21 : decode code (pc + 21) = .ok (.iload 6, 2)) (d23 : decode code (pc + 23) = .ok (.ifCond .eq 7, 3)) (d26 : decode code (pc + 26) = .ok (.lconst 1, 1)) (d27 : decode code (pc + 27) = .ok (.goto 4, 3)) (d30 : decode code (pc + 30) = .ok (.lconst 0, 1)) (d31 : decode code (pc + 31) = .ok (.lcmp, 1)) (d32 : decode code (pc + 32) = .ok (.ifCond .eq 5, 3)) (d37 : decode code (pc + 37) = .ok (.goto off, 3)) (ht : ((pc + 37 : Nat) : Int) + off = ((1701 : Nat) : Int)) (kk : hv_V p l e room_1 s m args below meth c w 7 Q cells slots (md_Y w gm A' q.1 Y0') (lw_lv b xo gm oo i) 1701 []) : hv_V p l e room_1 s m args below meth c w 7 Q cells slots (md_Y w gm A' q.1 Y0') [(0, .ref b), (1, .ref xo), (2, .ref gm.1), (3, .ref oo), (4, .int (nI i)), (5, .int (nI q.1))] pc [.int (if q.1 = 0 then q.2.1 else nI 0)] := by
  refine hv_istore (lv1 := [(0, .ref b), (1, .ref xo), (2, .ref gm.1), (3, .ref oo), (4, .int (nI i)), (5, .int (nI q.1)), (6, .int (if q.1 = 0 then q.2.1 else nI 0))]) C d0 (by decide) [1, 2, 3, 4, 5, 6, 0] rfl ?_
  refine hv_aload_n C d2 rfl 2 rfl ?_
  refine hv_callVr (As := []) (rest := []) (n := 0) C (c_X5_thrown l w gm hgm A' q.1 Y0') gL_law_X5_thrown rfl (by decide +kernel) ⟨Nat.le_of_ble_eq_true rfl, Nat.le_of_ble_eq_true rfl⟩ (hv_rcO md_o rfl) rfl rfl (Nat.le_of_ble_eq_true rfl) d3 ⟨hcs, hss⟩ (fun r Y1 hr => ?_)
  obtain ⟨rfl, rfl⟩ := hr
  refine hv_iload C d6 5 rfl ?_
  refine hv_icmp_eq (tgt := pc + 13) C d8 (by omega) (fun _ => ?_) (fun h => absurd rfl h)
  refine hv_iload C d13 5 rfl ?_
  by_cases h0 : q.1 = 0
  · refine hv_if_ne (tgt := pc + 37) C d15 (by omega) (fun h => absurd (by rw [h0]; rfl) h) (fun _ => ?_)
    refine hv_aload_n C d18 rfl 3 rfl ?_
    refine hv_iconst (v := nI 0) C d19 (by decide) ?_
    refine hv_lald (n := 1) (f := f) C hoo (vp_in_nI (by decide) (by decide)) d20 ?_
    refine hv_iload C d21 6 rfl ?_
    refine hv_top (y := q.2.1) (if_pos h0) ?_
    refine hv_bitL (p1 := pc + 26) (p2 := pc + 27) (p3 := pc + 30) (p4 := pc + 31) C rfl rfl rfl rfl d23 d26 d27 d30 ?_
    refine hv_lcmpE C (by rw [nI_clamp (by decide)]; exact hf h0) d31 ?_
    refine hv_if_eq (tgt := pc + 37) C d32 (by omega) (fun _ => ?_) (fun h => absurd rfl h)
    refine hv_goto (tgt := 1701) C d37 ht ?_
    exact hv_sub (lv1 := lw_lv b xo gm oo i) [0, 1, 2, 3, 4] rfl kk
  · refine hv_if_ne (tgt := pc + 37) C d15 (by omega) (fun _ => ?_) (fun h => absurd ((nI_z (by omega)).mp h) h0)
    refine hv_goto (tgt := 1701) C d37 ht ?_
    exact hv_sub (lv1 := lw_lv b xo gm oo i) [0, 1, 2, 3, 4] rfl kk
end LW
/-! what the reference's contracts ask of the state -/
theorem I4 {A : ab_A} (hI : ab_I A) : A 4 0 ≤ 14 := hI.2.2.2.1
theorem I15 {A : ab_A} (hI : ab_I A) : A 15 0 ≤ 40 := hI.2.2.2.2.2.2.1
theorem I0 {A : ab_A} (hI : ab_I A) : ∀ b, b < 8 → A 0 b ≤ 200 := fun b hb => (hI.1 b hb).2.1
theorem I2 {A : ab_A} (hI : ab_I A) : ∀ b, b < 8 → A 2 b ≤ 6 := fun b hb => (hI.1 b hb).2.2.2.2
theorem I9 {A : ab_A} (hI : ab_I A) : ∀ j, j < A 4 0 → A 9 j ≤ 1 := fun j hj => (hI.2.2.2.2.1 j hj).2.2.2.2.2.2
theorem IWt {A : ab_A} (hI : ab_I A) : ∀ j, j < A 4 0 → A 5 j < 8 ∧ A 6 j < 8 ∧ A 7 j ≤ 9 ∧ A 9 j ≤ 1 := fun j hj => by
  obtain ⟨g1, g2, g3, g4, g5, g6, g7⟩ := hI.2.2.2.2.1 j hj
  exact ⟨g1, g2, g5, g7⟩
theorem IWc {A : ab_A} (hI : ab_I A) : ∀ j, j < A 4 0 → A 5 j < 8 ∧ A 6 j < 8 := fun j hj => ⟨(hI.2.2.2.2.1 j hj).1, (hI.2.2.2.2.1 j hj).2.1⟩
theorem IWp {A : ab_A} (hI : ab_I A) : ∀ j, j < A 4 0 → A 5 j < 8 ∧ A 8 j ≤ 9 ∧ A 9 j ≤ 1 := fun j hj => by
  obtain ⟨g1, g2, g3, g4, g5, g6, g7⟩ := hI.2.2.2.2.1 j hj
  exact ⟨g1, g6, g7⟩
theorem I11 {A : ab_A} (hI : ab_I A) : ∀ k, k < 64 → A 11 k ≤ 41 := fun k hk => by
  have h := (hI.2.2.2.2.2.1 (k / 8) (k % 8) (by omega) (by omega)).1
  rw [show 8 * (k / 8) + k % 8 = k by omega] at h
  exact h
theorem I12 {A : ab_A} (hI : ab_I A) : ∀ k, k < 64 → A 12 k ≤ A 4 0 := fun k hk => by
  have h := (hI.2.2.2.2.2.1 (k / 8) (k % 8) (by omega) (by omega)).2.1
  rw [show 8 * (k / 8) + k % 8 = k by omega] at h
  exact h
theorem I21 {A : ab_A} (hI : ab_I A) : ∀ j, j < A 15 0 → A 21 j ≤ 2 := fun j hj => (hI.2.2.2.2.2.2.2.2.1 j hj).2.2.1
theorem I_look {A : ab_A} (hI : ab_I A) (n : Nat) : ab_I (f_look A n) := by
  refine I_tab hI (fun k h => ?_) (fun b o hb ho => ?_)
  · funext i
    simp [f_look, h.2.2.1, h.2.2.2]
  · have h11 : f_look A n 11 = A 11 := by funext i; simp [f_look]
    have h12 : f_look A n 12 = A 12 := by funext i; simp [f_look]
    rw [h11, h12]
    exact hI.2.2.2.2.2.1 b o hb ho
theorem f_look_k (A : ab_A) (n : Nat) {k : Nat} (h1 : k ≠ 13) (h2 : k ≠ 14) : f_look A n k = A k := by
  funext i
  simp [f_look, h1, h2]
theorem I_qwater {A : ab_A} (hI : ab_I A) (x : Int32) : ab_I (q_water A x).2.2 := by
  unfold q_water
  split <;> exact hI
theorem I_qcost {A : ab_A} (hI : ab_I A) (x : Int32) : ab_I (q_cost A x).2.2 := by
  unfold q_cost
  split <;> exact hI
theorem I_qcanPass {A : ab_A} (hI : ab_I A) (x : Int32) : ab_I (q_canPass A x).2.2 := by
  unfold q_canPass
  split <;> exact hI
theorem I_qdistance {A : ab_A} (hI : ab_I A) (x y : Int32) : ab_I (q_distance A x y).2.2 := by
  unfold q_distance
  split <;> exact hI
theorem I_qcanalTo {A : ab_A} (hI : ab_I A) (x y : Int32) : ab_I (q_canalTo A x y).2.2 := by
  unfold q_canalTo
  split <;> exact hI
theorem I_qisLoop {A : ab_A} (hI : ab_I A) (x y : Int32) : ab_I (q_isLoop A x y).2.2 := by
  unfold q_isLoop
  split <;> exact hI
theorem I_qbarge {A : ab_A} (hI : ab_I A) (x : Int32) (k : Nat) : ab_I (q_barge A x k).2.2 := by
  unfold q_barge
  split <;> exact hI
theorem I_qqueue {A : ab_A} (hI : ab_I A) (x : Int32) : ab_I (q_queue A x).2.2 := by
  unfold q_queue
  split <;> exact hI
theorem I_qqueued {A : ab_A} (hI : ab_I A) (x y : Int32) : ab_I (q_queued A x y).2.2 := by
  unfold q_queued
  split
  · split
    · exact hI
    · split <;> exact hI
  · exact hI
theorem bit_le {x : Int32} : (if x = 0 then 0 else 1 : Nat) ≤ 1 := by split <;> decide
