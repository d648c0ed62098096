theorem lw_upd0 {f : Nat → Int64} {x : Int64} : vp_updL f (nI 0).toNatClampNeg x 0 = x := by
  rw [nI_clamp (by decide)]
  exact if_pos rfl
theorem qk_dig {A : ab_A} (u : Int32) (v : Int32) (x : Int32) (y : Int32) : (q_dig A u v x y).1 ≠ 0 → (q_dig A u v x y).2.2 = A := by
  unfold q_dig
  (repeat' split) <;> simp
set_option maxRecDepth 100000 in
set_option maxHeartbeats 1000000 in
theorem c_L_dig (l : Launch) (w : hv_W) (g : cl_g) (A Z : ab_A) (Y0 : hv_H) (hg : cl_ok g (A 4 0) (A 15 0)) (hlt : l.stackTraces = false) (hI : ab_I A) (hZ : cl_Z A Z) (hF : cl_F g Y0) (o9 : Nat) (f : Nat → Int64) (ho : Y0 o9 = some (ob_c w f)) (u : Int32) (v : Int32) (x : Int32) (y : Int32) : hv_Mr l yL_dig wsL_dig ({ frames := 8, cells := 8, slots := 100, locals := 198 }) w [.ref (g.1 0 0), .int u, .int v, .int x, .int y, .ref o9] (cl_Y w g A Z Y0) (lw_post w (g.1 0 0) o9 Y0 (q_dig A u v x y) (q_dig A u v x y).2.1.toInt64) := by
  refine hv_ofVH (cc := cL_dig) (own := RL) (by decide) rfl rfl (Nat.le_of_ble_eq_true rfl) rfl ?_
  intro p e s m below meth c C hret htab
  refine hv_aload C dL_dig_0 5 rfl ?_
  refine hv_iconst (v := nI 0) C dL_dig_2 (by decide) ?_
  refine hv_aload_n C dL_dig_3 rfl 0 rfl ?_
  refine hv_iload_n C dL_dig_4 rfl 1 rfl ?_
  refine hv_iload_n C dL_dig_5 rfl 2 rfl ?_
  refine hv_iload_n C dL_dig_6 rfl 3 rfl ?_
  refine hv_iload C dL_dig_7 4 rfl ?_
  refine hv_callVrh (As := [.int u, .int v, .int x, .int y]) (rest := [.int (nI 0), .ref o9]) (n := 4) C (c_X4_dig l w g A Z Y0 hg hlt hI hZ hF u v x y) gL_dig_X4_dig rfl (by decide +kernel) ⟨(Nat.le_of_ble_eq_true rfl), (Nat.le_of_ble_eq_true rfl)⟩ (cl_rc hg (Or.inl ⟨by decide, rfl⟩) rfl rfl) rfl rfl (Nat.le_of_ble_eq_true rfl) dL_dig_9 ⟨(Nat.le_of_ble_eq_true rfl), (Nat.le_of_ble_eq_true rfl)⟩ (fun E Y1 hE => ?_) (fun r Y1 hr => ?_)
  · obtain ⟨hE, rfl⟩ := hE
    have hE : (E = hv_IO ∧ (q_dig A u v x y).1 = 1) ∨ (E = hv_IA ∧ (q_dig A u v x y).1 = 2) ∨ (E = hv_IS ∧ (q_dig A u v x y).1 = 3) := hE
    rcases hE with ⟨rfl, hq⟩ | ⟨rfl, hq⟩ | ⟨rfl, hq⟩
    · refine ⟨[], ⟨0, 14, 17, 13⟩, [⟨0, 14, 21, 15⟩, ⟨0, 14, 25, 17⟩], hv_IO, htab, fun z hz => absurd hz List.not_mem_nil, by decide, by decide, by decide +kernel, hv_cE C hv_nIO, fun q9 => ?_⟩
      refine hv_astore (lv1 := []) C dL_dig_17 (by decide) [] rfl ?_
      refine hv_iconst (v := nI 1) C dL_dig_19 (by decide) ?_
      exact hv_iret C hret dL_dig_20 (Nat.le_of_ble_eq_true rfl) (Nat.le_of_ble_eq_true rfl) (lw_postE hg hZ hF ho hq (by decide) (by decide) (qk_dig u v x y))
    · refine ⟨[⟨0, 14, 17, 13⟩], ⟨0, 14, 21, 15⟩, [⟨0, 14, 25, 17⟩], hv_IA, htab, fun z hz => by
        rw [List.mem_singleton.mp hz]
        exact Or.inr ⟨by decide, hv_IO, by decide +kernel, hv_ncA C⟩, by decide, by decide, by decide +kernel, hv_cE C hv_nIA, fun q9 => ?_⟩
      refine hv_astore (lv1 := []) C dL_dig_21 (by decide) [] rfl ?_
      refine hv_iconst (v := nI 2) C dL_dig_23 (by decide) ?_
      exact hv_iret C hret dL_dig_24 (Nat.le_of_ble_eq_true rfl) (Nat.le_of_ble_eq_true rfl) (lw_postE hg hZ hF ho hq (by decide) (by decide) (qk_dig u v x y))
    · refine ⟨[⟨0, 14, 17, 13⟩, ⟨0, 14, 21, 15⟩], ⟨0, 14, 25, 17⟩, [], hv_IS, htab, fun z hz => by
        rcases List.mem_cons.mp hz with h | hz
        · rw [h]
          exact Or.inr ⟨by decide, hv_IO, by decide +kernel, hv_ncB C⟩
        · rw [List.mem_singleton.mp hz]
          exact Or.inr ⟨by decide, hv_IA, by decide +kernel, hv_ncC C⟩, by decide, by decide, by decide +kernel, hv_cE C hv_nIS, fun q9 => ?_⟩
      refine hv_astore (lv1 := []) C dL_dig_25 (by decide) [] rfl ?_
      refine hv_iconst (v := nI 3) C dL_dig_27 (by decide) ?_
      exact hv_iret C hret dL_dig_28 (Nat.le_of_ble_eq_true rfl) (Nat.le_of_ble_eq_true rfl) (lw_postE hg hZ hF ho hq (by decide) (by decide) (qk_dig u v x y))
  · obtain ⟨hq, rfl, g1, Z1, hg1, hZ1, hF1, ho1, rfl⟩ := hr
    refine hv_i2l (v := (q_dig A u v x y).2.1.toInt64) C dL_dig_12 rfl ?_
    refine hv_last (n := 1) (f := f) C ((cl_oat (cl_out (w := w) (A := A) (Z := Z) hF1 ho)).trans ho) (vp_in_nI (by decide) (by decide)) dL_dig_13 ?_
    refine hv_goto (tgt := 29) C dL_dig_14 (by decide) ?_
    refine hv_iconst (v := nI 0) C dL_dig_29 (by decide) ?_
    exact hv_iret C hret dL_dig_30 (Nat.le_of_ble_eq_true rfl) (Nat.le_of_ble_eq_true rfl) (lw_postR (f' := vp_updL f (nI 0).toNatClampNeg (q_dig A u v x y).2.1.toInt64) hg1 hZ1 hF1 ho ho1 hq rfl lw_upd0)
theorem qk_setGate {A : ab_A} (x : Int32) (o : Nat) : (q_setGate A x o).1 ≠ 0 → (q_setGate A x o).2.2 = A := by
  unfold q_setGate
  (repeat' split) <;> simp
set_option maxRecDepth 100000 in
set_option maxHeartbeats 1000000 in
theorem c_L_setGate (l : Launch) (w : hv_W) (g : cl_g) (A Z : ab_A) (Y0 : hv_H) (hg : cl_ok g (A 4 0) (A 15 0)) (hlt : l.stackTraces = false) (hI : ab_I A) (hZ : cl_Z A Z) (hF : cl_F g Y0) (o9 : Nat) (f : Nat → Int64) (ho : Y0 o9 = some (ob_c w f)) (x : Int32) (o : Nat) (hob : o ≤ 1) : hv_Mr l yL_setGate wsL_setGate ({ frames := 8, cells := 6, slots := 40, locals := 175 }) w [.ref (g.1 0 0), .int x, .int (nI o), .ref o9] (cl_Y w g A Z Y0) (lw_post w (g.1 0 0) o9 Y0 (q_setGate A x o) (if (q_setGate A x o).2.1 = 0 then 0 else 1)) := by
  refine hv_ofVH (cc := cL_setGate) (own := RL) (by decide) rfl rfl (Nat.le_of_ble_eq_true rfl) rfl ?_
  intro p e s m below meth c C hret htab
  refine hv_aload_n C dL_setGate_0 rfl 3 rfl ?_
  refine hv_iconst (v := nI 0) C dL_setGate_1 (by decide) ?_
  refine hv_aload_n C dL_setGate_2 rfl 0 rfl ?_
  refine hv_iload_n C dL_setGate_3 rfl 1 rfl ?_
  refine hv_iload_n C dL_setGate_4 rfl 2 rfl ?_
  refine hv_callVrh (As := [.int x, .int (nI o)]) (rest := [.int (nI 0), .ref o9]) (n := 2) C (c_X4_setGate l w g A Z Y0 hg hlt hI hZ hF x o hob) gL_setGate_X4_setGate rfl (by decide +kernel) ⟨(Nat.le_of_ble_eq_true rfl), (Nat.le_of_ble_eq_true rfl)⟩ (cl_rc hg (Or.inl ⟨by decide, rfl⟩) rfl rfl) rfl rfl (Nat.le_of_ble_eq_true rfl) dL_setGate_5 ⟨(Nat.le_of_ble_eq_true rfl), (Nat.le_of_ble_eq_true rfl)⟩ (fun E Y1 hE => ?_) (fun r Y1 hr => ?_)
  · obtain ⟨hE, rfl⟩ := hE
    have hE : (E = hv_IO ∧ (q_setGate A x o).1 = 1) := hE
    rcases hE with ⟨rfl, hq⟩
    · refine ⟨[], ⟨0, 17, 20, 13⟩, [], hv_IO, htab, fun z hz => absurd hz List.not_mem_nil, by decide, by decide, by decide +kernel, hv_cE C hv_nIO, fun q9 => ?_⟩
      refine hv_astore (lv1 := []) C dL_setGate_20 (by decide) [] rfl ?_
      refine hv_iconst (v := nI 1) C dL_setGate_22 (by decide) ?_
      exact hv_iret C hret dL_setGate_23 (Nat.le_of_ble_eq_true rfl) (Nat.le_of_ble_eq_true rfl) (lw_postE hg hZ hF ho hq (by decide) (by decide) (qk_setGate x o))
  · obtain ⟨hq, rfl, g1, Z1, hg1, hZ1, hF1, ho1, rfl⟩ := hr
    refine hv_bitL (p1 := 11) (p2 := 12) (p3 := 15) (p4 := 16) C rfl rfl rfl rfl dL_setGate_8 dL_setGate_11 dL_setGate_12 dL_setGate_15 ?_
    refine hv_last (n := 1) (f := f) C ((cl_oat (cl_out (w := w) (A := A) (Z := Z) hF1 ho)).trans ho) (vp_in_nI (by decide) (by decide)) dL_setGate_16 ?_
    refine hv_goto (tgt := 24) C dL_setGate_17 (by decide) ?_
    refine hv_iconst (v := nI 0) C dL_setGate_24 (by decide) ?_
    exact hv_iret C hret dL_setGate_25 (Nat.le_of_ble_eq_true rfl) (Nat.le_of_ble_eq_true rfl) (lw_postR (f' := vp_updL f (nI 0).toNatClampNeg (if (q_setGate A x o).2.1 = 0 then 0 else 1)) hg1 hZ1 hF1 ho ho1 hq rfl lw_upd0)
theorem qk_setMark {A : ab_A} (x : Int32) (y : Int32) : (q_setMark A x y).1 ≠ 0 → (q_setMark A x y).2.2 = A := by
  unfold q_setMark
  (repeat' split) <;> simp
set_option maxRecDepth 100000 in
set_option maxHeartbeats 1000000 in
theorem c_L_setMark (l : Launch) (w : hv_W) (g : cl_g) (A Z : ab_A) (Y0 : hv_H) (hg : cl_ok g (A 4 0) (A 15 0)) (hlt : l.stackTraces = false) (hI : ab_I A) (hZ : cl_Z A Z) (hF : cl_F g Y0) (o9 : Nat) (f : Nat → Int64) (ho : Y0 o9 = some (ob_c w f)) (x : Int32) (y : Int32) : hv_Mr l yL_setMark wsL_setMark ({ frames := 8, cells := 6, slots := 40, locals := 176 }) w [.ref (g.1 0 0), .int x, .int y, .ref o9] (cl_Y w g A Z Y0) (lw_post w (g.1 0 0) o9 Y0 (q_setMark A x y) (q_setMark A x y).2.1.toInt64) := by
  refine hv_ofVH (cc := cL_setMark) (own := RL) (by decide) rfl rfl (Nat.le_of_ble_eq_true rfl) rfl ?_
  intro p e s m below meth c C hret htab
  refine hv_aload_n C dL_setMark_0 rfl 3 rfl ?_
  refine hv_iconst (v := nI 0) C dL_setMark_1 (by decide) ?_
  refine hv_aload_n C dL_setMark_2 rfl 0 rfl ?_
  refine hv_iload_n C dL_setMark_3 rfl 1 rfl ?_
  refine hv_iload_n C dL_setMark_4 rfl 2 rfl ?_
  refine hv_callVrh (As := [.int x, .int y]) (rest := [.int (nI 0), .ref o9]) (n := 2) C (c_X4_setMark l w g A Z Y0 hg hlt hI hZ hF x y) gL_setMark_X4_setMark rfl (by decide +kernel) ⟨(Nat.le_of_ble_eq_true rfl), (Nat.le_of_ble_eq_true rfl)⟩ (cl_rc hg (Or.inl ⟨by decide, rfl⟩) rfl rfl) rfl rfl (Nat.le_of_ble_eq_true rfl) dL_setMark_5 ⟨(Nat.le_of_ble_eq_true rfl), (Nat.le_of_ble_eq_true rfl)⟩ (fun E Y1 hE => ?_) (fun r Y1 hr => ?_)
  · obtain ⟨hE, rfl⟩ := hE
    have hE : (E = hv_IO ∧ (q_setMark A x y).1 = 1) ∨ (E = hv_IA ∧ (q_setMark A x y).1 = 2) := hE
    rcases hE with ⟨rfl, hq⟩ | ⟨rfl, hq⟩
    · refine ⟨[], ⟨0, 10, 13, 13⟩, [⟨0, 10, 17, 15⟩], hv_IO, htab, fun z hz => absurd hz List.not_mem_nil, by decide, by decide, by decide +kernel, hv_cE C hv_nIO, fun q9 => ?_⟩
      refine hv_astore (lv1 := []) C dL_setMark_13 (by decide) [] rfl ?_
      refine hv_iconst (v := nI 1) C dL_setMark_15 (by decide) ?_
      exact hv_iret C hret dL_setMark_16 (Nat.le_of_ble_eq_true rfl) (Nat.le_of_ble_eq_true rfl) (lw_postE hg hZ hF ho hq (by decide) (by decide) (qk_setMark x y))
    · refine ⟨[⟨0, 10, 13, 13⟩], ⟨0, 10, 17, 15⟩, [], hv_IA, htab, fun z hz => by
        rw [List.mem_singleton.mp hz]
        exact Or.inr ⟨by decide, hv_IO, by decide +kernel, hv_ncA C⟩, by decide, by decide, by decide +kernel, hv_cE C hv_nIA, fun q9 => ?_⟩
      refine hv_astore (lv1 := []) C dL_setMark_17 (by decide) [] rfl ?_
      refine hv_iconst (v := nI 2) C dL_setMark_19 (by decide) ?_
      exact hv_iret C hret dL_setMark_20 (Nat.le_of_ble_eq_true rfl) (Nat.le_of_ble_eq_true rfl) (lw_postE hg hZ hF ho hq (by decide) (by decide) (qk_setMark x y))
  · obtain ⟨hq, rfl, g1, Z1, hg1, hZ1, hF1, ho1, rfl⟩ := hr
    refine hv_i2l (v := (q_setMark A x y).2.1.toInt64) C dL_setMark_8 rfl ?_
    refine hv_last (n := 1) (f := f) C ((cl_oat (cl_out (w := w) (A := A) (Z := Z) hF1 ho)).trans ho) (vp_in_nI (by decide) (by decide)) dL_setMark_9 ?_
    refine hv_goto (tgt := 21) C dL_setMark_10 (by decide) ?_
    refine hv_iconst (v := nI 0) C dL_setMark_21 (by decide) ?_
    exact hv_iret C hret dL_setMark_22 (Nat.le_of_ble_eq_true rfl) (Nat.le_of_ble_eq_true rfl) (lw_postR (f' := vp_updL f (nI 0).toNatClampNeg (q_setMark A x y).2.1.toInt64) hg1 hZ1 hF1 ho ho1 hq rfl lw_upd0)
theorem qk_rain {A : ab_A} (x : Int32) (y : Int32) : (q_rain A x y).1 ≠ 0 → (q_rain A x y).2.2 = A := by
  unfold q_rain
  (repeat' split) <;> simp
set_option maxRecDepth 100000 in
set_option maxHeartbeats 1000000 in
theorem c_L_rain (l : Launch) (w : hv_W) (g : cl_g) (A Z : ab_A) (Y0 : hv_H) (hg : cl_ok g (A 4 0) (A 15 0)) (hlt : l.stackTraces = false) (hI : ab_I A) (hZ : cl_Z A Z) (hF : cl_F g Y0) (o9 : Nat) (f : Nat → Int64) (ho : Y0 o9 = some (ob_c w f)) (x : Int32) (y : Int32) : hv_Mr l yL_rain wsL_rain ({ frames := 8, cells := 6, slots := 40, locals := 175 }) w [.ref (g.1 0 0), .int x, .int y, .ref o9] (cl_Y w g A Z Y0) (lw_post w (g.1 0 0) o9 Y0 (q_rain A x y) (q_rain A x y).2.1.toInt64) := by
  refine hv_ofVH (cc := cL_rain) (own := RL) (by decide) rfl rfl (Nat.le_of_ble_eq_true rfl) rfl ?_
  intro p e s m below meth c C hret htab
  refine hv_aload_n C dL_rain_0 rfl 3 rfl ?_
  refine hv_iconst (v := nI 0) C dL_rain_1 (by decide) ?_
  refine hv_aload_n C dL_rain_2 rfl 0 rfl ?_
  refine hv_iload_n C dL_rain_3 rfl 1 rfl ?_
  refine hv_iload_n C dL_rain_4 rfl 2 rfl ?_
  refine hv_callVrh (As := [.int x, .int y]) (rest := [.int (nI 0), .ref o9]) (n := 2) C (c_X4_rain l w g A Z Y0 hg hlt hI hZ hF x y) gL_rain_X4_rain rfl (by decide +kernel) ⟨(Nat.le_of_ble_eq_true rfl), (Nat.le_of_ble_eq_true rfl)⟩ (cl_rc hg (Or.inl ⟨by decide, rfl⟩) rfl rfl) rfl rfl (Nat.le_of_ble_eq_true rfl) dL_rain_5 ⟨(Nat.le_of_ble_eq_true rfl), (Nat.le_of_ble_eq_true rfl)⟩ (fun E Y1 hE => ?_) (fun r Y1 hr => ?_)
  · obtain ⟨hE, rfl⟩ := hE
    have hE : (E = hv_IO ∧ (q_rain A x y).1 = 1) ∨ (E = hv_IA ∧ (q_rain A x y).1 = 2) := hE
    rcases hE with ⟨rfl, hq⟩ | ⟨rfl, hq⟩
    · refine ⟨[], ⟨0, 10, 13, 13⟩, [⟨0, 10, 17, 15⟩], hv_IO, htab, fun z hz => absurd hz List.not_mem_nil, by decide, by decide, by decide +kernel, hv_cE C hv_nIO, fun q9 => ?_⟩
      refine hv_astore (lv1 := []) C dL_rain_13 (by decide) [] rfl ?_
      refine hv_iconst (v := nI 1) C dL_rain_15 (by decide) ?_
      exact hv_iret C hret dL_rain_16 (Nat.le_of_ble_eq_true rfl) (Nat.le_of_ble_eq_true rfl) (lw_postE hg hZ hF ho hq (by decide) (by decide) (qk_rain x y))
    · refine ⟨[⟨0, 10, 13, 13⟩], ⟨0, 10, 17, 15⟩, [], hv_IA, htab, fun z hz => by
        rw [List.mem_singleton.mp hz]
        exact Or.inr ⟨by decide, hv_IO, by decide +kernel, hv_ncA C⟩, by decide, by decide, by decide +kernel, hv_cE C hv_nIA, fun q9 => ?_⟩
      refine hv_astore (lv1 := []) C dL_rain_17 (by decide) [] rfl ?_
      refine hv_iconst (v := nI 2) C dL_rain_19 (by decide) ?_
      exact hv_iret C hret dL_rain_20 (Nat.le_of_ble_eq_true rfl) (Nat.le_of_ble_eq_true rfl) (lw_postE hg hZ hF ho hq (by decide) (by decide) (qk_rain x y))
  · obtain ⟨hq, rfl, g1, Z1, hg1, hZ1, hF1, ho1, rfl⟩ := hr
    refine hv_i2l (v := (q_rain A x y).2.1.toInt64) C dL_rain_8 rfl ?_
    refine hv_last (n := 1) (f := f) C ((cl_oat (cl_out (w := w) (A := A) (Z := Z) hF1 ho)).trans ho) (vp_in_nI (by decide) (by decide)) dL_rain_9 ?_
    refine hv_goto (tgt := 21) C dL_rain_10 (by decide) ?_
    refine hv_iconst (v := nI 0) C dL_rain_21 (by decide) ?_
    exact hv_iret C hret dL_rain_22 (Nat.le_of_ble_eq_true rfl) (Nat.le_of_ble_eq_true rfl) (lw_postR (f' := vp_updL f (nI 0).toNatClampNeg (q_rain A x y).2.1.toInt64) hg1 hZ1 hF1 ho ho1 hq rfl lw_upd0)
theorem qk_dry {A : ab_A} (x : Int32) : (q_dry A x).1 ≠ 0 → (q_dry A x).2.2 = A := by
  unfold q_dry
  (repeat' split) <;> simp
set_option maxRecDepth 100000 in
set_option maxHeartbeats 1000000 in
theorem c_L_dry (l : Launch) (w : hv_W) (g : cl_g) (A Z : ab_A) (Y0 : hv_H) (hg : cl_ok g (A 4 0) (A 15 0)) (hlt : l.stackTraces = false) (hI : ab_I A) (hZ : cl_Z A Z) (hF : cl_F g Y0) (o9 : Nat) (f : Nat → Int64) (ho : Y0 o9 = some (ob_c w f)) (x : Int32) : hv_Mr l yL_dry wsL_dry ({ frames := 8, cells := 6, slots := 40, locals := 175 }) w [.ref (g.1 0 0), .int x, .ref o9] (cl_Y w g A Z Y0) (lw_post w (g.1 0 0) o9 Y0 (q_dry A x) (q_dry A x).2.1.toInt64) := by
  refine hv_ofVH (cc := cL_dry) (own := RL) (by decide) rfl rfl (Nat.le_of_ble_eq_true rfl) rfl ?_
  intro p e s m below meth c C hret htab
  refine hv_aload_n C dL_dry_0 rfl 2 rfl ?_
  refine hv_iconst (v := nI 0) C dL_dry_1 (by decide) ?_
  refine hv_aload_n C dL_dry_2 rfl 0 rfl ?_
  refine hv_iload_n C dL_dry_3 rfl 1 rfl ?_
  refine hv_callVrh (As := [.int x]) (rest := [.int (nI 0), .ref o9]) (n := 1) C (c_X4_dry l w g A Z Y0 hg hlt hI hZ hF x) gL_dry_X4_dry rfl (by decide +kernel) ⟨(Nat.le_of_ble_eq_true rfl), (Nat.le_of_ble_eq_true rfl)⟩ (cl_rc hg (Or.inl ⟨by decide, rfl⟩) rfl rfl) rfl rfl (Nat.le_of_ble_eq_true rfl) dL_dry_4 ⟨(Nat.le_of_ble_eq_true rfl), (Nat.le_of_ble_eq_true rfl)⟩ (fun E Y1 hE => ?_) (fun r Y1 hr => ?_)
  · obtain ⟨hE, rfl⟩ := hE
    have hE : (E = hv_IA ∧ (q_dry A x).1 = 1) := hE
    rcases hE with ⟨rfl, hq⟩
    · refine ⟨[], ⟨0, 9, 12, 15⟩, [], hv_IA, htab, fun z hz => absurd hz List.not_mem_nil, by decide, by decide, by decide +kernel, hv_cE C hv_nIA, fun q9 => ?_⟩
      refine hv_astore_n (lv1 := []) C dL_dry_12 rfl (by decide) [] rfl ?_
      refine hv_iconst (v := nI 1) C dL_dry_13 (by decide) ?_
      exact hv_iret C hret dL_dry_14 (Nat.le_of_ble_eq_true rfl) (Nat.le_of_ble_eq_true rfl) (lw_postE hg hZ hF ho hq (by decide) (by decide) (qk_dry x))
  · obtain ⟨hq, rfl, g1, Z1, hg1, hZ1, hF1, ho1, rfl⟩ := hr
    refine hv_i2l (v := (q_dry A x).2.1.toInt64) C dL_dry_7 rfl ?_
    refine hv_last (n := 1) (f := f) C ((cl_oat (cl_out (w := w) (A := A) (Z := Z) hF1 ho)).trans ho) (vp_in_nI (by decide) (by decide)) dL_dry_8 ?_
    refine hv_goto (tgt := 15) C dL_dry_9 (by decide) ?_
    refine hv_iconst (v := nI 0) C dL_dry_15 (by decide) ?_
    exact hv_iret C hret dL_dry_16 (Nat.le_of_ble_eq_true rfl) (Nat.le_of_ble_eq_true rfl) (lw_postR (f' := vp_updL f (nI 0).toNatClampNeg (q_dry A x).2.1.toInt64) hg1 hZ1 hF1 ho ho1 hq rfl lw_upd0)
theorem qk_settle {A : ab_A} (x : Int32) : (q_settle A x).1 ≠ 0 → (q_settle A x).2.2 = A := by
  unfold q_settle
  (repeat' split) <;> simp
set_option maxRecDepth 100000 in
set_option maxHeartbeats 1000000 in
theorem c_L_settle (l : Launch) (w : hv_W) (g : cl_g) (A Z : ab_A) (Y0 : hv_H) (hg : cl_ok g (A 4 0) (A 15 0)) (hlt : l.stackTraces = false) (hI : ab_I A) (hZ : cl_Z A Z) (hF : cl_F g Y0) (o9 : Nat) (f : Nat → Int64) (ho : Y0 o9 = some (ob_c w f)) (x : Int32) : hv_Mr l yL_settle wsL_settle ({ frames := 8, cells := 6, slots := 40, locals := 176 }) w [.ref (g.1 0 0), .int x, .ref o9] (cl_Y w g A Z Y0) (lw_post w (g.1 0 0) o9 Y0 (q_settle A x) (q_settle A x).2.1.toInt64) := by
  refine hv_ofVH (cc := cL_settle) (own := RL) (by decide) rfl rfl (Nat.le_of_ble_eq_true rfl) rfl ?_
  intro p e s m below meth c C hret htab
  refine hv_aload_n C dL_settle_0 rfl 2 rfl ?_
  refine hv_iconst (v := nI 0) C dL_settle_1 (by decide) ?_
  refine hv_aload_n C dL_settle_2 rfl 0 rfl ?_
  refine hv_iload_n C dL_settle_3 rfl 1 rfl ?_
  refine hv_callVrh (As := [.int x]) (rest := [.int (nI 0), .ref o9]) (n := 1) C (c_X4_settle l w g A Z Y0 hg hlt hI hZ hF x) gL_settle_X4_settle rfl (by decide +kernel) ⟨(Nat.le_of_ble_eq_true rfl), (Nat.le_of_ble_eq_true rfl)⟩ (cl_rc hg (Or.inl ⟨by decide, rfl⟩) rfl rfl) rfl rfl (Nat.le_of_ble_eq_true rfl) dL_settle_4 ⟨(Nat.le_of_ble_eq_true rfl), (Nat.le_of_ble_eq_true rfl)⟩ (fun E Y1 hE => ?_) (fun r Y1 hr => ?_)
  · obtain ⟨hE, rfl⟩ := hE
    have hE : (E = hv_IA ∧ (q_settle A x).1 = 1) := hE
    rcases hE with ⟨rfl, hq⟩
    · refine ⟨[], ⟨0, 9, 12, 15⟩, [], hv_IA, htab, fun z hz => absurd hz List.not_mem_nil, by decide, by decide, by decide +kernel, hv_cE C hv_nIA, fun q9 => ?_⟩
      refine hv_astore_n (lv1 := []) C dL_settle_12 rfl (by decide) [] rfl ?_
      refine hv_iconst (v := nI 1) C dL_settle_13 (by decide) ?_
      exact hv_iret C hret dL_settle_14 (Nat.le_of_ble_eq_true rfl) (Nat.le_of_ble_eq_true rfl) (lw_postE hg hZ hF ho hq (by decide) (by decide) (qk_settle x))
  · obtain ⟨hq, rfl, g1, Z1, hg1, hZ1, hF1, ho1, rfl⟩ := hr
    refine hv_i2l (v := (q_settle A x).2.1.toInt64) C dL_settle_7 rfl ?_
    refine hv_last (n := 1) (f := f) C ((cl_oat (cl_out (w := w) (A := A) (Z := Z) hF1 ho)).trans ho) (vp_in_nI (by decide) (by decide)) dL_settle_8 ?_
    refine hv_goto (tgt := 15) C dL_settle_9 (by decide) ?_
    refine hv_iconst (v := nI 0) C dL_settle_15 (by decide) ?_
    exact hv_iret C hret dL_settle_16 (Nat.le_of_ble_eq_true rfl) (Nat.le_of_ble_eq_true rfl) (lw_postR (f' := vp_updL f (nI 0).toNatClampNeg (q_settle A x).2.1.toInt64) hg1 hZ1 hF1 ho ho1 hq rfl lw_upd0)
theorem qk_setOut {A : ab_A} (x : Int32) (y : Int32) (z : Int32) : (q_setOut A x y z).1 ≠ 0 → (q_setOut A x y z).2.2 = A := by
  unfold q_setOut
  (repeat' split) <;> simp
set_option maxRecDepth 100000 in
set_option maxHeartbeats 1000000 in
theorem c_L_setOut (l : Launch) (w : hv_W) (g : cl_g) (A Z : ab_A) (Y0 : hv_H) (hg : cl_ok g (A 4 0) (A 15 0)) (hlt : l.stackTraces = false) (hI : ab_I A) (hZ : cl_Z A Z) (hF : cl_F g Y0) (o9 : Nat) (f : Nat → Int64) (ho : Y0 o9 = some (ob_c w f)) (x : Int32) (y : Int32) (z : Int32) : hv_Mr l yL_setOut wsL_setOut ({ frames := 8, cells := 16, slots := 220, locals := 198 }) w [.ref (g.1 0 0), .int x, .int y, .int z, .ref o9] (cl_Y w g A Z Y0) (lw_post w (g.1 0 0) o9 Y0 (q_setOut A x y z) (q_setOut A x y z).2.1.toInt64) := by
  refine hv_ofVH (cc := cL_setOut) (own := RL) (by decide) rfl rfl (Nat.le_of_ble_eq_true rfl) rfl ?_
  intro p e s m below meth c C hret htab
  refine hv_aload C dL_setOut_0 4 rfl ?_
  refine hv_iconst (v := nI 0) C dL_setOut_2 (by decide) ?_
  refine hv_aload_n C dL_setOut_3 rfl 0 rfl ?_
  refine hv_iload_n C dL_setOut_4 rfl 1 rfl ?_
  refine hv_iload_n C dL_setOut_5 rfl 2 rfl ?_
  refine hv_iload_n C dL_setOut_6 rfl 3 rfl ?_
  refine hv_callVrh (As := [.int x, .int y, .int z]) (rest := [.int (nI 0), .ref o9]) (n := 3) C (c_X4_setOut l w g A Z Y0 hg hlt hI hZ hF x y z) gL_setOut_X4_setOut rfl (by decide +kernel) ⟨(Nat.le_of_ble_eq_true rfl), (Nat.le_of_ble_eq_true rfl)⟩ (cl_rc hg (Or.inl ⟨by decide, rfl⟩) rfl rfl) rfl rfl (Nat.le_of_ble_eq_true rfl) dL_setOut_7 ⟨(Nat.le_of_ble_eq_true rfl), (Nat.le_of_ble_eq_true rfl)⟩ (fun E Y1 hE => ?_) (fun r Y1 hr => ?_)
  · obtain ⟨hE, rfl⟩ := hE
    have hE : (E = hv_IO ∧ (q_setOut A x y z).1 = 1) ∨ (E = hv_IA ∧ (q_setOut A x y z).1 = 2) ∨ (E = hv_IS ∧ (q_setOut A x y z).1 = 3) := hE
    rcases hE with ⟨rfl, hq⟩ | ⟨rfl, hq⟩ | ⟨rfl, hq⟩
    · refine ⟨[], ⟨0, 12, 15, 13⟩, [⟨0, 12, 19, 15⟩, ⟨0, 12, 23, 17⟩], hv_IO, htab, fun z hz => absurd hz List.not_mem_nil, by decide, by decide, by decide +kernel, hv_cE C hv_nIO, fun q9 => ?_⟩
      refine hv_astore (lv1 := []) C dL_setOut_15 (by decide) [] rfl ?_
      refine hv_iconst (v := nI 1) C dL_setOut_17 (by decide) ?_
      exact hv_iret C hret dL_setOut_18 (Nat.le_of_ble_eq_true rfl) (Nat.le_of_ble_eq_true rfl) (lw_postE hg hZ hF ho hq (by decide) (by decide) (qk_setOut x y z))
    · refine ⟨[⟨0, 12, 15, 13⟩], ⟨0, 12, 19, 15⟩, [⟨0, 12, 23, 17⟩], hv_IA, htab, fun z hz => by
        rw [List.mem_singleton.mp hz]
        exact Or.inr ⟨by decide, hv_IO, by decide +kernel, hv_ncA C⟩, by decide, by decide, by decide +kernel, hv_cE C hv_nIA, fun q9 => ?_⟩
      refine hv_astore (lv1 := []) C dL_setOut_19 (by decide) [] rfl ?_
      refine hv_iconst (v := nI 2) C dL_setOut_21 (by decide) ?_
      exact hv_iret C hret dL_setOut_22 (Nat.le_of_ble_eq_true rfl) (Nat.le_of_ble_eq_true rfl) (lw_postE hg hZ hF ho hq (by decide) (by decide) (qk_setOut x y z))
    · refine ⟨[⟨0, 12, 15, 13⟩, ⟨0, 12, 19, 15⟩], ⟨0, 12, 23, 17⟩, [], hv_IS, htab, fun z hz => by
        rcases List.mem_cons.mp hz with h | hz
        · rw [h]
          exact Or.inr ⟨by decide, hv_IO, by decide +kernel, hv_ncB C⟩
        · rw [List.mem_singleton.mp hz]
          exact Or.inr ⟨by decide, hv_IA, by decide +kernel, hv_ncC C⟩, by decide, by decide, by decide +kernel, hv_cE C hv_nIS, fun q9 => ?_⟩
      refine hv_astore (lv1 := []) C dL_setOut_23 (by decide) [] rfl ?_
      refine hv_iconst (v := nI 3) C dL_setOut_25 (by decide) ?_
      exact hv_iret C hret dL_setOut_26 (Nat.le_of_ble_eq_true rfl) (Nat.le_of_ble_eq_true rfl) (lw_postE hg hZ hF ho hq (by decide) (by decide) (qk_setOut x y z))
  · obtain ⟨hq, rfl, g1, Z1, hg1, hZ1, hF1, ho1, rfl⟩ := hr
    refine hv_i2l (v := (q_setOut A x y z).2.1.toInt64) C dL_setOut_10 rfl ?_
    refine hv_last (n := 1) (f := f) C ((cl_oat (cl_out (w := w) (A := A) (Z := Z) hF1 ho)).trans ho) (vp_in_nI (by decide) (by decide)) dL_setOut_11 ?_
    refine hv_goto (tgt := 27) C dL_setOut_12 (by decide) ?_
    refine hv_iconst (v := nI 0) C dL_setOut_27 (by decide) ?_
    exact hv_iret C hret dL_setOut_28 (Nat.le_of_ble_eq_true rfl) (Nat.le_of_ble_eq_true rfl) (lw_postR (f' := vp_updL f (nI 0).toNatClampNeg (q_setOut A x y z).2.1.toInt64) hg1 hZ1 hF1 ho ho1 hq rfl lw_upd0)
theorem qk_move {A : ab_A} (x : Int32) : (q_move A x).1 ≠ 0 → (q_move A x).2.2 = A := by
  unfold q_move
  (repeat' split) <;> simp
set_option maxRecDepth 100000 in
set_option maxHeartbeats 1000000 in
theorem c_L_move (l : Launch) (w : hv_W) (g : cl_g) (A Z : ab_A) (Y0 : hv_H) (hg : cl_ok g (A 4 0) (A 15 0)) (hlt : l.stackTraces = false) (hI : ab_I A) (hZ : cl_Z A Z) (hF : cl_F g Y0) (o9 : Nat) (f : Nat → Int64) (ho : Y0 o9 = some (ob_c w f)) (x : Int32) : hv_Mr l yL_move wsL_move ({ frames := 10, cells := 401, slots := 4006, locals := 240 }) w [.ref (g.1 0 0), .int x, .ref o9] (cl_Y w g A Z Y0) (lw_post w (g.1 0 0) o9 Y0 (q_move A x) (q_move A x).2.1.toInt64) := by
  refine hv_ofVH (cc := cL_move) (own := RL) (by decide) rfl rfl (Nat.le_of_ble_eq_true rfl) rfl ?_
  intro p e s m below meth c C hret htab
  refine hv_aload_n C dL_move_0 rfl 2 rfl ?_
  refine hv_iconst (v := nI 0) C dL_move_1 (by decide) ?_
  refine hv_aload_n C dL_move_2 rfl 0 rfl ?_
  refine hv_iload_n C dL_move_3 rfl 1 rfl ?_
  refine hv_callVrh (As := [.int x]) (rest := [.int (nI 0), .ref o9]) (n := 1) C (c_X4_move l w g A Z Y0 hg hlt hI hZ hF x) gL_move_X4_move rfl (by decide +kernel) ⟨(Nat.le_of_ble_eq_true rfl), (Nat.le_of_ble_eq_true rfl)⟩ (cl_rc hg (Or.inl ⟨by decide, rfl⟩) rfl rfl) rfl rfl (Nat.le_of_ble_eq_true rfl) dL_move_4 ⟨(Nat.le_of_ble_eq_true rfl), (Nat.le_of_ble_eq_true rfl)⟩ (fun E Y1 hE => ?_) (fun r Y1 hr => ?_)
  · obtain ⟨hE, rfl⟩ := hE
    have hE : (E = hv_IA ∧ (q_move A x).1 = 1) ∨ (E = hv_IS ∧ (q_move A x).1 = 2) := hE
    rcases hE with ⟨rfl, hq⟩ | ⟨rfl, hq⟩
    · refine ⟨[], ⟨0, 9, 12, 15⟩, [⟨0, 9, 15, 17⟩], hv_IA, htab, fun z hz => absurd hz List.not_mem_nil, by decide, by decide, by decide +kernel, hv_cE C hv_nIA, fun q9 => ?_⟩
      refine hv_astore_n (lv1 := []) C dL_move_12 rfl (by decide) [] rfl ?_
      refine hv_iconst (v := nI 1) C dL_move_13 (by decide) ?_
      exact hv_iret C hret dL_move_14 (Nat.le_of_ble_eq_true rfl) (Nat.le_of_ble_eq_true rfl) (lw_postE hg hZ hF ho hq (by decide) (by decide) (qk_move x))
    · refine ⟨[⟨0, 9, 12, 15⟩], ⟨0, 9, 15, 17⟩, [], hv_IS, htab, fun z hz => by
        rw [List.mem_singleton.mp hz]
        exact Or.inr ⟨by decide, hv_IA, by decide +kernel, hv_ncC C⟩, by decide, by decide, by decide +kernel, hv_cE C hv_nIS, fun q9 => ?_⟩
      refine hv_astore_n (lv1 := []) C dL_move_15 rfl (by decide) [] rfl ?_
      refine hv_iconst (v := nI 2) C dL_move_16 (by decide) ?_
      exact hv_iret C hret dL_move_17 (Nat.le_of_ble_eq_true rfl) (Nat.le_of_ble_eq_true rfl) (lw_postE hg hZ hF ho hq (by decide) (by decide) (qk_move x))
  · obtain ⟨hq, rfl, g1, Z1, hg1, hZ1, hF1, ho1, rfl⟩ := hr
    refine hv_i2l (v := (q_move A x).2.1.toInt64) C dL_move_7 rfl ?_
    refine hv_last (n := 1) (f := f) C ((cl_oat (cl_out (w := w) (A := A) (Z := Z) hF1 ho)).trans ho) (vp_in_nI (by decide) (by decide)) dL_move_8 ?_
    refine hv_goto (tgt := 18) C dL_move_9 (by decide) ?_
    refine hv_iconst (v := nI 0) C dL_move_18 (by decide) ?_
    exact hv_iret C hret dL_move_19 (Nat.le_of_ble_eq_true rfl) (Nat.le_of_ble_eq_true rfl) (lw_postR (f' := vp_updL f (nI 0).toNatClampNeg (q_move A x).2.1.toInt64) hg1 hZ1 hF1 ho ho1 hq rfl lw_upd0)
theorem qk_water {A : ab_A} (x : Int32) : (q_water A x).1 ≠ 0 → (q_water A x).2.2 = A := by
  unfold q_water
  (repeat' split) <;> simp
set_option maxRecDepth 100000 in
set_option maxHeartbeats 1000000 in
theorem c_L_water (l : Launch) (w : hv_W) (g : cl_g) (A Z : ab_A) (Y0 : hv_H) (hg : cl_ok g (A 4 0) (A 15 0)) (hlt : l.stackTraces = false) (hI : ab_I A) (hZ : cl_Z A Z) (hF : cl_F g Y0) (o9 : Nat) (f : Nat → Int64) (ho : Y0 o9 = some (ob_c w f)) (x : Int32) : hv_Mr l yL_water wsL_water ({ frames := 8, cells := 6, slots := 40, locals := 172 }) w [.ref (g.1 0 0), .int x, .ref o9] (cl_Y w g A Z Y0) (lw_post w (g.1 0 0) o9 Y0 (q_water A x) (q_water A x).2.1.toInt64) := by
  refine hv_ofVH (cc := cL_water) (own := RL) (by decide) rfl rfl (Nat.le_of_ble_eq_true rfl) rfl ?_
  intro p e s m below meth c C hret htab
  refine hv_aload_n C dL_water_0 rfl 2 rfl ?_
  refine hv_iconst (v := nI 0) C dL_water_1 (by decide) ?_
  refine hv_aload_n C dL_water_2 rfl 0 rfl ?_
  refine hv_iload_n C dL_water_3 rfl 1 rfl ?_
  refine hv_callVrh (As := [.int x]) (rest := [.int (nI 0), .ref o9]) (n := 1) C (c_X4_water l w g A Z Y0 hg hlt hI hZ hF x) gL_water_X4_water rfl (by decide +kernel) ⟨(Nat.le_of_ble_eq_true rfl), (Nat.le_of_ble_eq_true rfl)⟩ (cl_rc hg (Or.inl ⟨by decide, rfl⟩) rfl rfl) rfl rfl (Nat.le_of_ble_eq_true rfl) dL_water_4 ⟨(Nat.le_of_ble_eq_true rfl), (Nat.le_of_ble_eq_true rfl)⟩ (fun E Y1 hE => ?_) (fun r Y1 hr => ?_)
  · obtain ⟨hE, rfl⟩ := hE
    have hE : (E = hv_IO ∧ (q_water A x).1 = 1) := hE
    rcases hE with ⟨rfl, hq⟩
    · refine ⟨[], ⟨0, 9, 12, 13⟩, [], hv_IO, htab, fun z hz => absurd hz List.not_mem_nil, by decide, by decide, by decide +kernel, hv_cE C hv_nIO, fun q9 => ?_⟩
      refine hv_astore_n (lv1 := []) C dL_water_12 rfl (by decide) [] rfl ?_
      refine hv_iconst (v := nI 1) C dL_water_13 (by decide) ?_
      exact hv_iret C hret dL_water_14 (Nat.le_of_ble_eq_true rfl) (Nat.le_of_ble_eq_true rfl) (lw_postE hg hZ hF ho hq (by decide) (by decide) (qk_water x))
  · obtain ⟨hq, rfl, g1, Z1, hg1, hZ1, hF1, ho1, rfl⟩ := hr
    refine hv_i2l (v := (q_water A x).2.1.toInt64) C dL_water_7 rfl ?_
    refine hv_last (n := 1) (f := f) C ((cl_oat (cl_out (w := w) (A := A) (Z := Z) hF1 ho)).trans ho) (vp_in_nI (by decide) (by decide)) dL_water_8 ?_
    refine hv_goto (tgt := 15) C dL_water_9 (by decide) ?_
    refine hv_iconst (v := nI 0) C dL_water_15 (by decide) ?_
    exact hv_iret C hret dL_water_16 (Nat.le_of_ble_eq_true rfl) (Nat.le_of_ble_eq_true rfl) (lw_postR (f' := vp_updL f (nI 0).toNatClampNeg (q_water A x).2.1.toInt64) hg1 hZ1 hF1 ho ho1 hq rfl lw_upd0)
theorem qk_cost {A : ab_A} (x : Int32) : (q_cost A x).1 ≠ 0 → (q_cost A x).2.2 = A := by
  unfold q_cost
  (repeat' split) <;> simp
set_option maxRecDepth 100000 in
set_option maxHeartbeats 1000000 in
theorem c_L_cost (l : Launch) (w : hv_W) (g : cl_g) (A Z : ab_A) (Y0 : hv_H) (hg : cl_ok g (A 4 0) (A 15 0)) (hlt : l.stackTraces = false) (hI : ab_I A) (hZ : cl_Z A Z) (hF : cl_F g Y0) (o9 : Nat) (f : Nat → Int64) (ho : Y0 o9 = some (ob_c w f)) (x : Int32) : hv_Mr l yL_cost wsL_cost ({ frames := 8, cells := 6, slots := 40, locals := 172 }) w [.ref (g.1 0 0), .int x, .ref o9] (cl_Y w g A Z Y0) (lw_post w (g.1 0 0) o9 Y0 (q_cost A x) (q_cost A x).2.1.toInt64) := by
  refine hv_ofVH (cc := cL_cost) (own := RL) (by decide) rfl rfl (Nat.le_of_ble_eq_true rfl) rfl ?_
  intro p e s m below meth c C hret htab
  refine hv_aload_n C dL_cost_0 rfl 2 rfl ?_
  refine hv_iconst (v := nI 0) C dL_cost_1 (by decide) ?_
  refine hv_aload_n C dL_cost_2 rfl 0 rfl ?_
  refine hv_iload_n C dL_cost_3 rfl 1 rfl ?_
  refine hv_callVrh (As := [.int x]) (rest := [.int (nI 0), .ref o9]) (n := 1) C (c_X4_cost l w g A Z Y0 hg hlt hI hZ hF x) gL_cost_X4_cost rfl (by decide +kernel) ⟨(Nat.le_of_ble_eq_true rfl), (Nat.le_of_ble_eq_true rfl)⟩ (cl_rc hg (Or.inl ⟨by decide, rfl⟩) rfl rfl) rfl rfl (Nat.le_of_ble_eq_true rfl) dL_cost_4 ⟨(Nat.le_of_ble_eq_true rfl), (Nat.le_of_ble_eq_true rfl)⟩ (fun E Y1 hE => ?_) (fun r Y1 hr => ?_)
  · obtain ⟨hE, rfl⟩ := hE
    have hE : (E = hv_IO ∧ (q_cost A x).1 = 1) := hE
    rcases hE with ⟨rfl, hq⟩
    · refine ⟨[], ⟨0, 9, 12, 13⟩, [], hv_IO, htab, fun z hz => absurd hz List.not_mem_nil, by decide, by decide, by decide +kernel, hv_cE C hv_nIO, fun q9 => ?_⟩
      refine hv_astore_n (lv1 := []) C dL_cost_12 rfl (by decide) [] rfl ?_
      refine hv_iconst (v := nI 1) C dL_cost_13 (by decide) ?_
      exact hv_iret C hret dL_cost_14 (Nat.le_of_ble_eq_true rfl) (Nat.le_of_ble_eq_true rfl) (lw_postE hg hZ hF ho hq (by decide) (by decide) (qk_cost x))
  · obtain ⟨hq, rfl, g1, Z1, hg1, hZ1, hF1, ho1, rfl⟩ := hr
    refine hv_i2l (v := (q_cost A x).2.1.toInt64) C dL_cost_7 rfl ?_
    refine hv_last (n := 1) (f := f) C ((cl_oat (cl_out (w := w) (A := A) (Z := Z) hF1 ho)).trans ho) (vp_in_nI (by decide) (by decide)) dL_cost_8 ?_
    refine hv_goto (tgt := 15) C dL_cost_9 (by decide) ?_
    refine hv_iconst (v := nI 0) C dL_cost_15 (by decide) ?_
    exact hv_iret C hret dL_cost_16 (Nat.le_of_ble_eq_true rfl) (Nat.le_of_ble_eq_true rfl) (lw_postR (f' := vp_updL f (nI 0).toNatClampNeg (q_cost A x).2.1.toInt64) hg1 hZ1 hF1 ho ho1 hq rfl lw_upd0)
theorem qk_canPass {A : ab_A} (x : Int32) : (q_canPass A x).1 ≠ 0 → (q_canPass A x).2.2 = A := by
  unfold q_canPass
  (repeat' split) <;> simp
set_option maxRecDepth 100000 in
set_option maxHeartbeats 1000000 in
theorem c_L_canPass (l : Launch) (w : hv_W) (g : cl_g) (A Z : ab_A) (Y0 : hv_H) (hg : cl_ok g (A 4 0) (A 15 0)) (hlt : l.stackTraces = false) (hI : ab_I A) (hZ : cl_Z A Z) (hF : cl_F g Y0) (o9 : Nat) (f : Nat → Int64) (ho : Y0 o9 = some (ob_c w f)) (x : Int32) : hv_Mr l yL_canPass wsL_canPass ({ frames := 8, cells := 6, slots := 40, locals := 172 }) w [.ref (g.1 0 0), .int x, .ref o9] (cl_Y w g A Z Y0) (lw_post w (g.1 0 0) o9 Y0 (q_canPass A x) (if (q_canPass A x).2.1 = 0 then 0 else 1)) := by
  refine hv_ofVH (cc := cL_canPass) (own := RL) (by decide) rfl rfl (Nat.le_of_ble_eq_true rfl) rfl ?_
  intro p e s m below meth c C hret htab
  refine hv_aload_n C dL_canPass_0 rfl 2 rfl ?_
  refine hv_iconst (v := nI 0) C dL_canPass_1 (by decide) ?_
  refine hv_aload_n C dL_canPass_2 rfl 0 rfl ?_
  refine hv_iload_n C dL_canPass_3 rfl 1 rfl ?_
  refine hv_callVrh (As := [.int x]) (rest := [.int (nI 0), .ref o9]) (n := 1) C (c_X4_canPass l w g A Z Y0 hg hlt hI hZ hF x) gL_canPass_X4_canPass rfl (by decide +kernel) ⟨(Nat.le_of_ble_eq_true rfl), (Nat.le_of_ble_eq_true rfl)⟩ (cl_rc hg (Or.inl ⟨by decide, rfl⟩) rfl rfl) rfl rfl (Nat.le_of_ble_eq_true rfl) dL_canPass_4 ⟨(Nat.le_of_ble_eq_true rfl), (Nat.le_of_ble_eq_true rfl)⟩ (fun E Y1 hE => ?_) (fun r Y1 hr => ?_)
  · obtain ⟨hE, rfl⟩ := hE
    have hE : (E = hv_IO ∧ (q_canPass A x).1 = 1) := hE
    rcases hE with ⟨rfl, hq⟩
    · refine ⟨[], ⟨0, 16, 19, 13⟩, [], hv_IO, htab, fun z hz => absurd hz List.not_mem_nil, by decide, by decide, by decide +kernel, hv_cE C hv_nIO, fun q9 => ?_⟩
      refine hv_astore_n (lv1 := []) C dL_canPass_19 rfl (by decide) [] rfl ?_
      refine hv_iconst (v := nI 1) C dL_canPass_20 (by decide) ?_
      exact hv_iret C hret dL_canPass_21 (Nat.le_of_ble_eq_true rfl) (Nat.le_of_ble_eq_true rfl) (lw_postE hg hZ hF ho hq (by decide) (by decide) (qk_canPass x))
  · obtain ⟨hq, rfl, g1, Z1, hg1, hZ1, hF1, ho1, rfl⟩ := hr
    refine hv_bitL (p1 := 10) (p2 := 11) (p3 := 14) (p4 := 15) C rfl rfl rfl rfl dL_canPass_7 dL_canPass_10 dL_canPass_11 dL_canPass_14 ?_
    refine hv_last (n := 1) (f := f) C ((cl_oat (cl_out (w := w) (A := A) (Z := Z) hF1 ho)).trans ho) (vp_in_nI (by decide) (by decide)) dL_canPass_15 ?_
    refine hv_goto (tgt := 22) C dL_canPass_16 (by decide) ?_
    refine hv_iconst (v := nI 0) C dL_canPass_22 (by decide) ?_
    exact hv_iret C hret dL_canPass_23 (Nat.le_of_ble_eq_true rfl) (Nat.le_of_ble_eq_true rfl) (lw_postR (f' := vp_updL f (nI 0).toNatClampNeg (if (q_canPass A x).2.1 = 0 then 0 else 1)) hg1 hZ1 hF1 ho ho1 hq rfl lw_upd0)
theorem qk_distance {A : ab_A} (x : Int32) (y : Int32) : (q_distance A x y).1 ≠ 0 → (q_distance A x y).2.2 = A := by
  unfold q_distance
  (repeat' split) <;> simp
set_option maxRecDepth 100000 in
set_option maxHeartbeats 1000000 in
theorem c_L_distance (l : Launch) (w : hv_W) (g : cl_g) (A Z : ab_A) (Y0 : hv_H) (hg : cl_ok g (A 4 0) (A 15 0)) (hlt : l.stackTraces = false) (hI : ab_I A) (hZ : cl_Z A Z) (hF : cl_F g Y0) (o9 : Nat) (f : Nat → Int64) (ho : Y0 o9 = some (ob_c w f)) (x : Int32) (y : Int32) : hv_Mr l yL_distance wsL_distance ({ frames := 8, cells := 6, slots := 40, locals := 174 }) w [.ref (g.1 0 0), .int x, .int y, .ref o9] (cl_Y w g A Z Y0) (lw_post w (g.1 0 0) o9 Y0 (q_distance A x y) (q_distance A x y).2.1.toInt64) := by
  refine hv_ofVH (cc := cL_distance) (own := RL) (by decide) rfl rfl (Nat.le_of_ble_eq_true rfl) rfl ?_
  intro p e s m below meth c C hret htab
  refine hv_aload_n C dL_distance_0 rfl 3 rfl ?_
  refine hv_iconst (v := nI 0) C dL_distance_1 (by decide) ?_
  refine hv_aload_n C dL_distance_2 rfl 0 rfl ?_
  refine hv_iload_n C dL_distance_3 rfl 1 rfl ?_
  refine hv_iload_n C dL_distance_4 rfl 2 rfl ?_
  refine hv_callVrh (As := [.int x, .int y]) (rest := [.int (nI 0), .ref o9]) (n := 2) C (c_X4_distance l w g A Z Y0 hg hlt hI hZ hF x y) gL_distance_X4_distance rfl (by decide +kernel) ⟨(Nat.le_of_ble_eq_true rfl), (Nat.le_of_ble_eq_true rfl)⟩ (cl_rc hg (Or.inl ⟨by decide, rfl⟩) rfl rfl) rfl rfl (Nat.le_of_ble_eq_true rfl) dL_distance_5 ⟨(Nat.le_of_ble_eq_true rfl), (Nat.le_of_ble_eq_true rfl)⟩ (fun E Y1 hE => ?_) (fun r Y1 hr => ?_)
  · obtain ⟨hE, rfl⟩ := hE
    have hE : (E = hv_IO ∧ (q_distance A x y).1 = 1) := hE
    rcases hE with ⟨rfl, hq⟩
    · refine ⟨[], ⟨0, 10, 13, 13⟩, [], hv_IO, htab, fun z hz => absurd hz List.not_mem_nil, by decide, by decide, by decide +kernel, hv_cE C hv_nIO, fun q9 => ?_⟩
      refine hv_astore (lv1 := []) C dL_distance_13 (by decide) [] rfl ?_
      refine hv_iconst (v := nI 1) C dL_distance_15 (by decide) ?_
      exact hv_iret C hret dL_distance_16 (Nat.le_of_ble_eq_true rfl) (Nat.le_of_ble_eq_true rfl) (lw_postE hg hZ hF ho hq (by decide) (by decide) (qk_distance x y))
  · obtain ⟨hq, rfl, g1, Z1, hg1, hZ1, hF1, ho1, rfl⟩ := hr
    refine hv_i2l (v := (q_distance A x y).2.1.toInt64) C dL_distance_8 rfl ?_
    refine hv_last (n := 1) (f := f) C ((cl_oat (cl_out (w := w) (A := A) (Z := Z) hF1 ho)).trans ho) (vp_in_nI (by decide) (by decide)) dL_distance_9 ?_
    refine hv_goto (tgt := 17) C dL_distance_10 (by decide) ?_
    refine hv_iconst (v := nI 0) C dL_distance_17 (by decide) ?_
    exact hv_iret C hret dL_distance_18 (Nat.le_of_ble_eq_true rfl) (Nat.le_of_ble_eq_true rfl) (lw_postR (f' := vp_updL f (nI 0).toNatClampNeg (q_distance A x y).2.1.toInt64) hg1 hZ1 hF1 ho ho1 hq rfl lw_upd0)
theorem qk_canalTo {A : ab_A} (x : Int32) (y : Int32) : (q_canalTo A x y).1 ≠ 0 → (q_canalTo A x y).2.2 = A := by
  unfold q_canalTo
  (repeat' split) <;> simp
set_option maxRecDepth 100000 in
set_option maxHeartbeats 1000000 in
theorem c_L_canalTo (l : Launch) (w : hv_W) (g : cl_g) (A Z : ab_A) (Y0 : hv_H) (hg : cl_ok g (A 4 0) (A 15 0)) (hlt : l.stackTraces = false) (hI : ab_I A) (hZ : cl_Z A Z) (hF : cl_F g Y0) (o9 : Nat) (f : Nat → Int64) (ho : Y0 o9 = some (ob_c w f)) (x : Int32) (y : Int32) : hv_Mr l yL_canalTo wsL_canalTo ({ frames := 8, cells := 6, slots := 40, locals := 175 }) w [.ref (g.1 0 0), .int x, .int y, .ref o9] (cl_Y w g A Z Y0) (lw_post w (g.1 0 0) o9 Y0 (q_canalTo A x y) (q_canalTo A x y).2.1.toInt64) := by
  refine hv_ofVH (cc := cL_canalTo) (own := RL) (by decide) rfl rfl (Nat.le_of_ble_eq_true rfl) rfl ?_
  intro p e s m below meth c C hret htab
  refine hv_aload_n C dL_canalTo_0 rfl 3 rfl ?_
  refine hv_iconst (v := nI 0) C dL_canalTo_1 (by decide) ?_
  refine hv_aload_n C dL_canalTo_2 rfl 0 rfl ?_
  refine hv_iload_n C dL_canalTo_3 rfl 1 rfl ?_
  refine hv_iload_n C dL_canalTo_4 rfl 2 rfl ?_
  refine hv_callVrh (As := [.int x, .int y]) (rest := [.int (nI 0), .ref o9]) (n := 2) C (c_X4_canalTo l w g A Z Y0 hg hlt hI hZ hF x y) gL_canalTo_X4_canalTo rfl (by decide +kernel) ⟨(Nat.le_of_ble_eq_true rfl), (Nat.le_of_ble_eq_true rfl)⟩ (cl_rc hg (Or.inl ⟨by decide, rfl⟩) rfl rfl) rfl rfl (Nat.le_of_ble_eq_true rfl) dL_canalTo_5 ⟨(Nat.le_of_ble_eq_true rfl), (Nat.le_of_ble_eq_true rfl)⟩ (fun E Y1 hE => ?_) (fun r Y1 hr => ?_)
  · obtain ⟨hE, rfl⟩ := hE
    have hE : (E = hv_IO ∧ (q_canalTo A x y).1 = 1) := hE
    rcases hE with ⟨rfl, hq⟩
    · refine ⟨[], ⟨0, 10, 13, 13⟩, [], hv_IO, htab, fun z hz => absurd hz List.not_mem_nil, by decide, by decide, by decide +kernel, hv_cE C hv_nIO, fun q9 => ?_⟩
      refine hv_astore (lv1 := []) C dL_canalTo_13 (by decide) [] rfl ?_
      refine hv_iconst (v := nI 1) C dL_canalTo_15 (by decide) ?_
      exact hv_iret C hret dL_canalTo_16 (Nat.le_of_ble_eq_true rfl) (Nat.le_of_ble_eq_true rfl) (lw_postE hg hZ hF ho hq (by decide) (by decide) (qk_canalTo x y))
  · obtain ⟨hq, rfl, g1, Z1, hg1, hZ1, hF1, ho1, rfl⟩ := hr
    refine hv_i2l (v := (q_canalTo A x y).2.1.toInt64) C dL_canalTo_8 rfl ?_
    refine hv_last (n := 1) (f := f) C ((cl_oat (cl_out (w := w) (A := A) (Z := Z) hF1 ho)).trans ho) (vp_in_nI (by decide) (by decide)) dL_canalTo_9 ?_
    refine hv_goto (tgt := 17) C dL_canalTo_10 (by decide) ?_
    refine hv_iconst (v := nI 0) C dL_canalTo_17 (by decide) ?_
    exact hv_iret C hret dL_canalTo_18 (Nat.le_of_ble_eq_true rfl) (Nat.le_of_ble_eq_true rfl) (lw_postR (f' := vp_updL f (nI 0).toNatClampNeg (q_canalTo A x y).2.1.toInt64) hg1 hZ1 hF1 ho ho1 hq rfl lw_upd0)
theorem qk_cheapest {A : ab_A} (x : Int32) (y : Int32) : (q_cheapest A x y).1 ≠ 0 → (q_cheapest A x y).2.2 = A := by
  unfold q_cheapest
  (repeat' split) <;> simp
set_option maxRecDepth 100000 in
set_option maxHeartbeats 1000000 in
theorem c_L_cheapest (l : Launch) (w : hv_W) (g : cl_g) (A Z : ab_A) (Y0 : hv_H) (hg : cl_ok g (A 4 0) (A 15 0)) (hlt : l.stackTraces = false) (hI : ab_I A) (hZ : cl_Z A Z) (hF : cl_F g Y0) (o9 : Nat) (f : Nat → Int64) (ho : Y0 o9 = some (ob_c w f)) (x : Int32) (y : Int32) : hv_Mr l yL_cheapest wsL_cheapest ({ frames := 8, cells := 6, slots := 40, locals := 176 }) w [.ref (g.1 0 0), .int x, .int y, .ref o9] (cl_Y w g A Z Y0) (lw_post w (g.1 0 0) o9 Y0 (q_cheapest A x y) (q_cheapest A x y).2.1.toInt64) := by
  refine hv_ofVH (cc := cL_cheapest) (own := RL) (by decide) rfl rfl (Nat.le_of_ble_eq_true rfl) rfl ?_
  intro p e s m below meth c C hret htab
  refine hv_aload_n C dL_cheapest_0 rfl 3 rfl ?_
  refine hv_iconst (v := nI 0) C dL_cheapest_1 (by decide) ?_
  refine hv_aload_n C dL_cheapest_2 rfl 0 rfl ?_
  refine hv_iload_n C dL_cheapest_3 rfl 1 rfl ?_
  refine hv_iload_n C dL_cheapest_4 rfl 2 rfl ?_
  refine hv_callVrh (As := [.int x, .int y]) (rest := [.int (nI 0), .ref o9]) (n := 2) C (c_X4_cheapest l w g A Z Y0 hg hlt hI hZ hF x y) gL_cheapest_X4_cheapest rfl (by decide +kernel) ⟨(Nat.le_of_ble_eq_true rfl), (Nat.le_of_ble_eq_true rfl)⟩ (cl_rc hg (Or.inl ⟨by decide, rfl⟩) rfl rfl) rfl rfl (Nat.le_of_ble_eq_true rfl) dL_cheapest_5 ⟨(Nat.le_of_ble_eq_true rfl), (Nat.le_of_ble_eq_true rfl)⟩ (fun E Y1 hE => ?_) (fun r Y1 hr => ?_)
  · obtain ⟨hE, rfl⟩ := hE
    have hE : (E = hv_IO ∧ (q_cheapest A x y).1 = 1) := hE
    rcases hE with ⟨rfl, hq⟩
    · refine ⟨[], ⟨0, 10, 13, 13⟩, [], hv_IO, htab, fun z hz => absurd hz List.not_mem_nil, by decide, by decide, by decide +kernel, hv_cE C hv_nIO, fun q9 => ?_⟩
      refine hv_astore (lv1 := []) C dL_cheapest_13 (by decide) [] rfl ?_
      refine hv_iconst (v := nI 1) C dL_cheapest_15 (by decide) ?_
      exact hv_iret C hret dL_cheapest_16 (Nat.le_of_ble_eq_true rfl) (Nat.le_of_ble_eq_true rfl) (lw_postE hg hZ hF ho hq (by decide) (by decide) (qk_cheapest x y))
  · obtain ⟨hq, rfl, g1, Z1, hg1, hZ1, hF1, ho1, rfl⟩ := hr
    refine hv_i2l (v := (q_cheapest A x y).2.1.toInt64) C dL_cheapest_8 rfl ?_
    refine hv_last (n := 1) (f := f) C ((cl_oat (cl_out (w := w) (A := A) (Z := Z) hF1 ho)).trans ho) (vp_in_nI (by decide) (by decide)) dL_cheapest_9 ?_
    refine hv_goto (tgt := 17) C dL_cheapest_10 (by decide) ?_
    refine hv_iconst (v := nI 0) C dL_cheapest_17 (by decide) ?_
    exact hv_iret C hret dL_cheapest_18 (Nat.le_of_ble_eq_true rfl) (Nat.le_of_ble_eq_true rfl) (lw_postR (f' := vp_updL f (nI 0).toNatClampNeg (q_cheapest A x y).2.1.toInt64) hg1 hZ1 hF1 ho ho1 hq rfl lw_upd0)
theorem qk_isLoop {A : ab_A} (x : Int32) (y : Int32) : (q_isLoop A x y).1 ≠ 0 → (q_isLoop A x y).2.2 = A := by
  unfold q_isLoop
  (repeat' split) <;> simp
set_option maxRecDepth 100000 in
set_option maxHeartbeats 1000000 in
theorem c_L_isLoop (l : Launch) (w : hv_W) (g : cl_g) (A Z : ab_A) (Y0 : hv_H) (hg : cl_ok g (A 4 0) (A 15 0)) (hlt : l.stackTraces = false) (hI : ab_I A) (hZ : cl_Z A Z) (hF : cl_F g Y0) (o9 : Nat) (f : Nat → Int64) (ho : Y0 o9 = some (ob_c w f)) (x : Int32) (y : Int32) : hv_Mr l yL_isLoop wsL_isLoop ({ frames := 8, cells := 6, slots := 40, locals := 174 }) w [.ref (g.1 0 0), .int x, .int y, .ref o9] (cl_Y w g A Z Y0) (lw_post w (g.1 0 0) o9 Y0 (q_isLoop A x y) (if (q_isLoop A x y).2.1 = 0 then 0 else 1)) := by
  refine hv_ofVH (cc := cL_isLoop) (own := RL) (by decide) rfl rfl (Nat.le_of_ble_eq_true rfl) rfl ?_
  intro p e s m below meth c C hret htab
  refine hv_aload_n C dL_isLoop_0 rfl 3 rfl ?_
  refine hv_iconst (v := nI 0) C dL_isLoop_1 (by decide) ?_
  refine hv_aload_n C dL_isLoop_2 rfl 0 rfl ?_
  refine hv_iload_n C dL_isLoop_3 rfl 1 rfl ?_
  refine hv_iload_n C dL_isLoop_4 rfl 2 rfl ?_
  refine hv_callVrh (As := [.int x, .int y]) (rest := [.int (nI 0), .ref o9]) (n := 2) C (c_X4_isLoop l w g A Z Y0 hg hlt hI hZ hF x y) gL_isLoop_X4_isLoop rfl (by decide +kernel) ⟨(Nat.le_of_ble_eq_true rfl), (Nat.le_of_ble_eq_true rfl)⟩ (cl_rc hg (Or.inl ⟨by decide, rfl⟩) rfl rfl) rfl rfl (Nat.le_of_ble_eq_true rfl) dL_isLoop_5 ⟨(Nat.le_of_ble_eq_true rfl), (Nat.le_of_ble_eq_true rfl)⟩ (fun E Y1 hE => ?_) (fun r Y1 hr => ?_)
  · obtain ⟨hE, rfl⟩ := hE
    have hE : (E = hv_IO ∧ (q_isLoop A x y).1 = 1) := hE
    rcases hE with ⟨rfl, hq⟩
    · refine ⟨[], ⟨0, 17, 20, 13⟩, [], hv_IO, htab, fun z hz => absurd hz List.not_mem_nil, by decide, by decide, by decide +kernel, hv_cE C hv_nIO, fun q9 => ?_⟩
      refine hv_astore (lv1 := []) C dL_isLoop_20 (by decide) [] rfl ?_
      refine hv_iconst (v := nI 1) C dL_isLoop_22 (by decide) ?_
      exact hv_iret C hret dL_isLoop_23 (Nat.le_of_ble_eq_true rfl) (Nat.le_of_ble_eq_true rfl) (lw_postE hg hZ hF ho hq (by decide) (by decide) (qk_isLoop x y))
  · obtain ⟨hq, rfl, g1, Z1, hg1, hZ1, hF1, ho1, rfl⟩ := hr
    refine hv_bitL (p1 := 11) (p2 := 12) (p3 := 15) (p4 := 16) C rfl rfl rfl rfl dL_isLoop_8 dL_isLoop_11 dL_isLoop_12 dL_isLoop_15 ?_
    refine hv_last (n := 1) (f := f) C ((cl_oat (cl_out (w := w) (A := A) (Z := Z) hF1 ho)).trans ho) (vp_in_nI (by decide) (by decide)) dL_isLoop_16 ?_
    refine hv_goto (tgt := 24) C dL_isLoop_17 (by decide) ?_
    refine hv_iconst (v := nI 0) C dL_isLoop_24 (by decide) ?_
    exact hv_iret C hret dL_isLoop_25 (Nat.le_of_ble_eq_true rfl) (Nat.le_of_ble_eq_true rfl) (lw_postR (f' := vp_updL f (nI 0).toNatClampNeg (if (q_isLoop A x y).2.1 = 0 then 0 else 1)) hg1 hZ1 hF1 ho ho1 hq rfl lw_upd0)
theorem qk_barge {A : ab_A} (x : Int32) (k : Nat) : (q_barge A x k).1 ≠ 0 → (q_barge A x k).2.2 = A := by
  unfold q_barge
  (repeat' split) <;> simp
set_option maxRecDepth 100000 in
set_option maxHeartbeats 1000000 in
theorem c_L_state (l : Launch) (w : hv_W) (g : cl_g) (A Z : ab_A) (Y0 : hv_H) (hg : cl_ok g (A 4 0) (A 15 0)) (hlt : l.stackTraces = false) (hI : ab_I A) (hZ : cl_Z A Z) (hF : cl_F g Y0) (o9 : Nat) (f : Nat → Int64) (ho : Y0 o9 = some (ob_c w f)) (x : Int32) : hv_Mr l yL_state wsL_state ({ frames := 8, cells := 6, slots := 40, locals := 172 }) w [.ref (g.1 0 0), .int x, .ref o9] (cl_Y w g A Z Y0) (lw_post w (g.1 0 0) o9 Y0 (q_barge A x 21) (q_barge A x 21).2.1.toInt64) := by
  refine hv_ofVH (cc := cL_state) (own := RL) (by decide) rfl rfl (Nat.le_of_ble_eq_true rfl) rfl ?_
  intro p e s m below meth c C hret htab
  refine hv_aload_n C dL_state_0 rfl 2 rfl ?_
  refine hv_iconst (v := nI 0) C dL_state_1 (by decide) ?_
  refine hv_aload_n C dL_state_2 rfl 0 rfl ?_
  refine hv_iload_n C dL_state_3 rfl 1 rfl ?_
  refine hv_callVrh (As := [.int x]) (rest := [.int (nI 0), .ref o9]) (n := 1) C (c_X4_state l w g A Z Y0 hg hlt hI hZ hF x) gL_state_X4_state rfl (by decide +kernel) ⟨(Nat.le_of_ble_eq_true rfl), (Nat.le_of_ble_eq_true rfl)⟩ (cl_rc hg (Or.inl ⟨by decide, rfl⟩) rfl rfl) rfl rfl (Nat.le_of_ble_eq_true rfl) dL_state_4 ⟨(Nat.le_of_ble_eq_true rfl), (Nat.le_of_ble_eq_true rfl)⟩ (fun E Y1 hE => ?_) (fun r Y1 hr => ?_)
  · obtain ⟨hE, rfl⟩ := hE
    have hE : (E = hv_IO ∧ (q_barge A x 21).1 = 1) := hE
    rcases hE with ⟨rfl, hq⟩
    · refine ⟨[], ⟨0, 9, 12, 13⟩, [], hv_IO, htab, fun z hz => absurd hz List.not_mem_nil, by decide, by decide, by decide +kernel, hv_cE C hv_nIO, fun q9 => ?_⟩
      refine hv_astore_n (lv1 := []) C dL_state_12 rfl (by decide) [] rfl ?_
      refine hv_iconst (v := nI 1) C dL_state_13 (by decide) ?_
      exact hv_iret C hret dL_state_14 (Nat.le_of_ble_eq_true rfl) (Nat.le_of_ble_eq_true rfl) (lw_postE hg hZ hF ho hq (by decide) (by decide) (qk_barge x 21))
  · obtain ⟨hq, rfl, g1, Z1, hg1, hZ1, hF1, ho1, rfl⟩ := hr
    refine hv_i2l (v := (q_barge A x 21).2.1.toInt64) C dL_state_7 rfl ?_
    refine hv_last (n := 1) (f := f) C ((cl_oat (cl_out (w := w) (A := A) (Z := Z) hF1 ho)).trans ho) (vp_in_nI (by decide) (by decide)) dL_state_8 ?_
    refine hv_goto (tgt := 15) C dL_state_9 (by decide) ?_
    refine hv_iconst (v := nI 0) C dL_state_15 (by decide) ?_
    exact hv_iret C hret dL_state_16 (Nat.le_of_ble_eq_true rfl) (Nat.le_of_ble_eq_true rfl) (lw_postR (f' := vp_updL f (nI 0).toNatClampNeg (q_barge A x 21).2.1.toInt64) hg1 hZ1 hF1 ho ho1 hq rfl lw_upd0)
set_option maxRecDepth 100000 in
set_option maxHeartbeats 1000000 in
theorem c_L_basinOf (l : Launch) (w : hv_W) (g : cl_g) (A Z : ab_A) (Y0 : hv_H) (hg : cl_ok g (A 4 0) (A 15 0)) (hlt : l.stackTraces = false) (hI : ab_I A) (hZ : cl_Z A Z) (hF : cl_F g Y0) (o9 : Nat) (f : Nat → Int64) (ho : Y0 o9 = some (ob_c w f)) (x : Int32) : hv_Mr l yL_basinOf wsL_basinOf ({ frames := 8, cells := 6, slots := 40, locals := 172 }) w [.ref (g.1 0 0), .int x, .ref o9] (cl_Y w g A Z Y0) (lw_post w (g.1 0 0) o9 Y0 (q_barge A x 22) (q_barge A x 22).2.1.toInt64) := by
  refine hv_ofVH (cc := cL_basinOf) (own := RL) (by decide) rfl rfl (Nat.le_of_ble_eq_true rfl) rfl ?_
  intro p e s m below meth c C hret htab
  refine hv_aload_n C dL_basinOf_0 rfl 2 rfl ?_
  refine hv_iconst (v := nI 0) C dL_basinOf_1 (by decide) ?_
  refine hv_aload_n C dL_basinOf_2 rfl 0 rfl ?_
  refine hv_iload_n C dL_basinOf_3 rfl 1 rfl ?_
  refine hv_callVrh (As := [.int x]) (rest := [.int (nI 0), .ref o9]) (n := 1) C (c_X4_basinOf l w g A Z Y0 hg hlt hI hZ hF x) gL_basinOf_X4_basinOf rfl (by decide +kernel) ⟨(Nat.le_of_ble_eq_true rfl), (Nat.le_of_ble_eq_true rfl)⟩ (cl_rc hg (Or.inl ⟨by decide, rfl⟩) rfl rfl) rfl rfl (Nat.le_of_ble_eq_true rfl) dL_basinOf_4 ⟨(Nat.le_of_ble_eq_true rfl), (Nat.le_of_ble_eq_true rfl)⟩ (fun E Y1 hE => ?_) (fun r Y1 hr => ?_)
  · obtain ⟨hE, rfl⟩ := hE
    have hE : (E = hv_IO ∧ (q_barge A x 22).1 = 1) := hE
    rcases hE with ⟨rfl, hq⟩
    · refine ⟨[], ⟨0, 9, 12, 13⟩, [], hv_IO, htab, fun z hz => absurd hz List.not_mem_nil, by decide, by decide, by decide +kernel, hv_cE C hv_nIO, fun q9 => ?_⟩
      refine hv_astore_n (lv1 := []) C dL_basinOf_12 rfl (by decide) [] rfl ?_
      refine hv_iconst (v := nI 1) C dL_basinOf_13 (by decide) ?_
      exact hv_iret C hret dL_basinOf_14 (Nat.le_of_ble_eq_true rfl) (Nat.le_of_ble_eq_true rfl) (lw_postE hg hZ hF ho hq (by decide) (by decide) (qk_barge x 22))
  · obtain ⟨hq, rfl, g1, Z1, hg1, hZ1, hF1, ho1, rfl⟩ := hr
    refine hv_i2l (v := (q_barge A x 22).2.1.toInt64) C dL_basinOf_7 rfl ?_
    refine hv_last (n := 1) (f := f) C ((cl_oat (cl_out (w := w) (A := A) (Z := Z) hF1 ho)).trans ho) (vp_in_nI (by decide) (by decide)) dL_basinOf_8 ?_
    refine hv_goto (tgt := 15) C dL_basinOf_9 (by decide) ?_
    refine hv_iconst (v := nI 0) C dL_basinOf_15 (by decide) ?_
    exact hv_iret C hret dL_basinOf_16 (Nat.le_of_ble_eq_true rfl) (Nat.le_of_ble_eq_true rfl) (lw_postR (f' := vp_updL f (nI 0).toNatClampNeg (q_barge A x 22).2.1.toInt64) hg1 hZ1 hF1 ho ho1 hq rfl lw_upd0)
set_option maxRecDepth 100000 in
set_option maxHeartbeats 1000000 in
theorem c_L_hops (l : Launch) (w : hv_W) (g : cl_g) (A Z : ab_A) (Y0 : hv_H) (hg : cl_ok g (A 4 0) (A 15 0)) (hlt : l.stackTraces = false) (hI : ab_I A) (hZ : cl_Z A Z) (hF : cl_F g Y0) (o9 : Nat) (f : Nat → Int64) (ho : Y0 o9 = some (ob_c w f)) (x : Int32) : hv_Mr l yL_hops wsL_hops ({ frames := 8, cells := 6, slots := 40, locals := 172 }) w [.ref (g.1 0 0), .int x, .ref o9] (cl_Y w g A Z Y0) (lw_post w (g.1 0 0) o9 Y0 (q_barge A x 19) (q_barge A x 19).2.1.toInt64) := by
  refine hv_ofVH (cc := cL_hops) (own := RL) (by decide) rfl rfl (Nat.le_of_ble_eq_true rfl) rfl ?_
  intro p e s m below meth c C hret htab
  refine hv_aload_n C dL_hops_0 rfl 2 rfl ?_
  refine hv_iconst (v := nI 0) C dL_hops_1 (by decide) ?_
  refine hv_aload_n C dL_hops_2 rfl 0 rfl ?_
  refine hv_iload_n C dL_hops_3 rfl 1 rfl ?_
  refine hv_callVrh (As := [.int x]) (rest := [.int (nI 0), .ref o9]) (n := 1) C (c_X4_hops l w g A Z Y0 hg hlt hI hZ hF x) gL_hops_X4_hops rfl (by decide +kernel) ⟨(Nat.le_of_ble_eq_true rfl), (Nat.le_of_ble_eq_true rfl)⟩ (cl_rc hg (Or.inl ⟨by decide, rfl⟩) rfl rfl) rfl rfl (Nat.le_of_ble_eq_true rfl) dL_hops_4 ⟨(Nat.le_of_ble_eq_true rfl), (Nat.le_of_ble_eq_true rfl)⟩ (fun E Y1 hE => ?_) (fun r Y1 hr => ?_)
  · obtain ⟨hE, rfl⟩ := hE
    have hE : (E = hv_IO ∧ (q_barge A x 19).1 = 1) := hE
    rcases hE with ⟨rfl, hq⟩
    · refine ⟨[], ⟨0, 9, 12, 13⟩, [], hv_IO, htab, fun z hz => absurd hz List.not_mem_nil, by decide, by decide, by decide +kernel, hv_cE C hv_nIO, fun q9 => ?_⟩
      refine hv_astore_n (lv1 := []) C dL_hops_12 rfl (by decide) [] rfl ?_
      refine hv_iconst (v := nI 1) C dL_hops_13 (by decide) ?_
      exact hv_iret C hret dL_hops_14 (Nat.le_of_ble_eq_true rfl) (Nat.le_of_ble_eq_true rfl) (lw_postE hg hZ hF ho hq (by decide) (by decide) (qk_barge x 19))
  · obtain ⟨hq, rfl, g1, Z1, hg1, hZ1, hF1, ho1, rfl⟩ := hr
    refine hv_i2l (v := (q_barge A x 19).2.1.toInt64) C dL_hops_7 rfl ?_
    refine hv_last (n := 1) (f := f) C ((cl_oat (cl_out (w := w) (A := A) (Z := Z) hF1 ho)).trans ho) (vp_in_nI (by decide) (by decide)) dL_hops_8 ?_
    refine hv_goto (tgt := 15) C dL_hops_9 (by decide) ?_
    refine hv_iconst (v := nI 0) C dL_hops_15 (by decide) ?_
    exact hv_iret C hret dL_hops_16 (Nat.le_of_ble_eq_true rfl) (Nat.le_of_ble_eq_true rfl) (lw_postR (f' := vp_updL f (nI 0).toNatClampNeg (q_barge A x 19).2.1.toInt64) hg1 hZ1 hF1 ho ho1 hq rfl lw_upd0)
set_option maxRecDepth 100000 in
set_option maxHeartbeats 1000000 in
theorem c_L_life (l : Launch) (w : hv_W) (g : cl_g) (A Z : ab_A) (Y0 : hv_H) (hg : cl_ok g (A 4 0) (A 15 0)) (hlt : l.stackTraces = false) (hI : ab_I A) (hZ : cl_Z A Z) (hF : cl_F g Y0) (o9 : Nat) (f : Nat → Int64) (ho : Y0 o9 = some (ob_c w f)) (x : Int32) : hv_Mr l yL_life wsL_life ({ frames := 8, cells := 6, slots := 40, locals := 172 }) w [.ref (g.1 0 0), .int x, .ref o9] (cl_Y w g A Z Y0) (lw_post w (g.1 0 0) o9 Y0 (q_barge A x 18) (q_barge A x 18).2.1.toInt64) := by
  refine hv_ofVH (cc := cL_life) (own := RL) (by decide) rfl rfl (Nat.le_of_ble_eq_true rfl) rfl ?_
  intro p e s m below meth c C hret htab
  refine hv_aload_n C dL_life_0 rfl 2 rfl ?_
  refine hv_iconst (v := nI 0) C dL_life_1 (by decide) ?_
  refine hv_aload_n C dL_life_2 rfl 0 rfl ?_
  refine hv_iload_n C dL_life_3 rfl 1 rfl ?_
  refine hv_callVrh (As := [.int x]) (rest := [.int (nI 0), .ref o9]) (n := 1) C (c_X4_life l w g A Z Y0 hg hlt hI hZ hF x) gL_life_X4_life rfl (by decide +kernel) ⟨(Nat.le_of_ble_eq_true rfl), (Nat.le_of_ble_eq_true rfl)⟩ (cl_rc hg (Or.inl ⟨by decide, rfl⟩) rfl rfl) rfl rfl (Nat.le_of_ble_eq_true rfl) dL_life_4 ⟨(Nat.le_of_ble_eq_true rfl), (Nat.le_of_ble_eq_true rfl)⟩ (fun E Y1 hE => ?_) (fun r Y1 hr => ?_)
  · obtain ⟨hE, rfl⟩ := hE
    have hE : (E = hv_IO ∧ (q_barge A x 18).1 = 1) := hE
    rcases hE with ⟨rfl, hq⟩
    · refine ⟨[], ⟨0, 9, 12, 13⟩, [], hv_IO, htab, fun z hz => absurd hz List.not_mem_nil, by decide, by decide, by decide +kernel, hv_cE C hv_nIO, fun q9 => ?_⟩
      refine hv_astore_n (lv1 := []) C dL_life_12 rfl (by decide) [] rfl ?_
      refine hv_iconst (v := nI 1) C dL_life_13 (by decide) ?_
      exact hv_iret C hret dL_life_14 (Nat.le_of_ble_eq_true rfl) (Nat.le_of_ble_eq_true rfl) (lw_postE hg hZ hF ho hq (by decide) (by decide) (qk_barge x 18))
  · obtain ⟨hq, rfl, g1, Z1, hg1, hZ1, hF1, ho1, rfl⟩ := hr
    refine hv_i2l (v := (q_barge A x 18).2.1.toInt64) C dL_life_7 rfl ?_
    refine hv_last (n := 1) (f := f) C ((cl_oat (cl_out (w := w) (A := A) (Z := Z) hF1 ho)).trans ho) (vp_in_nI (by decide) (by decide)) dL_life_8 ?_
    refine hv_goto (tgt := 15) C dL_life_9 (by decide) ?_
    refine hv_iconst (v := nI 0) C dL_life_15 (by decide) ?_
    exact hv_iret C hret dL_life_16 (Nat.le_of_ble_eq_true rfl) (Nat.le_of_ble_eq_true rfl) (lw_postR (f' := vp_updL f (nI 0).toNatClampNeg (q_barge A x 18).2.1.toInt64) hg1 hZ1 hF1 ho ho1 hq rfl lw_upd0)
set_option maxRecDepth 100000 in
set_option maxHeartbeats 1000000 in
theorem c_L_repeats (l : Launch) (w : hv_W) (g : cl_g) (A Z : ab_A) (Y0 : hv_H) (hg : cl_ok g (A 4 0) (A 15 0)) (hlt : l.stackTraces = false) (hI : ab_I A) (hZ : cl_Z A Z) (hF : cl_F g Y0) (o9 : Nat) (f : Nat → Int64) (ho : Y0 o9 = some (ob_c w f)) (x : Int32) : hv_Mr l yL_repeats wsL_repeats ({ frames := 8, cells := 6, slots := 40, locals := 172 }) w [.ref (g.1 0 0), .int x, .ref o9] (cl_Y w g A Z Y0) (lw_post w (g.1 0 0) o9 Y0 (q_barge A x 20) (q_barge A x 20).2.1.toInt64) := by
  refine hv_ofVH (cc := cL_repeats) (own := RL) (by decide) rfl rfl (Nat.le_of_ble_eq_true rfl) rfl ?_
  intro p e s m below meth c C hret htab
  refine hv_aload_n C dL_repeats_0 rfl 2 rfl ?_
  refine hv_iconst (v := nI 0) C dL_repeats_1 (by decide) ?_
  refine hv_aload_n C dL_repeats_2 rfl 0 rfl ?_
  refine hv_iload_n C dL_repeats_3 rfl 1 rfl ?_
  refine hv_callVrh (As := [.int x]) (rest := [.int (nI 0), .ref o9]) (n := 1) C (c_X4_repeats l w g A Z Y0 hg hlt hI hZ hF x) gL_repeats_X4_repeats rfl (by decide +kernel) ⟨(Nat.le_of_ble_eq_true rfl), (Nat.le_of_ble_eq_true rfl)⟩ (cl_rc hg (Or.inl ⟨by decide, rfl⟩) rfl rfl) rfl rfl (Nat.le_of_ble_eq_true rfl) dL_repeats_4 ⟨(Nat.le_of_ble_eq_true rfl), (Nat.le_of_ble_eq_true rfl)⟩ (fun E Y1 hE => ?_) (fun r Y1 hr => ?_)
  · obtain ⟨hE, rfl⟩ := hE
    have hE : (E = hv_IO ∧ (q_barge A x 20).1 = 1) := hE
    rcases hE with ⟨rfl, hq⟩
    · refine ⟨[], ⟨0, 9, 12, 13⟩, [], hv_IO, htab, fun z hz => absurd hz List.not_mem_nil, by decide, by decide, by decide +kernel, hv_cE C hv_nIO, fun q9 => ?_⟩
      refine hv_astore_n (lv1 := []) C dL_repeats_12 rfl (by decide) [] rfl ?_
      refine hv_iconst (v := nI 1) C dL_repeats_13 (by decide) ?_
      exact hv_iret C hret dL_repeats_14 (Nat.le_of_ble_eq_true rfl) (Nat.le_of_ble_eq_true rfl) (lw_postE hg hZ hF ho hq (by decide) (by decide) (qk_barge x 20))
  · obtain ⟨hq, rfl, g1, Z1, hg1, hZ1, hF1, ho1, rfl⟩ := hr
    refine hv_i2l (v := (q_barge A x 20).2.1.toInt64) C dL_repeats_7 rfl ?_
    refine hv_last (n := 1) (f := f) C ((cl_oat (cl_out (w := w) (A := A) (Z := Z) hF1 ho)).trans ho) (vp_in_nI (by decide) (by decide)) dL_repeats_8 ?_
    refine hv_goto (tgt := 15) C dL_repeats_9 (by decide) ?_
    refine hv_iconst (v := nI 0) C dL_repeats_15 (by decide) ?_
    exact hv_iret C hret dL_repeats_16 (Nat.le_of_ble_eq_true rfl) (Nat.le_of_ble_eq_true rfl) (lw_postR (f' := vp_updL f (nI 0).toNatClampNeg (q_barge A x 20).2.1.toInt64) hg1 hZ1 hF1 ho ho1 hq rfl lw_upd0)
theorem qk_queue {A : ab_A} (x : Int32) : (q_queue A x).1 ≠ 0 → (q_queue A x).2.2 = A := by
  unfold q_queue
  (repeat' split) <;> simp
set_option maxRecDepth 100000 in
set_option maxHeartbeats 1000000 in
theorem c_L_queue (l : Launch) (w : hv_W) (g : cl_g) (A Z : ab_A) (Y0 : hv_H) (hg : cl_ok g (A 4 0) (A 15 0)) (hlt : l.stackTraces = false) (hI : ab_I A) (hZ : cl_Z A Z) (hF : cl_F g Y0) (o9 : Nat) (f : Nat → Int64) (ho : Y0 o9 = some (ob_c w f)) (x : Int32) : hv_Mr l yL_queue wsL_queue ({ frames := 8, cells := 6, slots := 40, locals := 172 }) w [.ref (g.1 0 0), .int x, .ref o9] (cl_Y w g A Z Y0) (lw_post w (g.1 0 0) o9 Y0 (q_queue A x) (q_queue A x).2.1.toInt64) := by
  refine hv_ofVH (cc := cL_queue) (own := RL) (by decide) rfl rfl (Nat.le_of_ble_eq_true rfl) rfl ?_
  intro p e s m below meth c C hret htab
  refine hv_aload_n C dL_queue_0 rfl 2 rfl ?_
  refine hv_iconst (v := nI 0) C dL_queue_1 (by decide) ?_
  refine hv_aload_n C dL_queue_2 rfl 0 rfl ?_
  refine hv_iload_n C dL_queue_3 rfl 1 rfl ?_
  refine hv_callVrh (As := [.int x]) (rest := [.int (nI 0), .ref o9]) (n := 1) C (c_X4_queue l w g A Z Y0 hg hlt hI hZ hF x) gL_queue_X4_queue rfl (by decide +kernel) ⟨(Nat.le_of_ble_eq_true rfl), (Nat.le_of_ble_eq_true rfl)⟩ (cl_rc hg (Or.inl ⟨by decide, rfl⟩) rfl rfl) rfl rfl (Nat.le_of_ble_eq_true rfl) dL_queue_4 ⟨(Nat.le_of_ble_eq_true rfl), (Nat.le_of_ble_eq_true rfl)⟩ (fun E Y1 hE => ?_) (fun r Y1 hr => ?_)
  · obtain ⟨hE, rfl⟩ := hE
    have hE : (E = hv_IO ∧ (q_queue A x).1 = 1) := hE
    rcases hE with ⟨rfl, hq⟩
    · refine ⟨[], ⟨0, 9, 12, 13⟩, [], hv_IO, htab, fun z hz => absurd hz List.not_mem_nil, by decide, by decide, by decide +kernel, hv_cE C hv_nIO, fun q9 => ?_⟩
      refine hv_astore_n (lv1 := []) C dL_queue_12 rfl (by decide) [] rfl ?_
      refine hv_iconst (v := nI 1) C dL_queue_13 (by decide) ?_
      exact hv_iret C hret dL_queue_14 (Nat.le_of_ble_eq_true rfl) (Nat.le_of_ble_eq_true rfl) (lw_postE hg hZ hF ho hq (by decide) (by decide) (qk_queue x))
  · obtain ⟨hq, rfl, g1, Z1, hg1, hZ1, hF1, ho1, rfl⟩ := hr
    refine hv_i2l (v := (q_queue A x).2.1.toInt64) C dL_queue_7 rfl ?_
    refine hv_last (n := 1) (f := f) C ((cl_oat (cl_out (w := w) (A := A) (Z := Z) hF1 ho)).trans ho) (vp_in_nI (by decide) (by decide)) dL_queue_8 ?_
    refine hv_goto (tgt := 15) C dL_queue_9 (by decide) ?_
    refine hv_iconst (v := nI 0) C dL_queue_15 (by decide) ?_
    exact hv_iret C hret dL_queue_16 (Nat.le_of_ble_eq_true rfl) (Nat.le_of_ble_eq_true rfl) (lw_postR (f' := vp_updL f (nI 0).toNatClampNeg (q_queue A x).2.1.toInt64) hg1 hZ1 hF1 ho ho1 hq rfl lw_upd0)
theorem qk_queued {A : ab_A} (x : Int32) (y : Int32) : (q_queued A x y).1 ≠ 0 → (q_queued A x y).2.2 = A := by
  unfold q_queued
  (repeat' split) <;> simp
set_option maxRecDepth 100000 in
set_option maxHeartbeats 1000000 in
theorem c_L_queued (l : Launch) (w : hv_W) (g : cl_g) (A Z : ab_A) (Y0 : hv_H) (hg : cl_ok g (A 4 0) (A 15 0)) (hlt : l.stackTraces = false) (hI : ab_I A) (hZ : cl_Z A Z) (hF : cl_F g Y0) (o9 : Nat) (f : Nat → Int64) (ho : Y0 o9 = some (ob_c w f)) (x : Int32) (y : Int32) : hv_Mr l yL_queued wsL_queued ({ frames := 8, cells := 6, slots := 40, locals := 174 }) w [.ref (g.1 0 0), .int x, .int y, .ref o9] (cl_Y w g A Z Y0) (lw_post w (g.1 0 0) o9 Y0 (q_queued A x y) (q_queued A x y).2.1.toInt64) := by
  refine hv_ofVH (cc := cL_queued) (own := RL) (by decide) rfl rfl (Nat.le_of_ble_eq_true rfl) rfl ?_
  intro p e s m below meth c C hret htab
  refine hv_aload_n C dL_queued_0 rfl 3 rfl ?_
  refine hv_iconst (v := nI 0) C dL_queued_1 (by decide) ?_
  refine hv_aload_n C dL_queued_2 rfl 0 rfl ?_
  refine hv_iload_n C dL_queued_3 rfl 1 rfl ?_
  refine hv_iload_n C dL_queued_4 rfl 2 rfl ?_
  refine hv_callVrh (As := [.int x, .int y]) (rest := [.int (nI 0), .ref o9]) (n := 2) C (c_X4_queued l w g A Z Y0 hg hlt hI hZ hF x y) gL_queued_X4_queued rfl (by decide +kernel) ⟨(Nat.le_of_ble_eq_true rfl), (Nat.le_of_ble_eq_true rfl)⟩ (cl_rc hg (Or.inl ⟨by decide, rfl⟩) rfl rfl) rfl rfl (Nat.le_of_ble_eq_true rfl) dL_queued_5 ⟨(Nat.le_of_ble_eq_true rfl), (Nat.le_of_ble_eq_true rfl)⟩ (fun E Y1 hE => ?_) (fun r Y1 hr => ?_)
  · obtain ⟨hE, rfl⟩ := hE
    have hE : (E = hv_IO ∧ (q_queued A x y).1 = 1) ∨ (E = hv_IA ∧ (q_queued A x y).1 = 2) := hE
    rcases hE with ⟨rfl, hq⟩ | ⟨rfl, hq⟩
    · refine ⟨[], ⟨0, 10, 13, 13⟩, [⟨0, 10, 17, 15⟩], hv_IO, htab, fun z hz => absurd hz List.not_mem_nil, by decide, by decide, by decide +kernel, hv_cE C hv_nIO, fun q9 => ?_⟩
      refine hv_astore (lv1 := []) C dL_queued_13 (by decide) [] rfl ?_
      refine hv_iconst (v := nI 1) C dL_queued_15 (by decide) ?_
      exact hv_iret C hret dL_queued_16 (Nat.le_of_ble_eq_true rfl) (Nat.le_of_ble_eq_true rfl) (lw_postE hg hZ hF ho hq (by decide) (by decide) (qk_queued x y))
    · refine ⟨[⟨0, 10, 13, 13⟩], ⟨0, 10, 17, 15⟩, [], hv_IA, htab, fun z hz => by
        rw [List.mem_singleton.mp hz]
        exact Or.inr ⟨by decide, hv_IO, by decide +kernel, hv_ncA C⟩, by decide, by decide, by decide +kernel, hv_cE C hv_nIA, fun q9 => ?_⟩
      refine hv_astore (lv1 := []) C dL_queued_17 (by decide) [] rfl ?_
      refine hv_iconst (v := nI 2) C dL_queued_19 (by decide) ?_
      exact hv_iret C hret dL_queued_20 (Nat.le_of_ble_eq_true rfl) (Nat.le_of_ble_eq_true rfl) (lw_postE hg hZ hF ho hq (by decide) (by decide) (qk_queued x y))
  · obtain ⟨hq, rfl, g1, Z1, hg1, hZ1, hF1, ho1, rfl⟩ := hr
    refine hv_i2l (v := (q_queued A x y).2.1.toInt64) C dL_queued_8 rfl ?_
    refine hv_last (n := 1) (f := f) C ((cl_oat (cl_out (w := w) (A := A) (Z := Z) hF1 ho)).trans ho) (vp_in_nI (by decide) (by decide)) dL_queued_9 ?_
    refine hv_goto (tgt := 21) C dL_queued_10 (by decide) ?_
    refine hv_iconst (v := nI 0) C dL_queued_21 (by decide) ?_
    exact hv_iret C hret dL_queued_22 (Nat.le_of_ble_eq_true rfl) (Nat.le_of_ble_eq_true rfl) (lw_postR (f' := vp_updL f (nI 0).toNatClampNeg (q_queued A x y).2.1.toInt64) hg1 hZ1 hF1 ho ho1 hq rfl lw_upd0)
