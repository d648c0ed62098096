/-! ints that are naturals -/
def b2 (q : Prop) [Decidable q] : Nat := if q then 1 else 0
theorem b2_t {q : Prop} [Decidable q] (h : q) : b2 q = 1 := if_pos h
theorem b2_f {q : Prop} [Decidable q] (h : ¬ q) : b2 q = 0 := if_neg h
theorem b2_le {q : Prop} [Decidable q] : b2 q ≤ 1 := by unfold b2; split <;> omega
theorem b2_0 {q : Prop} [Decidable q] : nI (b2 q) = 0 ↔ ¬ q := by
  unfold b2
  split <;> rename_i h <;> simp [h] <;> decide
theorem b2_nar {q : Prop} [Decidable q] : narrow .boolean (.int (nI (b2 q))) = .int (nI (b2 q)) := by
  unfold b2
  split <;> rfl
theorem nI_e0 : (nI 0 + (-1) : Int32) = -1 := by decide
theorem nI_eS (n : Nat) : (nI (n + 1) + (-1) : Int32) = nI n := pk_m1 n
theorem nI_einj {a b : Nat} (ha : a < 2 ^ 31) (hb : b < 2 ^ 31) : (nI a + (-1) : Int32) = nI b + (-1) ↔ a = b := by
  constructor
  · intro h
    have h1 : nI a = nI b := by
      have := congrArg (fun z : Int32 => z + 1) h
      simpa [Int32.add_assoc] using this
    exact (nI_eq ha hb).mp h1
  · intro h; rw [h]
theorem nI_z {x : Nat} (hx : x < 2 ^ 31) : nI x = 0 ↔ x = 0 := nI_eq hx (b := 0) (by decide)
section HN
variable {p : Program} {l : Launch} {e : Env} {R : Room} {s : State} {m : MethodId} {args : Array Value} {below : List Frame} {meth : Method} {c : Code} {w : hv_W} {nL : Nat} {Q : State → Prop} {cells slots : Nat} {Y : hv_H} {lv : List (Nat × Value)} {pc : Nat} {rest : List Value} {own : String} {cc : ByteArray} {Ts : List Cond}
theorem hv_iaddN (C : hv_C own cc nL Ts w p s m args meth c) {x y : Nat} (hdg : decode cc pc = .ok (.iadd, 1)) (kk : hv_V p l e R s m args below meth c w nL Q cells slots Y lv (pc + 1) (.int (nI (x + y)) :: rest)) : hv_V p l e R s m args below meth c w nL Q cells slots Y lv pc (.int (nI y) :: .int (nI x) :: rest) := hv_iadd C hdg (by rw [nI_add]; exact kk)
theorem hv_imulN (C : hv_C own cc nL Ts w p s m args meth c) {x y : Nat} (hdg : decode cc pc = .ok (.imul, 1)) (kk : hv_V p l e R s m args below meth c w nL Q cells slots Y lv (pc + 1) (.int (nI (x * y)) :: rest)) : hv_V p l e R s m args below meth c w nL Q cells slots Y lv pc (.int (nI y) :: .int (nI x) :: rest) := hv_imul C hdg (by rw [pk_mul]; exact kk)
theorem hv_isubN (C : hv_C own cc nL Ts w p s m args meth c) {x y : Nat} (hdg : decode cc pc = .ok (.isub, 1)) (h : y ≤ x) (kk : hv_V p l e R s m args below meth c w nL Q cells slots Y lv (pc + 1) (.int (nI (x - y)) :: rest)) : hv_V p l e R s m args below meth c w nL Q cells slots Y lv pc (.int (nI y) :: .int (nI x) :: rest) := hv_isub C hdg (by rw [pk_sub h]; exact kk)
theorem hv_idivN (C : hv_C own cc nL Ts w p s m args meth c) {x y : Nat} (hdg : decode cc pc = .ok (.idiv, 1)) (hx : x < 2 ^ 31) (h0 : 0 < y) (hy : y < 2 ^ 31) (kk : hv_V p l e R s m args below meth c w nL Q cells slots Y lv (pc + 1) (.int (nI (x / y)) :: rest)) : hv_V p l e R s m args below meth c w nL Q cells slots Y lv pc (.int (nI y) :: .int (nI x) :: rest) := hv_idiv C hdg (nI_ne0 h0 hy) (by rw [pk_div hx h0 hy]; exact kk)
theorem hv_iremN (C : hv_C own cc nL Ts w p s m args meth c) {x y : Nat} (hdg : decode cc pc = .ok (.irem, 1)) (hx : x < 2 ^ 31) (h0 : 0 < y) (hy : y < 2 ^ 31) (kk : hv_V p l e R s m args below meth c w nL Q cells slots Y lv (pc + 1) (.int (nI (x % y)) :: rest)) : hv_V p l e R s m args below meth c w nL Q cells slots Y lv pc (.int (nI y) :: .int (nI x) :: rest) := hv_irem C hdg (nI_ne0 h0 hy) (by rw [pk_rem hx h0 hy]; exact kk)
theorem hv_top {x y : Int32} (h : x = y) (kk : hv_V p l e R s m args below meth c w nL Q cells slots Y lv pc (.int y :: rest)) : hv_V p l e R s m args below meth c w nL Q cells slots Y lv pc (.int x :: rest) := by rw [h]; exact kk
theorem hv_icmpN_eq (C : hv_C own cc nL Ts w p s m args meth c) {x y : Nat} {off : Int} {tgt : Nat} (hdg : decode cc pc = .ok (.if_icmp .eq off, 3)) (ht : (pc : Int) + off = (tgt : Int)) (hx : x < 2 ^ 31) (hy : y < 2 ^ 31) (kt : x = y → hv_V p l e R s m args below meth c w nL Q cells slots Y lv tgt rest) (kf : x ≠ y → hv_V p l e R s m args below meth c w nL Q cells slots Y lv (pc + 3) rest) : hv_V p l e R s m args below meth c w nL Q cells slots Y lv pc (.int (nI y) :: .int (nI x) :: rest) := hv_icmp_eq C hdg ht (fun h => kt ((nI_eq hx hy).mp h)) (fun h => kf (fun q => h ((nI_eq hx hy).mpr q)))
theorem hv_icmpN_ne (C : hv_C own cc nL Ts w p s m args meth c) {x y : Nat} {off : Int} {tgt : Nat} (hdg : decode cc pc = .ok (.if_icmp .ne off, 3)) (ht : (pc : Int) + off = (tgt : Int)) (hx : x < 2 ^ 31) (hy : y < 2 ^ 31) (kt : x ≠ y → hv_V p l e R s m args below meth c w nL Q cells slots Y lv tgt rest) (kf : x = y → hv_V p l e R s m args below meth c w nL Q cells slots Y lv (pc + 3) rest) : hv_V p l e R s m args below meth c w nL Q cells slots Y lv pc (.int (nI y) :: .int (nI x) :: rest) := hv_icmp_ne C hdg ht (fun h => kt (fun q => h ((nI_eq hx hy).mpr q))) (fun h => kf ((nI_eq hx hy).mp h))
theorem hv_icmpN_lt (C : hv_C own cc nL Ts w p s m args meth c) {x y : Nat} {off : Int} {tgt : Nat} (hdg : decode cc pc = .ok (.if_icmp .lt off, 3)) (ht : (pc : Int) + off = (tgt : Int)) (hx : x < 2 ^ 31) (hy : y < 2 ^ 31) (kt : x < y → hv_V p l e R s m args below meth c w nL Q cells slots Y lv tgt rest) (kf : y ≤ x → hv_V p l e R s m args below meth c w nL Q cells slots Y lv (pc + 3) rest) : hv_V p l e R s m args below meth c w nL Q cells slots Y lv pc (.int (nI y) :: .int (nI x) :: rest) := hv_icmp_lt C hdg ht (fun h => kt ((nI_ltI hx hy).mp h)) (fun h => kf (Nat.le_of_not_lt (fun q => h ((nI_ltI hx hy).mpr q))))
theorem hv_icmpN_ge (C : hv_C own cc nL Ts w p s m args meth c) {x y : Nat} {off : Int} {tgt : Nat} (hdg : decode cc pc = .ok (.if_icmp .ge off, 3)) (ht : (pc : Int) + off = (tgt : Int)) (hx : x < 2 ^ 31) (hy : y < 2 ^ 31) (kt : y ≤ x → hv_V p l e R s m args below meth c w nL Q cells slots Y lv tgt rest) (kf : x < y → hv_V p l e R s m args below meth c w nL Q cells slots Y lv (pc + 3) rest) : hv_V p l e R s m args below meth c w nL Q cells slots Y lv pc (.int (nI y) :: .int (nI x) :: rest) := hv_icmp_ge C hdg ht (fun h => kt ((nI_leI hy hx).mp h)) (fun h => kf (Nat.lt_of_not_le (fun q => h ((nI_leI hy hx).mpr q))))
theorem hv_icmpN_gt (C : hv_C own cc nL Ts w p s m args meth c) {x y : Nat} {off : Int} {tgt : Nat} (hdg : decode cc pc = .ok (.if_icmp .gt off, 3)) (ht : (pc : Int) + off = (tgt : Int)) (hx : x < 2 ^ 31) (hy : y < 2 ^ 31) (kt : y < x → hv_V p l e R s m args below meth c w nL Q cells slots Y lv tgt rest) (kf : x ≤ y → hv_V p l e R s m args below meth c w nL Q cells slots Y lv (pc + 3) rest) : hv_V p l e R s m args below meth c w nL Q cells slots Y lv pc (.int (nI y) :: .int (nI x) :: rest) := hv_icmp_gt C hdg ht (fun h => kt ((nI_ltI hy hx).mp h)) (fun h => kf (Nat.le_of_not_lt (fun q => h ((nI_ltI hy hx).mpr q))))
theorem hv_icmpN_le (C : hv_C own cc nL Ts w p s m args meth c) {x y : Nat} {off : Int} {tgt : Nat} (hdg : decode cc pc = .ok (.if_icmp .le off, 3)) (ht : (pc : Int) + off = (tgt : Int)) (hx : x < 2 ^ 31) (hy : y < 2 ^ 31) (kt : x ≤ y → hv_V p l e R s m args below meth c w nL Q cells slots Y lv tgt rest) (kf : y < x → hv_V p l e R s m args below meth c w nL Q cells slots Y lv (pc + 3) rest) : hv_V p l e R s m args below meth c w nL Q cells slots Y lv pc (.int (nI y) :: .int (nI x) :: rest) := hv_icmp_le C hdg ht (fun h => kt ((nI_leI hx hy).mp h)) (fun h => kf (Nat.lt_of_not_le (fun q => h ((nI_leI hx hy).mpr q))))
theorem hv_icmpE_eq (C : hv_C own cc nL Ts w p s m args meth c) {x y : Nat} {off : Int} {tgt : Nat} (hdg : decode cc pc = .ok (.if_icmp .eq off, 3)) (ht : (pc : Int) + off = (tgt : Int)) (hx : x < 2 ^ 31) (hy : y < 2 ^ 31) (kt : x = y → hv_V p l e R s m args below meth c w nL Q cells slots Y lv tgt rest) (kf : x ≠ y → hv_V p l e R s m args below meth c w nL Q cells slots Y lv (pc + 3) rest) : hv_V p l e R s m args below meth c w nL Q cells slots Y lv pc (.int (nI y + (-1)) :: .int (nI x + (-1)) :: rest) := hv_icmp_eq C hdg ht (fun h => kt ((nI_einj hx hy).mp h)) (fun h => kf (fun q => h ((nI_einj hx hy).mpr q)))
theorem hv_icmpE_ne (C : hv_C own cc nL Ts w p s m args meth c) {x y : Nat} {off : Int} {tgt : Nat} (hdg : decode cc pc = .ok (.if_icmp .ne off, 3)) (ht : (pc : Int) + off = (tgt : Int)) (hx : x < 2 ^ 31) (hy : y < 2 ^ 31) (kt : x ≠ y → hv_V p l e R s m args below meth c w nL Q cells slots Y lv tgt rest) (kf : x = y → hv_V p l e R s m args below meth c w nL Q cells slots Y lv (pc + 3) rest) : hv_V p l e R s m args below meth c w nL Q cells slots Y lv pc (.int (nI y + (-1)) :: .int (nI x + (-1)) :: rest) := hv_icmp_ne C hdg ht (fun h => kt (fun q => h ((nI_einj hx hy).mpr q))) (fun h => kf ((nI_einj hx hy).mp h))
theorem hv_ifN_eq (C : hv_C own cc nL Ts w p s m args meth c) {x : Nat} {off : Int} {tgt : Nat} (hdg : decode cc pc = .ok (.ifCond .eq off, 3)) (ht : (pc : Int) + off = (tgt : Int)) (hx : x < 2 ^ 31) (kt : x = 0 → hv_V p l e R s m args below meth c w nL Q cells slots Y lv tgt rest) (kf : x ≠ 0 → hv_V p l e R s m args below meth c w nL Q cells slots Y lv (pc + 3) rest) : hv_V p l e R s m args below meth c w nL Q cells slots Y lv pc (.int (nI x) :: rest) := hv_if_eq C hdg ht (fun h => kt ((nI_z hx).mp h)) (fun h => kf (fun q => h ((nI_z hx).mpr q)))
theorem hv_ifN_ne (C : hv_C own cc nL Ts w p s m args meth c) {x : Nat} {off : Int} {tgt : Nat} (hdg : decode cc pc = .ok (.ifCond .ne off, 3)) (ht : (pc : Int) + off = (tgt : Int)) (hx : x < 2 ^ 31) (kt : x ≠ 0 → hv_V p l e R s m args below meth c w nL Q cells slots Y lv tgt rest) (kf : x = 0 → hv_V p l e R s m args below meth c w nL Q cells slots Y lv (pc + 3) rest) : hv_V p l e R s m args below meth c w nL Q cells slots Y lv pc (.int (nI x) :: rest) := hv_if_ne C hdg ht (fun h => kt (fun q => h ((nI_z hx).mpr q))) (fun h => kf ((nI_z hx).mp h))
theorem hv_ifN_lt (C : hv_C own cc nL Ts w p s m args meth c) {x : Nat} {off : Int} {tgt : Nat} (hdg : decode cc pc = .ok (.ifCond .lt off, 3)) (ht : (pc : Int) + off = (tgt : Int)) (hx : x < 2 ^ 31) (kt : False → hv_V p l e R s m args below meth c w nL Q cells slots Y lv tgt rest) (kf : 0 ≤ x → hv_V p l e R s m args below meth c w nL Q cells slots Y lv (pc + 3) rest) : hv_V p l e R s m args below meth c w nL Q cells slots Y lv pc (.int (nI x) :: rest) := hv_if_lt C hdg ht (fun h => kt (nI_pos hx h)) (fun h => kf (Nat.zero_le _))
theorem hv_ifN_ge (C : hv_C own cc nL Ts w p s m args meth c) {x : Nat} {off : Int} {tgt : Nat} (hdg : decode cc pc = .ok (.ifCond .ge off, 3)) (ht : (pc : Int) + off = (tgt : Int)) (hx : x < 2 ^ 31) (kt : 0 ≤ x → hv_V p l e R s m args below meth c w nL Q cells slots Y lv tgt rest) (kf : False → hv_V p l e R s m args below meth c w nL Q cells slots Y lv (pc + 3) rest) : hv_V p l e R s m args below meth c w nL Q cells slots Y lv pc (.int (nI x) :: rest) := hv_if_ge C hdg ht (fun h => kt (Nat.zero_le _)) (fun h => kf (h (nI_pos' hx)))
theorem hv_ifN_gt (C : hv_C own cc nL Ts w p s m args meth c) {x : Nat} {off : Int} {tgt : Nat} (hdg : decode cc pc = .ok (.ifCond .gt off, 3)) (ht : (pc : Int) + off = (tgt : Int)) (hx : x < 2 ^ 31) (kt : 0 < x → hv_V p l e R s m args below meth c w nL Q cells slots Y lv tgt rest) (kf : x = 0 → hv_V p l e R s m args below meth c w nL Q cells slots Y lv (pc + 3) rest) : hv_V p l e R s m args below meth c w nL Q cells slots Y lv pc (.int (nI x) :: rest) := hv_if_gt C hdg ht (fun h => kt (Nat.pos_of_ne_zero (fun q => by rw [q] at h; exact absurd h (by decide)))) (fun h => kf (Nat.eq_zero_of_not_pos (fun q => h (nI_lt (a := 0) q hx))))
theorem hv_ifN_le (C : hv_C own cc nL Ts w p s m args meth c) {x : Nat} {off : Int} {tgt : Nat} (hdg : decode cc pc = .ok (.ifCond .le off, 3)) (ht : (pc : Int) + off = (tgt : Int)) (hx : x < 2 ^ 31) (kt : x = 0 → hv_V p l e R s m args below meth c w nL Q cells slots Y lv tgt rest) (kf : 0 < x → hv_V p l e R s m args below meth c w nL Q cells slots Y lv (pc + 3) rest) : hv_V p l e R s m args below meth c w nL Q cells slots Y lv pc (.int (nI x) :: rest) := hv_if_le C hdg ht (fun h => kt (Nat.eq_zero_of_not_pos (fun q => absurd h (nI_nle q hx)))) (fun h => kf (Nat.pos_of_ne_zero (fun q => by rw [q] at h; exact absurd h (by decide))))
theorem hv_ifb_eq (C : hv_C own cc nL Ts w p s m args meth c) {q : Prop} [Decidable q] {off : Int} {tgt : Nat} (hdg : decode cc pc = .ok (.ifCond .eq off, 3)) (ht : (pc : Int) + off = (tgt : Int)) (kt : ¬ q → hv_V p l e R s m args below meth c w nL Q cells slots Y lv tgt rest) (kf : q → hv_V p l e R s m args below meth c w nL Q cells slots Y lv (pc + 3) rest) : hv_V p l e R s m args below meth c w nL Q cells slots Y lv pc (.int (nI (b2 q)) :: rest) := hv_if_eq C hdg ht (fun h => kt (b2_0.mp h)) (fun h => kf (Decidable.byContradiction (fun z => h (b2_0.mpr z))))
theorem hv_ifb_ne (C : hv_C own cc nL Ts w p s m args meth c) {q : Prop} [Decidable q] {off : Int} {tgt : Nat} (hdg : decode cc pc = .ok (.ifCond .ne off, 3)) (ht : (pc : Int) + off = (tgt : Int)) (kt : q → hv_V p l e R s m args below meth c w nL Q cells slots Y lv tgt rest) (kf : ¬ q → hv_V p l e R s m args below meth c w nL Q cells slots Y lv (pc + 3) rest) : hv_V p l e R s m args below meth c w nL Q cells slots Y lv pc (.int (nI (b2 q)) :: rest) := hv_if_ne C hdg ht (fun h => kt (Decidable.byContradiction (fun z => h (b2_0.mpr z)))) (fun h => kf (b2_0.mp h))
theorem hv_loop {st : List Value} (n : Nat) (YJ : Nat → hv_H) (lvJ : Nat → List (Nat × Value)) (hx : hv_V p l e R s m args below meth c w nL Q cells slots (YJ n) (lvJ n) pc st) (hs : ∀ i : Nat, i < n → hv_V p l e R s m args below meth c w nL Q cells slots (YJ (i + 1)) (lvJ (i + 1)) pc st → hv_V p l e R s m args below meth c w nL Q cells slots (YJ i) (lvJ i) pc st) : hv_V p l e R s m args below meth c w nL Q cells slots (YJ 0) (lvJ 0) pc st := by
  have key : ∀ d : Nat, d ≤ n → hv_V p l e R s m args below meth c w nL Q cells slots (YJ (n - d)) (lvJ (n - d)) pc st := by
    intro d
    induction d with
    | zero => intro _; exact hx
    | succ d ih =>
      intro h
      exact hs (n - (d + 1)) (by omega) (by rw [show n - (d + 1) + 1 = n - d by omega]; exact ih (by omega))
  have h9 := key n (Nat.le_refl n)
  rw [Nat.sub_self] at h9
  exact h9
theorem hv_loopP {st : List Value} {σ : Type} (n : Nat) (YJ : Nat → σ → hv_H) (lvJ : Nat → σ → List (Nat × Value)) (Inv : Nat → σ → Prop) (hx : ∀ z : σ, Inv n z → hv_V p l e R s m args below meth c w nL Q cells slots (YJ n z) (lvJ n z) pc st) (hs : ∀ (i : Nat) (z : σ), i < n → Inv i z → (∀ z1 : σ, Inv (i + 1) z1 → hv_V p l e R s m args below meth c w nL Q cells slots (YJ (i + 1) z1) (lvJ (i + 1) z1) pc st) → hv_V p l e R s m args below meth c w nL Q cells slots (YJ i z) (lvJ i z) pc st) (z : σ) (h0 : Inv 0 z) : hv_V p l e R s m args below meth c w nL Q cells slots (YJ 0 z) (lvJ 0 z) pc st := by
  have key : ∀ d : Nat, d ≤ n → ∀ z : σ, Inv (n - d) z → hv_V p l e R s m args below meth c w nL Q cells slots (YJ (n - d) z) (lvJ (n - d) z) pc st := by
    intro d
    induction d with
    | zero => intro _ z hz; exact hx z hz
    | succ d ih =>
      intro h z hz
      exact hs (n - (d + 1)) z (by omega) hz (by rw [show n - (d + 1) + 1 = n - d by omega]; exact ih (by omega))
  have h9 := key n (Nat.le_refl n)
  rw [Nat.sub_self] at h9
  exact h9 z h0
theorem hv_join {α : Type} {pcJ : Nat} {st : List Value} (YJ : α → hv_H) (lvJ : α → List (Nat × Value)) (stJ : α → List Value) (Cn : α → Prop) (kJ : ∀ t : α, Cn t → hv_V p l e R s m args below meth c w nL Q cells slots (YJ t) (lvJ t) pcJ (stJ t)) (k : (∀ t : α, Cn t → hv_V p l e R s m args below meth c w nL Q cells slots (YJ t) (lvJ t) pcJ (stJ t)) → hv_V p l e R s m args below meth c w nL Q cells slots Y lv pc st) : hv_V p l e R s m args below meth c w nL Q cells slots Y lv pc st := k kJ
theorem hv_fin {Y1 : hv_H} {lv1 : List (Nat × Value)} {st : List Value} (k : hv_V p l e R s m args below meth c w nL Q cells slots Y1 lv1 pc st) (hY : Y = Y1) (hl : lv = lv1) : hv_V p l e R s m args below meth c w nL Q cells slots Y lv pc st := by
  subst hY
  subst hl
  exact k
end HN
/-! THE ABSTRACT STATE: a natural by slot (the reference's fields, in their order) and place; tables code 'none' as 0, n as n + 1 -/
abbrev ab_A : Type := Nat → Nat → Nat
def au (A : ab_A) (k i v : Nat) : ab_A := fun k' i' => if k' = k then (if i' = i then v else A k' i') else A k' i'
theorem au_s (A : ab_A) (k i v : Nat) : au A k i v k i = v := by simp [au]
theorem au_i (A : ab_A) {k i j v : Nat} (h : j ≠ i) : au A k i v k j = A k j := by simp [au, h]
theorem au_k (A : ab_A) {k k' i v : Nat} (h : k' ≠ k) : au A k i v k' = A k' := by funext j; simp [au, h]
def md_neg (k : Nat) : Bool := k == 11 || k == 12 || k == 13 || k == 14 || k == 24
def md_e (k n : Nat) : Int32 := if md_neg k = true then nI n + (-1) else nI n
def md_S (A : ab_A) (k : Nat) : Nat → Int32 := fun i => md_e k (A k i)
def md_isA (k : Nat) : Bool := decide (k < 25) && k != 4 && k != 10 && k != 15 && k != 16
def md_len (k : Nat) : Nat := if k < 3 then 8 else if k = 3 then 48 else if k < 10 then 14 else if k < 15 then 64 else 40
def md_cell (w : hv_W) (A : ab_A) (k : Nat) : hv_E := .inl (.inl (hv_c w (if k = 9 then 1 else 0), md_len k, .inl (md_S A k)))
/-- the reference object's place, its arrays' places by slot, and back -/
abbrev md_g : Type := Nat × (Nat → Nat) × (Nat → Option Nat)
def md_fs (am : Nat → Nat) (A : ab_A) (th : Nat) : List Value := [.ref (am 0), .ref (am 1), .ref (am 2), .ref (am 3), .int (nI (A 4 0)), .ref (am 5), .ref (am 6), .ref (am 7), .ref (am 8), .ref (am 9), .int (nI (A 10 0)), .ref (am 11), .ref (am 12), .ref (am 13), .ref (am 14), .int (nI (A 15 0)), .int (nI (A 16 0)), .ref (am 17), .ref (am 18), .ref (am 19), .ref (am 20), .ref (am 21), .ref (am 22), .ref (am 23), .ref (am 24), .int (nI th)]
def md_Y (w : hv_W) (g : md_g) (A : ab_A) (th : Nat) (Y0 : hv_H) : hv_H := fun a => if a = g.1 then some (.inl (.inr (6, md_fs g.2.1 A th))) else match g.2.2 a with
  | some k => some (md_cell w A k)
  | none => Y0 a
def md_ok (g : md_g) : Prop := (∀ k : Nat, md_isA k = true → g.2.2 (g.2.1 k) = some k ∧ g.2.1 k ≠ g.1) ∧ ∀ (a k : Nat), g.2.2 a = some k → md_isA k = true ∧ a = g.2.1 k
theorem md_o {w : hv_W} {g : md_g} {A : ab_A} {th : Nat} {Y0 : hv_H} : md_Y w g A th Y0 g.1 = some (.inl (.inr (6, md_fs g.2.1 A th))) := if_pos rfl
theorem md_a {w : hv_W} {g : md_g} {A : ab_A} {th : Nat} {Y0 : hv_H} (hg : md_ok g) {k : Nat} (hk : md_isA k = true) : md_Y w g A th Y0 (g.2.1 k) = some (md_cell w A k) := by
  obtain ⟨h1, h2⟩ := hg.1 k hk
  simp [md_Y, h1, h2]
theorem md_upA {w : hv_W} {g : md_g} {A : ab_A} {th : Nat} {Y0 : hv_H} (hg : md_ok g) {k : Nat} (hk : md_isA k = true) (n v : Nat) : hv_up (md_Y w g A th Y0) (g.2.1 k) (.inl (.inl (hv_c w (if k = 9 then 1 else 0), md_len k, .inl (upd (md_S A k) n (md_e k v))))) = md_Y w g (au A k n v) th Y0 := by
  obtain ⟨h1, h2⟩ := hg.1 k hk
  funext a
  unfold hv_up md_Y
  by_cases ha : a = g.2.1 k
  · subst ha
    simp only [h1, h2, if_true, if_false]
    have e9 : upd (md_S A k) n (md_e k v) = md_S (au A k n v) k := by
      funext j
      by_cases hj : j = n
      · subst hj; simp [upd, md_S, au]
      · simp [upd, md_S, au, hj]
    rw [e9]
    rfl
  · simp only [ha, if_false]
    by_cases ho : a = g.1
    · subst ho
      simp only [if_true]
      have hk' : k ≠ 4 ∧ k ≠ 10 ∧ k ≠ 15 ∧ k ≠ 16 := by
        simp [md_isA] at hk
        omega
      obtain ⟨a1, a2, a3, a4⟩ := hk'
      simp [md_fs, au, Ne.symm a1, Ne.symm a2, Ne.symm a3, Ne.symm a4]
    · simp only [ho, if_false]
      cases hi : g.2.2 a with
      | none => rfl
      | some k' =>
        have hne : k' ≠ k := fun q => ha (by rw [(hg.2 a k' hi).2, q])
        show some (md_cell w A k') = some (md_cell w (au A k n v) k')
        unfold md_cell md_S
        rw [au_k A hne]
theorem md_upS {w : hv_W} {g : md_g} {A : ab_A} {th : Nat} {Y0 : hv_H} (hg : md_ok g) {k : Nat} (hk : k = 4 ∨ k = 10 ∨ k = 15 ∨ k = 16) (v : Nat) : hv_up (md_Y w g A th Y0) g.1 (.inl (.inr (6, (md_fs g.2.1 A th).set k (.int (nI v))))) = md_Y w g (au A k 0 v) th Y0 := by
  funext a
  unfold hv_up md_Y
  by_cases ho : a = g.1
  · subst ho
    simp only [if_true]
    rcases hk with rfl | rfl | rfl | rfl <;> simp [md_fs, au]
  · simp only [ho, if_false]
    cases hi : g.2.2 a with
    | none => rfl
    | some k' =>
      have h1 := (hg.2 a k' hi).1
      have hne : k' ≠ k := by
        simp [md_isA] at h1
        omega
      show some (md_cell w A k') = some (md_cell w (au A k 0 v) k')
      unfold md_cell md_S
      rw [au_k A hne]
theorem md_upT {w : hv_W} {g : md_g} {A : ab_A} {th : Nat} {Y0 : hv_H} (v : Nat) : hv_up (md_Y w g A th Y0) g.1 (.inl (.inr (6, (md_fs g.2.1 A th).set 25 (.int (nI v))))) = md_Y w g A v Y0 := by
  funext a
  unfold hv_up md_Y
  by_cases ho : a = g.1
  · subst ho
    simp only [if_true]
    simp [md_fs]
  · simp only [ho, if_false]
section HM
variable {p : Program} {l : Launch} {e : Env} {R : Room} {s : State} {m : MethodId} {args : Array Value} {below : List Frame} {meth : Method} {c : Code} {w : hv_W} {nL : Nat} {Q : State → Prop} {cells slots : Nat} {Y : hv_H} {lv : List (Nat × Value)} {pc : Nat} {rest : List Value} {own : String} {cc : ByteArray} {Ts : List Cond} {g : md_g} {A : ab_A} {th : Nat} {Y0 : hv_H}
theorem hm_get (C : hv_C own cc nL Ts w p s m args meth c) {k index : Nat} {v : Value} {ref : String} (hin : ∀ x ∈ wsX50, x ∈ Ts) (hk : k < 26) (hlink : Cond.fieldLink own index ref (TX5 k).2.1 (TX5 k).2.2.1 ∈ Ts) (href : (TX5 k).1 = ref) (hv : (md_fs g.2.1 A th)[k]? = some v) (hdg : decode cc pc = .ok (.getfield index, 3)) (kk : hv_V p l e R s m args below meth c w nL Q cells slots (md_Y w g A th Y0) lv (pc + 3) (v :: rest)) : hv_V p l e R s m args below meth c w nL Q cells slots (md_Y w g A th Y0) lv pc (.ref g.1 :: rest) := by
  subst href
  exact hv_getf C hin (show vwCl[6]? = some (RX5, TX5, 26) from rfl) md_o hk hlink (fun _ h => h) hv hdg kk
theorem hm_put (C : hv_C own cc nL Ts w p s m args meth c) {k index n : Nat} {x : Int32} {ref : String} (hg : md_ok g) (hk : k = 4 ∨ k = 10 ∨ k = 15 ∨ k = 16) (hx : x = nI n) (hin : ∀ x ∈ wsX50, x ∈ Ts) (hlink : Cond.fieldLink own index ref (TX5 k).2.1 (TX5 k).2.2.1 ∈ Ts) (href : (TX5 k).1 = ref) (hdg : decode cc pc = .ok (.putfield index, 3)) (kk : hv_V p l e R s m args below meth c w nL Q cells slots (md_Y w g (au A k 0 n) th Y0) lv (pc + 3) rest) : hv_V p l e R s m args below meth c w nL Q cells slots (md_Y w g A th Y0) lv pc (.int x :: .ref g.1 :: rest) := by
  subst href
  subst hx
  have hp : k < 26 ∧ (TX5 k).2.2.2 = false ∧ parseFieldDescriptor (TX5 k).2.2.1 = some .int := by
    rcases hk with rfl | rfl | rfl | rfl <;> decide +kernel
  exact hv_putf C hin tyX5 tyX5_ok nmX5 (show vwCl[6]? = some (RX5, TX5, 26) from rfl) md_o hp.1 hlink (fun _ h => h) hp.2.1 hp.2.2 (ty := .int) (by first | rfl | decide) (by first | rfl | decide) (by rw [show (md_fs g.2.1 A th).length = 26 from rfl]; exact hp.1) hdg (by rw [md_upS hg hk n]; exact kk)
theorem hm_putT (C : hv_C own cc nL Ts w p s m args meth c) {index n : Nat} {x : Int32} (hx : x = nI n) (hin : ∀ x ∈ wsX50, x ∈ Ts) (hlink : Cond.fieldLink own index "LockgateRouterModel" "thrown" "I" ∈ Ts) (hdg : decode cc pc = .ok (.putfield index, 3)) (kk : hv_V p l e R s m args below meth c w nL Q cells slots (md_Y w g A n Y0) lv (pc + 3) rest) : hv_V p l e R s m args below meth c w nL Q cells slots (md_Y w g A th Y0) lv pc (.int x :: .ref g.1 :: rest) := by
  subst hx
  exact hv_putf (k := 25) C hin tyX5 tyX5_ok nmX5 (show vwCl[6]? = some (RX5, TX5, 26) from rfl) md_o (by decide) hlink (fun _ h => h) rfl (ty := .int) (by decide +kernel) (by first | rfl | decide) (by first | rfl | decide) (by rw [show (md_fs g.2.1 A th).length = 26 from rfl]; decide) hdg (by rw [md_upT n]; exact kk)
theorem hm_iald (C : hv_C own cc nL Ts w p s m args meth c) {k n : Nat} {x : Int32} (hg : md_ok g) (hk : md_isA k = true) (h9 : k ≠ 9) (hn : n < md_len k) (hx : md_S A k n = x) (hdg : decode cc pc = .ok (.iaload, 1)) (kk : hv_V p l e R s m args below meth c w nL Q cells slots (md_Y w g A th Y0) lv (pc + 1) (.int x :: rest)) : hv_V p l e R s m args below meth c w nL Q cells slots (md_Y w g A th Y0) lv pc (.int (nI n) :: .ref (g.2.1 k) :: rest) := by
  have hl : md_len k < 2 ^ 31 := by unfold md_len; split <;> (try split) <;> (try split) <;> (try split) <;> decide
  have h2 := md_a (w := w) (A := A) (th := th) (Y0 := Y0) hg hk
  unfold md_cell at h2
  rw [if_neg h9] at h2
  refine hv_iald C h2 (vp_in_nI hn hl) hdg ?_
  rw [nI_clamp (Nat.lt_trans hn hl), hx]
  exact kk
theorem hm_zald (C : hv_C own cc nL Ts w p s m args meth c) {n : Nat} {x : Int32} (hg : md_ok g) (hn : n < 14) (hx : md_S A 9 n = x) (hdg : decode cc pc = .ok (.baload, 1)) (kk : hv_V p l e R s m args below meth c w nL Q cells slots (md_Y w g A th Y0) lv (pc + 1) (.int x :: rest)) : hv_V p l e R s m args below meth c w nL Q cells slots (md_Y w g A th Y0) lv pc (.int (nI n) :: .ref (g.2.1 9) :: rest) := by
  have h2 := md_a (w := w) (A := A) (th := th) (Y0 := Y0) (k := 9) hg (by decide)
  refine hv_zald C h2 (vp_in_nI hn (by decide)) hdg ?_
  rw [nI_clamp (Nat.lt_trans hn (by decide)), hx]
  exact kk
theorem hm_iast (C : hv_C own cc nL Ts w p s m args meth c) {k n v : Nat} {x : Int32} (hg : md_ok g) (hk : md_isA k = true) (h9 : k ≠ 9) (hn : n < md_len k) (hx : md_e k v = x) (hdg : decode cc pc = .ok (.iastore, 1)) (kk : hv_V p l e R s m args below meth c w nL Q cells slots (md_Y w g (au A k n v) th Y0) lv (pc + 1) rest) : hv_V p l e R s m args below meth c w nL Q cells slots (md_Y w g A th Y0) lv pc (.int x :: .int (nI n) :: .ref (g.2.1 k) :: rest) := by
  subst hx
  have hl : md_len k < 2 ^ 31 := by unfold md_len; split <;> (try split) <;> (try split) <;> (try split) <;> decide
  have h2 := md_a (w := w) (A := A) (th := th) (Y0 := Y0) hg hk
  unfold md_cell at h2
  rw [if_neg h9] at h2
  refine hv_iast C h2 (vp_in_nI hn hl) hdg ?_
  rw [nI_clamp (Nat.lt_trans hn hl)]
  have h3 := md_upA (w := w) (A := A) (th := th) (Y0 := Y0) hg hk n v
  rw [if_neg h9] at h3
  rw [h3]
  exact kk
theorem hm_zast (C : hv_C own cc nL Ts w p s m args meth c) {n v : Nat} {x : Int32} (hg : md_ok g) (hn : n < 14) (hx : nI v = x) (hz : vp_nar .boolean x = x) (hdg : decode cc pc = .ok (.bastore, 1)) (kk : hv_V p l e R s m args below meth c w nL Q cells slots (md_Y w g (au A 9 n v) th Y0) lv (pc + 1) rest) : hv_V p l e R s m args below meth c w nL Q cells slots (md_Y w g A th Y0) lv pc (.int x :: .int (nI n) :: .ref (g.2.1 9) :: rest) := by
  subst hx
  have h2 := md_a (w := w) (A := A) (th := th) (Y0 := Y0) (k := 9) hg (by decide)
  refine hv_zast C h2 hz (vp_in_nI hn (by decide)) hdg ?_
  rw [nI_clamp (Nat.lt_trans hn (by decide))]
  have h3 := md_upA (w := w) (A := A) (th := th) (Y0 := Y0) (k := 9) hg (by decide) n v
  have h4 : md_e 9 v = nI v := by rfl
  rw [h4] at h3
  exact hv_eqY h3 kk
end HM
