section
-- ===== PART A: goes FIRST, ahead of the names: the tables' words, and 'selects' of the private methods out of them =====
/-- a private method of a class that the tables say can be made, by its rows of tables_1 -/
def lw_okq (q : MethodName × Nat) : Prop := (q.1.cls ≠ "java/lang/invoke/MethodHandle" ∧ q.1.cls ≠ "java/lang/invoke/VarHandle") ∧ Cond.instantiable q.1.cls q.2 ∈ tables_1 ∧ Cond.privateMethod q.1 ∈ tables_1 ∧ Cond.instanceMethod q.1 ∈ tables_1
theorem lw_p0 : lw_okq (⟨"LockgateRouter", "prepareNextTables", "()V"⟩, 6) := ⟨⟨by decide +kernel, by decide +kernel⟩, List.mem_of_getElem? (i := 23) (by decide +kernel), List.mem_of_getElem? (i := 155) (by decide +kernel), List.mem_of_getElem? (i := 156) (by decide +kernel)⟩
theorem lw_p1 : lw_okq (⟨"LockgateRouter", "countNextChanges", "()I"⟩, 6) := ⟨⟨by decide +kernel, by decide +kernel⟩, List.mem_of_getElem? (i := 23) (by decide +kernel), List.mem_of_getElem? (i := 191) (by decide +kernel), List.mem_of_getElem? (i := 192) (by decide +kernel)⟩
theorem lw_p2 : lw_okq (⟨"LockgateRouter", "basinNumbered", "(I)LLockgateRouter$Basin;"⟩, 6) := ⟨⟨by decide +kernel, by decide +kernel⟩, List.mem_of_getElem? (i := 23) (by decide +kernel), List.mem_of_getElem? (i := 237) (by decide +kernel), List.mem_of_getElem? (i := 238) (by decide +kernel)⟩
theorem lw_p3 : lw_okq (⟨"java/lang/Throwable", "fillInStackTrace", "(I)Ljava/lang/Throwable;"⟩, 6) := ⟨⟨by decide +kernel, by decide +kernel⟩, List.mem_of_getElem? (i := 279) (by decide +kernel), List.mem_of_getElem? (i := 277) (by decide +kernel), List.mem_of_getElem? (i := 278) (by decide +kernel)⟩
theorem lw_p4 : lw_okq (⟨"java/util/ArrayList", "add", "(Ljava/lang/Object;[Ljava/lang/Object;I)V"⟩, 3) := ⟨⟨by decide +kernel, by decide +kernel⟩, List.mem_of_getElem? (i := 33) (by decide +kernel), List.mem_of_getElem? (i := 377) (by decide +kernel), List.mem_of_getElem? (i := 378) (by decide +kernel)⟩
theorem lw_p5 : lw_okq (⟨"java/util/ArrayList", "grow", "()[Ljava/lang/Object;"⟩, 3) := ⟨⟨by decide +kernel, by decide +kernel⟩, List.mem_of_getElem? (i := 33) (by decide +kernel), List.mem_of_getElem? (i := 381) (by decide +kernel), List.mem_of_getElem? (i := 382) (by decide +kernel)⟩
theorem lw_p6 : lw_okq (⟨"java/util/ArrayList", "grow", "(I)[Ljava/lang/Object;"⟩, 3) := ⟨⟨by decide +kernel, by decide +kernel⟩, List.mem_of_getElem? (i := 33) (by decide +kernel), List.mem_of_getElem? (i := 385) (by decide +kernel), List.mem_of_getElem? (i := 386) (by decide +kernel)⟩
theorem lw_p7 : lw_okq (⟨"LockgateRouter", "canalNumbered", "(I)LLockgateRouter$Canal;"⟩, 6) := ⟨⟨by decide +kernel, by decide +kernel⟩, List.mem_of_getElem? (i := 23) (by decide +kernel), List.mem_of_getElem? (i := 437) (by decide +kernel), List.mem_of_getElem? (i := 438) (by decide +kernel)⟩
theorem lw_p8 : lw_okq (⟨"LockgateRouter", "countLowBasins", "()I"⟩, 6) := ⟨⟨by decide +kernel, by decide +kernel⟩, List.mem_of_getElem? (i := 23) (by decide +kernel), List.mem_of_getElem? (i := 472) (by decide +kernel), List.mem_of_getElem? (i := 473) (by decide +kernel)⟩
theorem lw_p9 : lw_okq (⟨"LockgateRouter", "tickBarges", "()I"⟩, 6) := ⟨⟨by decide +kernel, by decide +kernel⟩, List.mem_of_getElem? (i := 23) (by decide +kernel), List.mem_of_getElem? (i := 550) (by decide +kernel), List.mem_of_getElem? (i := 551) (by decide +kernel)⟩
theorem lw_p10 : lw_okq (⟨"LockgateRouter", "sendFirst", "(LLockgateRouter$Basin;)Z"⟩, 6) := ⟨⟨by decide +kernel, by decide +kernel⟩, List.mem_of_getElem? (i := 23) (by decide +kernel), List.mem_of_getElem? (i := 554) (by decide +kernel), List.mem_of_getElem? (i := 555) (by decide +kernel)⟩
theorem lw_p11 : lw_okq (⟨"LockgateRouter", "takesIn", "(LLockgateRouter$Basin;LLockgateRouter$Barge;)Z"⟩, 6) := ⟨⟨by decide +kernel, by decide +kernel⟩, List.mem_of_getElem? (i := 23) (by decide +kernel), List.mem_of_getElem? (i := 566) (by decide +kernel), List.mem_of_getElem? (i := 567) (by decide +kernel)⟩
theorem lw_p12 : lw_okq (⟨"java/util/ArrayList", "fastRemove", "([Ljava/lang/Object;I)V"⟩, 3) := ⟨⟨by decide +kernel, by decide +kernel⟩, List.mem_of_getElem? (i := 33) (by decide +kernel), List.mem_of_getElem? (i := 574) (by decide +kernel), List.mem_of_getElem? (i := 575) (by decide +kernel)⟩
theorem lw_p13 : lw_okq (⟨"LockgateRouter", "findCheapestWays", "(LLockgateRouter$Basin;)V"⟩, 6) := ⟨⟨by decide +kernel, by decide +kernel⟩, List.mem_of_getElem? (i := 23) (by decide +kernel), List.mem_of_getElem? (i := 631) (by decide +kernel), List.mem_of_getElem? (i := 632) (by decide +kernel)⟩
theorem lw_p14 : lw_okq (⟨"LockgateRouter", "extendWay", "(LLockgateRouter$Basin;LLockgateRouter$Basin;I)V"⟩, 6) := ⟨⟨by decide +kernel, by decide +kernel⟩, List.mem_of_getElem? (i := 23) (by decide +kernel), List.mem_of_getElem? (i := 635) (by decide +kernel), List.mem_of_getElem? (i := 636) (by decide +kernel)⟩
theorem lw_p15 : lw_okq (⟨"LockgateRouter", "bargeNumbered", "(I)LLockgateRouter$Barge;"⟩, 6) := ⟨⟨by decide +kernel, by decide +kernel⟩, List.mem_of_getElem? (i := 23) (by decide +kernel), List.mem_of_getElem? (i := 653) (by decide +kernel), List.mem_of_getElem? (i := 654) (by decide +kernel)⟩
def lw_privs_1 : List (MethodName × Nat) := [(⟨"LockgateRouter", "prepareNextTables", "()V"⟩, 6), (⟨"LockgateRouter", "countNextChanges", "()I"⟩, 6), (⟨"LockgateRouter", "basinNumbered", "(I)LLockgateRouter$Basin;"⟩, 6), (⟨"java/lang/Throwable", "fillInStackTrace", "(I)Ljava/lang/Throwable;"⟩, 6), (⟨"java/util/ArrayList", "add", "(Ljava/lang/Object;[Ljava/lang/Object;I)V"⟩, 3), (⟨"java/util/ArrayList", "grow", "()[Ljava/lang/Object;"⟩, 3), (⟨"java/util/ArrayList", "grow", "(I)[Ljava/lang/Object;"⟩, 3), (⟨"LockgateRouter", "canalNumbered", "(I)LLockgateRouter$Canal;"⟩, 6), (⟨"LockgateRouter", "countLowBasins", "()I"⟩, 6), (⟨"LockgateRouter", "tickBarges", "()I"⟩, 6), (⟨"LockgateRouter", "sendFirst", "(LLockgateRouter$Basin;)Z"⟩, 6), (⟨"LockgateRouter", "takesIn", "(LLockgateRouter$Basin;LLockgateRouter$Barge;)Z"⟩, 6), (⟨"java/util/ArrayList", "fastRemove", "([Ljava/lang/Object;I)V"⟩, 3), (⟨"LockgateRouter", "findCheapestWays", "(LLockgateRouter$Basin;)V"⟩, 6), (⟨"LockgateRouter", "extendWay", "(LLockgateRouter$Basin;LLockgateRouter$Basin;I)V"⟩, 6), (⟨"LockgateRouter", "bargeNumbered", "(I)LLockgateRouter$Barge;"⟩, 6)]
theorem lw_r1 : ∀ q ∈ lw_privs_1, lw_okq q := List.forall_mem_cons.mpr ⟨lw_p0, List.forall_mem_cons.mpr ⟨lw_p1, List.forall_mem_cons.mpr ⟨lw_p2, List.forall_mem_cons.mpr ⟨lw_p3, List.forall_mem_cons.mpr ⟨lw_p4, List.forall_mem_cons.mpr ⟨lw_p5, List.forall_mem_cons.mpr ⟨lw_p6, List.forall_mem_cons.mpr ⟨lw_p7, List.forall_mem_cons.mpr ⟨lw_p8, List.forall_mem_cons.mpr ⟨lw_p9, List.forall_mem_cons.mpr ⟨lw_p10, List.forall_mem_cons.mpr ⟨lw_p11, List.forall_mem_cons.mpr ⟨lw_p12, List.forall_mem_cons.mpr ⟨lw_p13, List.forall_mem_cons.mpr ⟨lw_p14, List.forall_mem_cons.mpr ⟨lw_p15, fun _ h => absurd h List.not_mem_nil⟩⟩⟩⟩⟩⟩⟩⟩⟩⟩⟩⟩⟩⟩⟩⟩
theorem lw_p16 : lw_okq (⟨"LockgateRouterModel", "can", "(I)Z"⟩, 26) := ⟨⟨by decide +kernel, by decide +kernel⟩, List.mem_of_getElem? (i := 701) (by decide +kernel), List.mem_of_getElem? (i := 800) (by decide +kernel), List.mem_of_getElem? (i := 801) (by decide +kernel)⟩
theorem lw_p17 : lw_okq (⟨"LockgateRouterModel", "isCanal", "(I)Z"⟩, 26) := ⟨⟨by decide +kernel, by decide +kernel⟩, List.mem_of_getElem? (i := 701) (by decide +kernel), List.mem_of_getElem? (i := 808) (by decide +kernel), List.mem_of_getElem? (i := 809) (by decide +kernel)⟩
theorem lw_p18 : lw_okq (⟨"LockgateRouterModel", "pours", "(II)V"⟩, 26) := ⟨⟨by decide +kernel, by decide +kernel⟩, List.mem_of_getElem? (i := 701) (by decide +kernel), List.mem_of_getElem? (i := 820) (by decide +kernel), List.mem_of_getElem? (i := 821) (by decide +kernel)⟩
theorem lw_p19 : lw_okq (⟨"LockgateRouterModel", "looksOn", "()I"⟩, 26) := ⟨⟨by decide +kernel, by decide +kernel⟩, List.mem_of_getElem? (i := 701) (by decide +kernel), List.mem_of_getElem? (i := 832) (by decide +kernel), List.mem_of_getElem? (i := 833) (by decide +kernel)⟩
theorem lw_p20 : lw_okq (⟨"LockgateRouterModel", "isAt", "(II)Z"⟩, 26) := ⟨⟨by decide +kernel, by decide +kernel⟩, List.mem_of_getElem? (i := 701) (by decide +kernel), List.mem_of_getElem? (i := 836) (by decide +kernel), List.mem_of_getElem? (i := 837) (by decide +kernel)⟩
theorem lw_p21 : lw_okq (⟨"LockgateRouterModel", "beyond", "(II)I"⟩, 26) := ⟨⟨by decide +kernel, by decide +kernel⟩, List.mem_of_getElem? (i := 701) (by decide +kernel), List.mem_of_getElem? (i := 840) (by decide +kernel), List.mem_of_getElem? (i := 841) (by decide +kernel)⟩
theorem lw_p22 : lw_okq (⟨"LockgateRouterModel", "costOf", "(I)I"⟩, 26) := ⟨⟨by decide +kernel, by decide +kernel⟩, List.mem_of_getElem? (i := 701) (by decide +kernel), List.mem_of_getElem? (i := 844) (by decide +kernel), List.mem_of_getElem? (i := 845) (by decide +kernel)⟩
theorem lw_p23 : lw_okq (⟨"LockgateRouterModel", "dearer", "(I)I"⟩, 26) := ⟨⟨by decide +kernel, by decide +kernel⟩, List.mem_of_getElem? (i := 701) (by decide +kernel), List.mem_of_getElem? (i := 848) (by decide +kernel), List.mem_of_getElem? (i := 849) (by decide +kernel)⟩
theorem lw_p24 : lw_okq (⟨"LockgateRouterModel", "joins", "(II)V"⟩, 26) := ⟨⟨by decide +kernel, by decide +kernel⟩, List.mem_of_getElem? (i := 701) (by decide +kernel), List.mem_of_getElem? (i := 856) (by decide +kernel), List.mem_of_getElem? (i := 857) (by decide +kernel)⟩
theorem lw_p25 : lw_okq (⟨"LockgateRouterModel", "wayFrom", "(I)I"⟩, 26) := ⟨⟨by decide +kernel, by decide +kernel⟩, List.mem_of_getElem? (i := 701) (by decide +kernel), List.mem_of_getElem? (i := 864) (by decide +kernel), List.mem_of_getElem? (i := 865) (by decide +kernel)⟩
theorem lw_p26 : lw_okq (⟨"LockgateRouterModel", "goes", "(I)Z"⟩, 26) := ⟨⟨by decide +kernel, by decide +kernel⟩, List.mem_of_getElem? (i := 701) (by decide +kernel), List.mem_of_getElem? (i := 868) (by decide +kernel), List.mem_of_getElem? (i := 869) (by decide +kernel)⟩
theorem lw_p27 : lw_okq (⟨"LockgateRouterModel", "passes", "(II)V"⟩, 26) := ⟨⟨by decide +kernel, by decide +kernel⟩, List.mem_of_getElem? (i := 701) (by decide +kernel), List.mem_of_getElem? (i := 872) (by decide +kernel), List.mem_of_getElem? (i := 873) (by decide +kernel)⟩
theorem lw_p28 : lw_okq (⟨"LockgateRouterModel", "areAsked", "(II)Z"⟩, 26) := ⟨⟨by decide +kernel, by decide +kernel⟩, List.mem_of_getElem? (i := 701) (by decide +kernel), List.mem_of_getElem? (i := 904) (by decide +kernel), List.mem_of_getElem? (i := 905) (by decide +kernel)⟩
theorem lw_p29 : lw_okq (⟨"LockgateRouterModel", "circles", "(II)Z"⟩, 26) := ⟨⟨by decide +kernel, by decide +kernel⟩, List.mem_of_getElem? (i := 701) (by decide +kernel), List.mem_of_getElem? (i := 924) (by decide +kernel), List.mem_of_getElem? (i := 925) (by decide +kernel)⟩
theorem lw_p30 : lw_okq (⟨"LockgateRouterModel", "isAsked", "(I)Z"⟩, 26) := ⟨⟨by decide +kernel, by decide +kernel⟩, List.mem_of_getElem? (i := 701) (by decide +kernel), List.mem_of_getElem? (i := 944) (by decide +kernel), List.mem_of_getElem? (i := 945) (by decide +kernel)⟩
theorem lw_p31 : lw_okq (⟨"LockgateRouterModel", "isBarge", "(I)Z"⟩, 26) := ⟨⟨by decide +kernel, by decide +kernel⟩, List.mem_of_getElem? (i := 701) (by decide +kernel), List.mem_of_getElem? (i := 948) (by decide +kernel), List.mem_of_getElem? (i := 949) (by decide +kernel)⟩
def lw_privs_2 : List (MethodName × Nat) := [(⟨"LockgateRouterModel", "can", "(I)Z"⟩, 26), (⟨"LockgateRouterModel", "isCanal", "(I)Z"⟩, 26), (⟨"LockgateRouterModel", "pours", "(II)V"⟩, 26), (⟨"LockgateRouterModel", "looksOn", "()I"⟩, 26), (⟨"LockgateRouterModel", "isAt", "(II)Z"⟩, 26), (⟨"LockgateRouterModel", "beyond", "(II)I"⟩, 26), (⟨"LockgateRouterModel", "costOf", "(I)I"⟩, 26), (⟨"LockgateRouterModel", "dearer", "(I)I"⟩, 26), (⟨"LockgateRouterModel", "joins", "(II)V"⟩, 26), (⟨"LockgateRouterModel", "wayFrom", "(I)I"⟩, 26), (⟨"LockgateRouterModel", "goes", "(I)Z"⟩, 26), (⟨"LockgateRouterModel", "passes", "(II)V"⟩, 26), (⟨"LockgateRouterModel", "areAsked", "(II)Z"⟩, 26), (⟨"LockgateRouterModel", "circles", "(II)Z"⟩, 26), (⟨"LockgateRouterModel", "isAsked", "(I)Z"⟩, 26), (⟨"LockgateRouterModel", "isBarge", "(I)Z"⟩, 26)]
theorem lw_r2 : ∀ q ∈ lw_privs_2, lw_okq q := List.forall_mem_cons.mpr ⟨lw_p16, List.forall_mem_cons.mpr ⟨lw_p17, List.forall_mem_cons.mpr ⟨lw_p18, List.forall_mem_cons.mpr ⟨lw_p19, List.forall_mem_cons.mpr ⟨lw_p20, List.forall_mem_cons.mpr ⟨lw_p21, List.forall_mem_cons.mpr ⟨lw_p22, List.forall_mem_cons.mpr ⟨lw_p23, List.forall_mem_cons.mpr ⟨lw_p24, List.forall_mem_cons.mpr ⟨lw_p25, List.forall_mem_cons.mpr ⟨lw_p26, List.forall_mem_cons.mpr ⟨lw_p27, List.forall_mem_cons.mpr ⟨lw_p28, List.forall_mem_cons.mpr ⟨lw_p29, List.forall_mem_cons.mpr ⟨lw_p30, List.forall_mem_cons.mpr ⟨lw_p31, fun _ h => absurd h List.not_mem_nil⟩⟩⟩⟩⟩⟩⟩⟩⟩⟩⟩⟩⟩⟩⟩⟩
def lw_privs : List (MethodName × Nat) := lw_privs_1 ++ (lw_privs_2)
def lw_tbl : List Cond := k2_sels lw_privs ++ tables_1
theorem lw_privs_ok : ∀ q ∈ lw_privs, lw_okq q := by
  show ∀ q ∈ lw_privs_1 ++ (lw_privs_2), lw_okq q
  exact List.forall_mem_append.mpr ⟨lw_r1, lw_r2⟩
end
section
/-! ===== BEGIN words of one list among another's, by their places ===== -/
theorem goodIn_r {big : List Cond} (ws : List Cond) (ps : List Nat) (hp : ws = ps.filterMap (fun i => big[i]?)) (h : ws.all goodWord = true) : GoodIn big ws := by
  intro w hw
  have h1 := List.all_eq_true.mp h w hw
  rw [hp] at hw
  obtain ⟨i, -, hi⟩ := List.mem_filterMap.mp hw
  have hm : w ∈ big := by first | exact List.mem_of_getElem? hi | exact List.getElem?_mem hi
  exact ⟨hm, good_of_word h1⟩
theorem goodIn_app {big a b : List Cond} (ha : GoodIn big a) (hb : GoodIn big b) : GoodIn big (a ++ b) := fun w h => (List.mem_append.mp h).elim (ha w) (hb w)
theorem goodIn_ca {big a b : List Cond} {c : Cond} (ha : GoodIn big (c :: a)) (hb : GoodIn big b) : GoodIn big (c :: (a ++ b)) := fun w h => (List.mem_cons.mp h).elim (fun e => ha w (List.mem_cons.mpr (Or.inl e))) (fun h => (List.mem_append.mp h).elim (fun h => ha w (List.mem_cons.mpr (Or.inr h))) (hb w))
theorem goodIn_sub {big ws : List Cond} (hm : ∀ w ∈ ws, w ∈ big) (h : ws.all goodWord = true) : GoodIn big ws := fun w hw => ⟨hm w hw, good_of_word (List.all_eq_true.mp h w hw)⟩
/-! ===== END ===== -/

/-! ===== BEGIN exceptions that leave a method, and their catching by the caller (launches without stack traces) ===== -/
section VXA
/-! The laws vx_back, vx_callV, vx_callS, vx_callSW, vx_throw0, vx_throwS follow proofs of the library, with one case more: JvmDerived/Free/Laws.lean (Back.of_free), Shelf42/LK1.lean (callV, callS), Shelf/KitTraced.lean (throwNew0V, throwNewS). -/
/-- where a method has thrown q: the class by its name, the cell, what was written, the world -/
def vx_T (XC : String → State → State → Prop) (st : State) (q : Addr) (t : State) (mc ms : Nat) (free : Addr → Prop) : Prop :=
  ∃ (E : String) (ce : Cell) (L : List Loc), XC E st t ∧ t.heap[q]? = some ce ∧ ce.vm = .none ∧ st.vm.findClass E = some ce.cls ∧ st.WarmedH t.vm ∧ st.sameButNew ({ t with vm := st.vm } : State) L mc ms ∧ ∀ z ∈ L, free z.base
def vx_Q (Qc : Array Value → State → Outcome → State → Prop) (XC : String → State → State → Prop) (mc ms : Nat) (free : Addr → Prop) : Array Value → State → Outcome → State → Prop := fun a st o t =>
  (Qc a st o t ∧ ∃ L, FrameEnd st o t L mc ms ∧ ∀ q ∈ L, free q.base) ∨ ∃ q, o = .threw q ∧ vx_T XC st q t mc ms free
/-- a callee that returns or throws -/
def vx_Met (l : Launch) (y : MethodName) (ws : List Cond) (rm : Room) (Pc : Array Value → State → Prop) (Qc : Array Value → State → Outcome → State → Prop) (XC : String → State → State → Prop) (mc ms : Nat) (free : Addr → Prop) : Prop :=
  MetFree l y (headSpec ws rm) Pc (fun _ _ _ _ _ => True) (vx_Q Qc XC mc ms free)
def vx_Post (XC : String → State → State → Prop) (mc ms : Nat) (free : Addr → Prop) : Pt → Array Value → Addr → Pt → Prop := fun A a q B =>
  ∃ (g : JFrame) (mk : MethodId) (t : State) (L : List Loc) (E : String) (ce : Cell), B.U.heap = t.heap ∧ B.U.vm = t.vm ∧ XC E (A.U.calling g mk a) t ∧ t.heap[q]? = some ce ∧ ce.vm = .none ∧ A.U.vm.findClass E = some ce.cls ∧ B.locs = A.locs ++ L ∧ (∀ z ∈ L, free z.base) ∧ B.cells = A.cells + mc ∧ B.slots = A.slots + ms
def vx_Back (l : Launch) (R : Room) (p : Program) (e : Env) (below : List Frame) (s : State) (sargs : Array Value) (y : MethodName) (len W9 : Nat)
    (Pre : Pt → Array Value → Prop) (Post : Pt → Array Value → Option Value → Pt → Prop) (PostX : Pt → Array Value → Addr → Pt → Prop) : Prop :=
  ∀ (m : MethodId) (meth : Method) (c : Code) (A : Pt) (g : JFrame) (ig : Instr) (mk : MethodId) (a : Array Value),
    Stand p l e R s m sargs below meth c A.U A.locs A.cells A.slots → g.method = m → g.locals.size = c.maxLocals → decode c.code g.pc = .ok (ig, len) →
    2 * g.monitorRoom + (g.stack.map fun v => v.category).sum ≤ W9 → A.U.methodNamed? y = some mk → Pre A a →
    (∃ (v : Option Value) (B : Pt), Stand p l e R s m sargs below meth c B.U B.locs B.cells B.slots ∧ Post A a v B ∧
      Steps p.tables e below (doInvoke e (A.U.setTop g) [] mk a).1 (B.U.setTop { g with pc := g.pc + len, stack := v.toList ++ g.stack })) ∨
    (∃ (q : Addr) (B : Pt), Stand p l e R s m sargs below meth c B.U B.locs B.cells B.slots ∧ PostX A a q B ∧
      Steps p.tables e below (doInvoke e (A.U.setTop g) [] mk a).1 ((B.U.setTop g).pushFrame (.throwing q)))
section Payer
variable {l : Launch} {R : Room} {p : Program} {e : Env} {below : List Frame} {s : State} {sargs : Array Value} {y : MethodName} {len W9 : Nat}
theorem vx_back {ws : List Cond} {rm : Room} {Pc : Array Value → State → Prop} {Qc : Array Value → State → Outcome → State → Prop} {XC : String → State → State → Prop} {mc ms : Nat} {free : Addr → Prop} {bytes : ByteArray} {maxL : Nat} {ret : Option FieldType}
    (hM : vx_Met l y ws rm Pc Qc XC mc ms free) (hblind : FrameBlind Pc) (hrc : rm.cells = mc) (hrs : rm.slots = ms)
    (hframes : rm.frames + 1 ≤ R.frames) (hlocals : W9 + (maxL + 11) + rm.locals ≤ R.locals)
    (hws : ∀ w ∈ ws, ∀ a' U, s.WarmedH U.vm → w.before a' U = true) (hcode : Cond.code y bytes maxL ret ∈ ws) (hinit : ∀ a' U, s.WarmedH U.vm → (Cond.initialized y.cls).before a' U = true) :
    vx_Back l R p e below s sargs y len W9 (PreOf R mc ms Pc) (PostOf Qc mc ms free) (vx_Post XC mc ms free) := by
  intro m meth c A g ig mk a X hg hsize hdg hW hn hp
  have h1 : (headSpec ws rm).pre.before a A.U = true := atoms_intro fun w hw => hws w hw _ _ X.warmed
  have h2 : (Cond.code y bytes maxL ret).before a A.U = true := hws _ hcode _ _ X.warmed
  have h3 : (Cond.initialized y.cls).before a A.U = true := hinit _ _ X.warmed
  have h4 : A.cells + (headSpec ws rm).room.cells ≤ R.cells := by rw [show (headSpec ws rm).room.cells = mc from hrc]; exact hp.1
  have h5 : A.slots + (headSpec ws rm).room.slots ≤ R.slots := by rw [show (headSpec ws rm).room.slots = ms from hrs]; exact hp.2.1
  have hPc : Pc a (A.U.calling g mk a) := hblind _ _ _ _ hp.2.2
  obtain ⟨U, Ls, c0, s0⟩ := A
  dsimp only [Pt.U, Pt.locs, Pt.cells, Pt.slots] at h1 h2 h3 h4 h5 X hn hPc ⊢
  obtain ⟨methY, cY, hmY, hcY, -, hlY, -, -, -, -⟩ := Cond.code_spec hn h2
  obtain ⟨kY, hkY, -⟩ := className_of_methodNamed hn
  have hinitY : kY.init = .initialized := Cond.initialized_spec (findClass_of_methodNamed hn) hkY h3
  have h : At U g.method c below := by rw [hg]; exact X.here
  have hlocals9 : W9 + (maxL + 11) + (headSpec ws rm).room.locals ≤ R.locals := hlocals
  have happ : (headSpec ws rm).appliesLoose y e.platform (U.calling g mk a) = true :=
    Spec.appliesLoose_calling (g := g) h hdg hn hkY hinitY
      (X.room_calling (g := g) (R' := (headSpec ws rm).room) hsize hmY hcY hframes (by rw [hlY]; omega) h4 h5) h1
  obtain ⟨mid, hmid⟩ := h.above
  have hfr : (U.setTop g).frames = (.java g :: mid) ++ below := by rw [State.frames_setTop' g h.top, hmid]; rfl
  obtain ⟨o, s₂, hsteps, -, hend, hq⟩ := Steps.callFree hM p X.admits X.cas X.clock (acts := []) hfr happ hPc trivial
  have hq' : vx_Q Qc XC mc ms free a (U.calling g mk a) o s₂ := hq
  rw [State.frames_setTop' g h.top] at hend
  obtain ⟨g₀, hg0⟩ := Option.isSome_iff_exists.mp h.top
  obtain ⟨r, hr⟩ := State.topJava?_eq_some.mp hg0
  have hr' : (({ U with heap := s₂.heap, slotsUsed := s₂.slotsUsed } : State).setVm s₂.vm).frames = .java g₀ :: r := hr
  rcases hq' with ⟨hqc, L, hfe, hL⟩ | ⟨q, rfl, E, ce, L, hx, hce, hcv, hcl, hW₂, hsm, hL⟩
  · obtain ⟨⟨v, rfl⟩, hW₂, e2, q2, q3, q4, q5, q6⟩ := id hfe
    have e3 : s₂ = ({ (U.calling g mk a).setFrames s₂.frames with heap := s₂.heap, slotsUsed := s₂.slotsUsed } : State).setVm s₂.vm := by
      have : s₂ = ({ s₂ with vm := (U.calling g mk a).vm } : State).setVm s₂.vm := rfl
      rw [e2] at this
      exact this
    obtain ⟨c₂, i₂, len₂, hc₂, hd₂, hf₂⟩ := hend
    have hW' : U.WarmedH s₂.vm := hW₂
    have hcc : c₂ = c := by
      have h1 : s₂.code? g.method = U.code? g.method := by
        rw [State.code?_eq, State.code?_eq, hW'.alike.method?]
      exact Option.some.inj (hc₂.symm.trans (h1.trans h.code))
    subst hcc
    have hlen : len₂ = len := by rw [hdg] at hd₂; cases hd₂; rfl
    subst hlen
    have hs₂ : s₂ = (({ U with heap := s₂.heap, slotsUsed := s₂.slotsUsed } : State).setVm s₂.vm).setTop { g with pc := g.pc + len₂, stack := v.toList ++ g.stack } := by
      refine e3.trans ?_
      rw [hf₂, State.calling_eq h.top, State.setFrames_setFrames, State.setTop_of_frames _ hr', hr]
      rfl
    have hsame : U.sameButNew ({ U with heap := s₂.heap, slotsUsed := s₂.slotsUsed } : State) L mc ms := by
      refine ⟨?_, q2, q3, q4, q5, q6⟩
      obtain ⟨t, ht, -⟩ := State.frames_cons hr
      show ({ U with heap := s₂.heap, slotsUsed := s₂.slotsUsed } : State) = { U.setFrames U.frames with heap := s₂.heap, slotsUsed := s₂.slotsUsed }
      rw [State.setFrames_self ht]
    subst hg
    refine Or.inl ⟨v, ⟨(({ U with heap := s₂.heap, slotsUsed := s₂.slotsUsed } : State).setVm s₂.vm), Ls ++ L, c0 + mc, s0 + ms⟩,
      ⟨X.admits, X.cas, X.clock, X.frames, X.room, X.hears, X.method, X.code, (X.here.setHeapUsed s₂.heap s₂.slotsUsed).setVm hW'.alike, X.tail, State.WarmedH.trans X.warmed hW', X.limits, X.bytes, X.same.trans (hsame.setVm s.vm)⟩,
      ⟨g, mk, s₂, L, rfl, rfl, hqc, rfl, hL, rfl, rfl⟩, ?_⟩
    show Steps p.tables e below _ ((({ U with heap := s₂.heap, slotsUsed := s₂.slotsUsed } : State).setVm s₂.vm).setTop { g with pc := g.pc + len₂, stack := v.toList ++ g.stack })
    rw [← hs₂]
    exact hsteps
  · obtain ⟨e2, q2, q3, q4, q5, q6⟩ := id hsm
    have e3 : s₂ = ({ (U.calling g mk a).setFrames s₂.frames with heap := s₂.heap, slotsUsed := s₂.slotsUsed } : State).setVm s₂.vm := by
      have : s₂ = ({ s₂ with vm := (U.calling g mk a).vm } : State).setVm s₂.vm := rfl
      rw [e2] at this
      exact this
    have hf₂ : s₂.frames = .throwing q :: .java g :: U.frames.tail := hend
    have hW' : U.WarmedH s₂.vm := hW₂
    have hs₂ : s₂ = ((({ U with heap := s₂.heap, slotsUsed := s₂.slotsUsed } : State).setVm s₂.vm).setTop g).pushFrame (.throwing q) := by
      refine e3.trans ?_
      rw [hf₂, State.calling_eq h.top, State.setFrames_setFrames, State.pushFrame, State.frames_setTop _ hr', State.setTop_of_frames _ hr', State.setFrames_setFrames, hr]
      rfl
    have hsame : U.sameButNew ({ U with heap := s₂.heap, slotsUsed := s₂.slotsUsed } : State) L mc ms := by
      refine ⟨?_, q2, q3, q4, q5, q6⟩
      obtain ⟨t, ht, -⟩ := State.frames_cons hr
      show ({ U with heap := s₂.heap, slotsUsed := s₂.slotsUsed } : State) = { U.setFrames U.frames with heap := s₂.heap, slotsUsed := s₂.slotsUsed }
      rw [State.setFrames_self ht]
    subst hg
    refine Or.inr ⟨q, ⟨(({ U with heap := s₂.heap, slotsUsed := s₂.slotsUsed } : State).setVm s₂.vm), Ls ++ L, c0 + mc, s0 + ms⟩,
      ⟨X.admits, X.cas, X.clock, X.frames, X.room, X.hears, X.method, X.code, (X.here.setHeapUsed s₂.heap s₂.slotsUsed).setVm hW'.alike, X.tail, State.WarmedH.trans X.warmed hW', X.limits, X.bytes, X.same.trans (hsame.setVm s.vm)⟩,
      ⟨g, mk, s₂, L, E, ce, rfl, rfl, hx, hce, hcv, hcl, rfl, hL, rfl, rfl⟩, ?_⟩
    show Steps p.tables e below _ (((({ U with heap := s₂.heap, slotsUsed := s₂.slotsUsed } : State).setVm s₂.vm).setTop g).pushFrame (.throwing q))
    rw [← hs₂]
    exact hsteps
end Payer
section Calls
variable {p : Program} {l : Launch} {e : Env} {R : Room} {s : State} {m : MethodId} {args : Array Value} {below : List Frame} {meth : Method} {c : Code} {T : State} {locs : List Loc} {cells slots : Nat}
theorem vx_callV (X : Stand p l e R s m args below meth c T locs cells slots) (hexec : p.tables.exec = Jvm.exec) {own C : String} {index : Nat} {y : MethodName} {bytes : ByteArray} {maxL : Nat} {ret : Option FieldType}
    (hown : s.vm.findClass own = some m.cls) (hlink : (Cond.methodLink own index y).before args s = true) (hinst : (Cond.instanceMethod y).before args s = true) (hsel : (Cond.selects C y y).before args s = true)
    (hcode : (Cond.code y bytes maxL ret).before args s = true) (hy : y.cls ≠ "java/lang/invoke/MethodHandle" ∧ y.cls ≠ "java/lang/invoke/VarHandle")
    {W9 : Nat} {Pre : Pt → Array Value → Prop} {Post : Pt → Array Value → Option Value → Pt → Prop} {PostX : Pt → Array Value → Addr → Pt → Prop} (hK : vx_Back l R p e below s args y 3 W9 Pre Post PostX)
    {b : Addr} {cellB : Cell} (hcell : T.heap[b]? = some cellB) (hobj : cellB.vm.isStatics = false) (hcls : s.vm.findClass C = some cellB.cls)
    {g : JFrame} (hg : g.method = m) (hsize : g.locals.size = c.maxLocals) {argsL rest : List Value} (hlen : ∀ sig, parseMethodDescriptor y.desc = some sig → argsL.length = sig.parameters.length)
    (hstack : g.stack = argsL.reverse ++ .ref b :: rest) (hW : 2 * g.monitorRoom + (rest.map fun v => v.category).sum ≤ W9) (hdg : decode c.code g.pc = .ok (.invokevirtual index, 3))
    (hpre : ∀ vm₁, s.WarmedH vm₁ → Pre ⟨T.setVm vm₁, locs, cells, slots⟩ (Value.ref b :: argsL).toArray) :
    (∃ (v : Option Value) (vm₁ : Vm) (B : Pt), s.WarmedH vm₁ ∧ Stand p l e R s m args below meth c B.U B.locs B.cells B.slots ∧ Post ⟨T.setVm vm₁, locs, cells, slots⟩ (Value.ref b :: argsL).toArray v B ∧
      ∀ target, Steps p.tables e below (B.U.setTop { g with pc := g.pc + 3, stack := v.toList ++ rest }) target → Steps p.tables e below (T.setTop g) target) ∨
    (∃ (q : Addr) (vm₁ : Vm) (B : Pt), s.WarmedH vm₁ ∧ Stand p l e R s m args below meth c B.U B.locs B.cells B.slots ∧ PostX ⟨T.setVm vm₁, locs, cells, slots⟩ (Value.ref b :: argsL).toArray q B ∧
      Steps p.tables e below (T.setTop g) ((B.U.setTop { g with stack := rest }).pushFrame (.throwing q))) := by
  obtain ⟨mk, methM, hnamed, hmethM, hstM, habM⟩ := Cond.instanceMethod_spec hinst
  obtain ⟨methM', cM, hmethM', -, -, -, -, -, -, hsigM⟩ := Cond.code_spec hnamed hcode
  cases hmethM.symm.trans hmethM'
  obtain ⟨c2, r2, m2, q1, q2, q3, q4, kP, hkP, hkPi⟩ := Cond.selects_spec hsel
  cases hcls.symm.trans q1
  cases (State.methodFound?_of_named hnamed hy).symm.trans q2
  cases hnamed.symm.trans q3
  have hselP : selectMethod e.platform s.vm cellB.cls mk = .method mk := by rw [Launch.admits_selectMethod X.admits]; exact q4
  obtain ⟨vm₁, X₁, hstep₁⟩ := X.invokevirtual hexec hown hlink hnamed hmethM hstM hkP hkPi hy (a := b) (cell := cellB) hcell
    (fun z h => by rw [h] at hobj; cases hobj) hselP hmethM habM hkP hkPi (g := g) hg (argsL := argsL) (rest := rest) (hlen _ hsigM) hstack hdg
  rcases hK m meth c ⟨T.setVm vm₁, locs, cells, slots⟩ { g with stack := rest } (.invokevirtual index) mk (Value.ref b :: argsL).toArray X₁ hg hsize hdg hW (X₁.named hnamed) (hpre vm₁ X₁.warmed) with ⟨v, B, X', hpost, hsteps⟩ | ⟨q, B, X', hpost, hsteps⟩
  · exact Or.inl ⟨v, vm₁, B, X₁.warmed, X', hpost, fun target h => hstep₁ _ fun acts => by rw [doInvoke_state]; exact hsteps.trans h⟩
  · exact Or.inr ⟨q, vm₁, B, X₁.warmed, X', hpost, hstep₁ _ fun acts => by rw [doInvoke_state]; exact hsteps⟩
theorem vx_callS (X : Stand p l e R s m args below meth c T locs cells slots) (hexec : p.tables.exec = Jvm.exec) {own : String} {index : Nat} {y : MethodName} {bytes : ByteArray} {maxL : Nat} {ret : Option FieldType}
    (hown : s.vm.findClass own = some m.cls) (hlink : (Cond.methodLink own index y).before args s = true) (hstat : (Cond.static y).before args s = true) (hinit : (Cond.initialized y.cls).before args s = true)
    (hcode : (Cond.code y bytes maxL ret).before args s = true) (hy : y.cls ≠ "java/lang/invoke/MethodHandle" ∧ y.cls ≠ "java/lang/invoke/VarHandle")
    {W9 : Nat} {Pre : Pt → Array Value → Prop} {Post : Pt → Array Value → Option Value → Pt → Prop} {PostX : Pt → Array Value → Addr → Pt → Prop} (hK : vx_Back l R p e below s args y 3 W9 Pre Post PostX)
    {g : JFrame} (hg : g.method = m) (hsize : g.locals.size = c.maxLocals) {argsL rest : List Value} (hlen : ∀ sig, parseMethodDescriptor y.desc = some sig → argsL.length = sig.parameters.length)
    (hstack : g.stack = argsL.reverse ++ rest) (hW : 2 * g.monitorRoom + (rest.map fun v => v.category).sum ≤ W9) (hdg : decode c.code g.pc = .ok (.invokestatic index, 3))
    (hpre : ∀ vm₁, s.WarmedH vm₁ → Pre ⟨T.setVm vm₁, locs, cells, slots⟩ argsL.toArray) :
    (∃ (v : Option Value) (vm₁ : Vm) (B : Pt), s.WarmedH vm₁ ∧ Stand p l e R s m args below meth c B.U B.locs B.cells B.slots ∧ Post ⟨T.setVm vm₁, locs, cells, slots⟩ argsL.toArray v B ∧
      ∀ target, Steps p.tables e below (B.U.setTop { g with pc := g.pc + 3, stack := v.toList ++ rest }) target → Steps p.tables e below (T.setTop g) target) ∨
    (∃ (q : Addr) (vm₁ : Vm) (B : Pt), s.WarmedH vm₁ ∧ Stand p l e R s m args below meth c B.U B.locs B.cells B.slots ∧ PostX ⟨T.setVm vm₁, locs, cells, slots⟩ argsL.toArray q B ∧
      Steps p.tables e below (T.setTop g) ((B.U.setTop { g with stack := rest }).pushFrame (.throwing q))) := by
  obtain ⟨mk, hnamed⟩ := Cond.code_named hcode
  obtain ⟨methM, cM, hmethM, -, -, -, -, -, -, hsigM⟩ := Cond.code_spec hnamed hcode
  have hstatic : methM.isStatic = true := Cond.static_spec hnamed hmethM hstat
  obtain ⟨kP, hkP, -⟩ := className_of_methodNamed hnamed
  have hinitP : kP.init = .initialized := Cond.initialized_spec (findClass_of_methodNamed hnamed) hkP hinit
  obtain ⟨vm₁, X₁, hstep₁⟩ := X.invokestatic hexec hown hlink hnamed hmethM hstatic hkP hinitP hy (g := g) hg (argsL := argsL) (rest := rest) (hlen _ hsigM) hstack hdg
  rcases hK m meth c ⟨T.setVm vm₁, locs, cells, slots⟩ { g with stack := rest } (.invokestatic index) mk argsL.toArray X₁ hg hsize hdg hW (X₁.named hnamed) (hpre vm₁ X₁.warmed) with ⟨v, B, X', hpost, hsteps⟩ | ⟨q, B, X', hpost, hsteps⟩
  · exact Or.inl ⟨v, vm₁, B, X₁.warmed, X', hpost, fun target h => hstep₁ _ fun acts => by rw [doInvoke_state]; exact hsteps.trans h⟩
  · exact Or.inr ⟨q, vm₁, B, X₁.warmed, X', hpost, hstep₁ _ fun acts => by rw [doInvoke_state]; exact hsteps⟩
end Calls
theorem vx_cls {s : State} {T : State} {vm₁ : Vm} {E : String} {k : ClassId} (hW : s.WarmedH vm₁) (h : (T.setVm vm₁).vm.findClass E = some k) : s.vm.findClass E = some k := by
  have h1 : vm₁.findClass E = some k := h
  rw [hW.alike.findClass] at h1
  exact h1
/-- the method's frame g, with q thrown over it -/
def vx_W (p : Program) (l : Launch) (e : Env) (R : Room) (s : State) (m : MethodId) (args : Array Value) (below : List Frame) (meth : Method) (c : Code) (H : Heap) (locs : List Loc) (cells slots : Nat) (Q : State → Prop) (g : JFrame) (q : Addr) : Prop :=
  ∀ T : State, T.heap = H → Stand p l e R s m args below meth c T locs cells slots → ∃ t, Steps p.tables e below ((T.setTop g).pushFrame (.throwing q)) t ∧ Q t
def vx_Run (p : Program) (l : Launch) (e : Env) (R : Room) (s : State) (m : MethodId) (args : Array Value) (below : List Frame) (meth : Method) (c : Code) (H : Heap) (locs : List Loc) (cells slots mc ms : Nat) (g : JFrame) (rest : List Value) (Qa : State → Outcome → State → Prop) (XC : String → State → State → Prop) (free : Addr → Prop) : Prop :=
  ∀ T : State, T.heap = H → Stand p l e R s m args below meth c T locs cells slots →
    (∃ (v : Option Value) (st₀ t T' : State) (L : List Loc), st₀.heap = H ∧ Stand p l e R s m args below meth c T' (locs ++ L) (cells + mc) (slots + ms) ∧ (∀ q ∈ L, free q.base) ∧ T'.heap = t.heap ∧ T'.vm = t.vm ∧ Qa st₀ (.returned v) t ∧
      Goes p e below T g T' { g with pc := g.pc + 3, stack := v.toList ++ rest }) ∨
    (∃ (q : Addr) (st₀ t T' : State) (L : List Loc) (E : String) (ce : Cell), st₀.heap = H ∧ Stand p l e R s m args below meth c T' (locs ++ L) (cells + mc) (slots + ms) ∧ (∀ z ∈ L, free z.base) ∧ T'.heap = t.heap ∧ T'.vm = t.vm ∧ XC E st₀ t ∧ t.heap[q]? = some ce ∧ ce.vm = .none ∧ s.vm.findClass E = some ce.cls ∧
      Steps p.tables e below (T.setTop g) ((T'.setTop { g with stack := rest }).pushFrame (.throwing q)))
def vx_X {S : Type} (px : S → Prop) (B : String → S → State → Prop) (A : Nat → Prop) : String → State → State → Prop := fun E st t => ∃ u : S, px u ∧ B E u t ∧ va_F A st t
section Runs
variable {p : Program} {l : Launch} {e : Env} {R : Room} {s : State} {m : MethodId} {args : Array Value} {below : List Frame} {meth : Method} {c : Code} {H : Heap} {locs : List Loc} {cells slots : Nat}
variable {y : MethodName} {bytes cc : ByteArray} {maxL nL mc ms n index : Nat} {ret : Option FieldType} {ws : List Cond} {rm : Room} {Pc : Array Value → State → Prop} {Qc : Array Value → State → Outcome → State → Prop} {XC : String → State → State → Prop} {free : Addr → Prop} {Ts : List Cond} {own C : String} {b : Addr} {As rest : List Value} {g : JFrame}
theorem vx_callBack (cb : CallB R s args own index y bytes maxL ret ws rm mc ms n) (hM : vx_Met l y ws rm Pc Qc XC mc ms free) (hbl : FrameBlind Pc) : vx_Back l R p e below s args y 3 8 (PreOf R mc ms Pc) (PostOf Qc mc ms free) (vx_Post XC mc ms free) := by
  obtain ⟨hrc, hrs, hfr, hlo, hws, hcw, -, hini, -⟩ := cb
  exact vx_back (bytes := bytes) (maxL := maxL) (ret := ret) hM hbl hrc hrs hfr hlo hws hcw (fun a' U hW => word_at hW (Or.inl (by first | rfl | simp [Cond.onTables, Cond.keeps, Cond.steady])) hini)
theorem vx_runV (S : CallFix p m c cc nL s args Ts own) (hM : vx_Met l y ws rm Pc Qc XC mc ms free) (cw : CallW R s args own C index y bytes maxL ret ws rm mc ms n) (hp : PreV s H C b Pc As)
    (hg : g.method = m) (hn : As.length = n) (hsize : g.locals.size = nL) (hstack : g.stack = As.reverse ++ .ref b :: rest) (hW : 2 * g.monitorRoom + (rest.map fun v => v.category).sum ≤ 8) (hdg : decode cc g.pc = .ok (.invokevirtual index, 3)) (hf : cells + mc ≤ R.cells ∧ slots + ms ≤ R.slots) :
    vx_Run p l e R s m args below meth c H locs cells slots mc ms g rest (Qc (Value.ref b :: As).toArray) XC free := by
  have hK : vx_Back l R p e below s args y 3 8 (PreOf R mc ms Pc) (PostOf Qc mc ms free) (vx_Post XC mc ms free) := vx_callBack cw.1 hM hp.1
  obtain ⟨⟨-, -, -, -, -, -, hcode, -, hy, hlen, hl⟩, hin, hse⟩ := cw
  obtain ⟨hx, hb, hml, ho, -⟩ := S
  obtain ⟨-, ⟨cellB, hcB, hoB, hclB⟩, hPc⟩ := hp
  intro T hT X
  rcases vx_callV X hx (C := C) (bytes := bytes) (maxL := maxL) (ret := ret) ho hl hin hse hcode hy hK (by rw [hT]; exact hcB) hoB hclB hg (hsize.trans hml.symm) (argsL := As) (rest := rest) (fun sig h => hn.trans (hlen sig h)) hstack hW (by rw [hb]; exact hdg)
    (fun vm₁ hW₁ => ⟨hf.1, hf.2, hPc (T.setVm vm₁) hT hW₁⟩) with ⟨v, vm₁, ⟨U', l2, c2, s2⟩, hW₁, X', ⟨g', mk, t, L, e1, e2, hq, h1, hL, h2, h3⟩, st⟩ | ⟨q, vm₁, ⟨U', l2, c2, s2⟩, hW₁, X', ⟨g', mk, t, L, E, ce, e1, e2, hq, hce, hcv, hcl, h1, hL, h2, h3⟩, st⟩
  · dsimp only [Pt.U, Pt.locs, Pt.cells, Pt.slots] at X' e1 e2 h1 h2 h3 st
    subst h1; subst h2; subst h3
    exact Or.inl ⟨v, (T.setVm vm₁).calling g' mk (Value.ref b :: As).toArray, t, U', L, hT, X', hL, e1, e2, hq, st⟩
  · dsimp only [Pt.U, Pt.locs, Pt.cells, Pt.slots] at X' e1 e2 h1 h2 h3 st hcl
    subst h1; subst h2; subst h3
    exact Or.inr ⟨q, (T.setVm vm₁).calling g' mk (Value.ref b :: As).toArray, t, U', L, E, ce, hT, X', hL, e1, e2, hq, hce, hcv, vx_cls hW₁ hcl, st⟩
theorem vx_runS (S : CallFix p m c cc nL s args Ts own) (hM : vx_Met l y ws rm Pc Qc XC mc ms free) (cw : CallB R s args own index y bytes maxL ret ws rm mc ms n ∧ (Cond.static y).before args s = true) (hp : PreS s H Pc As)
    (hg : g.method = m) (hn : As.length = n) (hsize : g.locals.size = nL) (hstack : g.stack = As.reverse ++ rest) (hW : 2 * g.monitorRoom + (rest.map fun v => v.category).sum ≤ 8) (hdg : decode cc g.pc = .ok (.invokestatic index, 3)) (hf : cells + mc ≤ R.cells ∧ slots + ms ≤ R.slots) :
    vx_Run p l e R s m args below meth c H locs cells slots mc ms g rest (Qc As.toArray) XC free := by
  have hK : vx_Back l R p e below s args y 3 8 (PreOf R mc ms Pc) (PostOf Qc mc ms free) (vx_Post XC mc ms free) := vx_callBack cw.1 hM hp.1
  obtain ⟨⟨-, -, -, -, -, -, hcode, hini, hy, hlen, hl⟩, hstt⟩ := cw
  obtain ⟨hx, hb, hml, ho, -⟩ := S
  intro T hT X
  rcases vx_callS X hx (bytes := bytes) (maxL := maxL) (ret := ret) ho hl hstt hini hcode hy hK hg (hsize.trans hml.symm) (argsL := As) (rest := rest) (fun sig h => hn.trans (hlen sig h)) hstack hW (by rw [hb]; exact hdg)
    (fun vm₁ hW₁ => ⟨hf.1, hf.2, hp.2 (T.setVm vm₁) hT hW₁⟩) with ⟨v, vm₁, ⟨U', l2, c2, s2⟩, hW₁, X', ⟨g', mk, t, L, e1, e2, hq, h1, hL, h2, h3⟩, st⟩ | ⟨q, vm₁, ⟨U', l2, c2, s2⟩, hW₁, X', ⟨g', mk, t, L, E, ce, e1, e2, hq, hce, hcv, hcl, h1, hL, h2, h3⟩, st⟩
  · dsimp only [Pt.U, Pt.locs, Pt.cells, Pt.slots] at X' e1 e2 h1 h2 h3 st
    subst h1; subst h2; subst h3
    exact Or.inl ⟨v, (T.setVm vm₁).calling g' mk As.toArray, t, U', L, hT, X', hL, e1, e2, hq, st⟩
  · dsimp only [Pt.U, Pt.locs, Pt.cells, Pt.slots] at X' e1 e2 h1 h2 h3 st hcl
    subst h1; subst h2; subst h3
    exact Or.inr ⟨q, (T.setVm vm₁).calling g' mk As.toArray, t, U', L, E, ce, hT, X', hL, e1, e2, hq, hce, hcv, vx_cls hW₁ hcl, st⟩
end Runs
section Rows
variable {p : Program} {l : Launch} {e : Env} {R : Room} {s : State} {m : MethodId} {args : Array Value} {below : List Frame} {meth : Method} {c : Code} {H : Heap} {locs : List Loc} {cells slots : Nat} {Q : State → Prop}
variable {mc ms : Nat} {free : Addr → Prop} {A0 A1 : Nat → Prop} {H0 : Heap} {a : Array Value} {pc : Nat} {ls : Array Slot} {st0 rest : List Value}
theorem vx_keep {st₀ t T' : State} {L : List Loc} (h0 : st₀.heap = H) (e1 : T'.heap = t.heap) (hS : va_S A0 H0 H locs) (hA : ∀ q, q < H.size → A1 q → A0 q) (hf : ∀ q, free q → A0 q) (hL : ∀ q ∈ L, free q.base) (hF : va_F A1 st₀ t) :
    H.size ≤ T'.heap.size ∧ (∀ q : Nat, q < H.size → ¬ A1 q → T'.heap[q]? = H[q]?) ∧ va_S A0 H0 T'.heap (locs ++ L) := by
  obtain ⟨hz, hk⟩ := hF
  rw [h0] at hz hk
  exact ⟨by rw [e1]; exact hz, fun q h1 h2 => by rw [e1]; exact hk q h1 h2,
    ⟨Nat.le_trans hS.1 (by rw [e1]; exact hz), fun q h1 h2 => by rw [e1, hk q (Nat.lt_of_lt_of_le h1 hS.1) (fun z => h2 (hA q (Nat.lt_of_lt_of_le h1 hS.1) z))]; exact hS.2.1 q h1 h2, fun q hq => by
      rcases List.mem_append.mp hq with h | h
      · exact hS.2.2 q h
      · exact hf _ (hL q h)⟩⟩
theorem vx_calli {S SX : Type} {post : Int32 → S → Prop} {px : SX → Prop} {B : S → State → Prop} {BX : String → SX → State → Prop} {AX : Nat → Prop} (hr : vx_Run p l e R s m args below meth c H locs cells slots mc ms (F0 m pc ls st0) rest (va_Qi post B A1 a) (vx_X px BX AX) free) (hS : va_S A0 H0 H locs) (hA : ∀ q, q < H.size → A1 q → A0 q) (hf : ∀ q, free q → A0 q) (hAX : ∀ q, q < H.size → AX q → A0 q)
    (kx : ∀ (E : String) (ce : Cell) (q9 : Addr) (u : SX) (t : State) (H1 : Heap) (locs1 : List Loc), t.heap = H1 → s.vm.Alike t.vm → px u → BX E u t → H.size ≤ H1.size → (∀ q : Nat, q < H.size → ¬ AX q → H1[q]? = H[q]?) → va_S A0 H0 H1 locs1 → H1[q9]? = some ce → ce.vm = .none → s.vm.findClass E = some ce.cls → vx_W p l e R s m args below meth c H1 locs1 (cells + mc) (slots + ms) Q (F0 m pc ls rest) q9)
    (kk : ∀ (r : Int32) (u : S) (t : State) (H1 : Heap) (locs1 : List Loc), t.heap = H1 → s.vm.Alike t.vm → post r u → B u t → H.size ≤ H1.size → (∀ q : Nat, q < H.size → ¬ A1 q → H1[q]? = H[q]?) → va_S A0 H0 H1 locs1 → W p l e R s m args below meth c H1 locs1 (cells + mc) (slots + ms) Q (F0 m (pc + 3) ls (.int r :: rest))) : W p l e R s m args below meth c H locs cells slots Q (F0 m pc ls st0) := by
  intro T hT X
  rcases hr T hT X with ⟨v, st₀, t, T', L, h0, X', hL, e1, e2, ⟨⟨r, u, hv, hp, hb⟩, hF⟩, st⟩ | ⟨q, st₀, t, T', L, E, ce, h0, X', hL, e1, e2, ⟨u, hp, hb, hF⟩, hce, hcv, hcl, st⟩
  · cases hv
    obtain ⟨k1, k2, k3⟩ := vx_keep h0 e1 hS hA hf hL hF
    obtain ⟨t2, a1, b1⟩ := kk r u t T'.heap (locs ++ L) e1.symm (by rw [← e2]; exact X'.warmed.alike) hp hb k1 k2 k3 T' rfl X'
    exact ⟨t2, st t2 a1, b1⟩
  · obtain ⟨k1, k2, k3⟩ := vx_keep h0 e1 hS hAX hf hL hF
    obtain ⟨t2, a1, b1⟩ := kx E ce q u t T'.heap (locs ++ L) e1.symm (by rw [← e2]; exact X'.warmed.alike) hp hb k1 k2 k3 (by rw [e1]; exact hce) hcv hcl T' rfl X'
    exact ⟨t2, st.trans a1, b1⟩
theorem vx_calll {S SX : Type} {post : Int64 → S → Prop} {px : SX → Prop} {B : S → State → Prop} {BX : String → SX → State → Prop} {AX : Nat → Prop} (hr : vx_Run p l e R s m args below meth c H locs cells slots mc ms (F0 m pc ls st0) rest (va_Ql post B A1 a) (vx_X px BX AX) free) (hS : va_S A0 H0 H locs) (hA : ∀ q, q < H.size → A1 q → A0 q) (hf : ∀ q, free q → A0 q) (hAX : ∀ q, q < H.size → AX q → A0 q)
    (kx : ∀ (E : String) (ce : Cell) (q9 : Addr) (u : SX) (t : State) (H1 : Heap) (locs1 : List Loc), t.heap = H1 → s.vm.Alike t.vm → px u → BX E u t → H.size ≤ H1.size → (∀ q : Nat, q < H.size → ¬ AX q → H1[q]? = H[q]?) → va_S A0 H0 H1 locs1 → H1[q9]? = some ce → ce.vm = .none → s.vm.findClass E = some ce.cls → vx_W p l e R s m args below meth c H1 locs1 (cells + mc) (slots + ms) Q (F0 m pc ls rest) q9)
    (kk : ∀ (r : Int64) (u : S) (t : State) (H1 : Heap) (locs1 : List Loc), t.heap = H1 → s.vm.Alike t.vm → post r u → B u t → H.size ≤ H1.size → (∀ q : Nat, q < H.size → ¬ A1 q → H1[q]? = H[q]?) → va_S A0 H0 H1 locs1 → W p l e R s m args below meth c H1 locs1 (cells + mc) (slots + ms) Q (F0 m (pc + 3) ls (.long r :: rest))) : W p l e R s m args below meth c H locs cells slots Q (F0 m pc ls st0) := by
  intro T hT X
  rcases hr T hT X with ⟨v, st₀, t, T', L, h0, X', hL, e1, e2, ⟨⟨r, u, hv, hp, hb⟩, hF⟩, st⟩ | ⟨q, st₀, t, T', L, E, ce, h0, X', hL, e1, e2, ⟨u, hp, hb, hF⟩, hce, hcv, hcl, st⟩
  · cases hv
    obtain ⟨k1, k2, k3⟩ := vx_keep h0 e1 hS hA hf hL hF
    obtain ⟨t2, a1, b1⟩ := kk r u t T'.heap (locs ++ L) e1.symm (by rw [← e2]; exact X'.warmed.alike) hp hb k1 k2 k3 T' rfl X'
    exact ⟨t2, st t2 a1, b1⟩
  · obtain ⟨k1, k2, k3⟩ := vx_keep h0 e1 hS hAX hf hL hF
    obtain ⟨t2, a1, b1⟩ := kx E ce q u t T'.heap (locs ++ L) e1.symm (by rw [← e2]; exact X'.warmed.alike) hp hb k1 k2 k3 (by rw [e1]; exact hce) hcv hcl T' rfl X'
    exact ⟨t2, st.trans a1, b1⟩
theorem vx_callf {S SX : Type} {post : UInt32 → S → Prop} {px : SX → Prop} {B : S → State → Prop} {BX : String → SX → State → Prop} {AX : Nat → Prop} (hr : vx_Run p l e R s m args below meth c H locs cells slots mc ms (F0 m pc ls st0) rest (va_Qf post B A1 a) (vx_X px BX AX) free) (hS : va_S A0 H0 H locs) (hA : ∀ q, q < H.size → A1 q → A0 q) (hf : ∀ q, free q → A0 q) (hAX : ∀ q, q < H.size → AX q → A0 q)
    (kx : ∀ (E : String) (ce : Cell) (q9 : Addr) (u : SX) (t : State) (H1 : Heap) (locs1 : List Loc), t.heap = H1 → s.vm.Alike t.vm → px u → BX E u t → H.size ≤ H1.size → (∀ q : Nat, q < H.size → ¬ AX q → H1[q]? = H[q]?) → va_S A0 H0 H1 locs1 → H1[q9]? = some ce → ce.vm = .none → s.vm.findClass E = some ce.cls → vx_W p l e R s m args below meth c H1 locs1 (cells + mc) (slots + ms) Q (F0 m pc ls rest) q9)
    (kk : ∀ (r : UInt32) (u : S) (t : State) (H1 : Heap) (locs1 : List Loc), t.heap = H1 → s.vm.Alike t.vm → post r u → B u t → H.size ≤ H1.size → (∀ q : Nat, q < H.size → ¬ A1 q → H1[q]? = H[q]?) → va_S A0 H0 H1 locs1 → W p l e R s m args below meth c H1 locs1 (cells + mc) (slots + ms) Q (F0 m (pc + 3) ls (.float r :: rest))) : W p l e R s m args below meth c H locs cells slots Q (F0 m pc ls st0) := by
  intro T hT X
  rcases hr T hT X with ⟨v, st₀, t, T', L, h0, X', hL, e1, e2, ⟨⟨r, u, hv, hp, hb⟩, hF⟩, st⟩ | ⟨q, st₀, t, T', L, E, ce, h0, X', hL, e1, e2, ⟨u, hp, hb, hF⟩, hce, hcv, hcl, st⟩
  · cases hv
    obtain ⟨k1, k2, k3⟩ := vx_keep h0 e1 hS hA hf hL hF
    obtain ⟨t2, a1, b1⟩ := kk r u t T'.heap (locs ++ L) e1.symm (by rw [← e2]; exact X'.warmed.alike) hp hb k1 k2 k3 T' rfl X'
    exact ⟨t2, st t2 a1, b1⟩
  · obtain ⟨k1, k2, k3⟩ := vx_keep h0 e1 hS hAX hf hL hF
    obtain ⟨t2, a1, b1⟩ := kx E ce q u t T'.heap (locs ++ L) e1.symm (by rw [← e2]; exact X'.warmed.alike) hp hb k1 k2 k3 (by rw [e1]; exact hce) hcv hcl T' rfl X'
    exact ⟨t2, st.trans a1, b1⟩
theorem vx_calld {S SX : Type} {post : UInt64 → S → Prop} {px : SX → Prop} {B : S → State → Prop} {BX : String → SX → State → Prop} {AX : Nat → Prop} (hr : vx_Run p l e R s m args below meth c H locs cells slots mc ms (F0 m pc ls st0) rest (va_Qd post B A1 a) (vx_X px BX AX) free) (hS : va_S A0 H0 H locs) (hA : ∀ q, q < H.size → A1 q → A0 q) (hf : ∀ q, free q → A0 q) (hAX : ∀ q, q < H.size → AX q → A0 q)
    (kx : ∀ (E : String) (ce : Cell) (q9 : Addr) (u : SX) (t : State) (H1 : Heap) (locs1 : List Loc), t.heap = H1 → s.vm.Alike t.vm → px u → BX E u t → H.size ≤ H1.size → (∀ q : Nat, q < H.size → ¬ AX q → H1[q]? = H[q]?) → va_S A0 H0 H1 locs1 → H1[q9]? = some ce → ce.vm = .none → s.vm.findClass E = some ce.cls → vx_W p l e R s m args below meth c H1 locs1 (cells + mc) (slots + ms) Q (F0 m pc ls rest) q9)
    (kk : ∀ (r : UInt64) (u : S) (t : State) (H1 : Heap) (locs1 : List Loc), t.heap = H1 → s.vm.Alike t.vm → post r u → B u t → H.size ≤ H1.size → (∀ q : Nat, q < H.size → ¬ A1 q → H1[q]? = H[q]?) → va_S A0 H0 H1 locs1 → W p l e R s m args below meth c H1 locs1 (cells + mc) (slots + ms) Q (F0 m (pc + 3) ls (.double r :: rest))) : W p l e R s m args below meth c H locs cells slots Q (F0 m pc ls st0) := by
  intro T hT X
  rcases hr T hT X with ⟨v, st₀, t, T', L, h0, X', hL, e1, e2, ⟨⟨r, u, hv, hp, hb⟩, hF⟩, st⟩ | ⟨q, st₀, t, T', L, E, ce, h0, X', hL, e1, e2, ⟨u, hp, hb, hF⟩, hce, hcv, hcl, st⟩
  · cases hv
    obtain ⟨k1, k2, k3⟩ := vx_keep h0 e1 hS hA hf hL hF
    obtain ⟨t2, a1, b1⟩ := kk r u t T'.heap (locs ++ L) e1.symm (by rw [← e2]; exact X'.warmed.alike) hp hb k1 k2 k3 T' rfl X'
    exact ⟨t2, st t2 a1, b1⟩
  · obtain ⟨k1, k2, k3⟩ := vx_keep h0 e1 hS hAX hf hL hF
    obtain ⟨t2, a1, b1⟩ := kx E ce q u t T'.heap (locs ++ L) e1.symm (by rw [← e2]; exact X'.warmed.alike) hp hb k1 k2 k3 (by rw [e1]; exact hce) hcv hcl T' rfl X'
    exact ⟨t2, st.trans a1, b1⟩
theorem vx_callv {S SX : Type} {post : S → Prop} {px : SX → Prop} {B : S → State → Prop} {BX : String → SX → State → Prop} {AX : Nat → Prop} (hr : vx_Run p l e R s m args below meth c H locs cells slots mc ms (F0 m pc ls st0) rest (va_Qv post B A1 a) (vx_X px BX AX) free) (hS : va_S A0 H0 H locs) (hA : ∀ q, q < H.size → A1 q → A0 q) (hf : ∀ q, free q → A0 q) (hAX : ∀ q, q < H.size → AX q → A0 q)
    (kx : ∀ (E : String) (ce : Cell) (q9 : Addr) (u : SX) (t : State) (H1 : Heap) (locs1 : List Loc), t.heap = H1 → s.vm.Alike t.vm → px u → BX E u t → H.size ≤ H1.size → (∀ q : Nat, q < H.size → ¬ AX q → H1[q]? = H[q]?) → va_S A0 H0 H1 locs1 → H1[q9]? = some ce → ce.vm = .none → s.vm.findClass E = some ce.cls → vx_W p l e R s m args below meth c H1 locs1 (cells + mc) (slots + ms) Q (F0 m pc ls rest) q9)
    (kk : ∀ (u : S) (t : State) (H1 : Heap) (locs1 : List Loc), t.heap = H1 → s.vm.Alike t.vm → post u → B u t → H.size ≤ H1.size → (∀ q : Nat, q < H.size → ¬ A1 q → H1[q]? = H[q]?) → va_S A0 H0 H1 locs1 → W p l e R s m args below meth c H1 locs1 (cells + mc) (slots + ms) Q (F0 m (pc + 3) ls (rest))) : W p l e R s m args below meth c H locs cells slots Q (F0 m pc ls st0) := by
  intro T hT X
  rcases hr T hT X with ⟨v, st₀, t, T', L, h0, X', hL, e1, e2, ⟨⟨u, hv, hp, hb⟩, hF⟩, st⟩ | ⟨q, st₀, t, T', L, E, ce, h0, X', hL, e1, e2, ⟨u, hp, hb, hF⟩, hce, hcv, hcl, st⟩
  · cases hv
    obtain ⟨k1, k2, k3⟩ := vx_keep h0 e1 hS hA hf hL hF
    obtain ⟨t2, a1, b1⟩ := kk u t T'.heap (locs ++ L) e1.symm (by rw [← e2]; exact X'.warmed.alike) hp hb k1 k2 k3 T' rfl X'
    exact ⟨t2, st t2 a1, b1⟩
  · obtain ⟨k1, k2, k3⟩ := vx_keep h0 e1 hS hAX hf hL hF
    obtain ⟨t2, a1, b1⟩ := kx E ce q u t T'.heap (locs ++ L) e1.symm (by rw [← e2]; exact X'.warmed.alike) hp hb k1 k2 k3 (by rw [e1]; exact hce) hcv hcl T' rfl X'
    exact ⟨t2, st.trans a1, b1⟩
/-- caught by the row x of this method's table; the rows ahead don't take it -/
theorem vx_catch {own name : String} {E : String} {ce : Cell} {q : Addr} (hown : s.vm.findClass own = some m.cls) (pre : List ExceptionTableEntry) (x : ExceptionTableEntry) (suf : List ExceptionTableEntry) (hsplit : c.exceptionTable.toList = pre ++ x :: suf)
    (hpass : ∀ z ∈ pre, covers z pc = false ∨ (z.catchType ≠ 0 ∧ ∃ nm : String, (Cond.classLink own z.catchType nm).before args s = true ∧ va_Nc E nm s)) (hx : covers x pc = true) (h0 : x.catchType ≠ 0)
    (hlink : (Cond.classLink own x.catchType name).before args s = true) (hcast : (Cond.castable E name).before args s = true) (hcell : H[q]? = some ce) (hv : ce.vm = .none) (hcl : s.vm.findClass E = some ce.cls)
    (kk : W p l e R s m args below meth c H locs cells slots Q (F0 m x.handlerPc ls [.ref q])) : vx_W p l e R s m args below meth c H locs cells slots Q (F0 m pc ls rest) q := by
  intro T hT X
  have hpl : e.platform.magicAccessors = ({} : Platform).magicAccessors := by rw [X.admits.platform]
  obtain ⟨c3, c4, hc3, hc4, hasg⟩ := Cond.castable_spec hcast
  cases Option.some.inj (hc3.symm.trans hcl)
  obtain ⟨c5, hc5, hcl5⟩ := Cond.classLink_spec hown hlink e.platform hpl
  cases Option.some.inj (hc4.symm.trans hc5)
  obtain ⟨vm', X', st⟩ := X.thenCaughtThrough q (g := F0 m pc ls rest) rfl (Steps.refl _) (by rw [hT]; exact hcell) (by rw [hv]; rfl) (by obtain ⟨k9, h9, -⟩ := Vm.findClass_spec hcl; exact ⟨k9, h9⟩) pre x suf hsplit
    (fun z hz => by
      rcases hpass z hz with h | ⟨hz0, nm, hl1, hn1⟩
      · exact Or.inl h
      · obtain ⟨c6, hc6, hcl6⟩ := Cond.classLink_spec hown hl1 e.platform hpl
        obtain ⟨a8, b8, h1, h2, h3⟩ := hn1
        cases Option.some.inj (h1.symm.trans hcl)
        cases Option.some.inj (h2.symm.trans hc6)
        exact Or.inr ⟨hz0, _, hcl6, h3⟩) hx (Or.inr ⟨h0, c4, hcl5, hasg⟩)
  obtain ⟨t, a1, b1⟩ := kk (T.setVm vm') hT X'
  exact ⟨t, st.trans a1, b1⟩
end Rows
section Ends
variable {p : Program} {l : Launch} {e : Env} {R : Room} {s : State} {m : MethodId} {args : Array Value} {below : List Frame} {meth : Method} {c : Code} {H : Heap} {locs : List Loc} {cells slots : Nat} {Q : State → Prop}
variable {mc ms : Nat} {free : Addr → Prop} {A0 A1 : Nat → Prop} {H0 : Heap} {a : Array Value} {ls : Array Slot} {st0 rest : List Value}
variable {Qc : Array Value → State → Outcome → State → Prop} {XC : String → State → State → Prop}
/-- what a body that may throw owes at its end -/
def vx_MQ (below : List Frame) (Qc : Array Value → State → Outcome → State → Prop) (XC : String → State → State → Prop) (a : Array Value) (s : State) (mc ms : Nat) (free : Addr → Prop) : State → Prop := fun t =>
  ∃ o, t.status = .running ∧ Ended t below o ∧ vx_Q Qc XC mc ms free a s o t
theorem vx_ret {g : JFrame} {mc ms : Nat} (k : W p l e R s m args below meth c H locs cells slots (MQ below Qc args s mc ms free) g) : W p l e R s m args below meth c H locs cells slots (vx_MQ below Qc XC args s mc ms free) g := by
  intro T hT X
  obtain ⟨t, a1, o, b1, b2, b3, b4⟩ := k T hT X
  exact ⟨t, a1, o, b1, b2, Or.inl ⟨b3, b4⟩⟩
/-- not caught here: it goes on to the caller -/
theorem vx_widen {g : JFrame} {q : Addr} {k n : Nat} (h1 : cells ≤ k) (h2 : slots ≤ n) (kk : vx_W p l e R s m args below meth c H locs k n Q g q) : vx_W p l e R s m args below meth c H locs cells slots Q g q := fun T hT X => kk T hT (stand_widen X h1 h2)
theorem vx_out {pc : Nat} {E : String} {ce : Cell} {q : Addr} {mc ms : Nat} (hout : ∀ x ∈ c.exceptionTable.toList, covers x pc = false) (hlocks : meth.locks = false) (hcell : H[q]? = some ce) (hv : ce.vm = .none) (hcl : s.vm.findClass E = some ce.cls)
    (hx : ∀ t : State, t.heap = H → s.vm.Alike t.vm → XC E s t) (hf : ∀ z ∈ locs, free z.base) (hc : cells ≤ mc) (hs : slots ≤ ms) :
    vx_W p l e R s m args below meth c H locs cells slots (vx_MQ below Qc XC args s mc ms free) (F0 m pc ls rest) q := by
  intro T hT X
  obtain ⟨st1, hrun, hend, hW, hsm⟩ := X.leaveThrown q (g := F0 m pc ls rest) rfl rfl rfl hout hlocks
  have hcell9 : (T.setFrames (.throwing q :: below)).heap[q]? = some ce := by
    show T.heap[q]? = some ce
    rw [hT]; exact hcell
  exact ⟨_, st1, .threw q, hrun, hend, Or.inr ⟨q, rfl, E, ce, locs, hx _ hT hW.alike, hcell9, hv, hcl, hW, hsm.mono hc hs, hf⟩⟩
theorem vx_frame {U : State} {k n : Nat} (h : s.sameButNew ({ U with vm := s.vm } : State) locs k n) : s.heap.size ≤ U.heap.size ∧ ∀ q : Nat, q < s.heap.size → (∀ z ∈ locs, z.base ≠ q) → U.heap[q]? = s.heap[q]? := by
  obtain ⟨-, h2, -, -, -, h6⟩ := h
  refine ⟨h2, fun q hq hz => ?_⟩
  obtain ⟨c9, e1, e2, e3, e4⟩ := h6 q _ (Array.getElem?_eq_getElem hq)
  have hs : c9.slots = (s.heap[q]).slots := Array.ext_getElem? fun i => e4 i fun hm => hz _ hm rfl
  have h9 : c9 = s.heap[q] := by
    rw [hs] at e2
    exact e2
  have e5 : U.heap[q]? = some c9 := e1
  rw [e5, h9, Array.getElem?_eq_getElem hq]
/-- the words of a throw but the four that speak of the heap -/
def vx_no (w : Cond) : Bool := decide (w ≠ .isRef (.static Bundle.tN "UNASSIGNED_STACK" Bundle.steD)) && decide (w ≠ .isRef (.static Bundle.tN "SUPPRESSED_SENTINEL" Bundle.listD)) && decide (w ≠ .laysStatic Bundle.tN "UNASSIGNED_STACK" Bundle.steD) && decide (w ≠ .laysStatic Bundle.tN "SUPPRESSED_SENTINEL" Bundle.listD)
def vx_at0 (own : String) (ic : Nat) (X : String) (names : List String) : List Cond := (Bundle.ownAtoms0 own ic X names).filter vx_no
def vx_atS (own : String) (ic : Nat) (X : String) (names : List String) : List Cond := (Bundle.ownAtoms own ic X names).filter vx_no
/-- a word that the tables alone decide, or a good one -/
def vx_ot (w : Cond) : Bool := w.onTables || goodWord w
theorem vx_ot_at {args a' : Array Value} {s U : State} {w : Cond} (hW : s.WarmedH U.vm) (hvm : s.vm = U.vm) (hg : vx_ot w = true) (h : w.before args s = true) : w.before a' U = true := by
  simp only [vx_ot, Bool.or_eq_true] at hg
  rcases hg with hg | hg
  · exact va_tabs hg hvm h
  · exact word_at hW (good_of_word hg) h
/-- a list's words: the good ones out of the method's own list, the others by premises of their own -/
theorem vx_hat {args : Array Value} {s : State} {L B : List Cond} (h1 : ∀ w ∈ L.filter goodWord, w.before args s = true) (h2 : ∀ w ∈ L.filter (fun w => !goodWord w), w ∈ B) (h3 : ∀ w ∈ B, w.before args s = true) : ∀ w ∈ L, w.before args s = true := by
  intro w hw
  by_cases g : goodWord w = true
  · exact h1 w (List.mem_filter.mpr ⟨hw, g⟩)
  · refine h3 w (h2 w (List.mem_filter.mpr ⟨hw, ?_⟩))
    show (!goodWord w) = true
    cases hgw : goodWord w
    · rfl
    · exact absurd hgw g
theorem vx_c {args : Array Value} {s : State} {w : Cond} {B : List Cond} (h : w.before args s = true) (t : ∀ w ∈ B, w.before args s = true) : ∀ w' ∈ w :: B, w'.before args s = true := fun w' h' => (List.mem_cons.mp h').elim (fun e => by rw [e]; exact h) (t w')
theorem vx_n {args : Array Value} {s : State} : ∀ w ∈ ([] : List Cond), w.before args s = true := fun _ h => nomatch h
theorem vx_own {args : Array Value} {s : State} {L : List Cond} (h1 : ∀ w ∈ L.filter vx_no, w.before args s = true)
    (hU : (Cond.isRef (.static Bundle.tN "UNASSIGNED_STACK" Bundle.steD)).before args s = true) (hN : (Cond.isRef (.static Bundle.tN "SUPPRESSED_SENTINEL" Bundle.listD)).before args s = true)
    (lU : (Cond.laysStatic Bundle.tN "UNASSIGNED_STACK" Bundle.steD).before args s = true) (lN : (Cond.laysStatic Bundle.tN "SUPPRESSED_SENTINEL" Bundle.listD).before args s = true) : ∀ w ∈ L, w.before args s = true := by
  intro w hw
  by_cases e1 : w = .isRef (.static Bundle.tN "UNASSIGNED_STACK" Bundle.steD)
  · rw [e1]; exact hU
  · by_cases e2 : w = .isRef (.static Bundle.tN "SUPPRESSED_SENTINEL" Bundle.listD)
    · rw [e2]; exact hN
    · by_cases e3 : w = .laysStatic Bundle.tN "UNASSIGNED_STACK" Bundle.steD
      · rw [e3]; exact lU
      · by_cases e4 : w = .laysStatic Bundle.tN "SUPPRESSED_SENTINEL" Bundle.listD
        · rw [e4]; exact lN
        · exact h1 w (List.mem_filter.mpr ⟨hw, by unfold vx_no; rw [decide_eq_true e1, decide_eq_true e2, decide_eq_true e3, decide_eq_true e4]; rfl⟩)
/-- where a static field lies, its class's statics cell in H -/
def vx_L (C n d : String) (A : Nat → Prop) (U : State) (H : Heap) : Prop := ∃ (c : ClassId) (k : Class) (i : Nat) (f : Field) (a : Nat) (cell : Cell), U.vm.findClass C = some c ∧ U.fieldFound? C n d = some (c, k, i, f) ∧ f.isStatic = true ∧ k.statics = some a ∧ H[a]? = some cell ∧ cell.vm.isStatics = true ∧ cell.cls = c ∧ f.slot < cell.slots.size ∧ k.staticTypes[f.slot]? = some f.type ∧ ¬ A a
theorem vx_L.moved {C n d : String} {A : Nat → Prop} {u U : State} {H : Heap} (hvm : u.vm.Alike U.vm) (h : vx_L C n d A u H) : vx_L C n d A U H := by
  obtain ⟨c, k, i, f, a, cell, h1, h2, h3, h4, h5, h6, h7, h8, h9, h10⟩ := h
  obtain ⟨k', hi', he⟩ := State.fieldFound?_setVm hvm h2
  exact ⟨c, k', i, f, a, cell, by rw [hvm.findClass]; exact h1, hi', h3, by rw [he]; exact h4, h5, h6, h7, h8, by rw [he]; exact h9, h10⟩
theorem vx_L.kept {C n d : String} {A : Nat → Prop} {U : State} {H H1 : Heap} (h : vx_L C n d A U H) (hq : ∀ a : Nat, a < H.size → ¬ A a → H1[a]? = H[a]?) : vx_L C n d A U H1 := by
  obtain ⟨c, k, i, f, a, cell, h1, h2, h3, h4, h5, h6, h7, h8, h9, h10⟩ := h
  exact ⟨c, k, i, f, a, cell, h1, h2, h3, h4, by rw [hq a (Array.getElem?_eq_some_iff.mp h5).1 h10]; exact h5, h6, h7, h8, h9, h10⟩
theorem vx_L.narrow {C n d : String} {A B : Nat → Prop} {U : State} {H : Heap} (h : vx_L C n d A U H) (hAB : ∀ q, B q → A q) : vx_L C n d B U H := by
  obtain ⟨c, k, i, f, a, cell, h1, h2, h3, h4, h5, h6, h7, h8, h9, h10⟩ := h
  exact ⟨c, k, i, f, a, cell, h1, h2, h3, h4, h5, h6, h7, h8, h9, fun z => h10 (hAB _ z)⟩
theorem vx_L.word {C n d : String} {A : Nat → Prop} {s : State} {args : Array Value} (h : vx_L C n d A s s.heap) : (Cond.laysStatic C n d).before args s = true := by
  obtain ⟨c, k, i, f, a, cell, h1, h2, h3, h4, h5, h6, h7, h8, h9, -⟩ := h
  show (Cond.laysStatic C n d).holds args s none s [] = true
  exact Cond.laysStatic_of h1 h2 h3 h4 h5 h6 h7 h8 h9
/-- .. and what it holds: null or some reference -/
def vx_Zq (C n d : String) (A : Nat → Prop) (U : State) (H : Heap) : Prop := va_Zq C n d A U H ∧ vx_L C n d A U H
theorem vx_Zq.moved {C n d : String} {A : Nat → Prop} {u U : State} {H : Heap} (hvm : u.vm.Alike U.vm) (h : vx_Zq C n d A u H) : vx_Zq C n d A U H := ⟨va_Zq.moved hvm h.1, vx_L.moved hvm h.2⟩
theorem vx_Zq.kept {C n d : String} {A : Nat → Prop} {U : State} {H H1 : Heap} (h : vx_Zq C n d A U H) (hq : ∀ a : Nat, a < H.size → ¬ A a → H1[a]? = H[a]?) : vx_Zq C n d A U H1 := ⟨va_Zq.kept h.1 hq, vx_L.kept h.2 hq⟩
theorem vx_Zq.narrow {C n d : String} {A B : Nat → Prop} {U : State} {H : Heap} (h : vx_Zq C n d A U H) (hAB : ∀ q, B q → A q) : vx_Zq C n d B U H := ⟨va_Zq.narrow h.1 hAB, vx_L.narrow h.2 hAB⟩
theorem vx_Zqof {args : Array Value} {s : State} {C n d : String} {A : Nat → Prop} (hl : (Cond.laysStatic C n d).before args s = true) (hini : (Cond.initialized C).before args s = true) (h : (Cond.isRef (.static C n d)).before args s = true) (hA : ∀ a : Nat, a < s.heap.size → ¬ A a) : vx_Zq C n d A s s.heap := by
  refine ⟨va_Zqof hl hini h hA, ?_⟩
  obtain ⟨c, k, i, f, a, cell, h1, h2, h3, h4, h5, h6, h7, h8, h9⟩ := Cond.laysStatic_spec hl
  exact ⟨c, k, i, f, a, cell, h1, h2, h3, h4, h5, h6, h7, h8, h9, hA a (Array.getElem?_eq_some_iff.mp h5).1⟩
theorem vx_isRef {C n d : String} {v : Value} {A : Nat → Prop} {s : State} {args : Array Value} (h : va_Z C n d v A s s.heap) (hv : v.isRef = true) : (Cond.isRef (.static C n d)).before args s = true := by
  obtain ⟨cf, kf, fi, f, a, cell, h1, h2, h3, h4, h5, h6, h7, -⟩ := h
  have he : (Term.static C n d).eval args s none [] s = some v := by
    simp [Term.eval, State.fieldNamed?, h1, h2, h4, h5, h6, h7]
  simp only [Cond.before, Cond.holds, Cond.value, he]
  cases v <;> simp_all [Value.isRef]
theorem vx_isRefq {C n d : String} {A : Nat → Prop} {s : State} {args : Array Value} (h : va_Zq C n d A s s.heap) : (Cond.isRef (.static C n d)).before args s = true := by
  rcases h with h | ⟨t, h⟩
  · exact vx_isRef h rfl
  · exact vx_isRef h rfl
/-- the same frame, seen from here: as if the method were called anew in this heap -/
theorem vx_rebase {T : State} (X : Stand p l e R s m args below meth c T locs cells slots) {R' : Room} (hf : R'.frames ≤ R.frames) (hl : R'.locals ≤ R.locals) (hc : cells + R'.cells ≤ R.cells) (hs : slots + R'.slots ≤ R.slots) :
    Stand p l e R' ((T.setVm s.vm).setFrames (.invoking m args :: below)) m args below meth c T [] 0 0 := by
  have htop : (T.setVm s.vm).topJava?.isSome := X.here.top
  have hF : ((T.setVm s.vm).setFrames (.invoking m args :: below)).frames = .invoking m args :: below := State.frames_setFrames _ (State.cur_lt_of_top htop)
  obtain ⟨g₀, hg0⟩ := Option.isSome_iff_exists.mp htop
  obtain ⟨r, hr⟩ := State.topJava?_eq_some.mp hg0
  have hl9 : e.platform.stackLimits (T.setVm s.vm).me = e.platform.stackLimits s.me := X.limits
  have hb9 : (T.setVm s.vm).me.stackBytes = s.me.stackBytes := X.bytes
  refine ⟨X.admits, X.cas, X.clock, hF, ?_, X.hears, X.method, X.code, X.here, X.tail, X.warmed, ?_, ?_, ?_⟩
  · have h := X.room
    have hU : ((T.setVm s.vm).setFrames (.invoking m args :: below)).localsInUse = s.localsInUse := by
      rw [State.localsInUse_invoking hF (meth := meth) (c := c) X.method X.code, State.localsInUse_invoking X.frames X.method X.code]
    simp only [State.hasRoom, Bool.and_eq_true, decide_eq_true_eq] at h ⊢
    obtain ⟨⟨⟨⟨h1, h2, h3, h4, h5, h6⟩, h7⟩, h8⟩, h9⟩ := h
    rw [X.frames, List.length_cons] at h2 h3
    have q1 := X.heapSize
    have q2 := X.used
    simp only [hF, hU, List.length_cons, State.stackLimits_setFrames, State.stackBytes_setFrames, hl9, hb9]
    refine ⟨⟨⟨⟨by omega, by omega, by omega, by omega, by omega, h6⟩, ?_⟩, ?_⟩, X.book⟩
    · show T.heap.size + R'.cells ≤ e.platform.maxCells
      omega
    · show T.slotsUsed + R'.slots ≤ e.platform.maxSlots
      omega
  · rw [State.stackLimits_setFrames]; rfl
  · rw [State.stackBytes_setFrames]; rfl
  · refine ⟨?_, Nat.le_refl _, Nat.le_refl _, ?_, ?_, fun a c9 h9 => ⟨c9, h9, rfl, rfl, fun _ _ => rfl⟩⟩
    · obtain ⟨t, ht, -⟩ := State.frames_cons hr
      show T.setVm s.vm = { ((T.setVm s.vm).setFrames (.invoking m args :: below)).setFrames (T.setVm s.vm).frames with heap := T.heap, slotsUsed := T.slotsUsed }
      rw [State.setFrames_setFrames, State.setFrames_self ht]
      rfl
    · show T.slotsUsed = T.slotsUsed + ((T.heap.toList.drop T.heap.size).map (·.slots.size)).sum
      rw [List.drop_eq_nil_of_le (Nat.le_of_eq Array.length_toList)]
      rfl
    · show ((T.heap.toList.drop T.heap.size).map (·.slots.size)).sum ≤ 0
      rw [List.drop_eq_nil_of_le (Nat.le_of_eq Array.length_toList)]
      exact Nat.le_refl _
/-- 'throw new E()': new; dup; invokespecial; athrow -/
theorem vx_throw0 {cc : ByteArray} {pc : Nat} (hexec : p.tables.exec = Jvm.exec) (hb : c.code = cc) (hl : l.stackTraces = false) {own cls : String} {names : List String} {ik ic mc ms : Nat} {A : Nat → Prop}
    (hown : s.vm.findClass own = some m.cls) (hcls : Bundle.fit cls = true) (hnames : ∀ n ∈ names, Bundle.fit n = true)
    (hk : (Cond.classLink own ik cls).before args s = true) (hini : (Cond.initialized cls).before args s = true) (hat : ∀ w ∈ vx_at0 own ic cls names, w.before args s = true)
    (hgood : ∀ w ∈ Cond.classLink own ik cls :: Cond.initialized cls :: vx_at0 own ic cls names, vx_ot w = true)
    (hU : vx_Zq Bundle.tN "UNASSIGNED_STACK" Bundle.steD A s s.heap) (hN : vx_Zq Bundle.tN "SUPPRESSED_SENTINEL" Bundle.listD A s s.heap) (hS : va_S A s.heap H locs) (hsize : ls.size = c.maxLocals)
    (d0 : decode cc pc = .ok (.new ik, 3)) (d3 : decode cc (pc + 3) = .ok (.dup, 1)) (d4 : decode cc (pc + 4) = .ok (.invokespecial ic, 3)) (d7 : decode cc (pc + 7) = .ok (.athrow, 1))
    (hout : ∀ x ∈ c.exceptionTable.toList, covers x (pc + 7) = false)
    (hRframes : names.length + 3 < R.frames) (hRlocals : (rest.map fun v => v.category).sum + (13 * (names.length + 1) + 42) ≤ R.locals) (hRcells : cells + 1 ≤ R.cells) (hRslots : slots + 6 ≤ R.slots) (hlocks : meth.locks = false)
    (hx : ∀ t : State, s.vm.Alike t.vm → H.size ≤ t.heap.size → (∀ q : Nat, q < H.size → t.heap[q]? = H[q]?) → XC cls s t)
    (hf : ∀ z ∈ locs, free z.base) (hc : cells + 1 ≤ mc) (hs : slots + 6 ≤ ms) :
    W p l e R s m args below meth c H locs cells slots (vx_MQ below Qc XC args s mc ms free) (F0 m pc ls rest) := by
  intro T hT X
  have htr : e.platform.stackTraces = false := (show e.platform.stackTraces = l.stackTraces by rw [X.admits.platform]).trans hl
  have Y := vx_rebase X (R' := { frames := R.frames, locals := R.locals, cells := 1, slots := 6 }) (Nat.le_refl _) (Nat.le_refl _) hRcells hRslots
  obtain ⟨s', hA⟩ : ∃ z, z = (T.setVm s.vm).setFrames (.invoking m args :: below) := ⟨_, rfl⟩
  rw [← hA] at Y
  have hvm : s'.vm = s.vm := by rw [hA]; rfl
  have hhp : s'.heap = H := by rw [hA]; exact hT
  have hW0 : s.WarmedH s'.vm := by rw [hvm]; exact State.WarmedH.refl s
  have hat' : ∀ w ∈ vx_at0 own ic cls names, w.before args s' = true := fun w hw => vx_ot_at hW0 hvm.symm (hgood w (List.mem_cons_of_mem _ (List.mem_cons_of_mem _ hw))) (hat w hw)
  have hk' : (Cond.classLink own ik cls).before args s' = true := vx_ot_at hW0 hvm.symm (hgood _ List.mem_cons_self) hk
  have hini' : (Cond.initialized cls).before args s' = true := vx_ot_at hW0 hvm.symm (hgood _ (List.mem_cons_of_mem _ List.mem_cons_self)) hini
  have hU' : vx_Zq Bundle.tN "UNASSIGNED_STACK" Bundle.steD A s' s'.heap := by rw [hhp]; exact vx_Zq.moved hW0.alike (hU.kept hS.2.1)
  have hN' : vx_Zq Bundle.tN "SUPPRESSED_SENTINEL" Bundle.listD A s' s'.heap := by rw [hhp]; exact vx_Zq.moved hW0.alike (hN.kept hS.2.1)
  have h : ∀ w ∈ Bundle.ownAtoms0 own ic cls names, w.before args s' = true := vx_own hat' (vx_isRefq hU'.1) (vx_isRefq hN'.1) hU'.2.word hN'.2.word
  have hown' : s'.vm.findClass own = some m.cls := by rw [hvm]; exact hown
  have hins : (Cond.instantiable cls 6).before args s' = true := h _ (by simp [Bundle.ownAtoms0])
  obtain ⟨vm₁, cX, kX, hfX, hkX, -, -, X₁, st1⟩ := Y.newCold hexec (own := own) (C := cls) (index := ik) (n := 6) hown' hk' hins hini'
    (g := F0 m pc ls rest) rfl (by rw [hb]; exact d0) (Nat.le_refl _) (Nat.le_refl _)
  generalize hT1 : (T.setVm vm₁).pushCell { cls := cX, slots := kX.instanceTypes.map defaultValue, vm := .none } = T1 at X₁ st1
  have hcat : (Value.ref T.heap.size).category = 1 := rfl
  have hcellA : T1.heap[T.heap.size]? = some (freshCell cX kX) := by rw [← hT1]; exact State.heap_pushCell_size _ _
  have d3' : decode c.code (pc + 3) = .ok (.dup, 1) := by rw [hb]; exact d3
  obtain ⟨U, hsteps, hrun, hend, hW, hsame, ce, hce, hO⟩ := X₁.ctorThrow0 hexec htr (own := own) (cls := cls) (names := names) (ic := ic) hown' hcls hnames h (fun x hx => nomatch hx) hfX hkX hcellA (by rw [hhp, hT]; exact Nat.le_refl _)
    (g := { method := m, pc := pc + 4, locals := ls, stack := .ref T.heap.size :: .ref T.heap.size :: rest, locked := none }) rfl hsize rfl rfl (rest := rest) rfl
    (by rw [hb]; exact d4) (by rw [hb]; exact d7) hout hRframes (by simp only [List.map_cons, List.sum_cons, hcat]; omega) hlocks
  obtain ⟨f1, f2⟩ := vx_frame hsame
  rw [hhp] at f1 f2
  have hWs : s.WarmedH U.vm := State.WarmedH.trans hW0 hW
  have hcl : s.vm.findClass cls = some ce.cls := by
    have h9 := hO.cls
    rw [hvm] at h9
    exact h9
  have hall : s.sameButNew ({ U with vm := s.vm } : State) locs mc ms := by
    subst hA
    obtain ⟨e1, e2⟩ := hsame
    rw [State.setFrames_setFrames] at e1
    have h2 : (T.setVm s.vm).sameButNew ({ U with vm := s.vm } : State) [] (0 + 1) (0 + 6) := ⟨e1, e2⟩
    have h3 := X.same.trans h2
    rw [List.append_nil] at h3
    exact h3.mono hc hs
  refine ⟨U, ?_, .threw T.heap.size, hrun, hend, Or.inr ⟨T.heap.size, rfl, cls, ce, locs, hx U hWs.alike f1 (fun q hq => f2 q hq (fun z hz => nomatch hz)), hce, hO.vm, hcl, hWs, hall, hf⟩⟩
  refine st1 _ ?_
  show Steps p.tables e below (T1.setTop { method := m, pc := pc + 3, locals := ls, stack := .ref T.heap.size :: rest, locked := none }) _
  jvm_step X₁.here [X₁.here.top, hexec, d3', Value.category]
  exact hsteps
/-- 'throw new E("text")': new; dup; ldc; invokespecial; athrow -/
theorem vx_throwS {cc : ByteArray} {pc : Nat} (hexec : p.tables.exec = Jvm.exec) (hb : c.code = cc) (hl : l.stackTraces = false) {own cls text : String} {names : List String} {ik is ic mc ms sa : Nat} {A : Nat → Prop}
    (hown : s.vm.findClass own = some m.cls) (hcls : Bundle.fit cls = true) (hnames : ∀ n ∈ names, Bundle.fit n = true)
    (hk : (Cond.classLink own ik cls).before args s = true) (hini : (Cond.initialized cls).before args s = true) (hstr : vk_R own is text sa s) (hat : ∀ w ∈ vx_atS own ic cls names, w.before args s = true)
    (hgood : ∀ w ∈ Cond.classLink own ik cls :: Cond.initialized cls :: vx_atS own ic cls names, vx_ot w = true)
    (hU : vx_Zq Bundle.tN "UNASSIGNED_STACK" Bundle.steD A s s.heap) (hN : vx_Zq Bundle.tN "SUPPRESSED_SENTINEL" Bundle.listD A s s.heap) (hS : va_S A s.heap H locs) (hsize : ls.size = c.maxLocals)
    (d0 : decode cc pc = .ok (.new ik, 3)) (d3 : decode cc (pc + 3) = .ok (.dup, 1)) (d4 : decode cc (pc + 4) = .ok (.ldc is, 2)) (d6 : decode cc (pc + 6) = .ok (.invokespecial ic, 3)) (d9 : decode cc (pc + 9) = .ok (.athrow, 1))
    (hout : ∀ x ∈ c.exceptionTable.toList, covers x (pc + 9) = false)
    (hRframes : names.length + 3 < R.frames) (hRlocals : (rest.map fun v => v.category).sum + (13 * (names.length + 1) + 43) ≤ R.locals) (hRcells : cells + 1 ≤ R.cells) (hRslots : slots + 6 ≤ R.slots) (hlocks : meth.locks = false)
    (hx : ∀ t : State, s.vm.Alike t.vm → H.size ≤ t.heap.size → (∀ q : Nat, q < H.size → t.heap[q]? = H[q]?) → XC cls s t)
    (hf : ∀ z ∈ locs, free z.base) (hc : cells + 1 ≤ mc) (hs : slots + 6 ≤ ms) :
    W p l e R s m args below meth c H locs cells slots (vx_MQ below Qc XC args s mc ms free) (F0 m pc ls rest) := by
  intro T hT X
  have htr : e.platform.stackTraces = false := (show e.platform.stackTraces = l.stackTraces by rw [X.admits.platform]).trans hl
  have Y := vx_rebase X (R' := { frames := R.frames, locals := R.locals, cells := 1, slots := 6 }) (Nat.le_refl _) (Nat.le_refl _) hRcells hRslots
  obtain ⟨s', hA⟩ : ∃ z, z = (T.setVm s.vm).setFrames (.invoking m args :: below) := ⟨_, rfl⟩
  rw [← hA] at Y
  have hvm : s'.vm = s.vm := by rw [hA]; rfl
  have hhp : s'.heap = H := by rw [hA]; exact hT
  have hW0 : s.WarmedH s'.vm := by rw [hvm]; exact State.WarmedH.refl s
  have hat' : ∀ w ∈ vx_atS own ic cls names, w.before args s' = true := fun w hw => vx_ot_at hW0 hvm.symm (hgood w (List.mem_cons_of_mem _ (List.mem_cons_of_mem _ hw))) (hat w hw)
  have hk' : (Cond.classLink own ik cls).before args s' = true := vx_ot_at hW0 hvm.symm (hgood _ List.mem_cons_self) hk
  have hini' : (Cond.initialized cls).before args s' = true := vx_ot_at hW0 hvm.symm (hgood _ (List.mem_cons_of_mem _ List.mem_cons_self)) hini
  have hU' : vx_Zq Bundle.tN "UNASSIGNED_STACK" Bundle.steD A s' s'.heap := by rw [hhp]; exact vx_Zq.moved hW0.alike (hU.kept hS.2.1)
  have hN' : vx_Zq Bundle.tN "SUPPRESSED_SENTINEL" Bundle.listD A s' s'.heap := by rw [hhp]; exact vx_Zq.moved hW0.alike (hN.kept hS.2.1)
  have h : ∀ w ∈ Bundle.ownAtoms own ic cls names, w.before args s' = true := vx_own hat' (vx_isRefq hU'.1) (vx_isRefq hN'.1) hU'.2.word hN'.2.word
  have hown' : s'.vm.findClass own = some m.cls := by rw [hvm]; exact hown
  have hins : (Cond.instantiable cls 6).before args s' = true := h _ (by simp [Bundle.ownAtoms])
  obtain ⟨vm₁, cX, kX, hfX, hkX, -, -, X₁, st1⟩ := Y.newCold hexec (own := own) (C := cls) (index := ik) (n := 6) hown' hk' hins hini'
    (g := F0 m pc ls rest) rfl (by rw [hb]; exact d0) (Nat.le_refl _) (Nat.le_refl _)
  generalize hT1 : (T.setVm vm₁).pushCell { cls := cX, slots := kX.instanceTypes.map defaultValue, vm := .none } = T1 at X₁ st1
  have hcat : (Value.ref T.heap.size).category = 1 := rfl
  have hcellA : T1.heap[T.heap.size]? = some (freshCell cX kX) := by rw [← hT1]; exact State.heap_pushCell_size _ _
  have d3' : decode c.code (pc + 3) = .ok (.dup, 1) := by rw [hb]; exact d3
  have d4' : decode c.code (pc + 4) = .ok (.ldc is, 2) := by rw [hb]; exact d4
  have hstr' : vk_R own is text sa s' := vk_R.warm hW0 hstr
  obtain ⟨U, hsteps, hrun, hend, hW, hsame, ce, hce, hO⟩ := X₁.ctorThrowS hexec htr (own := own) (cls := cls) (names := names) (ic := ic) hown' hcls hnames h (fun x hx => nomatch hx) hfX hkX hcellA (by rw [hhp, hT]; exact Nat.le_refl _) (msg := .ref sa) rfl
    (g := { method := m, pc := pc + 6, locals := ls, stack := .ref sa :: .ref T.heap.size :: .ref T.heap.size :: rest, locked := none }) rfl hsize rfl rfl (rest := rest) rfl
    (by rw [hb]; exact d6) (by rw [hb]; exact d9) hout hRframes (by simp only [List.map_cons, List.sum_cons, hcat]; omega) hlocks
  obtain ⟨f1, f2⟩ := vx_frame hsame
  rw [hhp] at f1 f2
  have hWs : s.WarmedH U.vm := State.WarmedH.trans hW0 hW
  have hcl : s.vm.findClass cls = some ce.cls := by
    have h9 := hO.cls
    rw [hvm] at h9
    exact h9
  have hall : s.sameButNew ({ U with vm := s.vm } : State) locs mc ms := by
    subst hA
    obtain ⟨e1, e2⟩ := hsame
    rw [State.setFrames_setFrames] at e1
    have h2 : (T.setVm s.vm).sameButNew ({ U with vm := s.vm } : State) [] (0 + 1) (0 + 6) := ⟨e1, e2⟩
    have h3 := X.same.trans h2
    rw [List.append_nil] at h3
    exact h3.mono hc hs
  refine ⟨U, ?_, .threw T.heap.size, hrun, hend, Or.inr ⟨T.heap.size, rfl, cls, ce, locs, hx U hWs.alike f1 (fun q hq => f2 q hq (fun z hz => nomatch hz)), hce, hO.vm, hcl, hWs, hall, hf⟩⟩
  refine st1 _ ?_
  show Steps p.tables e below (T1.setTop { method := m, pc := pc + 3, locals := ls, stack := .ref T.heap.size :: rest, locked := none }) _
  jvm_step X₁.here [X₁.here.top, hexec, d3', Value.category]
  exact X₁.ldcString hexec (own := own) (text := text) (index := is) (a := sa) hown' hstr'.1 hstr'.2
    (g := { method := m, pc := pc + 4, locals := ls, stack := .ref T.heap.size :: .ref T.heap.size :: rest, locked := none }) rfl d4' _ hsteps
/-- 'throw new E("text")', the text by a wide index -/
theorem vx_throwSW {cc : ByteArray} {pc : Nat} (hexec : p.tables.exec = Jvm.exec) (hb : c.code = cc) (hl : l.stackTraces = false) {own cls text : String} {names : List String} {ik is ic mc ms sa : Nat} {A : Nat → Prop}
    (hown : s.vm.findClass own = some m.cls) (hcls : Bundle.fit cls = true) (hnames : ∀ n ∈ names, Bundle.fit n = true)
    (hk : (Cond.classLink own ik cls).before args s = true) (hini : (Cond.initialized cls).before args s = true) (hstr : vk_R own is text sa s) (hat : ∀ w ∈ vx_atS own ic cls names, w.before args s = true)
    (hgood : ∀ w ∈ Cond.classLink own ik cls :: Cond.initialized cls :: vx_atS own ic cls names, vx_ot w = true)
    (hU : vx_Zq Bundle.tN "UNASSIGNED_STACK" Bundle.steD A s s.heap) (hN : vx_Zq Bundle.tN "SUPPRESSED_SENTINEL" Bundle.listD A s s.heap) (hS : va_S A s.heap H locs) (hsize : ls.size = c.maxLocals)
    (d0 : decode cc pc = .ok (.new ik, 3)) (d3 : decode cc (pc + 3) = .ok (.dup, 1)) (d4 : decode cc (pc + 4) = .ok (.ldc_w is, 3)) (d7 : decode cc (pc + 7) = .ok (.invokespecial ic, 3)) (d10 : decode cc (pc + 10) = .ok (.athrow, 1))
    (hout : ∀ x ∈ c.exceptionTable.toList, covers x (pc + 10) = false)
    (hRframes : names.length + 3 < R.frames) (hRlocals : (rest.map fun v => v.category).sum + (13 * (names.length + 1) + 43) ≤ R.locals) (hRcells : cells + 1 ≤ R.cells) (hRslots : slots + 6 ≤ R.slots) (hlocks : meth.locks = false)
    (hx : ∀ t : State, s.vm.Alike t.vm → H.size ≤ t.heap.size → (∀ q : Nat, q < H.size → t.heap[q]? = H[q]?) → XC cls s t)
    (hf : ∀ z ∈ locs, free z.base) (hc : cells + 1 ≤ mc) (hs : slots + 6 ≤ ms) :
    W p l e R s m args below meth c H locs cells slots (vx_MQ below Qc XC args s mc ms free) (F0 m pc ls rest) := by
  intro T hT X
  have htr : e.platform.stackTraces = false := (show e.platform.stackTraces = l.stackTraces by rw [X.admits.platform]).trans hl
  have Y := vx_rebase X (R' := { frames := R.frames, locals := R.locals, cells := 1, slots := 6 }) (Nat.le_refl _) (Nat.le_refl _) hRcells hRslots
  obtain ⟨s', hA⟩ : ∃ z, z = (T.setVm s.vm).setFrames (.invoking m args :: below) := ⟨_, rfl⟩
  rw [← hA] at Y
  have hvm : s'.vm = s.vm := by rw [hA]; rfl
  have hhp : s'.heap = H := by rw [hA]; exact hT
  have hW0 : s.WarmedH s'.vm := by rw [hvm]; exact State.WarmedH.refl s
  have hat' : ∀ w ∈ vx_atS own ic cls names, w.before args s' = true := fun w hw => vx_ot_at hW0 hvm.symm (hgood w (List.mem_cons_of_mem _ (List.mem_cons_of_mem _ hw))) (hat w hw)
  have hk' : (Cond.classLink own ik cls).before args s' = true := vx_ot_at hW0 hvm.symm (hgood _ List.mem_cons_self) hk
  have hini' : (Cond.initialized cls).before args s' = true := vx_ot_at hW0 hvm.symm (hgood _ (List.mem_cons_of_mem _ List.mem_cons_self)) hini
  have hU' : vx_Zq Bundle.tN "UNASSIGNED_STACK" Bundle.steD A s' s'.heap := by rw [hhp]; exact vx_Zq.moved hW0.alike (hU.kept hS.2.1)
  have hN' : vx_Zq Bundle.tN "SUPPRESSED_SENTINEL" Bundle.listD A s' s'.heap := by rw [hhp]; exact vx_Zq.moved hW0.alike (hN.kept hS.2.1)
  have h : ∀ w ∈ Bundle.ownAtoms own ic cls names, w.before args s' = true := vx_own hat' (vx_isRefq hU'.1) (vx_isRefq hN'.1) hU'.2.word hN'.2.word
  have hown' : s'.vm.findClass own = some m.cls := by rw [hvm]; exact hown
  have hins : (Cond.instantiable cls 6).before args s' = true := h _ (by simp [Bundle.ownAtoms])
  obtain ⟨vm₁, cX, kX, hfX, hkX, -, -, X₁, st1⟩ := Y.newCold hexec (own := own) (C := cls) (index := ik) (n := 6) hown' hk' hins hini'
    (g := F0 m pc ls rest) rfl (by rw [hb]; exact d0) (Nat.le_refl _) (Nat.le_refl _)
  generalize hT1 : (T.setVm vm₁).pushCell { cls := cX, slots := kX.instanceTypes.map defaultValue, vm := .none } = T1 at X₁ st1
  have hcat : (Value.ref T.heap.size).category = 1 := rfl
  have hcellA : T1.heap[T.heap.size]? = some (freshCell cX kX) := by rw [← hT1]; exact State.heap_pushCell_size _ _
  have d3' : decode c.code (pc + 3) = .ok (.dup, 1) := by rw [hb]; exact d3
  have d4' : decode c.code (pc + 4) = .ok (.ldc_w is, 3) := by rw [hb]; exact d4
  have hstr' : vk_R own is text sa s' := vk_R.warm hW0 hstr
  obtain ⟨U, hsteps, hrun, hend, hW, hsame, ce, hce, hO⟩ := X₁.ctorThrowS hexec htr (own := own) (cls := cls) (names := names) (ic := ic) hown' hcls hnames h (fun x hx => nomatch hx) hfX hkX hcellA (by rw [hhp, hT]; exact Nat.le_refl _) (msg := .ref sa) rfl
    (g := { method := m, pc := pc + 7, locals := ls, stack := .ref sa :: .ref T.heap.size :: .ref T.heap.size :: rest, locked := none }) rfl hsize rfl rfl (rest := rest) rfl
    (by rw [hb]; exact d7) (by rw [hb]; exact d10) hout hRframes (by simp only [List.map_cons, List.sum_cons, hcat]; omega) hlocks
  obtain ⟨f1, f2⟩ := vx_frame hsame
  rw [hhp] at f1 f2
  have hWs : s.WarmedH U.vm := State.WarmedH.trans hW0 hW
  have hcl : s.vm.findClass cls = some ce.cls := by
    have h9 := hO.cls
    rw [hvm] at h9
    exact h9
  have hall : s.sameButNew ({ U with vm := s.vm } : State) locs mc ms := by
    subst hA
    obtain ⟨e1, e2⟩ := hsame
    rw [State.setFrames_setFrames] at e1
    have h2 : (T.setVm s.vm).sameButNew ({ U with vm := s.vm } : State) [] (0 + 1) (0 + 6) := ⟨e1, e2⟩
    have h3 := X.same.trans h2
    rw [List.append_nil] at h3
    exact h3.mono hc hs
  refine ⟨U, ?_, .threw T.heap.size, hrun, hend, Or.inr ⟨T.heap.size, rfl, cls, ce, locs, hx U hWs.alike f1 (fun q hq => f2 q hq (fun z hz => nomatch hz)), hce, hO.vm, hcl, hWs, hall, hf⟩⟩
  refine st1 _ ?_
  show Steps p.tables e below (T1.setTop { method := m, pc := pc + 3, locals := ls, stack := .ref T.heap.size :: rest, locked := none }) _
  jvm_step X₁.here [X₁.here.top, hexec, d3', Value.category]
  exact X₁.ldcStringW hexec (own := own) (text := text) (index := is) (a := sa) hown' hstr'.1 hstr'.2
    (g := { method := m, pc := pc + 4, locals := ls, stack := .ref T.heap.size :: .ref T.heap.size :: rest, locked := none }) rfl d4' _ hsteps
end Ends
section Bodies
variable {l : Launch}
theorem vx_ofW {y : MethodName} {ws ws' : List Cond} {rm : Room} {Pc : Array Value → State → Prop} {Qc : Array Value → State → Outcome → State → Prop} {XC : String → State → State → Prop} {mc ms : Nat} {free : Addr → Prop} {cc : ByteArray} {maxL : Nat} {ret : Option FieldType}
    (hy : plainName y.cls = true) (hw : ws = Cond.code y cc maxL ret :: ws')
    (body : ∀ p e s m args below meth c s₁, BodyLoose p l y (headSpec ws rm) cc maxL ret e s m args below meth c s₁ → c.maxLocals = maxL → (∀ x ∈ c.exceptionTable.toList, False) → Pc args s →
      W p l e (headSpec ws rm).room s m args below meth c s.heap [] 0 0 (vx_MQ below Qc XC args s mc ms free) (entryFrame m args maxL)) : vx_Met l y ws rm Pc Qc XC mc ms free := by
  refine MetFree.of_bodyS (code := cc) (maxLocals := maxL) (ret := ret) hy ?_ ?_
  · intro args s m h hn
    obtain ⟨meth, c, h1, h2, h3, h4, h5, h6, -, -⟩ := Cond.code_spec hn (atoms_spec (ws := ws) h _ (by rw [hw]; exact List.mem_cons_self))
    exact ⟨meth, c, h1, h2, h3, h4, h5, h6⟩
  · intro p e s m args below meth c s₁ B hml hP _
    have hh0 : s₁.heap = s.heap := by rw [B.state]; rfl
    have ht : ∀ x ∈ c.exceptionTable.toList, False := by
      obtain ⟨meth9, c9, h1, h2, -, -, -, -, h7, -⟩ := Cond.code_spec B.named (atoms_spec (ws := ws) B.pre _ (by rw [hw]; exact List.mem_cons_self))
      cases Option.some.inj (h1.symm.trans B.method)
      cases Option.some.inj (h2.symm.trans (Stand.of_body B).code)
      intro x hx
      rw [Array.isEmpty_iff.mp h7] at hx
      cases hx
    obtain ⟨t, a1, o, b1, b2, b3⟩ := body p e s m args below meth c s₁ B hml ht hP s₁ hh0 (Stand.of_body B)
    exact ⟨t, o, a1, b1, b2, b3⟩
/-- the table of a body with handlers -/
theorem vx_table {p : Program} {x y : MethodName} {S : Spec} {cc bytes : ByteArray} {maxL maxL' : Nat} {ret ret' : Option FieldType} {e : Env} {s s₁ : State} {m : MethodId} {args : Array Value} {below : List Frame} {meth : Method} {c : Code} {hh : List (Nat × Nat × Nat × Nat)}
    (B : BodyLoose p l y S cc maxL ret e s m args below meth c s₁) (h : (Cond.codeWith y bytes maxL' ret' hh).before args s = true) : c.exceptionTable.toList = tableOf hh := by
  obtain ⟨m9, meth9, c9, hn9, h1, h2, -, -, h6, -⟩ := Cond.codeWith_spec h
  cases Option.some.inj (hn9.symm.trans B.named)
  cases Option.some.inj (h1.symm.trans B.method)
  cases Option.some.inj (h2.symm.trans (Stand.of_body B).code)
  rw [← h6, table_eq]
end Bodies
end VXA
/-! ===== END ===== -/
/-! ===== BEGIN a static call of a method with an exception table ===== -/
section VXS
variable {p : Program} {l : Launch} {e : Env} {R : Room} {s : State} {m : MethodId} {args : Array Value} {below : List Frame} {meth : Method} {c : Code} {T : State} {H : Heap} {locs : List Loc} {cells slots : Nat}
abbrev vx_CSW (R : Room) (s : State) (args : Array Value) (own : String) (index : Nat) (y : MethodName) (bytes : ByteArray) (maxL : Nat) (ret : Option FieldType) (hh : List (Nat × Nat × Nat × Nat)) (ws : List Cond) (rm : Room) (mc ms n : Nat) : Prop :=
  (rm.cells = mc ∧ rm.slots = ms ∧ rm.frames + 1 ≤ R.frames ∧ 8 + (maxL + 11) + rm.locals ≤ R.locals ∧ (∀ w ∈ ws, ∀ (a' : Array Value) (U : State), s.WarmedH U.vm → w.before a' U = true) ∧ Cond.codeWith y bytes maxL ret hh ∈ ws) ∧
  (Cond.codeWith y bytes maxL ret hh).before args s = true ∧ (Cond.initialized y.cls).before args s = true ∧ (y.cls ≠ "java/lang/invoke/MethodHandle" ∧ y.cls ≠ "java/lang/invoke/VarHandle") ∧
  (∀ sig, parseMethodDescriptor y.desc = some sig → n = sig.parameters.length) ∧ (Cond.methodLink own index y).before args s = true ∧ (Cond.static y).before args s = true
theorem vx_cwSW {own : String} {index maxL mc ms : Nat} {y : MethodName} {bytes : ByteArray} {ret : Option FieldType} {hh : List (Nat × Nat × Nat × Nat)} {Ts ws ws' : List Cond} {rm : Room} (n : Nat) (ht : ∀ w ∈ Ts, w.before args s = true) (hT : GoodIn Ts (va_wsS own index y ws)) (hw : ws = Cond.codeWith y bytes maxL ret hh :: ws') (hrc : rm.cells = mc) (hrs : rm.slots = ms)
    (hd : y.cls ≠ "java/lang/invoke/MethodHandle" ∧ y.cls ≠ "java/lang/invoke/VarHandle" ∧ (parseMethodDescriptor y.desc).map (fun d => d.parameters.length) = some n) (hR : rm.frames + 1 ≤ R.frames ∧ 8 + (maxL + 11) + rm.locals ≤ R.locals) :
    vx_CSW R s args own index y bytes maxL ret hh ws rm mc ms n := by
  have ok : ∀ w ∈ va_wsS own index y ws, w.before args s = true := fun w h => ht w (hT w h).1
  have hG : GoodIn Ts ws := fun w h => hT w (by unfold va_wsS; exact List.mem_append_right _ h)
  have hc : Cond.codeWith y bytes maxL ret hh ∈ ws := by rw [hw]; exact List.mem_cons_self
  refine ⟨⟨hrc, hrs, hR.1, hR.2, pay_in ht hG, hc⟩, ht _ (hG _ hc).1, ok _ (by simp [va_wsS]), ⟨hd.1, hd.2.1⟩, fun sig h => ?_, ok _ (by simp [va_wsS]), ok _ (by simp [va_wsS])⟩
  have h2 := hd.2.2
  rw [h] at h2
  exact (Option.some.inj h2).symm
theorem vx_callSW (X : Stand p l e R s m args below meth c T locs cells slots) (hexec : p.tables.exec = Jvm.exec) {own : String} {index : Nat} {y : MethodName} {bytes : ByteArray} {maxL : Nat} {ret : Option FieldType} {hh : List (Nat × Nat × Nat × Nat)}
    (hown : s.vm.findClass own = some m.cls) (hlink : (Cond.methodLink own index y).before args s = true) (hstat : (Cond.static y).before args s = true) (hinit : (Cond.initialized y.cls).before args s = true)
    (hcode : (Cond.codeWith y bytes maxL ret hh).before args s = true) (hy : y.cls ≠ "java/lang/invoke/MethodHandle" ∧ y.cls ≠ "java/lang/invoke/VarHandle")
    {W9 : Nat} {Pre : Pt → Array Value → Prop} {Post : Pt → Array Value → Option Value → Pt → Prop} (hK : Back l R p e below s args y 3 W9 Pre Post)
    {g : JFrame} (hg : g.method = m) (hsize : g.locals.size = c.maxLocals) {argsL rest : List Value} (hlen : ∀ sig, parseMethodDescriptor y.desc = some sig → argsL.length = sig.parameters.length)
    (hstack : g.stack = argsL.reverse ++ rest) (hW : 2 * g.monitorRoom + (rest.map fun v => v.category).sum ≤ W9) (hdg : decode c.code g.pc = .ok (.invokestatic index, 3))
    (hpre : ∀ vm₁, s.WarmedH vm₁ → Pre ⟨T.setVm vm₁, locs, cells, slots⟩ argsL.toArray) :
    ∃ (v : Option Value) (vm₁ : Vm) (B : Pt), s.WarmedH vm₁ ∧ Stand p l e R s m args below meth c B.U B.locs B.cells B.slots ∧ Post ⟨T.setVm vm₁, locs, cells, slots⟩ argsL.toArray v B ∧
      ∀ target, Steps p.tables e below (B.U.setTop { g with pc := g.pc + 3, stack := v.toList ++ rest }) target → Steps p.tables e below (T.setTop g) target := by
  obtain ⟨mk, methM, cM, hnamed, hmethM, -, -, -, -, -, -, hsigM⟩ := Cond.codeWith_spec hcode
  have hstatic : methM.isStatic = true := Cond.static_spec hnamed hmethM hstat
  obtain ⟨kP, hkP, -⟩ := className_of_methodNamed hnamed
  have hinitP : kP.init = .initialized := Cond.initialized_spec (findClass_of_methodNamed hnamed) hkP hinit
  obtain ⟨vm₁, X₁, hstep₁⟩ := X.invokestatic hexec hown hlink hnamed hmethM hstatic hkP hinitP hy (g := g) hg (argsL := argsL) (rest := rest) (hlen _ hsigM) hstack hdg
  obtain ⟨v, B, X', hpost, hsteps⟩ := hK m meth c ⟨T.setVm vm₁, locs, cells, slots⟩ { g with stack := rest } (.invokestatic index) mk argsL.toArray X₁ hg hsize hdg hW (X₁.named hnamed) (hpre vm₁ X₁.warmed)
  exact ⟨v, vm₁, B, X₁.warmed, X', hpost, fun target h => hstep₁ _ fun acts => by rw [doInvoke_state]; exact hsteps.trans h⟩
theorem vx_runSW {y : MethodName} {bytes cc : ByteArray} {maxL nL mc ms n index : Nat} {ret : Option FieldType} {hh : List (Nat × Nat × Nat × Nat)} {ws : List Cond} {rm : Room} {Pc : Array Value → State → Prop} {Qc : Array Value → State → Outcome → State → Prop} {free : Addr → Prop} {Ts : List Cond} {own : String} {As rest : List Value} {g : JFrame}
    (S : CallFix p m c cc nL s args Ts own) (hM : Met l y ws rm Pc Qc mc ms free) (cw : vx_CSW R s args own index y bytes maxL ret hh ws rm mc ms n) (hp : PreS s H Pc As)
    (hg : g.method = m) (hn : As.length = n) (hsize : g.locals.size = nL) (hstack : g.stack = As.reverse ++ rest) (hW : 2 * g.monitorRoom + (rest.map fun v => v.category).sum ≤ 8) (hdg : decode cc g.pc = .ok (.invokestatic index, 3)) (hf : cells + mc ≤ R.cells ∧ slots + ms ≤ R.slots) :
    va_Run p l e R s m args below meth c H locs cells slots mc ms g rest (Qc As.toArray) (free) := by
  obtain ⟨⟨hrc, hrs, hfr, hlo, hws, hcw⟩, hcode, hini, hy, hlen, hl, hstt⟩ := cw
  have hK : Back l R p e below s args y 3 8 (PreOf R mc ms Pc) (PostOf Qc mc ms free) := va_backW (hh := hh) (bytes := bytes) (maxL := maxL) (ret := ret) hM hp.1 hrc hrs hfr hlo hws hcw (fun a' U hW => word_at hW (Or.inl (by first | rfl | simp [Cond.onTables, Cond.keeps, Cond.steady])) hini)
  obtain ⟨hx, hb, hml, ho, -⟩ := S
  intro T hT X
  obtain ⟨v, vm₁, ⟨U', l2, c2, s2⟩, hW₁, X', ⟨g', mk, t, L, e1, e2, hq, h1, hL, h2, h3⟩, st⟩ := vx_callSW X hx (hh := hh) (bytes := bytes) (maxL := maxL) (ret := ret) ho hl hstt hini hcode hy hK hg (hsize.trans hml.symm) (argsL := As) (rest := rest) (fun sig h => hn.trans (hlen sig h)) hstack hW (by rw [hb]; exact hdg)
    (fun vm₁ hW₁ => ⟨hf.1, hf.2, hp.2 (T.setVm vm₁) hT hW₁⟩)
  dsimp only [Pt.U, Pt.locs, Pt.cells, Pt.slots] at X' e1 e2 h1 h2 h3 st
  subst h1; subst h2; subst h3
  exact ⟨v, (T.setVm vm₁).calling g' mk As.toArray, t, U', L, hT, X', hL, e1, e2, hq, st⟩
/-- not caught here, past rows that name other classes: it goes on to the caller -/
theorem vx_outP {p : Program} {l : Launch} {e : Env} {R : Room} {s : State} {m : MethodId} {args : Array Value} {below : List Frame} {meth : Method} {c : Code} {H : Heap} {locs : List Loc} {cells slots : Nat} {free : Addr → Prop} {ls : Array Slot} {rest : List Value} {Qc : Array Value → State → Outcome → State → Prop} {XC : String → State → State → Prop}
    {pc : Nat} {own E : String} {ce : Cell} {q : Addr} {mc ms : Nat} (hown : s.vm.findClass own = some m.cls) (hlocks : meth.locks = false)
    (hpass : ∀ z ∈ c.exceptionTable.toList, covers z pc = false ∨ (z.catchType ≠ 0 ∧ ∃ nm : String, (Cond.classLink own z.catchType nm).before args s = true ∧ va_Nc E nm s)) (hcell : H[q]? = some ce) (hv : ce.vm = .none) (hcl : s.vm.findClass E = some ce.cls)
    (hx : ∀ t : State, t.heap = H → s.vm.Alike t.vm → XC E s t) (hf : ∀ z ∈ locs, free z.base) (hc : cells ≤ mc) (hs : slots ≤ ms) :
    vx_W p l e R s m args below meth c H locs cells slots (vx_MQ below Qc XC args s mc ms free) (F0 m pc ls rest) q := by
  intro T hT X
  have hpl : e.platform.magicAccessors = ({} : Platform).magicAccessors := by rw [X.admits.platform]
  obtain ⟨vm', hW', X', st⟩ := X.outThrough hlocks q (g := F0 m pc ls rest) rfl rfl rfl (cell := ce) (by rw [hT]; exact hcell) (by rw [hv]; rfl)
    (by obtain ⟨k9, h9, -⟩ := Vm.findClass_spec hcl; exact ⟨k9, h9⟩) (fun z hz => by
      rcases hpass z hz with h | ⟨hz0, nm, hl1, hn1⟩
      · exact Or.inl h
      · obtain ⟨c6, hc6, hcl6⟩ := Cond.classLink_spec hown hl1 e.platform hpl
        obtain ⟨a8, b8, h1, h2, h3⟩ := hn1
        cases Option.some.inj (h1.symm.trans hcl)
        cases Option.some.inj (h2.symm.trans hc6)
        exact Or.inr ⟨hz0, _, hcl6, h3⟩)
  obtain ⟨g₀, hfr⟩ := X'.frames_eq
  have hcell9 : ((T.setVm vm').setFrames (.throwing q :: below)).heap[q]? = some ce := by
    show T.heap[q]? = some ce
    rw [hT]; exact hcell
  have hend : Ended ((T.setVm vm').setFrames (.throwing q :: below)) below (.threw q) := State.frames_setFrames _ (State.cur_lt_of_frames hfr)
  refine ⟨(T.setVm vm').setFrames (.throwing q :: below), ?_, .threw q, X'.here.running, hend, Or.inr ⟨q, rfl, E, ce, locs, hx _ hT (X'.ends _).1.alike, hcell9, hv, hcl, (X'.ends _).1, (X'.ends _).2.mono hc hs, hf⟩⟩
  rw [X.pushThrowing_eq]
  exact st
/-- a thing of a world lies in the heap -/
theorem vx_lt {D : va_G} {cl : List vw_C} {ws : va_W} {H1 : Heap} (h : va_P D cl ws H1) {k : Nat} {q : Nat × va_E} (hk : ws[k]? = some q) : q.1 < H1.size := (h k q hk).lt
end VXS
/-! ===== END ===== -/
/-! ===== BEGIN methods with a table of their own: called by a name, returning or throwing ===== -/
section VXH
/-! vx_backW, vx_callVX, vx_callSX, vx_callVW, vx_runVW, vx_runVX, vx_runSX, vx_ofWH follow the same proofs as their sisters above (Free/Laws.lean, Shelf42/LK1.lean); vx_outP calls Shelf42/NT130.lean (outThrough). -/
section
variable {l : Launch} {R : Room} {p : Program} {e : Env} {below : List Frame} {s : State} {sargs : Array Value} {y : MethodName} {len W9 : Nat}
theorem vx_backW {ws : List Cond} {rm : Room} {Pc : Array Value → State → Prop} {Qc : Array Value → State → Outcome → State → Prop} {XC : String → State → State → Prop} {mc ms : Nat} {free : Addr → Prop} {bytes : ByteArray} {maxL : Nat} {ret : Option FieldType} {hh : List (Nat × Nat × Nat × Nat)}
    (hM : vx_Met l y ws rm Pc Qc XC mc ms free) (hblind : FrameBlind Pc) (hrc : rm.cells = mc) (hrs : rm.slots = ms)
    (hframes : rm.frames + 1 ≤ R.frames) (hlocals : W9 + (maxL + 11) + rm.locals ≤ R.locals)
    (hws : ∀ w ∈ ws, ∀ a' U, s.WarmedH U.vm → w.before a' U = true) (hcode : Cond.codeWith y bytes maxL ret hh ∈ ws) (hinit : ∀ a' U, s.WarmedH U.vm → (Cond.initialized y.cls).before a' U = true) :
    vx_Back l R p e below s sargs y len W9 (PreOf R mc ms Pc) (PostOf Qc mc ms free) (vx_Post XC mc ms free) := by
  intro m meth c A g ig mk a X hg hsize hdg hW hn hp
  have h1 : (headSpec ws rm).pre.before a A.U = true := atoms_intro fun w hw => hws w hw _ _ X.warmed
  have h2 : (Cond.codeWith y bytes maxL ret hh).before a A.U = true := hws _ hcode _ _ X.warmed
  have h3 : (Cond.initialized y.cls).before a A.U = true := hinit _ _ X.warmed
  have h4 : A.cells + (headSpec ws rm).room.cells ≤ R.cells := by rw [show (headSpec ws rm).room.cells = mc from hrc]; exact hp.1
  have h5 : A.slots + (headSpec ws rm).room.slots ≤ R.slots := by rw [show (headSpec ws rm).room.slots = ms from hrs]; exact hp.2.1
  have hPc : Pc a (A.U.calling g mk a) := hblind _ _ _ _ hp.2.2
  obtain ⟨U, Ls, c0, s0⟩ := A
  dsimp only [Pt.U, Pt.locs, Pt.cells, Pt.slots] at h1 h2 h3 h4 h5 X hn hPc ⊢
  obtain ⟨m9, methY, cY, hn9, hmY, hcY, -, hlY, -⟩ := Cond.codeWith_spec h2
  cases Option.some.inj (hn9.symm.trans hn)
  obtain ⟨kY, hkY, -⟩ := className_of_methodNamed hn
  have hinitY : kY.init = .initialized := Cond.initialized_spec (findClass_of_methodNamed hn) hkY h3
  have h : At U g.method c below := by rw [hg]; exact X.here
  have hlocals9 : W9 + (maxL + 11) + (headSpec ws rm).room.locals ≤ R.locals := hlocals
  have happ : (headSpec ws rm).appliesLoose y e.platform (U.calling g mk a) = true :=
    Spec.appliesLoose_calling (g := g) h hdg hn hkY hinitY
      (X.room_calling (g := g) (R' := (headSpec ws rm).room) hsize hmY hcY hframes (by rw [hlY]; omega) h4 h5) h1
  obtain ⟨mid, hmid⟩ := h.above
  have hfr : (U.setTop g).frames = (.java g :: mid) ++ below := by rw [State.frames_setTop' g h.top, hmid]; rfl
  obtain ⟨o, s₂, hsteps, -, hend, hq⟩ := Steps.callFree hM p X.admits X.cas X.clock (acts := []) hfr happ hPc trivial
  have hq' : vx_Q Qc XC mc ms free a (U.calling g mk a) o s₂ := hq
  rw [State.frames_setTop' g h.top] at hend
  obtain ⟨g₀, hg0⟩ := Option.isSome_iff_exists.mp h.top
  obtain ⟨r, hr⟩ := State.topJava?_eq_some.mp hg0
  have hr' : (({ U with heap := s₂.heap, slotsUsed := s₂.slotsUsed } : State).setVm s₂.vm).frames = .java g₀ :: r := hr
  rcases hq' with ⟨hqc, L, hfe, hL⟩ | ⟨q, rfl, E, ce, L, hx, hce, hcv, hcl, hW₂, hsm, hL⟩
  · obtain ⟨⟨v, rfl⟩, hW₂, e2, q2, q3, q4, q5, q6⟩ := id hfe
    have e3 : s₂ = ({ (U.calling g mk a).setFrames s₂.frames with heap := s₂.heap, slotsUsed := s₂.slotsUsed } : State).setVm s₂.vm := by
      have : s₂ = ({ s₂ with vm := (U.calling g mk a).vm } : State).setVm s₂.vm := rfl
      rw [e2] at this
      exact this
    obtain ⟨c₂, i₂, len₂, hc₂, hd₂, hf₂⟩ := hend
    have hW' : U.WarmedH s₂.vm := hW₂
    have hcc : c₂ = c := by
      have h1 : s₂.code? g.method = U.code? g.method := by
        rw [State.code?_eq, State.code?_eq, hW'.alike.method?]
      exact Option.some.inj (hc₂.symm.trans (h1.trans h.code))
    subst hcc
    have hlen : len₂ = len := by rw [hdg] at hd₂; cases hd₂; rfl
    subst hlen
    have hs₂ : s₂ = (({ U with heap := s₂.heap, slotsUsed := s₂.slotsUsed } : State).setVm s₂.vm).setTop { g with pc := g.pc + len₂, stack := v.toList ++ g.stack } := by
      refine e3.trans ?_
      rw [hf₂, State.calling_eq h.top, State.setFrames_setFrames, State.setTop_of_frames _ hr', hr]
      rfl
    have hsame : U.sameButNew ({ U with heap := s₂.heap, slotsUsed := s₂.slotsUsed } : State) L mc ms := by
      refine ⟨?_, q2, q3, q4, q5, q6⟩
      obtain ⟨t, ht, -⟩ := State.frames_cons hr
      show ({ U with heap := s₂.heap, slotsUsed := s₂.slotsUsed } : State) = { U.setFrames U.frames with heap := s₂.heap, slotsUsed := s₂.slotsUsed }
      rw [State.setFrames_self ht]
    subst hg
    refine Or.inl ⟨v, ⟨(({ U with heap := s₂.heap, slotsUsed := s₂.slotsUsed } : State).setVm s₂.vm), Ls ++ L, c0 + mc, s0 + ms⟩,
      ⟨X.admits, X.cas, X.clock, X.frames, X.room, X.hears, X.method, X.code, (X.here.setHeapUsed s₂.heap s₂.slotsUsed).setVm hW'.alike, X.tail, State.WarmedH.trans X.warmed hW', X.limits, X.bytes, X.same.trans (hsame.setVm s.vm)⟩,
      ⟨g, mk, s₂, L, rfl, rfl, hqc, rfl, hL, rfl, rfl⟩, ?_⟩
    show Steps p.tables e below _ ((({ U with heap := s₂.heap, slotsUsed := s₂.slotsUsed } : State).setVm s₂.vm).setTop { g with pc := g.pc + len₂, stack := v.toList ++ g.stack })
    rw [← hs₂]
    exact hsteps
  · obtain ⟨e2, q2, q3, q4, q5, q6⟩ := id hsm
    have e3 : s₂ = ({ (U.calling g mk a).setFrames s₂.frames with heap := s₂.heap, slotsUsed := s₂.slotsUsed } : State).setVm s₂.vm := by
      have : s₂ = ({ s₂ with vm := (U.calling g mk a).vm } : State).setVm s₂.vm := rfl
      rw [e2] at this
      exact this
    have hf₂ : s₂.frames = .throwing q :: .java g :: U.frames.tail := hend
    have hW' : U.WarmedH s₂.vm := hW₂
    have hs₂ : s₂ = ((({ U with heap := s₂.heap, slotsUsed := s₂.slotsUsed } : State).setVm s₂.vm).setTop g).pushFrame (.throwing q) := by
      refine e3.trans ?_
      rw [hf₂, State.calling_eq h.top, State.setFrames_setFrames, State.pushFrame, State.frames_setTop _ hr', State.setTop_of_frames _ hr', State.setFrames_setFrames, hr]
      rfl
    have hsame : U.sameButNew ({ U with heap := s₂.heap, slotsUsed := s₂.slotsUsed } : State) L mc ms := by
      refine ⟨?_, q2, q3, q4, q5, q6⟩
      obtain ⟨t, ht, -⟩ := State.frames_cons hr
      show ({ U with heap := s₂.heap, slotsUsed := s₂.slotsUsed } : State) = { U.setFrames U.frames with heap := s₂.heap, slotsUsed := s₂.slotsUsed }
      rw [State.setFrames_self ht]
    subst hg
    refine Or.inr ⟨q, ⟨(({ U with heap := s₂.heap, slotsUsed := s₂.slotsUsed } : State).setVm s₂.vm), Ls ++ L, c0 + mc, s0 + ms⟩,
      ⟨X.admits, X.cas, X.clock, X.frames, X.room, X.hears, X.method, X.code, (X.here.setHeapUsed s₂.heap s₂.slotsUsed).setVm hW'.alike, X.tail, State.WarmedH.trans X.warmed hW', X.limits, X.bytes, X.same.trans (hsame.setVm s.vm)⟩,
      ⟨g, mk, s₂, L, E, ce, rfl, rfl, hx, hce, hcv, hcl, rfl, hL, rfl, rfl⟩, ?_⟩
    show Steps p.tables e below _ (((({ U with heap := s₂.heap, slotsUsed := s₂.slotsUsed } : State).setVm s₂.vm).setTop g).pushFrame (.throwing q))
    rw [← hs₂]
    exact hsteps
end
variable {p : Program} {l : Launch} {e : Env} {R : Room} {s : State} {m : MethodId} {args : Array Value} {below : List Frame} {meth : Method} {c : Code} {T : State} {H : Heap} {locs : List Loc} {cells slots : Nat}
theorem vx_callVX (X : Stand p l e R s m args below meth c T locs cells slots) (hexec : p.tables.exec = Jvm.exec) {own C : String} {index : Nat} {y : MethodName} {bytes : ByteArray} {maxL : Nat} {ret : Option FieldType} {hh : List (Nat × Nat × Nat × Nat)}
    (hown : s.vm.findClass own = some m.cls) (hlink : (Cond.methodLink own index y).before args s = true) (hinst : (Cond.instanceMethod y).before args s = true) (hsel : (Cond.selects C y y).before args s = true)
    (hcode : (Cond.codeWith y bytes maxL ret hh).before args s = true) (hy : y.cls ≠ "java/lang/invoke/MethodHandle" ∧ y.cls ≠ "java/lang/invoke/VarHandle")
    {W9 : Nat} {Pre : Pt → Array Value → Prop} {Post : Pt → Array Value → Option Value → Pt → Prop} {PostX : Pt → Array Value → Addr → Pt → Prop} (hK : vx_Back l R p e below s args y 3 W9 Pre Post PostX)
    {b : Addr} {cellB : Cell} (hcell : T.heap[b]? = some cellB) (hobj : cellB.vm.isStatics = false) (hcls : s.vm.findClass C = some cellB.cls)
    {g : JFrame} (hg : g.method = m) (hsize : g.locals.size = c.maxLocals) {argsL rest : List Value} (hlen : ∀ sig, parseMethodDescriptor y.desc = some sig → argsL.length = sig.parameters.length)
    (hstack : g.stack = argsL.reverse ++ .ref b :: rest) (hW : 2 * g.monitorRoom + (rest.map fun v => v.category).sum ≤ W9) (hdg : decode c.code g.pc = .ok (.invokevirtual index, 3))
    (hpre : ∀ vm₁, s.WarmedH vm₁ → Pre ⟨T.setVm vm₁, locs, cells, slots⟩ (Value.ref b :: argsL).toArray) :
    (∃ (v : Option Value) (vm₁ : Vm) (B : Pt), s.WarmedH vm₁ ∧ Stand p l e R s m args below meth c B.U B.locs B.cells B.slots ∧ Post ⟨T.setVm vm₁, locs, cells, slots⟩ (Value.ref b :: argsL).toArray v B ∧
      ∀ target, Steps p.tables e below (B.U.setTop { g with pc := g.pc + 3, stack := v.toList ++ rest }) target → Steps p.tables e below (T.setTop g) target) ∨
    (∃ (q : Addr) (vm₁ : Vm) (B : Pt), s.WarmedH vm₁ ∧ Stand p l e R s m args below meth c B.U B.locs B.cells B.slots ∧ PostX ⟨T.setVm vm₁, locs, cells, slots⟩ (Value.ref b :: argsL).toArray q B ∧
      Steps p.tables e below (T.setTop g) ((B.U.setTop { g with stack := rest }).pushFrame (.throwing q))) := by
  obtain ⟨mk, methM, hnamed, hmethM, hstM, habM⟩ := Cond.instanceMethod_spec hinst
  obtain ⟨m8, methM', cM, hn8, hmethM', -, -, -, -, -, -, hsigM⟩ := Cond.codeWith_spec hcode
  cases Option.some.inj (hn8.symm.trans hnamed)
  cases hmethM.symm.trans hmethM'
  obtain ⟨c2, r2, m2, q1, q2, q3, q4, kP, hkP, hkPi⟩ := Cond.selects_spec hsel
  cases hcls.symm.trans q1
  cases (State.methodFound?_of_named hnamed hy).symm.trans q2
  cases hnamed.symm.trans q3
  have hselP : selectMethod e.platform s.vm cellB.cls mk = .method mk := by rw [Launch.admits_selectMethod X.admits]; exact q4
  obtain ⟨vm₁, X₁, hstep₁⟩ := X.invokevirtual hexec hown hlink hnamed hmethM hstM hkP hkPi hy (a := b) (cell := cellB) hcell
    (fun z h => by rw [h] at hobj; cases hobj) hselP hmethM habM hkP hkPi (g := g) hg (argsL := argsL) (rest := rest) (hlen _ hsigM) hstack hdg
  rcases hK m meth c ⟨T.setVm vm₁, locs, cells, slots⟩ { g with stack := rest } (.invokevirtual index) mk (Value.ref b :: argsL).toArray X₁ hg hsize hdg hW (X₁.named hnamed) (hpre vm₁ X₁.warmed) with ⟨v, B, X', hpost, hsteps⟩ | ⟨q, B, X', hpost, hsteps⟩
  · exact Or.inl ⟨v, vm₁, B, X₁.warmed, X', hpost, fun target h => hstep₁ _ fun acts => by rw [doInvoke_state]; exact hsteps.trans h⟩
  · exact Or.inr ⟨q, vm₁, B, X₁.warmed, X', hpost, hstep₁ _ fun acts => by rw [doInvoke_state]; exact hsteps⟩
theorem vx_callSX (X : Stand p l e R s m args below meth c T locs cells slots) (hexec : p.tables.exec = Jvm.exec) {own : String} {index : Nat} {y : MethodName} {bytes : ByteArray} {maxL : Nat} {ret : Option FieldType} {hh : List (Nat × Nat × Nat × Nat)}
    (hown : s.vm.findClass own = some m.cls) (hlink : (Cond.methodLink own index y).before args s = true) (hstat : (Cond.static y).before args s = true) (hinit : (Cond.initialized y.cls).before args s = true)
    (hcode : (Cond.codeWith y bytes maxL ret hh).before args s = true) (hy : y.cls ≠ "java/lang/invoke/MethodHandle" ∧ y.cls ≠ "java/lang/invoke/VarHandle")
    {W9 : Nat} {Pre : Pt → Array Value → Prop} {Post : Pt → Array Value → Option Value → Pt → Prop} {PostX : Pt → Array Value → Addr → Pt → Prop} (hK : vx_Back l R p e below s args y 3 W9 Pre Post PostX)
    {g : JFrame} (hg : g.method = m) (hsize : g.locals.size = c.maxLocals) {argsL rest : List Value} (hlen : ∀ sig, parseMethodDescriptor y.desc = some sig → argsL.length = sig.parameters.length)
    (hstack : g.stack = argsL.reverse ++ rest) (hW : 2 * g.monitorRoom + (rest.map fun v => v.category).sum ≤ W9) (hdg : decode c.code g.pc = .ok (.invokestatic index, 3))
    (hpre : ∀ vm₁, s.WarmedH vm₁ → Pre ⟨T.setVm vm₁, locs, cells, slots⟩ argsL.toArray) :
    (∃ (v : Option Value) (vm₁ : Vm) (B : Pt), s.WarmedH vm₁ ∧ Stand p l e R s m args below meth c B.U B.locs B.cells B.slots ∧ Post ⟨T.setVm vm₁, locs, cells, slots⟩ argsL.toArray v B ∧
      ∀ target, Steps p.tables e below (B.U.setTop { g with pc := g.pc + 3, stack := v.toList ++ rest }) target → Steps p.tables e below (T.setTop g) target) ∨
    (∃ (q : Addr) (vm₁ : Vm) (B : Pt), s.WarmedH vm₁ ∧ Stand p l e R s m args below meth c B.U B.locs B.cells B.slots ∧ PostX ⟨T.setVm vm₁, locs, cells, slots⟩ argsL.toArray q B ∧
      Steps p.tables e below (T.setTop g) ((B.U.setTop { g with stack := rest }).pushFrame (.throwing q))) := by
  obtain ⟨mk, methM, cM, hnamed, hmethM, -, -, -, -, -, -, hsigM⟩ := Cond.codeWith_spec hcode
  have hstatic : methM.isStatic = true := Cond.static_spec hnamed hmethM hstat
  obtain ⟨kP, hkP, -⟩ := className_of_methodNamed hnamed
  have hinitP : kP.init = .initialized := Cond.initialized_spec (findClass_of_methodNamed hnamed) hkP hinit
  obtain ⟨vm₁, X₁, hstep₁⟩ := X.invokestatic hexec hown hlink hnamed hmethM hstatic hkP hinitP hy (g := g) hg (argsL := argsL) (rest := rest) (hlen _ hsigM) hstack hdg
  rcases hK m meth c ⟨T.setVm vm₁, locs, cells, slots⟩ { g with stack := rest } (.invokestatic index) mk argsL.toArray X₁ hg hsize hdg hW (X₁.named hnamed) (hpre vm₁ X₁.warmed) with ⟨v, B, X', hpost, hsteps⟩ | ⟨q, B, X', hpost, hsteps⟩
  · exact Or.inl ⟨v, vm₁, B, X₁.warmed, X', hpost, fun target h => hstep₁ _ fun acts => by rw [doInvoke_state]; exact hsteps.trans h⟩
  · exact Or.inr ⟨q, vm₁, B, X₁.warmed, X', hpost, hstep₁ _ fun acts => by rw [doInvoke_state]; exact hsteps⟩
theorem vx_callVW (X : Stand p l e R s m args below meth c T locs cells slots) (hexec : p.tables.exec = Jvm.exec) {own C : String} {index : Nat} {y : MethodName} {bytes : ByteArray} {maxL : Nat} {ret : Option FieldType} {hh : List (Nat × Nat × Nat × Nat)}
    (hown : s.vm.findClass own = some m.cls) (hlink : (Cond.methodLink own index y).before args s = true) (hinst : (Cond.instanceMethod y).before args s = true) (hsel : (Cond.selects C y y).before args s = true)
    (hcode : (Cond.codeWith y bytes maxL ret hh).before args s = true) (hy : y.cls ≠ "java/lang/invoke/MethodHandle" ∧ y.cls ≠ "java/lang/invoke/VarHandle")
    {W9 : Nat} {Pre : Pt → Array Value → Prop} {Post : Pt → Array Value → Option Value → Pt → Prop} (hK : Back l R p e below s args y 3 W9 Pre Post)
    {b : Addr} {cellB : Cell} (hcell : T.heap[b]? = some cellB) (hobj : cellB.vm.isStatics = false) (hcls : s.vm.findClass C = some cellB.cls)
    {g : JFrame} (hg : g.method = m) (hsize : g.locals.size = c.maxLocals) {argsL rest : List Value} (hlen : ∀ sig, parseMethodDescriptor y.desc = some sig → argsL.length = sig.parameters.length)
    (hstack : g.stack = argsL.reverse ++ .ref b :: rest) (hW : 2 * g.monitorRoom + (rest.map fun v => v.category).sum ≤ W9) (hdg : decode c.code g.pc = .ok (.invokevirtual index, 3))
    (hpre : ∀ vm₁, s.WarmedH vm₁ → Pre ⟨T.setVm vm₁, locs, cells, slots⟩ (Value.ref b :: argsL).toArray) :
    ∃ (v : Option Value) (vm₁ : Vm) (B : Pt), s.WarmedH vm₁ ∧ Stand p l e R s m args below meth c B.U B.locs B.cells B.slots ∧ Post ⟨T.setVm vm₁, locs, cells, slots⟩ (Value.ref b :: argsL).toArray v B ∧
      ∀ target, Steps p.tables e below (B.U.setTop { g with pc := g.pc + 3, stack := v.toList ++ rest }) target → Steps p.tables e below (T.setTop g) target := by
  obtain ⟨mk, methM, hnamed, hmethM, hstM, habM⟩ := Cond.instanceMethod_spec hinst
  obtain ⟨m8, methM', cM, hn8, hmethM', -, -, -, -, -, -, hsigM⟩ := Cond.codeWith_spec hcode
  cases Option.some.inj (hn8.symm.trans hnamed)
  cases hmethM.symm.trans hmethM'
  obtain ⟨c2, r2, m2, q1, q2, q3, q4, kP, hkP, hkPi⟩ := Cond.selects_spec hsel
  cases hcls.symm.trans q1
  cases (State.methodFound?_of_named hnamed hy).symm.trans q2
  cases hnamed.symm.trans q3
  have hselP : selectMethod e.platform s.vm cellB.cls mk = .method mk := by rw [Launch.admits_selectMethod X.admits]; exact q4
  obtain ⟨vm₁, X₁, hstep₁⟩ := X.invokevirtual hexec hown hlink hnamed hmethM hstM hkP hkPi hy (a := b) (cell := cellB) hcell
    (fun z h => by rw [h] at hobj; cases hobj) hselP hmethM habM hkP hkPi (g := g) hg (argsL := argsL) (rest := rest) (hlen _ hsigM) hstack hdg
  obtain ⟨v, B, X', hpost, hsteps⟩ := hK m meth c ⟨T.setVm vm₁, locs, cells, slots⟩ { g with stack := rest } (.invokevirtual index) mk (Value.ref b :: argsL).toArray X₁ hg hsize hdg hW (X₁.named hnamed) (hpre vm₁ X₁.warmed)
  exact ⟨v, vm₁, B, X₁.warmed, X', hpost, fun target h => hstep₁ _ fun acts => by rw [doInvoke_state]; exact hsteps.trans h⟩
abbrev vx_CVW (R : Room) (s : State) (args : Array Value) (own C : String) (index : Nat) (y : MethodName) (bytes : ByteArray) (maxL : Nat) (ret : Option FieldType) (hh : List (Nat × Nat × Nat × Nat)) (ws : List Cond) (rm : Room) (mc ms n : Nat) : Prop :=
  (rm.cells = mc ∧ rm.slots = ms ∧ rm.frames + 1 ≤ R.frames ∧ 8 + (maxL + 11) + rm.locals ≤ R.locals ∧ (∀ w ∈ ws, ∀ (a' : Array Value) (U : State), s.WarmedH U.vm → w.before a' U = true) ∧ Cond.codeWith y bytes maxL ret hh ∈ ws) ∧
  (Cond.codeWith y bytes maxL ret hh).before args s = true ∧ (Cond.initialized y.cls).before args s = true ∧ (y.cls ≠ "java/lang/invoke/MethodHandle" ∧ y.cls ≠ "java/lang/invoke/VarHandle") ∧
  (∀ sig, parseMethodDescriptor y.desc = some sig → n = sig.parameters.length) ∧ (Cond.methodLink own index y).before args s = true ∧ (Cond.instanceMethod y).before args s = true ∧ (Cond.selects C y y).before args s = true
theorem vx_cwVW {own C : String} {index maxL mc ms : Nat} {y : MethodName} {bytes : ByteArray} {ret : Option FieldType} {hh : List (Nat × Nat × Nat × Nat)} {Ts ws ws' : List Cond} {rm : Room} (n : Nat) (ht : ∀ w ∈ Ts, w.before args s = true) (hT : GoodIn Ts (wsV own index C y ws)) (hw : ws = Cond.codeWith y bytes maxL ret hh :: ws') (hrc : rm.cells = mc) (hrs : rm.slots = ms)
    (hd : y.cls = C ∧ y.cls ≠ "java/lang/invoke/MethodHandle" ∧ y.cls ≠ "java/lang/invoke/VarHandle" ∧ (parseMethodDescriptor y.desc).map (fun d => d.parameters.length) = some n) (hR : rm.frames + 1 ≤ R.frames ∧ 8 + (maxL + 11) + rm.locals ≤ R.locals) :
    vx_CVW R s args own C index y bytes maxL ret hh ws rm mc ms n := by
  obtain ⟨hC, hd⟩ := hd
  subst hC
  have ok : ∀ w ∈ wsV own index y.cls y ws, w.before args s = true := fun w h => ht w (hT w h).1
  have hG : GoodIn Ts ws := fun w h => hT w (by unfold wsV; exact List.mem_append_right _ h)
  have hc : Cond.codeWith y bytes maxL ret hh ∈ ws := by rw [hw]; exact List.mem_cons_self
  refine ⟨⟨hrc, hrs, hR.1, hR.2, pay_in ht hG, hc⟩, ht _ (hG _ hc).1, ok _ (by simp [wsV]), ⟨hd.1, hd.2.1⟩, fun sig h => ?_, ok _ (by simp [wsV]), ok _ (by simp [wsV]), ok _ (by simp [wsV])⟩
  have h2 := hd.2.2
  rw [h] at h2
  exact (Option.some.inj h2).symm
theorem vx_runVW {y : MethodName} {bytes cc : ByteArray} {maxL nL mc ms n index : Nat} {ret : Option FieldType} {hh : List (Nat × Nat × Nat × Nat)} {ws : List Cond} {rm : Room} {Pc : Array Value → State → Prop} {Qc : Array Value → State → Outcome → State → Prop} {free : Addr → Prop} {Ts : List Cond} {own C : String} {b : Addr} {As rest : List Value} {g : JFrame}
    (S : CallFix p m c cc nL s args Ts own) (hM : Met l y ws rm Pc Qc mc ms free) (cw : vx_CVW R s args own C index y bytes maxL ret hh ws rm mc ms n) (hp : PreV s H C b Pc As)
    (hg : g.method = m) (hn : As.length = n) (hsize : g.locals.size = nL) (hstack : g.stack = As.reverse ++ .ref b :: rest) (hW : 2 * g.monitorRoom + (rest.map fun v => v.category).sum ≤ 8) (hdg : decode cc g.pc = .ok (.invokevirtual index, 3)) (hf : cells + mc ≤ R.cells ∧ slots + ms ≤ R.slots) :
    va_Run p l e R s m args below meth c H locs cells slots mc ms g rest (Qc (Value.ref b :: As).toArray) free := by
  obtain ⟨⟨hrc, hrs, hfr, hlo, hws, hcw⟩, hcode, hini, hy, hlen, hl, hin, hse⟩ := cw
  have hK : Back l R p e below s args y 3 8 (PreOf R mc ms Pc) (PostOf Qc mc ms free) := va_backW (hh := hh) (bytes := bytes) (maxL := maxL) (ret := ret) hM hp.1 hrc hrs hfr hlo hws hcw (fun a' U hW => word_at hW (Or.inl (by first | rfl | simp [Cond.onTables, Cond.keeps, Cond.steady])) hini)
  obtain ⟨hx, hb, hml, ho, -⟩ := S
  obtain ⟨-, ⟨cellB, hcB, hoB, hclB⟩, hPc⟩ := hp
  intro T hT X
  obtain ⟨v, vm₁, ⟨U', l2, c2, s2⟩, hW₁, X', ⟨g', mk, t, L, e1, e2, hq, h1, hL, h2, h3⟩, st⟩ := vx_callVW X hx (C := C) (hh := hh) (bytes := bytes) (maxL := maxL) (ret := ret) ho hl hin hse hcode hy hK (by rw [hT]; exact hcB) hoB hclB hg (hsize.trans hml.symm) (argsL := As) (rest := rest) (fun sig h => hn.trans (hlen sig h)) hstack hW (by rw [hb]; exact hdg)
    (fun vm₁ hW₁ => ⟨hf.1, hf.2, hPc (T.setVm vm₁) hT hW₁⟩)
  dsimp only [Pt.U, Pt.locs, Pt.cells, Pt.slots] at X' e1 e2 h1 h2 h3 st
  subst h1; subst h2; subst h3
  exact ⟨v, (T.setVm vm₁).calling g' mk (Value.ref b :: As).toArray, t, U', L, hT, X', hL, e1, e2, hq, st⟩
section
variable {y : MethodName} {bytes cc : ByteArray} {maxL nL mc ms n index : Nat} {ret : Option FieldType} {ws : List Cond} {rm : Room} {Pc : Array Value → State → Prop} {Qc : Array Value → State → Outcome → State → Prop} {XC : String → State → State → Prop} {free : Addr → Prop} {Ts : List Cond} {own C : String} {b : Addr} {As rest : List Value} {g : JFrame}
theorem vx_runVX {hh : List (Nat × Nat × Nat × Nat)} (S : CallFix p m c cc nL s args Ts own) (hM : vx_Met l y ws rm Pc Qc XC mc ms free) (cw : vx_CVW R s args own C index y bytes maxL ret hh ws rm mc ms n) (hp : PreV s H C b Pc As)
    (hg : g.method = m) (hn : As.length = n) (hsize : g.locals.size = nL) (hstack : g.stack = As.reverse ++ .ref b :: rest) (hW : 2 * g.monitorRoom + (rest.map fun v => v.category).sum ≤ 8) (hdg : decode cc g.pc = .ok (.invokevirtual index, 3)) (hf : cells + mc ≤ R.cells ∧ slots + ms ≤ R.slots) :
    vx_Run p l e R s m args below meth c H locs cells slots mc ms g rest (Qc (Value.ref b :: As).toArray) XC free := by
  obtain ⟨⟨hrc, hrs, hfr, hlo, hws, hcw⟩, hcode, hini, hy, hlen, hl, hin, hse⟩ := cw
  have hK : vx_Back l R p e below s args y 3 8 (PreOf R mc ms Pc) (PostOf Qc mc ms free) (vx_Post XC mc ms free) := vx_backW (hh := hh) (bytes := bytes) (maxL := maxL) (ret := ret) hM hp.1 hrc hrs hfr hlo hws hcw (fun a' U hW => word_at hW (Or.inl (by first | rfl | simp [Cond.onTables, Cond.keeps, Cond.steady])) hini)
  obtain ⟨hx, hb, hml, ho, -⟩ := S
  obtain ⟨-, ⟨cellB, hcB, hoB, hclB⟩, hPc⟩ := hp
  intro T hT X
  rcases vx_callVX X hx (C := C) (hh := hh) (bytes := bytes) (maxL := maxL) (ret := ret) ho hl hin hse hcode hy hK (by rw [hT]; exact hcB) hoB hclB hg (hsize.trans hml.symm) (argsL := As) (rest := rest) (fun sig h => hn.trans (hlen sig h)) hstack hW (by rw [hb]; exact hdg)
    (fun vm₁ hW₁ => ⟨hf.1, hf.2, hPc (T.setVm vm₁) hT hW₁⟩) with ⟨v, vm₁, ⟨U', l2, c2, s2⟩, hW₁, X', ⟨g', mk, t, L, e1, e2, hq, h1, hL, h2, h3⟩, st⟩ | ⟨q, vm₁, ⟨U', l2, c2, s2⟩, hW₁, X', ⟨g', mk, t, L, E, ce, e1, e2, hq, hce, hcv, hcl, h1, hL, h2, h3⟩, st⟩
  · dsimp only [Pt.U, Pt.locs, Pt.cells, Pt.slots] at X' e1 e2 h1 h2 h3 st
    subst h1; subst h2; subst h3
    exact Or.inl ⟨v, (T.setVm vm₁).calling g' mk (Value.ref b :: As).toArray, t, U', L, hT, X', hL, e1, e2, hq, st⟩
  · dsimp only [Pt.U, Pt.locs, Pt.cells, Pt.slots] at X' e1 e2 h1 h2 h3 st hcl
    subst h1; subst h2; subst h3
    exact Or.inr ⟨q, (T.setVm vm₁).calling g' mk (Value.ref b :: As).toArray, t, U', L, E, ce, hT, X', hL, e1, e2, hq, hce, hcv, vx_cls hW₁ hcl, st⟩
theorem vx_runSX {hh : List (Nat × Nat × Nat × Nat)} (S : CallFix p m c cc nL s args Ts own) (hM : vx_Met l y ws rm Pc Qc XC mc ms free) (cw : vx_CSW R s args own index y bytes maxL ret hh ws rm mc ms n) (hp : PreS s H Pc As)
    (hg : g.method = m) (hn : As.length = n) (hsize : g.locals.size = nL) (hstack : g.stack = As.reverse ++ rest) (hW : 2 * g.monitorRoom + (rest.map fun v => v.category).sum ≤ 8) (hdg : decode cc g.pc = .ok (.invokestatic index, 3)) (hf : cells + mc ≤ R.cells ∧ slots + ms ≤ R.slots) :
    vx_Run p l e R s m args below meth c H locs cells slots mc ms g rest (Qc As.toArray) XC free := by
  obtain ⟨⟨hrc, hrs, hfr, hlo, hws, hcw⟩, hcode, hini, hy, hlen, hl, hstt⟩ := cw
  have hK : vx_Back l R p e below s args y 3 8 (PreOf R mc ms Pc) (PostOf Qc mc ms free) (vx_Post XC mc ms free) := vx_backW (hh := hh) (bytes := bytes) (maxL := maxL) (ret := ret) hM hp.1 hrc hrs hfr hlo hws hcw (fun a' U hW => word_at hW (Or.inl (by first | rfl | simp [Cond.onTables, Cond.keeps, Cond.steady])) hini)
  obtain ⟨hx, hb, hml, ho, -⟩ := S
  intro T hT X
  rcases vx_callSX X hx (hh := hh) (bytes := bytes) (maxL := maxL) (ret := ret) ho hl hstt hini hcode hy hK hg (hsize.trans hml.symm) (argsL := As) (rest := rest) (fun sig h => hn.trans (hlen sig h)) hstack hW (by rw [hb]; exact hdg)
    (fun vm₁ hW₁ => ⟨hf.1, hf.2, hp.2 (T.setVm vm₁) hT hW₁⟩) with ⟨v, vm₁, ⟨U', l2, c2, s2⟩, hW₁, X', ⟨g', mk, t, L, e1, e2, hq, h1, hL, h2, h3⟩, st⟩ | ⟨q, vm₁, ⟨U', l2, c2, s2⟩, hW₁, X', ⟨g', mk, t, L, E, ce, e1, e2, hq, hce, hcv, hcl, h1, hL, h2, h3⟩, st⟩
  · dsimp only [Pt.U, Pt.locs, Pt.cells, Pt.slots] at X' e1 e2 h1 h2 h3 st
    subst h1; subst h2; subst h3
    exact Or.inl ⟨v, (T.setVm vm₁).calling g' mk As.toArray, t, U', L, hT, X', hL, e1, e2, hq, st⟩
  · dsimp only [Pt.U, Pt.locs, Pt.cells, Pt.slots] at X' e1 e2 h1 h2 h3 st hcl
    subst h1; subst h2; subst h3
    exact Or.inr ⟨q, (T.setVm vm₁).calling g' mk As.toArray, t, U', L, E, ce, hT, X', hL, e1, e2, hq, hce, hcv, vx_cls hW₁ hcl, st⟩
end
end VXH
theorem vx_ofWH {l : Launch} {y : MethodName} {ws ws' : List Cond} {rm : Room} {Pc : Array Value → State → Prop} {Qc : Array Value → State → Outcome → State → Prop} {XC : String → State → State → Prop} {mc ms : Nat} {free : Addr → Prop} {cc : ByteArray} {maxL : Nat} {ret : Option FieldType} {hh : List (Nat × Nat × Nat × Nat)}
    (hy : plainName y.cls = true) (hw : ws = Cond.codeWith y cc maxL ret hh :: ws')
    (body : ∀ p e s m args below meth c s₁, BodyLoose p l y (headSpec ws rm) cc maxL ret e s m args below meth c s₁ → c.maxLocals = maxL → Pc args s →
      W p l e (headSpec ws rm).room s m args below meth c s.heap [] 0 0 (vx_MQ below Qc XC args s mc ms free) (entryFrame m args maxL)) : vx_Met l y ws rm Pc Qc XC mc ms free := by
  refine MetFree.of_bodyS (code := cc) (maxLocals := maxL) (ret := ret) hy ?_ ?_
  · intro args s m h hn
    obtain ⟨m9, meth, c, hn9, h1, h2, h3, h4, -, h5, h6, -⟩ := Cond.codeWith_spec (atoms_spec (ws := ws) h _ (by rw [hw]; exact List.mem_cons_self))
    cases hn.symm.trans hn9
    exact ⟨meth, c, h1, h2, h3, h4, h5, h6⟩
  · intro p e s m args below meth c s₁ B hml hP _
    have hh0 : s₁.heap = s.heap := by rw [B.state]; rfl
    obtain ⟨t, a1, o, b1, b2, b3⟩ := body p e s m args below meth c s₁ B hml hP s₁ hh0 (Stand.of_body B)
    exact ⟨t, o, a1, b1, b2, b3⟩
/-! ===== END ===== -/
end
section
/-! ===== BEGIN printed: names, fields, word lists, decode rows ===== -/
def RX0 : String := "LockgateRouter$Barge"
def TX0 : u_T := fun k => match k with
  | 0 => ("LockgateRouter$Barge", "number", "I", true)
  | 1 => ("LockgateRouter$Barge", "destination", "LLockgateRouter$Basin;", true)
  | 2 => ("LockgateRouter$Barge", "wasIn", "[Z", true)
  | 3 => ("LockgateRouter$Barge", "place", "LLockgateRouter$Basin;", false)
  | 4 => ("LockgateRouter$Barge", "lifeLeft", "I", false)
  | 5 => ("LockgateRouter$Barge", "hopsMade", "I", false)
  | 6 => ("LockgateRouter$Barge", "repeatsMade", "I", false)
  | 7 => ("LockgateRouter$Barge", "condition", "I", false)
  | _ => ("LockgateRouter$Barge", "cameInTick", "I", false)
def tyX0 : Nat → FieldType := fun k => match k with
  | 0 => .int
  | 1 => .object "LockgateRouter$Basin"
  | 2 => .array .boolean
  | 3 => .object "LockgateRouter$Basin"
  | 4 => .int
  | 5 => .int
  | 6 => .int
  | 7 => .int
  | _ => .int
abbrev wsX00 : List Cond := u_ws RX0 TX0 9
theorem nmX0 : ∀ a, a < 9 → ∀ b, b < 9 → a ≠ b → (TX0 a).2.1 ≠ (TX0 b).2.1 := by decide +kernel
theorem tyX0_ok : ∀ k, k < 9 → parseFieldDescriptor (TX0 k).2.2.1 = some (tyX0 k) := by decide +kernel
abbrev cX0_init : ByteArray := prog_2_method_1_code
def yX0_init : MethodName := ⟨RX0, "<init>", "(ILLockgateRouter$Basin;LLockgateRouter$Basin;I)V"⟩
abbrev cX0_comeTo : ByteArray := prog_2_method_2_code
def yX0_comeTo : MethodName := ⟨RX0, "comeTo", "(LLockgateRouter$Basin;I)V"⟩
def RX1 : String := "LockgateRouter$Basin"
def TX1 : u_T := fun k => match k with
  | 0 => ("LockgateRouter$Basin", "number", "I", true)
  | 1 => ("LockgateRouter$Basin", "waiting", "Ljava/util/ArrayList;", true)
  | 2 => ("LockgateRouter$Basin", "level", "I", false)
  | 3 => ("LockgateRouter$Basin", "mark", "I", false)
  | 4 => ("LockgateRouter$Basin", "table", "LLockgateRouter$Table;", false)
  | _ => ("LockgateRouter$Basin", "nextTable", "LLockgateRouter$Table;", false)
def tyX1 : Nat → FieldType := fun k => match k with
  | 0 => .int
  | 1 => .object "java/util/ArrayList"
  | 2 => .int
  | 3 => .int
  | 4 => .object "LockgateRouter$Table"
  | _ => .object "LockgateRouter$Table"
abbrev wsX10 : List Cond := u_ws RX1 TX1 6
theorem nmX1 : ∀ a, a < 6 → ∀ b, b < 6 → a ≠ b → (TX1 a).2.1 ≠ (TX1 b).2.1 := by decide +kernel
theorem tyX1_ok : ∀ k, k < 6 → parseFieldDescriptor (TX1 k).2.2.1 = some (tyX1 k) := by decide +kernel
abbrev cX1_init : ByteArray := prog_3_method_1_code
def yX1_init : MethodName := ⟨RX1, "<init>", "(I)V"⟩
abbrev cX1_isFull : ByteArray := prog_3_method_2_code
def yX1_isFull : MethodName := ⟨RX1, "isFull", "()Z"⟩
abbrev cX1_costOfLowWater : ByteArray := prog_3_method_3_code
def yX1_costOfLowWater : MethodName := ⟨RX1, "costOfLowWater", "()I"⟩
abbrev cX1_fill : ByteArray := prog_3_method_4_code
def yX1_fill : MethodName := ⟨RX1, "fill", "(I)I"⟩
abbrev cX1_loseDryDayWater : ByteArray := prog_3_method_5_code
def yX1_loseDryDayWater : MethodName := ⟨RX1, "loseDryDayWater", "()V"⟩
abbrev cX1_canalTowards : ByteArray := prog_3_method_6_code
def yX1_canalTowards : MethodName := ⟨RX1, "canalTowards", "(LLockgateRouter$Basin;)LLockgateRouter$Canal;"⟩
abbrev cX1_hearNeighbour : ByteArray := prog_3_method_7_code
def yX1_hearNeighbour : MethodName := ⟨RX1, "hearNeighbour", "(LLockgateRouter$Basin;LLockgateRouter$Canal;)V"⟩
abbrev cX1_turnTable : ByteArray := prog_3_method_8_code
def yX1_turnTable : MethodName := ⟨RX1, "turnTable", "()V"⟩
def RX2 : String := "LockgateRouter$Canal"
def TX2 : u_T := fun k => match k with
  | 0 => ("LockgateRouter$Canal", "number", "I", true)
  | 1 => ("LockgateRouter$Canal", "upper", "LLockgateRouter$Basin;", true)
  | 2 => ("LockgateRouter$Canal", "lower", "LLockgateRouter$Basin;", true)
  | 3 => ("LockgateRouter$Canal", "length", "I", true)
  | 4 => ("LockgateRouter$Canal", "lift", "I", true)
  | _ => ("LockgateRouter$Canal", "gateOpen", "Z", false)
def tyX2 : Nat → FieldType := fun k => match k with
  | 0 => .int
  | 1 => .object "LockgateRouter$Basin"
  | 2 => .object "LockgateRouter$Basin"
  | 3 => .int
  | 4 => .int
  | _ => .boolean
abbrev wsX20 : List Cond := u_ws RX2 TX2 6
theorem nmX2 : ∀ a, a < 6 → ∀ b, b < 6 → a ≠ b → (TX2 a).2.1 ≠ (TX2 b).2.1 := by decide +kernel
theorem tyX2_ok : ∀ k, k < 6 → parseFieldDescriptor (TX2 k).2.2.1 = some (tyX2 k) := by decide +kernel
abbrev cX2_init : ByteArray := prog_4_method_1_code
def yX2_init : MethodName := ⟨RX2, "<init>", "(ILLockgateRouter$Basin;LLockgateRouter$Basin;II)V"⟩
abbrev cX2_costNow : ByteArray := prog_4_method_2_code
def yX2_costNow : MethodName := ⟨RX2, "costNow", "()I"⟩
abbrev cX2_isPassable : ByteArray := prog_4_method_3_code
def yX2_isPassable : MethodName := ⟨RX2, "isPassable", "()Z"⟩
abbrev cX2_otherEnd : ByteArray := prog_4_method_4_code
def yX2_otherEnd : MethodName := ⟨RX2, "otherEnd", "(LLockgateRouter$Basin;)LLockgateRouter$Basin;"⟩
abbrev cX2_lockThrough : ByteArray := prog_4_method_5_code
def yX2_lockThrough : MethodName := ⟨RX2, "lockThrough", "()I"⟩
def RX3 : String := "LockgateRouter$Table"
def TX3 : u_T := fun k => match k with
  | 0 => ("LockgateRouter$Table", "distances", "[I", true)
  | _ => ("LockgateRouter$Table", "canals", "[LLockgateRouter$Canal;", true)
def tyX3 : Nat → FieldType := fun k => match k with
  | 0 => .array .int
  | _ => .array (.object "LockgateRouter$Canal")
abbrev wsX30 : List Cond := u_ws RX3 TX3 2
theorem nmX3 : ∀ a, a < 2 → ∀ b, b < 2 → a ≠ b → (TX3 a).2.1 ≠ (TX3 b).2.1 := by decide +kernel
theorem tyX3_ok : ∀ k, k < 2 → parseFieldDescriptor (TX3 k).2.2.1 = some (tyX3 k) := by decide +kernel
abbrev cX3_init : ByteArray := prog_5_method_1_code
def yX3_init : MethodName := ⟨RX3, "<init>", "()V"⟩
abbrev cX3_clearFor : ByteArray := prog_5_method_2_code
def yX3_clearFor : MethodName := ⟨RX3, "clearFor", "(I)V"⟩
abbrev cX3_offer : ByteArray := prog_5_method_3_code
def yX3_offer : MethodName := ⟨RX3, "offer", "(IILLockgateRouter$Canal;)V"⟩
abbrev cX3_countDifferences : ByteArray := prog_5_method_4_code
def yX3_countDifferences : MethodName := ⟨RX3, "countDifferences", "(LLockgateRouter$Table;)I"⟩
def RX4 : String := "LockgateRouter"
def TX4 : u_T := fun k => match k with
  | 0 => ("LockgateRouter", "basins", "[LLockgateRouter$Basin;", true)
  | 1 => ("LockgateRouter", "dug", "Ljava/util/ArrayList;", true)
  | 2 => ("LockgateRouter", "fleet", "Ljava/util/ArrayList;", true)
  | 3 => ("LockgateRouter", "cheapestSoFar", "[I", true)
  | 4 => ("LockgateRouter", "lostWater", "I", false)
  | _ => ("LockgateRouter", "tickCount", "I", false)
def tyX4 : Nat → FieldType := fun k => match k with
  | 0 => .array (.object "LockgateRouter$Basin")
  | 1 => .object "java/util/ArrayList"
  | 2 => .object "java/util/ArrayList"
  | 3 => .array .int
  | 4 => .int
  | _ => .int
abbrev wsX40 : List Cond := u_ws RX4 TX4 6
theorem nmX4 : ∀ a, a < 6 → ∀ b, b < 6 → a ≠ b → (TX4 a).2.1 ≠ (TX4 b).2.1 := by decide +kernel
theorem tyX4_ok : ∀ k, k < 6 → parseFieldDescriptor (TX4 k).2.2.1 = some (tyX4 k) := by decide +kernel
abbrev cX4_init : ByteArray := prog_1_method_1_code
def yX4_init : MethodName := ⟨RX4, "<init>", "()V"⟩
abbrev cX4_dig : ByteArray := prog_1_method_2_code
def yX4_dig : MethodName := ⟨RX4, "dig", "(IIII)I"⟩
abbrev cX4_setGate : ByteArray := prog_1_method_3_code
def yX4_setGate : MethodName := ⟨RX4, "setGate", "(IZ)Z"⟩
abbrev cX4_setMark : ByteArray := prog_1_method_4_code
def yX4_setMark : MethodName := ⟨RX4, "setMark", "(II)I"⟩
abbrev cX4_rain : ByteArray := prog_1_method_5_code
def yX4_rain : MethodName := ⟨RX4, "rain", "(II)I"⟩
abbrev cX4_dry : ByteArray := prog_1_method_6_code
def yX4_dry : MethodName := ⟨RX4, "dry", "(I)I"⟩
abbrev cX4_settle : ByteArray := prog_1_method_7_code
def yX4_settle : MethodName := ⟨RX4, "settle", "(I)I"⟩
abbrev cX4_setOut : ByteArray := prog_1_method_8_code
def yX4_setOut : MethodName := ⟨RX4, "setOut", "(III)I"⟩
abbrev cX4_move : ByteArray := prog_1_method_9_code
def yX4_move : MethodName := ⟨RX4, "move", "(I)I"⟩
abbrev cX4_canals : ByteArray := prog_1_method_10_code
def yX4_canals : MethodName := ⟨RX4, "canals", "()I"⟩
abbrev cX4_water : ByteArray := prog_1_method_11_code
def yX4_water : MethodName := ⟨RX4, "water", "(I)I"⟩
abbrev cX4_allWater : ByteArray := prog_1_method_12_code
def yX4_allWater : MethodName := ⟨RX4, "allWater", "()I"⟩
abbrev cX4_spilt : ByteArray := prog_1_method_13_code
def yX4_spilt : MethodName := ⟨RX4, "spilt", "()I"⟩
abbrev cX4_cost : ByteArray := prog_1_method_14_code
def yX4_cost : MethodName := ⟨RX4, "cost", "(I)I"⟩
abbrev cX4_canPass : ByteArray := prog_1_method_15_code
def yX4_canPass : MethodName := ⟨RX4, "canPass", "(I)Z"⟩
abbrev cX4_distance : ByteArray := prog_1_method_16_code
def yX4_distance : MethodName := ⟨RX4, "distance", "(II)I"⟩
abbrev cX4_canalTo : ByteArray := prog_1_method_17_code
def yX4_canalTo : MethodName := ⟨RX4, "canalTo", "(II)I"⟩
abbrev cX4_areStill : ByteArray := prog_1_method_18_code
def yX4_areStill : MethodName := ⟨RX4, "areStill", "()Z"⟩
abbrev cX4_cheapest : ByteArray := prog_1_method_19_code
def yX4_cheapest : MethodName := ⟨RX4, "cheapest", "(II)I"⟩
abbrev cX4_isLoop : ByteArray := prog_1_method_20_code
def yX4_isLoop : MethodName := ⟨RX4, "isLoop", "(II)Z"⟩
abbrev cX4_loops : ByteArray := prog_1_method_21_code
def yX4_loops : MethodName := ⟨RX4, "loops", "()I"⟩
abbrev cX4_barges : ByteArray := prog_1_method_22_code
def yX4_barges : MethodName := ⟨RX4, "barges", "()I"⟩
abbrev cX4_ticks : ByteArray := prog_1_method_23_code
def yX4_ticks : MethodName := ⟨RX4, "ticks", "()I"⟩
abbrev cX4_state : ByteArray := prog_1_method_24_code
def yX4_state : MethodName := ⟨RX4, "state", "(I)I"⟩
abbrev cX4_basinOf : ByteArray := prog_1_method_25_code
def yX4_basinOf : MethodName := ⟨RX4, "basinOf", "(I)I"⟩
abbrev cX4_hops : ByteArray := prog_1_method_26_code
def yX4_hops : MethodName := ⟨RX4, "hops", "(I)I"⟩
abbrev cX4_life : ByteArray := prog_1_method_27_code
def yX4_life : MethodName := ⟨RX4, "life", "(I)I"⟩
abbrev cX4_repeats : ByteArray := prog_1_method_28_code
def yX4_repeats : MethodName := ⟨RX4, "repeats", "(I)I"⟩
abbrev cX4_queue : ByteArray := prog_1_method_29_code
def yX4_queue : MethodName := ⟨RX4, "queue", "(I)I"⟩
abbrev cX4_queued : ByteArray := prog_1_method_30_code
def yX4_queued : MethodName := ⟨RX4, "queued", "(II)I"⟩
abbrev cX4_laidBy : ByteArray := prog_1_method_31_code
def yX4_laidBy : MethodName := ⟨RX4, "laidBy", "()I"⟩
abbrev cX4_basinNumbered : ByteArray := prog_1_method_32_code
def yX4_basinNumbered : MethodName := ⟨RX4, "basinNumbered", "(I)LLockgateRouter$Basin;"⟩
abbrev cX4_canalNumbered : ByteArray := prog_1_method_33_code
def yX4_canalNumbered : MethodName := ⟨RX4, "canalNumbered", "(I)LLockgateRouter$Canal;"⟩
abbrev cX4_bargeNumbered : ByteArray := prog_1_method_34_code
def yX4_bargeNumbered : MethodName := ⟨RX4, "bargeNumbered", "(I)LLockgateRouter$Barge;"⟩
abbrev cX4_requireRange : ByteArray := prog_1_method_35_code
def yX4_requireRange : MethodName := ⟨RX4, "requireRange", "(III)V"⟩
abbrev cX4_countLowBasins : ByteArray := prog_1_method_36_code
def yX4_countLowBasins : MethodName := ⟨RX4, "countLowBasins", "()I"⟩
abbrev cX4_prepareNextTables : ByteArray := prog_1_method_37_code
def yX4_prepareNextTables : MethodName := ⟨RX4, "prepareNextTables", "()V"⟩
abbrev cX4_countNextChanges : ByteArray := prog_1_method_38_code
def yX4_countNextChanges : MethodName := ⟨RX4, "countNextChanges", "()I"⟩
abbrev cX4_findCheapestWays : ByteArray := prog_1_method_39_code
def yX4_findCheapestWays : MethodName := ⟨RX4, "findCheapestWays", "(LLockgateRouter$Basin;)V"⟩
abbrev cX4_extendWay : ByteArray := prog_1_method_40_code
def yX4_extendWay : MethodName := ⟨RX4, "extendWay", "(LLockgateRouter$Basin;LLockgateRouter$Basin;I)V"⟩
abbrev cX4_goesRound : ByteArray := prog_1_method_41_code
def yX4_goesRound : MethodName := ⟨RX4, "goesRound", "(LLockgateRouter$Basin;LLockgateRouter$Basin;)Z"⟩
abbrev cX4_tickBarges : ByteArray := prog_1_method_42_code
def yX4_tickBarges : MethodName := ⟨RX4, "tickBarges", "()I"⟩
abbrev cX4_sendFirst : ByteArray := prog_1_method_43_code
def yX4_sendFirst : MethodName := ⟨RX4, "sendFirst", "(LLockgateRouter$Basin;)Z"⟩
abbrev cX4_takesIn : ByteArray := prog_1_method_44_code
def yX4_takesIn : MethodName := ⟨RX4, "takesIn", "(LLockgateRouter$Basin;LLockgateRouter$Barge;)Z"⟩
def RX5 : String := "LockgateRouterModel"
def TX5 : u_T := fun k => match k with
  | 0 => ("LockgateRouterModel", "water", "[I", true)
  | 1 => ("LockgateRouterModel", "mark", "[I", true)
  | 2 => ("LockgateRouterModel", "many", "[I", true)
  | 3 => ("LockgateRouterModel", "queue", "[I", true)
  | 4 => ("LockgateRouterModel", "canals", "I", false)
  | 5 => ("LockgateRouterModel", "upper", "[I", true)
  | 6 => ("LockgateRouterModel", "lower", "[I", true)
  | 7 => ("LockgateRouterModel", "length", "[I", true)
  | 8 => ("LockgateRouterModel", "lift", "[I", true)
  | 9 => ("LockgateRouterModel", "isOpen", "[Z", true)
  | 10 => ("LockgateRouterModel", "spilt", "I", false)
  | 11 => ("LockgateRouterModel", "far", "[I", true)
  | 12 => ("LockgateRouterModel", "by", "[I", true)
  | 13 => ("LockgateRouterModel", "nextFar", "[I", true)
  | 14 => ("LockgateRouterModel", "nextBy", "[I", true)
  | 15 => ("LockgateRouterModel", "barges", "I", false)
  | 16 => ("LockgateRouterModel", "ticks", "I", false)
  | 17 => ("LockgateRouterModel", "goal", "[I", true)
  | 18 => ("LockgateRouterModel", "life", "[I", true)
  | 19 => ("LockgateRouterModel", "hops", "[I", true)
  | 20 => ("LockgateRouterModel", "repeats", "[I", true)
  | 21 => ("LockgateRouterModel", "state", "[I", true)
  | 22 => ("LockgateRouterModel", "at", "[I", true)
  | 23 => ("LockgateRouterModel", "been", "[I", true)
  | 24 => ("LockgateRouterModel", "came", "[I", true)
  | _ => ("LockgateRouterModel", "thrown", "I", false)
def tyX5 : Nat → FieldType := fun k => match k with
  | 0 => .array .int
  | 1 => .array .int
  | 2 => .array .int
  | 3 => .array .int
  | 4 => .int
  | 5 => .array .int
  | 6 => .array .int
  | 7 => .array .int
  | 8 => .array .int
  | 9 => .array .boolean
  | 10 => .int
  | 11 => .array .int
  | 12 => .array .int
  | 13 => .array .int
  | 14 => .array .int
  | 15 => .int
  | 16 => .int
  | 17 => .array .int
  | 18 => .array .int
  | 19 => .array .int
  | 20 => .array .int
  | 21 => .array .int
  | 22 => .array .int
  | 23 => .array .int
  | 24 => .array .int
  | _ => .int
abbrev wsX50 : List Cond := u_ws RX5 TX5 26
theorem nmX5 : ∀ a, a < 26 → ∀ b, b < 26 → a ≠ b → (TX5 a).2.1 ≠ (TX5 b).2.1 := by decide +kernel
theorem tyX5_ok : ∀ k, k < 26 → parseFieldDescriptor (TX5 k).2.2.1 = some (tyX5 k) := by decide +kernel
abbrev cX5_init : ByteArray := prog_7_method_1_code
def yX5_init : MethodName := ⟨RX5, "<init>", "()V"⟩
abbrev cX5_thrown : ByteArray := prog_7_method_2_code
def yX5_thrown : MethodName := ⟨RX5, "thrown", "()I"⟩
abbrev cX5_can : ByteArray := prog_7_method_3_code
def yX5_can : MethodName := ⟨RX5, "can", "(I)Z"⟩
abbrev cX5_isIn : ByteArray := prog_7_method_4_code
def yX5_isIn : MethodName := ⟨RX5, "isIn", "(III)Z"⟩
abbrev cX5_isBasin : ByteArray := prog_7_method_5_code
def yX5_isBasin : MethodName := ⟨RX5, "isBasin", "(I)Z"⟩
abbrev cX5_isCanal : ByteArray := prog_7_method_6_code
def yX5_isCanal : MethodName := ⟨RX5, "isCanal", "(I)Z"⟩
abbrev cX5_isBarge : ByteArray := prog_7_method_7_code
def yX5_isBarge : MethodName := ⟨RX5, "isBarge", "(I)Z"⟩
abbrev cX5_dig : ByteArray := prog_7_method_8_code
def yX5_dig : MethodName := ⟨RX5, "dig", "(IIII)I"⟩
abbrev cX5_setGate : ByteArray := prog_7_method_9_code
def yX5_setGate : MethodName := ⟨RX5, "setGate", "(IZ)Z"⟩
abbrev cX5_setMark : ByteArray := prog_7_method_10_code
def yX5_setMark : MethodName := ⟨RX5, "setMark", "(II)I"⟩
abbrev cX5_pours : ByteArray := prog_7_method_11_code
def yX5_pours : MethodName := ⟨RX5, "pours", "(II)V"⟩
abbrev cX5_rain : ByteArray := prog_7_method_12_code
def yX5_rain : MethodName := ⟨RX5, "rain", "(II)I"⟩
abbrev cX5_dry : ByteArray := prog_7_method_13_code
def yX5_dry : MethodName := ⟨RX5, "dry", "(I)I"⟩
abbrev cX5_dearer : ByteArray := prog_7_method_14_code
def yX5_dearer : MethodName := ⟨RX5, "dearer", "(I)I"⟩
abbrev cX5_costOf : ByteArray := prog_7_method_15_code
def yX5_costOf : MethodName := ⟨RX5, "costOf", "(I)I"⟩
abbrev cX5_goes : ByteArray := prog_7_method_16_code
def yX5_goes : MethodName := ⟨RX5, "goes", "(I)Z"⟩
abbrev cX5_isAt : ByteArray := prog_7_method_17_code
def yX5_isAt : MethodName := ⟨RX5, "isAt", "(II)Z"⟩
abbrev cX5_beyond : ByteArray := prog_7_method_18_code
def yX5_beyond : MethodName := ⟨RX5, "beyond", "(II)I"⟩
abbrev cX5_looksOn : ByteArray := prog_7_method_19_code
def yX5_looksOn : MethodName := ⟨RX5, "looksOn", "()I"⟩
abbrev cX5_settle : ByteArray := prog_7_method_20_code
def yX5_settle : MethodName := ⟨RX5, "settle", "(I)I"⟩
abbrev cX5_joins : ByteArray := prog_7_method_21_code
def yX5_joins : MethodName := ⟨RX5, "joins", "(II)V"⟩
abbrev cX5_setOut : ByteArray := prog_7_method_22_code
def yX5_setOut : MethodName := ⟨RX5, "setOut", "(III)I"⟩
abbrev cX5_wayFrom : ByteArray := prog_7_method_23_code
def yX5_wayFrom : MethodName := ⟨RX5, "wayFrom", "(I)I"⟩
abbrev cX5_passes : ByteArray := prog_7_method_24_code
def yX5_passes : MethodName := ⟨RX5, "passes", "(II)V"⟩
abbrev cX5_move : ByteArray := prog_7_method_25_code
def yX5_move : MethodName := ⟨RX5, "move", "(I)I"⟩
abbrev cX5_canals : ByteArray := prog_7_method_26_code
def yX5_canals : MethodName := ⟨RX5, "canals", "()I"⟩
abbrev cX5_water : ByteArray := prog_7_method_27_code
def yX5_water : MethodName := ⟨RX5, "water", "(I)I"⟩
abbrev cX5_allWater : ByteArray := prog_7_method_28_code
def yX5_allWater : MethodName := ⟨RX5, "allWater", "()I"⟩
abbrev cX5_spilt : ByteArray := prog_7_method_29_code
def yX5_spilt : MethodName := ⟨RX5, "spilt", "()I"⟩
abbrev cX5_cost : ByteArray := prog_7_method_30_code
def yX5_cost : MethodName := ⟨RX5, "cost", "(I)I"⟩
abbrev cX5_canPass : ByteArray := prog_7_method_31_code
def yX5_canPass : MethodName := ⟨RX5, "canPass", "(I)Z"⟩
abbrev cX5_areAsked : ByteArray := prog_7_method_32_code
def yX5_areAsked : MethodName := ⟨RX5, "areAsked", "(II)Z"⟩
abbrev cX5_distance : ByteArray := prog_7_method_33_code
def yX5_distance : MethodName := ⟨RX5, "distance", "(II)I"⟩
abbrev cX5_canalTo : ByteArray := prog_7_method_34_code
def yX5_canalTo : MethodName := ⟨RX5, "canalTo", "(II)I"⟩
abbrev cX5_areStill : ByteArray := prog_7_method_35_code
def yX5_areStill : MethodName := ⟨RX5, "areStill", "()Z"⟩
abbrev cX5_cheapest : ByteArray := prog_7_method_36_code
def yX5_cheapest : MethodName := ⟨RX5, "cheapest", "(II)I"⟩
abbrev cX5_circles : ByteArray := prog_7_method_37_code
def yX5_circles : MethodName := ⟨RX5, "circles", "(II)Z"⟩
abbrev cX5_isLoop : ByteArray := prog_7_method_38_code
def yX5_isLoop : MethodName := ⟨RX5, "isLoop", "(II)Z"⟩
abbrev cX5_loops : ByteArray := prog_7_method_39_code
def yX5_loops : MethodName := ⟨RX5, "loops", "()I"⟩
abbrev cX5_barges : ByteArray := prog_7_method_40_code
def yX5_barges : MethodName := ⟨RX5, "barges", "()I"⟩
abbrev cX5_ticks : ByteArray := prog_7_method_41_code
def yX5_ticks : MethodName := ⟨RX5, "ticks", "()I"⟩
abbrev cX5_isAsked : ByteArray := prog_7_method_42_code
def yX5_isAsked : MethodName := ⟨RX5, "isAsked", "(I)Z"⟩
abbrev cX5_state : ByteArray := prog_7_method_43_code
def yX5_state : MethodName := ⟨RX5, "state", "(I)I"⟩
abbrev cX5_basinOf : ByteArray := prog_7_method_44_code
def yX5_basinOf : MethodName := ⟨RX5, "basinOf", "(I)I"⟩
abbrev cX5_hops : ByteArray := prog_7_method_45_code
def yX5_hops : MethodName := ⟨RX5, "hops", "(I)I"⟩
abbrev cX5_life : ByteArray := prog_7_method_46_code
def yX5_life : MethodName := ⟨RX5, "life", "(I)I"⟩
abbrev cX5_repeats : ByteArray := prog_7_method_47_code
def yX5_repeats : MethodName := ⟨RX5, "repeats", "(I)I"⟩
abbrev cX5_queue : ByteArray := prog_7_method_48_code
def yX5_queue : MethodName := ⟨RX5, "queue", "(I)I"⟩
abbrev cX5_queued : ByteArray := prog_7_method_49_code
def yX5_queued : MethodName := ⟨RX5, "queued", "(II)I"⟩
abbrev cX5_laidBy : ByteArray := prog_7_method_50_code
def yX5_laidBy : MethodName := ⟨RX5, "laidBy", "()I"⟩
def RJx145de : String := "java/io/Serializable"
def TJx145de : u_T := fun k => match k with
  | _ => ("", "", "", false)
def tyJx145de : Nat → FieldType := fun k => match k with
  | _ => .int
abbrev wsJx145de0 : List Cond := u_ws RJx145de TJx145de 0
theorem nmJx145de : ∀ a, a < 0 → ∀ b, b < 0 → a ≠ b → (TJx145de a).2.1 ≠ (TJx145de b).2.1 := by decide +kernel
theorem tyJx145de_ok : ∀ k, k < 0 → parseFieldDescriptor (TJx145de k).2.2.1 = some (tyJx145de k) := by decide +kernel
def RJx8e188 : String := "java/lang/Cloneable"
def TJx8e188 : u_T := fun k => match k with
  | _ => ("", "", "", false)
def tyJx8e188 : Nat → FieldType := fun k => match k with
  | _ => .int
abbrev wsJx8e1880 : List Cond := u_ws RJx8e188 TJx8e188 0
theorem nmJx8e188 : ∀ a, a < 0 → ∀ b, b < 0 → a ≠ b → (TJx8e188 a).2.1 ≠ (TJx8e188 b).2.1 := by decide +kernel
theorem tyJx8e188_ok : ∀ k, k < 0 → parseFieldDescriptor (TJx8e188 k).2.2.1 = some (tyJx8e188 k) := by decide +kernel
def RJxab1ab : String := "java/lang/Iterable"
def TJxab1ab : u_T := fun k => match k with
  | _ => ("", "", "", false)
def tyJxab1ab : Nat → FieldType := fun k => match k with
  | _ => .int
abbrev wsJxab1ab0 : List Cond := u_ws RJxab1ab TJxab1ab 0
theorem nmJxab1ab : ∀ a, a < 0 → ∀ b, b < 0 → a ≠ b → (TJxab1ab a).2.1 ≠ (TJxab1ab b).2.1 := by decide +kernel
theorem tyJxab1ab_ok : ∀ k, k < 0 → parseFieldDescriptor (TJxab1ab k).2.2.1 = some (tyJxab1ab k) := by decide +kernel
def RJ9 : String := "java/lang/Math"
def TJ9 : u_T := fun k => match k with
  | _ => ("", "", "", false)
def tyJ9 : Nat → FieldType := fun k => match k with
  | _ => .int
abbrev wsJ90 : List Cond := u_ws RJ9 TJ9 0
theorem nmJ9 : ∀ a, a < 0 → ∀ b, b < 0 → a ≠ b → (TJ9 a).2.1 ≠ (TJ9 b).2.1 := by decide +kernel
theorem tyJ9_ok : ∀ k, k < 0 → parseFieldDescriptor (TJ9 k).2.2.1 = some (tyJ9 k) := by decide +kernel
abbrev cJ9_max_7cf53 : ByteArray := prog_15_method_65_code
def yJ9_max_7cf53 : MethodName := ⟨RJ9, "max", "(II)I"⟩
abbrev cJ9_min_7cf53 : ByteArray := prog_15_method_69_code
def yJ9_min_7cf53 : MethodName := ⟨RJ9, "min", "(II)I"⟩
def RJ0 : String := "java/lang/String"
def TJ0 : u_T := fun k => match k with
  | _ => ("", "", "", false)
def tyJ0 : Nat → FieldType := fun k => match k with
  | _ => .int
abbrev wsJ00 : List Cond := u_ws RJ0 TJ0 0
theorem nmJ0 : ∀ a, a < 0 → ∀ b, b < 0 → a ≠ b → (TJ0 a).2.1 ≠ (TJ0 b).2.1 := by decide +kernel
theorem tyJ0_ok : ∀ k, k < 0 → parseFieldDescriptor (TJ0 k).2.2.1 = some (tyJ0 k) := by decide +kernel
def RJ10 : String := "java/lang/System"
def TJ10 : u_T := fun k => match k with
  | _ => ("", "", "", false)
def tyJ10 : Nat → FieldType := fun k => match k with
  | _ => .int
abbrev wsJ100 : List Cond := u_ws RJ10 TJ10 0
theorem nmJ10 : ∀ a, a < 0 → ∀ b, b < 0 → a ≠ b → (TJ10 a).2.1 ≠ (TJ10 b).2.1 := by decide +kernel
theorem tyJ10_ok : ∀ k, k < 0 → parseFieldDescriptor (TJ10 k).2.2.1 = some (tyJ10 k) := by decide +kernel
def RJxa1e45 : String := "java/util/AbstractCollection"
def TJxa1e45 : u_T := fun k => match k with
  | _ => ("", "", "", false)
def tyJxa1e45 : Nat → FieldType := fun k => match k with
  | _ => .int
abbrev wsJxa1e450 : List Cond := u_ws RJxa1e45 TJxa1e45 0
theorem nmJxa1e45 : ∀ a, a < 0 → ∀ b, b < 0 → a ≠ b → (TJxa1e45 a).2.1 ≠ (TJxa1e45 b).2.1 := by decide +kernel
theorem tyJxa1e45_ok : ∀ k, k < 0 → parseFieldDescriptor (TJxa1e45 k).2.2.1 = some (tyJxa1e45 k) := by decide +kernel
abbrev cJxa1e45_init_da8c8 : ByteArray := prog_20_method_1_code
def yJxa1e45_init_da8c8 : MethodName := ⟨RJxa1e45, "<init>", "()V"⟩
def RJxc12de : String := "java/util/AbstractList"
def TJxc12de : u_T := fun k => match k with
  | _ => ("", "", "", false)
def tyJxc12de : Nat → FieldType := fun k => match k with
  | _ => .int
abbrev wsJxc12de0 : List Cond := u_ws RJxc12de TJxc12de 0
theorem nmJxc12de : ∀ a, a < 0 → ∀ b, b < 0 → a ≠ b → (TJxc12de a).2.1 ≠ (TJxc12de b).2.1 := by decide +kernel
theorem tyJxc12de_ok : ∀ k, k < 0 → parseFieldDescriptor (TJxc12de k).2.2.1 = some (tyJxc12de k) := by decide +kernel
abbrev cJxc12de_init_da8c8 : ByteArray := prog_21_method_1_code
def yJxc12de_init_da8c8 : MethodName := ⟨RJxc12de, "<init>", "()V"⟩
def RJx4a65c : String := "java/util/ArrayList"
def TJx4a65c : u_T := fun k => match k with
  | 0 => ("java/util/AbstractList", "modCount", "I", false)
  | 1 => ("java/util/ArrayList", "elementData", "[Ljava/lang/Object;", false)
  | _ => ("java/util/ArrayList", "size", "I", false)
def tyJx4a65c : Nat → FieldType := fun k => match k with
  | 0 => .int
  | 1 => .array (.object "java/lang/Object")
  | _ => .int
abbrev wsJx4a65c0 : List Cond := u_ws RJx4a65c TJx4a65c 3
theorem nmJx4a65c : ∀ a, a < 3 → ∀ b, b < 3 → a ≠ b → (TJx4a65c a).2.1 ≠ (TJx4a65c b).2.1 := by decide +kernel
theorem tyJx4a65c_ok : ∀ k, k < 3 → parseFieldDescriptor (TJx4a65c k).2.2.1 = some (tyJx4a65c k) := by decide +kernel
abbrev cJx4a65c_init_da8c8 : ByteArray := prog_22_method_2_code
def yJx4a65c_init_da8c8 : MethodName := ⟨RJx4a65c, "<init>", "()V"⟩
abbrev cJx4a65c_grow_92f84 : ByteArray := prog_22_method_6_code
def yJx4a65c_grow_92f84 : MethodName := ⟨RJx4a65c, "grow", "(I)[Ljava/lang/Object;"⟩
abbrev cJx4a65c_grow_d5877 : ByteArray := prog_22_method_7_code
def yJx4a65c_grow_d5877 : MethodName := ⟨RJx4a65c, "grow", "()[Ljava/lang/Object;"⟩
abbrev cJx4a65c_size_8abf5 : ByteArray := prog_22_method_8_code
def yJx4a65c_size_8abf5 : MethodName := ⟨RJx4a65c, "size", "()I"⟩
abbrev cJx4a65c_isEmpty_aae02 : ByteArray := prog_22_method_9_code
def yJx4a65c_isEmpty_aae02 : MethodName := ⟨RJx4a65c, "isEmpty", "()Z"⟩
abbrev cJx4a65c_elementData_915e3 : ByteArray := prog_22_method_18_code
def yJx4a65c_elementData_915e3 : MethodName := ⟨RJx4a65c, "elementData", "(I)Ljava/lang/Object;"⟩
abbrev cJx4a65c_get_915e3 : ByteArray := prog_22_method_20_code
def yJx4a65c_get_915e3 : MethodName := ⟨RJx4a65c, "get", "(I)Ljava/lang/Object;"⟩
abbrev cJx4a65c_add_72be8 : ByteArray := prog_22_method_24_code
def yJx4a65c_add_72be8 : MethodName := ⟨RJx4a65c, "add", "(Ljava/lang/Object;[Ljava/lang/Object;I)V"⟩
abbrev cJx4a65c_add_9ea2d : ByteArray := prog_22_method_25_code
def yJx4a65c_add_9ea2d : MethodName := ⟨RJx4a65c, "add", "(Ljava/lang/Object;)Z"⟩
abbrev cJx4a65c_remove_915e3 : ByteArray := prog_22_method_29_code
def yJx4a65c_remove_915e3 : MethodName := ⟨RJx4a65c, "remove", "(I)Ljava/lang/Object;"⟩
abbrev cJx4a65c_fastRemove_b59b0 : ByteArray := prog_22_method_39_code
def yJx4a65c_fastRemove_b59b0 : MethodName := ⟨RJx4a65c, "fastRemove", "([Ljava/lang/Object;I)V"⟩
def RJ7 : String := "java/util/Arrays"
def TJ7 : u_T := fun k => match k with
  | _ => ("", "", "", false)
def tyJ7 : Nat → FieldType := fun k => match k with
  | _ => .int
abbrev wsJ70 : List Cond := u_ws RJ7 TJ7 0
theorem nmJ7 : ∀ a, a < 0 → ∀ b, b < 0 → a ≠ b → (TJ7 a).2.1 ≠ (TJ7 b).2.1 := by decide +kernel
theorem tyJ7_ok : ∀ k, k < 0 → parseFieldDescriptor (TJ7 k).2.2.1 = some (tyJ7 k) := by decide +kernel
abbrev cJ7_copyOf_1904c : ByteArray := prog_23_method_119_code
def yJ7_copyOf_1904c : MethodName := ⟨RJ7, "copyOf", "([Ljava/lang/Object;I)[Ljava/lang/Object;"⟩
abbrev cJ7_copyOf_6403c : ByteArray := prog_23_method_120_code
def yJ7_copyOf_6403c : MethodName := ⟨RJ7, "copyOf", "([Ljava/lang/Object;ILjava/lang/Class;)[Ljava/lang/Object;"⟩
def RJx5ef63 : String := "java/util/Collection"
def TJx5ef63 : u_T := fun k => match k with
  | _ => ("", "", "", false)
def tyJx5ef63 : Nat → FieldType := fun k => match k with
  | _ => .int
abbrev wsJx5ef630 : List Cond := u_ws RJx5ef63 TJx5ef63 0
theorem nmJx5ef63 : ∀ a, a < 0 → ∀ b, b < 0 → a ≠ b → (TJx5ef63 a).2.1 ≠ (TJx5ef63 b).2.1 := by decide +kernel
theorem tyJx5ef63_ok : ∀ k, k < 0 → parseFieldDescriptor (TJx5ef63 k).2.2.1 = some (tyJx5ef63 k) := by decide +kernel
def RJxbd725 : String := "java/util/List"
def TJxbd725 : u_T := fun k => match k with
  | _ => ("", "", "", false)
def tyJxbd725 : Nat → FieldType := fun k => match k with
  | _ => .int
abbrev wsJxbd7250 : List Cond := u_ws RJxbd725 TJxbd725 0
theorem nmJxbd725 : ∀ a, a < 0 → ∀ b, b < 0 → a ≠ b → (TJxbd725 a).2.1 ≠ (TJxbd725 b).2.1 := by decide +kernel
theorem tyJxbd725_ok : ∀ k, k < 0 → parseFieldDescriptor (TJxbd725 k).2.2.1 = some (tyJxbd725 k) := by decide +kernel
def RJ15 : String := "java/util/Objects"
def TJ15 : u_T := fun k => match k with
  | _ => ("", "", "", false)
def tyJ15 : Nat → FieldType := fun k => match k with
  | _ => .int
abbrev wsJ150 : List Cond := u_ws RJ15 TJ15 0
theorem nmJ15 : ∀ a, a < 0 → ∀ b, b < 0 → a ≠ b → (TJ15 a).2.1 ≠ (TJ15 b).2.1 := by decide +kernel
theorem tyJ15_ok : ∀ k, k < 0 → parseFieldDescriptor (TJ15 k).2.2.1 = some (tyJ15 k) := by decide +kernel
abbrev cJ15_checkIndex_7cf53 : ByteArray := prog_26_method_17_code
def yJ15_checkIndex_7cf53 : MethodName := ⟨RJ15, "checkIndex", "(II)I"⟩
def RJxf0a74 : String := "java/util/RandomAccess"
def TJxf0a74 : u_T := fun k => match k with
  | _ => ("", "", "", false)
def tyJxf0a74 : Nat → FieldType := fun k => match k with
  | _ => .int
abbrev wsJxf0a740 : List Cond := u_ws RJxf0a74 TJxf0a74 0
theorem nmJxf0a74 : ∀ a, a < 0 → ∀ b, b < 0 → a ≠ b → (TJxf0a74 a).2.1 ≠ (TJxf0a74 b).2.1 := by decide +kernel
theorem tyJxf0a74_ok : ∀ k, k < 0 → parseFieldDescriptor (TJxf0a74 k).2.2.1 = some (tyJxf0a74 k) := by decide +kernel
def RJxa66e6 : String := "java/util/SequencedCollection"
def TJxa66e6 : u_T := fun k => match k with
  | _ => ("", "", "", false)
def tyJxa66e6 : Nat → FieldType := fun k => match k with
  | _ => .int
abbrev wsJxa66e60 : List Cond := u_ws RJxa66e6 TJxa66e6 0
theorem nmJxa66e6 : ∀ a, a < 0 → ∀ b, b < 0 → a ≠ b → (TJxa66e6 a).2.1 ≠ (TJxa66e6 b).2.1 := by decide +kernel
theorem tyJxa66e6_ok : ∀ k, k < 0 → parseFieldDescriptor (TJxa66e6 k).2.2.1 = some (tyJxa66e6 k) := by decide +kernel
def RJ8 : String := "jdk/internal/util/ArraysSupport"
def TJ8 : u_T := fun k => match k with
  | _ => ("", "", "", false)
def tyJ8 : Nat → FieldType := fun k => match k with
  | _ => .int
abbrev wsJ80 : List Cond := u_ws RJ8 TJ8 0
theorem nmJ8 : ∀ a, a < 0 → ∀ b, b < 0 → a ≠ b → (TJ8 a).2.1 ≠ (TJ8 b).2.1 := by decide +kernel
theorem tyJ8_ok : ∀ k, k < 0 → parseFieldDescriptor (TJ8 k).2.2.1 = some (tyJ8 k) := by decide +kernel
abbrev cJ8_newLength_cabcc : ByteArray := prog_29_method_27_code
def yJ8_newLength_cabcc : MethodName := ⟨RJ8, "newLength", "(III)I"⟩
abbrev cJ8_hugeLength_7cf53 : ByteArray := prog_29_method_28_code
def yJ8_hugeLength_7cf53 : MethodName := ⟨RJ8, "hugeLength", "(II)I"⟩
def RJ3 : String := "jdk/internal/util/Preconditions"
def TJ3 : u_T := fun k => match k with
  | _ => ("", "", "", false)
def tyJ3 : Nat → FieldType := fun k => match k with
  | _ => .int
abbrev wsJ30 : List Cond := u_ws RJ3 TJ3 0
theorem nmJ3 : ∀ a, a < 0 → ∀ b, b < 0 → a ≠ b → (TJ3 a).2.1 ≠ (TJ3 b).2.1 := by decide +kernel
theorem tyJ3_ok : ∀ k, k < 0 → parseFieldDescriptor (TJ3 k).2.2.1 = some (tyJ3 k) := by decide +kernel
abbrev cJ3_checkIndex_8e157 : ByteArray := prog_30_method_11_code
def yJ3_checkIndex_8e157 : MethodName := ⟨RJ3, "checkIndex", "(IILjava/util/function/BiFunction;)I"⟩
def RL : String := "LockgateRouterLaw"
abbrev cL_dig : ByteArray := method_3_code
def yL_dig : MethodName := ⟨RL, "dig", "(LLockgateRouter;IIII[J)I"⟩
abbrev cL_setGate : ByteArray := method_4_code
def yL_setGate : MethodName := ⟨RL, "setGate", "(LLockgateRouter;IZ[J)I"⟩
abbrev cL_setMark : ByteArray := method_5_code
def yL_setMark : MethodName := ⟨RL, "setMark", "(LLockgateRouter;II[J)I"⟩
abbrev cL_rain : ByteArray := method_6_code
def yL_rain : MethodName := ⟨RL, "rain", "(LLockgateRouter;II[J)I"⟩
abbrev cL_dry : ByteArray := method_7_code
def yL_dry : MethodName := ⟨RL, "dry", "(LLockgateRouter;I[J)I"⟩
abbrev cL_settle : ByteArray := method_8_code
def yL_settle : MethodName := ⟨RL, "settle", "(LLockgateRouter;I[J)I"⟩
abbrev cL_setOut : ByteArray := method_9_code
def yL_setOut : MethodName := ⟨RL, "setOut", "(LLockgateRouter;III[J)I"⟩
abbrev cL_move : ByteArray := method_10_code
def yL_move : MethodName := ⟨RL, "move", "(LLockgateRouter;I[J)I"⟩
abbrev cL_water : ByteArray := method_11_code
def yL_water : MethodName := ⟨RL, "water", "(LLockgateRouter;I[J)I"⟩
abbrev cL_cost : ByteArray := method_12_code
def yL_cost : MethodName := ⟨RL, "cost", "(LLockgateRouter;I[J)I"⟩
abbrev cL_canPass : ByteArray := method_13_code
def yL_canPass : MethodName := ⟨RL, "canPass", "(LLockgateRouter;I[J)I"⟩
abbrev cL_distance : ByteArray := method_14_code
def yL_distance : MethodName := ⟨RL, "distance", "(LLockgateRouter;II[J)I"⟩
abbrev cL_canalTo : ByteArray := method_15_code
def yL_canalTo : MethodName := ⟨RL, "canalTo", "(LLockgateRouter;II[J)I"⟩
abbrev cL_cheapest : ByteArray := method_16_code
def yL_cheapest : MethodName := ⟨RL, "cheapest", "(LLockgateRouter;II[J)I"⟩
abbrev cL_isLoop : ByteArray := method_17_code
def yL_isLoop : MethodName := ⟨RL, "isLoop", "(LLockgateRouter;II[J)I"⟩
abbrev cL_state : ByteArray := method_18_code
def yL_state : MethodName := ⟨RL, "state", "(LLockgateRouter;I[J)I"⟩
abbrev cL_basinOf : ByteArray := method_19_code
def yL_basinOf : MethodName := ⟨RL, "basinOf", "(LLockgateRouter;I[J)I"⟩
abbrev cL_hops : ByteArray := method_20_code
def yL_hops : MethodName := ⟨RL, "hops", "(LLockgateRouter;I[J)I"⟩
abbrev cL_life : ByteArray := method_21_code
def yL_life : MethodName := ⟨RL, "life", "(LLockgateRouter;I[J)I"⟩
abbrev cL_repeats : ByteArray := method_22_code
def yL_repeats : MethodName := ⟨RL, "repeats", "(LLockgateRouter;I[J)I"⟩
abbrev cL_queue : ByteArray := method_23_code
def yL_queue : MethodName := ⟨RL, "queue", "(LLockgateRouter;I[J)I"⟩
abbrev cL_queued : ByteArray := method_24_code
def yL_queued : MethodName := ⟨RL, "queued", "(LLockgateRouter;II[J)I"⟩
abbrev cL_law : ByteArray := code
def yL_law : MethodName := ⟨RL, "law", "([I)Z"⟩
def wsX0_init : List Cond := .code yX0_init cX0_init 5 none :: ([.methodLink RX0 3 objectInit, .instanceMethod objectInit, .code objectInit ⟨#[0xb1]⟩ 1 none, .arrayClass .boolean, .fieldLink RX0 9 "LockgateRouter$Barge" "wasIn" "[Z", .fieldLink RX0 15 "LockgateRouter$Barge" "condition" "I", .fieldLink RX0 19 "LockgateRouter$Barge" "number" "I", .fieldLink RX0 22 "LockgateRouter$Barge" "destination" "LLockgateRouter$Basin;", .fieldLink RX0 26 "LockgateRouter$Barge" "place" "LLockgateRouter$Basin;", .fieldLink RX0 29 "LockgateRouter$Basin" "number" "I", .fieldLink RX0 32 "LockgateRouter$Barge" "lifeLeft" "I"] ++ wsX00 ++ wsX10)
def wsX0_comeTo : List Cond := .code yX0_comeTo cX0_comeTo 3 none :: ([.fieldLink RX0 26 "LockgateRouter$Barge" "place" "LLockgateRouter$Basin;", .fieldLink RX0 35 "LockgateRouter$Barge" "cameInTick" "I", .fieldLink RX0 38 "LockgateRouter$Barge" "hopsMade" "I", .fieldLink RX0 32 "LockgateRouter$Barge" "lifeLeft" "I", .fieldLink RX0 9 "LockgateRouter$Barge" "wasIn" "[Z", .fieldLink RX0 29 "LockgateRouter$Basin" "number" "I", .fieldLink RX0 41 "LockgateRouter$Barge" "repeatsMade" "I", .fieldLink RX0 22 "LockgateRouter$Barge" "destination" "LLockgateRouter$Basin;", .fieldLink RX0 15 "LockgateRouter$Barge" "condition" "I"] ++ wsX00 ++ wsX10)
def wsJxa1e45_init_da8c8 : List Cond := .code yJxa1e45_init_da8c8 cJxa1e45_init_da8c8 1 none :: ([.methodLink RJxa1e45 1 objectInit, .instanceMethod objectInit, .code objectInit ⟨#[0xb1]⟩ 1 none])
def wsJxc12de_init_da8c8 : List Cond := .code yJxc12de_init_da8c8 cJxc12de_init_da8c8 1 none :: ([.fieldLink RJxc12de 7 "java/util/AbstractList" "modCount" "I", .methodLink RJxc12de 1 yJxa1e45_init_da8c8, .instanceMethod yJxa1e45_init_da8c8, .initialized RJxa1e45, .code yJxa1e45_init_da8c8 cJxa1e45_init_da8c8 1 none, .methodLink RJxa1e45 1 objectInit, .instanceMethod objectInit, .code objectInit ⟨#[0xb1]⟩ 1 none] ++ wsJx4a65c0)
def wsJx4a65c_init_da8c8 : List Cond := .code yJx4a65c_init_da8c8 cJx4a65c_init_da8c8 1 none :: ([.fieldLink RJx4a65c 39 "java/util/ArrayList" "DEFAULTCAPACITY_EMPTY_ELEMENTDATA" "[Ljava/lang/Object;", .fieldLink RJx4a65c 9 "java/util/ArrayList" "elementData" "[Ljava/lang/Object;", .methodLink RJx4a65c 1 yJxc12de_init_da8c8, .instanceMethod yJxc12de_init_da8c8, .initialized RJxc12de, .code yJxc12de_init_da8c8 cJxc12de_init_da8c8 1 none, .fieldLink RJxc12de 7 "java/util/AbstractList" "modCount" "I", .methodLink RJxc12de 1 yJxa1e45_init_da8c8, .instanceMethod yJxa1e45_init_da8c8, .initialized RJxa1e45, .code yJxa1e45_init_da8c8 cJxa1e45_init_da8c8 1 none, .methodLink RJxa1e45 1 objectInit, .instanceMethod objectInit, .code objectInit ⟨#[0xb1]⟩ 1 none] ++ wsJx4a65c0)
def wsX3_init : List Cond := .code yX3_init cX3_init 1 none :: ([.methodLink RX3 3 objectInit, .instanceMethod objectInit, .code objectInit ⟨#[0xb1]⟩ 1 none, .arrayClass .int, .fieldLink RX3 9 "LockgateRouter$Table" "distances" "[I", .classLink RX3 15 RX2, .fieldLink RX3 17 "LockgateRouter$Table" "canals" "[LLockgateRouter$Canal;"] ++ wsX30)
def wsX3_clearFor : List Cond := .code yX3_clearFor cX3_clearFor 3 none :: ([.fieldLink RX3 9 "LockgateRouter$Table" "distances" "[I", .fieldLink RX3 17 "LockgateRouter$Table" "canals" "[LLockgateRouter$Canal;"] ++ wsX30)
def wsX1_init_r1 : List Cond := [Cond.methodLink RX1 3 objectInit, Cond.instanceMethod objectInit, Cond.code objectInit ⟨#[0xb1]⟩ 1 none, Cond.classLink RX1 9 RJx4a65c, Cond.instantiable RJx4a65c 3, Cond.initialized RJx4a65c, Cond.fieldLink RX1 12 "LockgateRouter$Basin" "waiting" "Ljava/util/ArrayList;", Cond.fieldLink RX1 18 "LockgateRouter$Basin" "level" "I", Cond.fieldLink RX1 22 "LockgateRouter$Basin" "mark" "I", Cond.classLink RX1 25 RX3, Cond.instantiable RX3 2, Cond.initialized RX3, Cond.fieldLink RX1 28 "LockgateRouter$Basin" "table" "LLockgateRouter$Table;", Cond.fieldLink RX1 32 "LockgateRouter$Basin" "nextTable" "LLockgateRouter$Table;", Cond.fieldLink RX1 35 "LockgateRouter$Basin" "number" "I", Cond.methodLink RX1 11 yJx4a65c_init_da8c8, Cond.instanceMethod yJx4a65c_init_da8c8, Cond.code yJx4a65c_init_da8c8 cJx4a65c_init_da8c8 1 none, Cond.fieldLink RJx4a65c 39 "java/util/ArrayList" "DEFAULTCAPACITY_EMPTY_ELEMENTDATA" "[Ljava/lang/Object;", Cond.fieldLink RJx4a65c 9 "java/util/ArrayList" "elementData" "[Ljava/lang/Object;", Cond.methodLink RJx4a65c 1 yJxc12de_init_da8c8, Cond.instanceMethod yJxc12de_init_da8c8, Cond.initialized RJxc12de, Cond.code yJxc12de_init_da8c8 cJxc12de_init_da8c8 1 none]
def wsX1_init_r2 : List Cond := [Cond.fieldLink RJxc12de 7 "java/util/AbstractList" "modCount" "I", Cond.methodLink RJxc12de 1 yJxa1e45_init_da8c8, Cond.instanceMethod yJxa1e45_init_da8c8, Cond.initialized RJxa1e45, Cond.code yJxa1e45_init_da8c8 cJxa1e45_init_da8c8 1 none, Cond.methodLink RJxa1e45 1 objectInit, Cond.instanceMethod yX3_init, Cond.code yX3_init cX3_init 1 none, Cond.methodLink RX3 3 objectInit, Cond.arrayClass .int, Cond.fieldLink RX3 9 "LockgateRouter$Table" "distances" "[I", Cond.classLink RX3 15 RX2, Cond.fieldLink RX3 17 "LockgateRouter$Table" "canals" "[LLockgateRouter$Canal;", Cond.methodLink RX1 38 yX3_clearFor, Cond.instanceMethod yX3_clearFor, Cond.selects RX3 yX3_clearFor yX3_clearFor, Cond.code yX3_clearFor cX3_clearFor 3 none]
def wsX1_init : List Cond := .code yX1_init cX1_init 2 none :: ((wsX1_init_r1 ++ wsX1_init_r2) ++ wsJx4a65c0 ++ wsX10 ++ wsX30)
def wsJx4a65c_size_8abf5 : List Cond := .code yJx4a65c_size_8abf5 cJx4a65c_size_8abf5 1 (some .int) :: ([.fieldLink RJx4a65c 48 "java/util/ArrayList" "size" "I"] ++ wsJx4a65c0)
def wsX1_isFull : List Cond := .code yX1_isFull cX1_isFull 1 (some .boolean) :: ([.fieldLink RX1 12 "LockgateRouter$Basin" "waiting" "Ljava/util/ArrayList;", .methodLink RX1 42 yJx4a65c_size_8abf5, .instanceMethod yJx4a65c_size_8abf5, .selects RJx4a65c yJx4a65c_size_8abf5 yJx4a65c_size_8abf5, .initialized RJx4a65c, .code yJx4a65c_size_8abf5 cJx4a65c_size_8abf5 1 (some .int), .fieldLink RJx4a65c 48 "java/util/ArrayList" "size" "I"] ++ wsX10 ++ wsJx4a65c0)
def wsX1_costOfLowWater : List Cond := .code yX1_costOfLowWater cX1_costOfLowWater 1 (some .int) :: ([.fieldLink RX1 18 "LockgateRouter$Basin" "level" "I"] ++ wsX10)
def wsX1_fill : List Cond := .code yX1_fill cX1_fill 3 (some .int) :: ([.fieldLink RX1 18 "LockgateRouter$Basin" "level" "I", .methodLink RX1 46 Lib.Math.max.name, .static Lib.Math.max.name, .initialized "java/lang/Math", .code Lib.Math.max.name Lib.Math.max.code 2 (some .int)] ++ wsX10)
def wsX1_loseDryDayWater : List Cond := .code yX1_loseDryDayWater cX1_loseDryDayWater 1 none :: ([.fieldLink RX1 18 "LockgateRouter$Basin" "level" "I", .methodLink RX1 46 Lib.Math.max.name, .static Lib.Math.max.name, .initialized "java/lang/Math", .code Lib.Math.max.name Lib.Math.max.code 2 (some .int)] ++ wsX10)
def wsX1_canalTowards : List Cond := .code yX1_canalTowards cX1_canalTowards 2 (some (.object "LockgateRouter$Canal")) :: ([.fieldLink RX1 28 "LockgateRouter$Basin" "table" "LLockgateRouter$Table;", .fieldLink RX1 52 "LockgateRouter$Table" "canals" "[LLockgateRouter$Canal;", .fieldLink RX1 35 "LockgateRouter$Basin" "number" "I"] ++ wsX10 ++ wsX30)
def wsX2_costNow : List Cond := .code yX2_costNow cX2_costNow 1 (some .int) :: ([.fieldLink RX2 26 "LockgateRouter$Canal" "length" "I", .fieldLink RX2 19 "LockgateRouter$Canal" "upper" "LLockgateRouter$Basin;", .fieldLink RX2 23 "LockgateRouter$Canal" "lower" "LLockgateRouter$Basin;", .methodLink RX2 32 yX1_costOfLowWater, .instanceMethod yX1_costOfLowWater, .selects RX1 yX1_costOfLowWater yX1_costOfLowWater, .initialized RX1, .code yX1_costOfLowWater cX1_costOfLowWater 1 (some .int), .fieldLink RX1 18 "LockgateRouter$Basin" "level" "I"] ++ wsX20 ++ wsX10)
def wsX3_offer : List Cond := .code yX3_offer cX3_offer 4 none :: ([.fieldLink RX3 9 "LockgateRouter$Table" "distances" "[I", .fieldLink RX3 17 "LockgateRouter$Table" "canals" "[LLockgateRouter$Canal;"] ++ wsX30)
def wsX1_hearNeighbour_r1 : List Cond := [Cond.fieldLink RX1 28 "LockgateRouter$Basin" "table" "LLockgateRouter$Table;", Cond.fieldLink RX1 61 "LockgateRouter$Table" "distances" "[I", Cond.fieldLink RX1 35 "LockgateRouter$Basin" "number" "I", Cond.fieldLink RX1 32 "LockgateRouter$Basin" "nextTable" "LLockgateRouter$Table;", Cond.methodLink RX1 56 yX2_costNow, Cond.instanceMethod yX2_costNow, Cond.selects RX2 yX2_costNow yX2_costNow, Cond.initialized RX2, Cond.code yX2_costNow cX2_costNow 1 (some .int), Cond.fieldLink RX2 26 "LockgateRouter$Canal" "length" "I", Cond.fieldLink RX2 19 "LockgateRouter$Canal" "upper" "LLockgateRouter$Basin;", Cond.fieldLink RX2 23 "LockgateRouter$Canal" "lower" "LLockgateRouter$Basin;", Cond.methodLink RX2 32 yX1_costOfLowWater, Cond.instanceMethod yX1_costOfLowWater, Cond.selects RX1 yX1_costOfLowWater yX1_costOfLowWater, Cond.initialized RX1, Cond.code yX1_costOfLowWater cX1_costOfLowWater 1 (some .int), Cond.fieldLink RX1 18 "LockgateRouter$Basin" "level" "I", Cond.methodLink RX1 65 yX3_offer, Cond.instanceMethod yX3_offer, Cond.selects RX3 yX3_offer yX3_offer, Cond.initialized RX3, Cond.code yX3_offer cX3_offer 4 none, Cond.fieldLink RX3 9 "LockgateRouter$Table" "distances" "[I"]
def wsX1_hearNeighbour_r2 : List Cond := [Cond.fieldLink RX3 17 "LockgateRouter$Table" "canals" "[LLockgateRouter$Canal;"]
def wsX1_hearNeighbour : List Cond := .code yX1_hearNeighbour cX1_hearNeighbour 6 none :: ((wsX1_hearNeighbour_r1 ++ wsX1_hearNeighbour_r2) ++ wsX10 ++ wsX30 ++ wsX20)
def wsX1_turnTable : List Cond := .code yX1_turnTable cX1_turnTable 2 none :: ([.fieldLink RX1 28 "LockgateRouter$Basin" "table" "LLockgateRouter$Table;", .fieldLink RX1 32 "LockgateRouter$Basin" "nextTable" "LLockgateRouter$Table;"] ++ wsX10)
def wsX2_init : List Cond := .code yX2_init cX2_init 6 none :: ([.methodLink RX2 3 objectInit, .instanceMethod objectInit, .code objectInit ⟨#[0xb1]⟩ 1 none, .fieldLink RX2 9 "LockgateRouter$Canal" "gateOpen" "Z", .fieldLink RX2 15 "LockgateRouter$Canal" "number" "I", .fieldLink RX2 19 "LockgateRouter$Canal" "upper" "LLockgateRouter$Basin;", .fieldLink RX2 23 "LockgateRouter$Canal" "lower" "LLockgateRouter$Basin;", .fieldLink RX2 26 "LockgateRouter$Canal" "length" "I", .fieldLink RX2 29 "LockgateRouter$Canal" "lift" "I"] ++ wsX20)
def wsX2_isPassable : List Cond := .code yX2_isPassable cX2_isPassable 1 (some .boolean) :: ([.fieldLink RX2 9 "LockgateRouter$Canal" "gateOpen" "Z", .fieldLink RX2 19 "LockgateRouter$Canal" "upper" "LLockgateRouter$Basin;", .fieldLink RX2 38 "LockgateRouter$Basin" "level" "I", .fieldLink RX2 29 "LockgateRouter$Canal" "lift" "I"] ++ wsX20 ++ wsX10)
def wsX2_otherEnd : List Cond := .code yX2_otherEnd cX2_otherEnd 2 (some (.object "LockgateRouter$Basin")) :: ([.fieldLink RX2 19 "LockgateRouter$Canal" "upper" "LLockgateRouter$Basin;", .fieldLink RX2 23 "LockgateRouter$Canal" "lower" "LLockgateRouter$Basin;"] ++ wsX20)
def wsX2_lockThrough : List Cond := .code yX2_lockThrough cX2_lockThrough 1 (some .int) :: ([.fieldLink RX2 19 "LockgateRouter$Canal" "upper" "LLockgateRouter$Basin;", .fieldLink RX2 38 "LockgateRouter$Basin" "level" "I", .fieldLink RX2 29 "LockgateRouter$Canal" "lift" "I", .fieldLink RX2 23 "LockgateRouter$Canal" "lower" "LLockgateRouter$Basin;", .methodLink RX2 41 yX1_fill, .instanceMethod yX1_fill, .selects RX1 yX1_fill yX1_fill, .initialized RX1, .code yX1_fill cX1_fill 3 (some .int), .fieldLink RX1 18 "LockgateRouter$Basin" "level" "I", .methodLink RX1 46 Lib.Math.max.name, .static Lib.Math.max.name, .initialized "java/lang/Math", .code Lib.Math.max.name Lib.Math.max.code 2 (some .int)] ++ wsX20 ++ wsX10)
def wsX3_countDifferences : List Cond := .code yX3_countDifferences cX3_countDifferences 4 (some .int) :: ([.fieldLink RX3 9 "LockgateRouter$Table" "distances" "[I", .fieldLink RX3 17 "LockgateRouter$Table" "canals" "[LLockgateRouter$Canal;"] ++ wsX30)
def wsX4_init_r1 : List Cond := [Cond.methodLink RX4 1 objectInit, Cond.instanceMethod objectInit, Cond.code objectInit ⟨#[0xb1]⟩ 1 none, Cond.classLink RX4 9 RX1, Cond.fieldLink RX4 11 "LockgateRouter" "basins" "[LLockgateRouter$Basin;", Cond.classLink RX4 15 RJx4a65c, Cond.instantiable RJx4a65c 3, Cond.initialized RJx4a65c, Cond.fieldLink RX4 18 "LockgateRouter" "dug" "Ljava/util/ArrayList;", Cond.fieldLink RX4 22 "LockgateRouter" "fleet" "Ljava/util/ArrayList;", Cond.arrayClass .int, Cond.fieldLink RX4 25 "LockgateRouter" "cheapestSoFar" "[I", Cond.instantiable RX1 6, Cond.initialized RX1, Cond.methodLink RX4 17 yJx4a65c_init_da8c8, Cond.instanceMethod yJx4a65c_init_da8c8, Cond.code yJx4a65c_init_da8c8 cJx4a65c_init_da8c8 1 none, Cond.fieldLink RJx4a65c 39 "java/util/ArrayList" "DEFAULTCAPACITY_EMPTY_ELEMENTDATA" "[Ljava/lang/Object;", Cond.fieldLink RJx4a65c 9 "java/util/ArrayList" "elementData" "[Ljava/lang/Object;", Cond.methodLink RJx4a65c 1 yJxc12de_init_da8c8, Cond.instanceMethod yJxc12de_init_da8c8, Cond.initialized RJxc12de, Cond.code yJxc12de_init_da8c8 cJxc12de_init_da8c8 1 none, Cond.fieldLink RJxc12de 7 "java/util/AbstractList" "modCount" "I"]
def wsX4_init_r2 : List Cond := [Cond.methodLink RJxc12de 1 yJxa1e45_init_da8c8, Cond.instanceMethod yJxa1e45_init_da8c8, Cond.initialized RJxa1e45, Cond.code yJxa1e45_init_da8c8 cJxa1e45_init_da8c8 1 none, Cond.methodLink RJxa1e45 1 objectInit, Cond.methodLink RX4 29 yX1_init, Cond.instanceMethod yX1_init, Cond.code yX1_init cX1_init 2 none, Cond.methodLink RX1 3 objectInit, Cond.classLink RX1 9 RJx4a65c, Cond.fieldLink RX1 12 "LockgateRouter$Basin" "waiting" "Ljava/util/ArrayList;", Cond.fieldLink RX1 18 "LockgateRouter$Basin" "level" "I", Cond.fieldLink RX1 22 "LockgateRouter$Basin" "mark" "I", Cond.classLink RX1 25 RX3, Cond.instantiable RX3 2, Cond.initialized RX3, Cond.fieldLink RX1 28 "LockgateRouter$Basin" "table" "LLockgateRouter$Table;", Cond.fieldLink RX1 32 "LockgateRouter$Basin" "nextTable" "LLockgateRouter$Table;", Cond.fieldLink RX1 35 "LockgateRouter$Basin" "number" "I", Cond.methodLink RX1 11 yJx4a65c_init_da8c8, Cond.instanceMethod yX3_init, Cond.code yX3_init cX3_init 1 none, Cond.methodLink RX3 3 objectInit, Cond.fieldLink RX3 9 "LockgateRouter$Table" "distances" "[I"]
def wsX4_init_r3 : List Cond := [Cond.classLink RX3 15 RX2, Cond.fieldLink RX3 17 "LockgateRouter$Table" "canals" "[LLockgateRouter$Canal;", Cond.methodLink RX1 38 yX3_clearFor, Cond.instanceMethod yX3_clearFor, Cond.selects RX3 yX3_clearFor yX3_clearFor, Cond.code yX3_clearFor cX3_clearFor 3 none]
def wsX4_init : List Cond := .code yX4_init cX4_init 2 none :: ((wsX4_init_r1 ++ (wsX4_init_r2 ++ wsX4_init_r3)) ++ wsX40 ++ wsJx4a65c0 ++ wsX10 ++ wsX30)
def wsX4_basinNumbered : List Cond := .code yX4_basinNumbered cX4_basinNumbered 2 (some (.object "LockgateRouter$Basin")) :: ([.classLink RX4 182 "java/lang/IndexOutOfBoundsException", .initialized "java/lang/IndexOutOfBoundsException", .fieldLink RX4 11 "LockgateRouter" "basins" "[LLockgateRouter$Basin;"] ++ wsX40 ++ (vx_atS RX4 186 "java/lang/IndexOutOfBoundsException" ["java/lang/RuntimeException", "java/lang/Exception"]).filter goodWord)
def wsX4_requireRange : List Cond := .code yX4_requireRange cX4_requireRange 3 none :: ([.classLink RX4 36 "java/lang/IllegalArgumentException", .initialized "java/lang/IllegalArgumentException"] ++ (vx_atS RX4 40 "java/lang/IllegalArgumentException" ["java/lang/RuntimeException", "java/lang/Exception"]).filter goodWord)
def wsJ8_hugeLength_7cf53 : List Cond := .code yJ8_hugeLength_7cf53 cJ8_hugeLength_7cf53 3 (some .int) :: ([.constant RJ8 200 (2147483639)])
def wsJ8_newLength_cabcc : List Cond := .code yJ8_newLength_cabcc cJ8_newLength_cabcc 4 (some .int) :: ([.methodLink RJ8 194 Lib.Math.max.name, .static Lib.Math.max.name, .initialized "java/lang/Math", .code Lib.Math.max.name Lib.Math.max.code 2 (some .int), .constant RJ8 200 (2147483639), .methodLink RJ8 201 yJ8_hugeLength_7cf53, .static yJ8_hugeLength_7cf53, .initialized RJ8, .code yJ8_hugeLength_7cf53 cJ8_hugeLength_7cf53 3 (some .int)])
def wsJ7_copyOf_6403c : List Cond := .code yJ7_copyOf_6403c cJ7_copyOf_6403c 4 (some (.array (.object "java/lang/Object"))) :: ([.classLink RJ7 110 "[Ljava/lang/Object;", .classLink RJ7 2 "java/lang/Object", .methodLink RJ7 304 Lib.Math.min.name, .static Lib.Math.min.name, .initialized "java/lang/Math", .code Lib.Math.min.name Lib.Math.min.code 2 (some .int), .methodLink RJ7 150 arraycopyName, .native arraycopyName, .static arraycopyName, .initialized "java/lang/System"])
def wsJ7_copyOf_1904c : List Cond := .code yJ7_copyOf_1904c cJ7_copyOf_1904c 2 (some (.array (.object "java/lang/Object"))) :: ([.methodLink RJ7 86 ⟨"java/lang/Object", "getClass", "()Ljava/lang/Class;"⟩, .selects "[Ljava/lang/Object;" ⟨"java/lang/Object", "getClass", "()Ljava/lang/Class;"⟩ ⟨"java/lang/Object", "getClass", "()Ljava/lang/Class;"⟩, .instanceMethod ⟨"java/lang/Object", "getClass", "()Ljava/lang/Class;"⟩, .native ⟨"java/lang/Object", "getClass", "()Ljava/lang/Class;"⟩, .methodLink RJ7 300 yJ7_copyOf_6403c, .static yJ7_copyOf_6403c, .initialized RJ7, .code yJ7_copyOf_6403c cJ7_copyOf_6403c 4 (some (.array (.object "java/lang/Object"))), .classLink RJ7 110 "[Ljava/lang/Object;", .classLink RJ7 2 "java/lang/Object", .methodLink RJ7 304 Lib.Math.min.name, .static Lib.Math.min.name, .initialized "java/lang/Math", .code Lib.Math.min.name Lib.Math.min.code 2 (some .int), .methodLink RJ7 150 arraycopyName, .native arraycopyName, .static arraycopyName, .initialized "java/lang/System"])
def wsJx4a65c_grow_92f84_r1 : List Cond := [Cond.fieldLink RJx4a65c 9 "java/util/ArrayList" "elementData" "[Ljava/lang/Object;", Cond.fieldLink RJx4a65c 39 "java/util/ArrayList" "DEFAULTCAPACITY_EMPTY_ELEMENTDATA" "[Ljava/lang/Object;", Cond.methodLink RJx4a65c 79 Lib.Math.max.name, Cond.static Lib.Math.max.name, Cond.initialized "java/lang/Math", Cond.code Lib.Math.max.name Lib.Math.max.code 2 (some .int), Cond.classLink RJx4a65c 7 "java/lang/Object", Cond.methodLink RJx4a65c 73 yJ8_newLength_cabcc, Cond.static yJ8_newLength_cabcc, Cond.initialized RJ8, Cond.code yJ8_newLength_cabcc cJ8_newLength_cabcc 4 (some .int), Cond.methodLink RJ8 194 Lib.Math.max.name, Cond.constant RJ8 200 (2147483639), Cond.methodLink RJ8 201 yJ8_hugeLength_7cf53, Cond.static yJ8_hugeLength_7cf53, Cond.code yJ8_hugeLength_7cf53 cJ8_hugeLength_7cf53 3 (some .int), Cond.methodLink RJx4a65c 66 yJ7_copyOf_1904c, Cond.static yJ7_copyOf_1904c, Cond.initialized RJ7, Cond.code yJ7_copyOf_1904c cJ7_copyOf_1904c 2 (some (.array (.object "java/lang/Object"))), Cond.methodLink RJ7 86 ⟨"java/lang/Object", "getClass", "()Ljava/lang/Class;"⟩, Cond.selects "[Ljava/lang/Object;" ⟨"java/lang/Object", "getClass", "()Ljava/lang/Class;"⟩ ⟨"java/lang/Object", "getClass", "()Ljava/lang/Class;"⟩, Cond.instanceMethod ⟨"java/lang/Object", "getClass", "()Ljava/lang/Class;"⟩, Cond.native ⟨"java/lang/Object", "getClass", "()Ljava/lang/Class;"⟩]
def wsJx4a65c_grow_92f84_r2 : List Cond := [Cond.methodLink RJ7 300 yJ7_copyOf_6403c, Cond.static yJ7_copyOf_6403c, Cond.code yJ7_copyOf_6403c cJ7_copyOf_6403c 4 (some (.array (.object "java/lang/Object"))), Cond.classLink RJ7 110 "[Ljava/lang/Object;", Cond.classLink RJ7 2 "java/lang/Object", Cond.methodLink RJ7 304 Lib.Math.min.name, Cond.static Lib.Math.min.name, Cond.code Lib.Math.min.name Lib.Math.min.code 2 (some .int), Cond.methodLink RJ7 150 arraycopyName, Cond.native arraycopyName, Cond.static arraycopyName, Cond.initialized "java/lang/System"]
def wsJx4a65c_grow_92f84 : List Cond := .code yJx4a65c_grow_92f84 cJx4a65c_grow_92f84 4 (some (.array (.object "java/lang/Object"))) :: ((wsJx4a65c_grow_92f84_r1 ++ wsJx4a65c_grow_92f84_r2) ++ wsJx4a65c0)
def wsJx4a65c_grow_d5877_r1 : List Cond := [Cond.fieldLink RJx4a65c 48 "java/util/ArrayList" "size" "I", Cond.methodLink RJx4a65c 69 yJx4a65c_grow_92f84, Cond.instanceMethod yJx4a65c_grow_92f84, Cond.selects RJx4a65c yJx4a65c_grow_92f84 yJx4a65c_grow_92f84, Cond.initialized RJx4a65c, Cond.code yJx4a65c_grow_92f84 cJx4a65c_grow_92f84 4 (some (.array (.object "java/lang/Object"))), Cond.fieldLink RJx4a65c 9 "java/util/ArrayList" "elementData" "[Ljava/lang/Object;", Cond.fieldLink RJx4a65c 39 "java/util/ArrayList" "DEFAULTCAPACITY_EMPTY_ELEMENTDATA" "[Ljava/lang/Object;", Cond.methodLink RJx4a65c 79 Lib.Math.max.name, Cond.static Lib.Math.max.name, Cond.initialized "java/lang/Math", Cond.code Lib.Math.max.name Lib.Math.max.code 2 (some .int), Cond.classLink RJx4a65c 7 "java/lang/Object", Cond.methodLink RJx4a65c 73 yJ8_newLength_cabcc, Cond.static yJ8_newLength_cabcc, Cond.initialized RJ8, Cond.code yJ8_newLength_cabcc cJ8_newLength_cabcc 4 (some .int), Cond.methodLink RJ8 194 Lib.Math.max.name, Cond.constant RJ8 200 (2147483639), Cond.methodLink RJ8 201 yJ8_hugeLength_7cf53, Cond.static yJ8_hugeLength_7cf53, Cond.code yJ8_hugeLength_7cf53 cJ8_hugeLength_7cf53 3 (some .int), Cond.methodLink RJx4a65c 66 yJ7_copyOf_1904c, Cond.static yJ7_copyOf_1904c]
def wsJx4a65c_grow_d5877_r2 : List Cond := [Cond.initialized RJ7, Cond.code yJ7_copyOf_1904c cJ7_copyOf_1904c 2 (some (.array (.object "java/lang/Object"))), Cond.methodLink RJ7 86 ⟨"java/lang/Object", "getClass", "()Ljava/lang/Class;"⟩, Cond.selects "[Ljava/lang/Object;" ⟨"java/lang/Object", "getClass", "()Ljava/lang/Class;"⟩ ⟨"java/lang/Object", "getClass", "()Ljava/lang/Class;"⟩, Cond.instanceMethod ⟨"java/lang/Object", "getClass", "()Ljava/lang/Class;"⟩, Cond.native ⟨"java/lang/Object", "getClass", "()Ljava/lang/Class;"⟩, Cond.methodLink RJ7 300 yJ7_copyOf_6403c, Cond.static yJ7_copyOf_6403c, Cond.code yJ7_copyOf_6403c cJ7_copyOf_6403c 4 (some (.array (.object "java/lang/Object"))), Cond.classLink RJ7 110 "[Ljava/lang/Object;", Cond.classLink RJ7 2 "java/lang/Object", Cond.methodLink RJ7 304 Lib.Math.min.name, Cond.static Lib.Math.min.name, Cond.code Lib.Math.min.name Lib.Math.min.code 2 (some .int), Cond.methodLink RJ7 150 arraycopyName, Cond.native arraycopyName, Cond.static arraycopyName, Cond.initialized "java/lang/System"]
def wsJx4a65c_grow_d5877 : List Cond := .code yJx4a65c_grow_d5877 cJx4a65c_grow_d5877 1 (some (.array (.object "java/lang/Object"))) :: ((wsJx4a65c_grow_d5877_r1 ++ wsJx4a65c_grow_d5877_r2) ++ wsJx4a65c0)
def wsJx4a65c_add_72be8_r1 : List Cond := [Cond.fieldLink RJx4a65c 48 "java/util/ArrayList" "size" "I", Cond.methodLink RJx4a65c 129 yJx4a65c_grow_d5877, Cond.instanceMethod yJx4a65c_grow_d5877, Cond.selects RJx4a65c yJx4a65c_grow_d5877 yJx4a65c_grow_d5877, Cond.initialized RJx4a65c, Cond.code yJx4a65c_grow_d5877 cJx4a65c_grow_d5877 1 (some (.array (.object "java/lang/Object"))), Cond.methodLink RJx4a65c 69 yJx4a65c_grow_92f84, Cond.instanceMethod yJx4a65c_grow_92f84, Cond.selects RJx4a65c yJx4a65c_grow_92f84 yJx4a65c_grow_92f84, Cond.code yJx4a65c_grow_92f84 cJx4a65c_grow_92f84 4 (some (.array (.object "java/lang/Object"))), Cond.fieldLink RJx4a65c 9 "java/util/ArrayList" "elementData" "[Ljava/lang/Object;", Cond.fieldLink RJx4a65c 39 "java/util/ArrayList" "DEFAULTCAPACITY_EMPTY_ELEMENTDATA" "[Ljava/lang/Object;", Cond.methodLink RJx4a65c 79 Lib.Math.max.name, Cond.static Lib.Math.max.name, Cond.initialized "java/lang/Math", Cond.code Lib.Math.max.name Lib.Math.max.code 2 (some .int), Cond.classLink RJx4a65c 7 "java/lang/Object", Cond.methodLink RJx4a65c 73 yJ8_newLength_cabcc, Cond.static yJ8_newLength_cabcc, Cond.initialized RJ8, Cond.code yJ8_newLength_cabcc cJ8_newLength_cabcc 4 (some .int), Cond.methodLink RJ8 194 Lib.Math.max.name, Cond.constant RJ8 200 (2147483639), Cond.methodLink RJ8 201 yJ8_hugeLength_7cf53]
def wsJx4a65c_add_72be8_r2 : List Cond := [Cond.static yJ8_hugeLength_7cf53, Cond.code yJ8_hugeLength_7cf53 cJ8_hugeLength_7cf53 3 (some .int), Cond.methodLink RJx4a65c 66 yJ7_copyOf_1904c, Cond.static yJ7_copyOf_1904c, Cond.initialized RJ7, Cond.code yJ7_copyOf_1904c cJ7_copyOf_1904c 2 (some (.array (.object "java/lang/Object"))), Cond.methodLink RJ7 86 ⟨"java/lang/Object", "getClass", "()Ljava/lang/Class;"⟩, Cond.selects "[Ljava/lang/Object;" ⟨"java/lang/Object", "getClass", "()Ljava/lang/Class;"⟩ ⟨"java/lang/Object", "getClass", "()Ljava/lang/Class;"⟩, Cond.instanceMethod ⟨"java/lang/Object", "getClass", "()Ljava/lang/Class;"⟩, Cond.native ⟨"java/lang/Object", "getClass", "()Ljava/lang/Class;"⟩, Cond.methodLink RJ7 300 yJ7_copyOf_6403c, Cond.static yJ7_copyOf_6403c, Cond.code yJ7_copyOf_6403c cJ7_copyOf_6403c 4 (some (.array (.object "java/lang/Object"))), Cond.classLink RJ7 110 "[Ljava/lang/Object;", Cond.classLink RJ7 2 "java/lang/Object", Cond.methodLink RJ7 304 Lib.Math.min.name, Cond.static Lib.Math.min.name, Cond.code Lib.Math.min.name Lib.Math.min.code 2 (some .int), Cond.methodLink RJ7 150 arraycopyName, Cond.native arraycopyName, Cond.static arraycopyName, Cond.initialized "java/lang/System"]
def wsJx4a65c_add_72be8 : List Cond := .code yJx4a65c_add_72be8 cJx4a65c_add_72be8 4 none :: ((wsJx4a65c_add_72be8_r1 ++ wsJx4a65c_add_72be8_r2) ++ wsJx4a65c0)
def wsJx4a65c_add_9ea2d_r1 : List Cond := [Cond.fieldLink RJx4a65c 63 "java/util/ArrayList" "modCount" "I", Cond.sameField "java/util/ArrayList" "java/util/AbstractList" "modCount" "I", Cond.fieldLink RJx4a65c 9 "java/util/ArrayList" "elementData" "[Ljava/lang/Object;", Cond.fieldLink RJx4a65c 48 "java/util/ArrayList" "size" "I", Cond.methodLink RJx4a65c 131 yJx4a65c_add_72be8, Cond.instanceMethod yJx4a65c_add_72be8, Cond.selects RJx4a65c yJx4a65c_add_72be8 yJx4a65c_add_72be8, Cond.initialized RJx4a65c, Cond.code yJx4a65c_add_72be8 cJx4a65c_add_72be8 4 none, Cond.methodLink RJx4a65c 129 yJx4a65c_grow_d5877, Cond.instanceMethod yJx4a65c_grow_d5877, Cond.selects RJx4a65c yJx4a65c_grow_d5877 yJx4a65c_grow_d5877, Cond.code yJx4a65c_grow_d5877 cJx4a65c_grow_d5877 1 (some (.array (.object "java/lang/Object"))), Cond.methodLink RJx4a65c 69 yJx4a65c_grow_92f84, Cond.instanceMethod yJx4a65c_grow_92f84, Cond.selects RJx4a65c yJx4a65c_grow_92f84 yJx4a65c_grow_92f84, Cond.code yJx4a65c_grow_92f84 cJx4a65c_grow_92f84 4 (some (.array (.object "java/lang/Object"))), Cond.fieldLink RJx4a65c 39 "java/util/ArrayList" "DEFAULTCAPACITY_EMPTY_ELEMENTDATA" "[Ljava/lang/Object;", Cond.methodLink RJx4a65c 79 Lib.Math.max.name, Cond.static Lib.Math.max.name, Cond.initialized "java/lang/Math", Cond.code Lib.Math.max.name Lib.Math.max.code 2 (some .int), Cond.classLink RJx4a65c 7 "java/lang/Object", Cond.methodLink RJx4a65c 73 yJ8_newLength_cabcc]
def wsJx4a65c_add_9ea2d_r2 : List Cond := [Cond.static yJ8_newLength_cabcc, Cond.initialized RJ8, Cond.code yJ8_newLength_cabcc cJ8_newLength_cabcc 4 (some .int), Cond.methodLink RJ8 194 Lib.Math.max.name, Cond.constant RJ8 200 (2147483639), Cond.methodLink RJ8 201 yJ8_hugeLength_7cf53, Cond.static yJ8_hugeLength_7cf53, Cond.code yJ8_hugeLength_7cf53 cJ8_hugeLength_7cf53 3 (some .int), Cond.methodLink RJx4a65c 66 yJ7_copyOf_1904c, Cond.static yJ7_copyOf_1904c, Cond.initialized RJ7, Cond.code yJ7_copyOf_1904c cJ7_copyOf_1904c 2 (some (.array (.object "java/lang/Object"))), Cond.methodLink RJ7 86 ⟨"java/lang/Object", "getClass", "()Ljava/lang/Class;"⟩, Cond.selects "[Ljava/lang/Object;" ⟨"java/lang/Object", "getClass", "()Ljava/lang/Class;"⟩ ⟨"java/lang/Object", "getClass", "()Ljava/lang/Class;"⟩, Cond.instanceMethod ⟨"java/lang/Object", "getClass", "()Ljava/lang/Class;"⟩, Cond.native ⟨"java/lang/Object", "getClass", "()Ljava/lang/Class;"⟩, Cond.methodLink RJ7 300 yJ7_copyOf_6403c, Cond.static yJ7_copyOf_6403c, Cond.code yJ7_copyOf_6403c cJ7_copyOf_6403c 4 (some (.array (.object "java/lang/Object"))), Cond.classLink RJ7 110 "[Ljava/lang/Object;", Cond.classLink RJ7 2 "java/lang/Object", Cond.methodLink RJ7 304 Lib.Math.min.name, Cond.static Lib.Math.min.name, Cond.code Lib.Math.min.name Lib.Math.min.code 2 (some .int)]
def wsJx4a65c_add_9ea2d_r3 : List Cond := [Cond.methodLink RJ7 150 arraycopyName, Cond.native arraycopyName, Cond.static arraycopyName, Cond.initialized "java/lang/System"]
def wsJx4a65c_add_9ea2d : List Cond := .code yJx4a65c_add_9ea2d cJx4a65c_add_9ea2d 2 (some .boolean) :: ((wsJx4a65c_add_9ea2d_r1 ++ (wsJx4a65c_add_9ea2d_r2 ++ wsJx4a65c_add_9ea2d_r3)) ++ wsJx4a65c0)
def wsX4_dig_r1 : List Cond := [Cond.classLink RX4 36 "java/lang/IllegalArgumentException", Cond.initialized "java/lang/IllegalArgumentException", Cond.classLink RX4 51 "java/lang/IllegalStateException", Cond.initialized "java/lang/IllegalStateException", Cond.fieldLink RX4 18 "LockgateRouter" "dug" "Ljava/util/ArrayList;", Cond.classLink RX4 56 RX2, Cond.instantiable RX2 6, Cond.initialized RX2, Cond.methodLink RX4 32 yX4_basinNumbered, Cond.instanceMethod yX4_basinNumbered, Cond.selects RX4 yX4_basinNumbered yX4_basinNumbered, Cond.initialized RX4, Cond.code yX4_basinNumbered cX4_basinNumbered 2 (some (.object "LockgateRouter$Basin")), Cond.classLink RX4 182 "java/lang/IndexOutOfBoundsException", Cond.initialized "java/lang/IndexOutOfBoundsException", Cond.fieldLink RX4 11 "LockgateRouter" "basins" "[LLockgateRouter$Basin;", Cond.methodLink RX4 43 yX4_requireRange, Cond.static yX4_requireRange, Cond.code yX4_requireRange cX4_requireRange 3 none, Cond.methodLink RX4 47 yJx4a65c_size_8abf5, Cond.instanceMethod yJx4a65c_size_8abf5, Cond.selects RJx4a65c yJx4a65c_size_8abf5 yJx4a65c_size_8abf5, Cond.initialized RJx4a65c, Cond.code yJx4a65c_size_8abf5 cJx4a65c_size_8abf5 1 (some .int)]
def wsX4_dig_r2 : List Cond := [Cond.fieldLink RJx4a65c 48 "java/util/ArrayList" "size" "I", Cond.methodLink RX4 58 yX2_init, Cond.instanceMethod yX2_init, Cond.code yX2_init cX2_init 6 none, Cond.methodLink RX2 3 objectInit, Cond.instanceMethod objectInit, Cond.code objectInit ⟨#[0xb1]⟩ 1 none, Cond.fieldLink RX2 9 "LockgateRouter$Canal" "gateOpen" "Z", Cond.fieldLink RX2 15 "LockgateRouter$Canal" "number" "I", Cond.fieldLink RX2 19 "LockgateRouter$Canal" "upper" "LLockgateRouter$Basin;", Cond.fieldLink RX2 23 "LockgateRouter$Canal" "lower" "LLockgateRouter$Basin;", Cond.fieldLink RX2 26 "LockgateRouter$Canal" "length" "I", Cond.fieldLink RX2 29 "LockgateRouter$Canal" "lift" "I", Cond.methodLink RX4 61 yJx4a65c_add_9ea2d, Cond.instanceMethod yJx4a65c_add_9ea2d, Cond.selects RJx4a65c yJx4a65c_add_9ea2d yJx4a65c_add_9ea2d, Cond.code yJx4a65c_add_9ea2d cJx4a65c_add_9ea2d 2 (some .boolean), Cond.fieldLink RJx4a65c 63 "java/util/ArrayList" "modCount" "I", Cond.sameField "java/util/ArrayList" "java/util/AbstractList" "modCount" "I", Cond.fieldLink RJx4a65c 9 "java/util/ArrayList" "elementData" "[Ljava/lang/Object;", Cond.methodLink RJx4a65c 131 yJx4a65c_add_72be8, Cond.instanceMethod yJx4a65c_add_72be8, Cond.selects RJx4a65c yJx4a65c_add_72be8 yJx4a65c_add_72be8, Cond.code yJx4a65c_add_72be8 cJx4a65c_add_72be8 4 none]
def wsX4_dig_r3 : List Cond := [Cond.methodLink RJx4a65c 129 yJx4a65c_grow_d5877, Cond.instanceMethod yJx4a65c_grow_d5877, Cond.selects RJx4a65c yJx4a65c_grow_d5877 yJx4a65c_grow_d5877, Cond.code yJx4a65c_grow_d5877 cJx4a65c_grow_d5877 1 (some (.array (.object "java/lang/Object"))), Cond.methodLink RJx4a65c 69 yJx4a65c_grow_92f84, Cond.instanceMethod yJx4a65c_grow_92f84, Cond.selects RJx4a65c yJx4a65c_grow_92f84 yJx4a65c_grow_92f84, Cond.code yJx4a65c_grow_92f84 cJx4a65c_grow_92f84 4 (some (.array (.object "java/lang/Object"))), Cond.fieldLink RJx4a65c 39 "java/util/ArrayList" "DEFAULTCAPACITY_EMPTY_ELEMENTDATA" "[Ljava/lang/Object;", Cond.methodLink RJx4a65c 79 Lib.Math.max.name, Cond.static Lib.Math.max.name, Cond.initialized "java/lang/Math", Cond.code Lib.Math.max.name Lib.Math.max.code 2 (some .int), Cond.classLink RJx4a65c 7 "java/lang/Object", Cond.methodLink RJx4a65c 73 yJ8_newLength_cabcc, Cond.static yJ8_newLength_cabcc, Cond.initialized RJ8, Cond.code yJ8_newLength_cabcc cJ8_newLength_cabcc 4 (some .int), Cond.methodLink RJ8 194 Lib.Math.max.name, Cond.constant RJ8 200 (2147483639), Cond.methodLink RJ8 201 yJ8_hugeLength_7cf53, Cond.static yJ8_hugeLength_7cf53, Cond.code yJ8_hugeLength_7cf53 cJ8_hugeLength_7cf53 3 (some .int), Cond.methodLink RJx4a65c 66 yJ7_copyOf_1904c]
def wsX4_dig_r4 : List Cond := [Cond.static yJ7_copyOf_1904c, Cond.initialized RJ7, Cond.code yJ7_copyOf_1904c cJ7_copyOf_1904c 2 (some (.array (.object "java/lang/Object"))), Cond.methodLink RJ7 86 ⟨"java/lang/Object", "getClass", "()Ljava/lang/Class;"⟩, Cond.selects "[Ljava/lang/Object;" ⟨"java/lang/Object", "getClass", "()Ljava/lang/Class;"⟩ ⟨"java/lang/Object", "getClass", "()Ljava/lang/Class;"⟩, Cond.instanceMethod ⟨"java/lang/Object", "getClass", "()Ljava/lang/Class;"⟩, Cond.native ⟨"java/lang/Object", "getClass", "()Ljava/lang/Class;"⟩, Cond.methodLink RJ7 300 yJ7_copyOf_6403c, Cond.static yJ7_copyOf_6403c, Cond.code yJ7_copyOf_6403c cJ7_copyOf_6403c 4 (some (.array (.object "java/lang/Object"))), Cond.classLink RJ7 110 "[Ljava/lang/Object;", Cond.classLink RJ7 2 "java/lang/Object", Cond.methodLink RJ7 304 Lib.Math.min.name, Cond.static Lib.Math.min.name, Cond.code Lib.Math.min.name Lib.Math.min.code 2 (some .int), Cond.methodLink RJ7 150 arraycopyName, Cond.native arraycopyName, Cond.static arraycopyName, Cond.initialized "java/lang/System"]
def wsX4_dig : List Cond := .code yX4_dig cX4_dig 8 (some .int) :: ((wsX4_dig_r1 ++ (wsX4_dig_r2 ++ (wsX4_dig_r3 ++ wsX4_dig_r4))) ++ wsX40 ++ wsX20 ++ wsJx4a65c0 ++ (vx_atS RX4 40 "java/lang/IllegalArgumentException" ["java/lang/RuntimeException", "java/lang/Exception"]).filter goodWord ++ (vx_atS RX4 55 "java/lang/IllegalStateException" ["java/lang/RuntimeException", "java/lang/Exception"]).filter goodWord ++ (vx_atS RX4 186 "java/lang/IndexOutOfBoundsException" ["java/lang/RuntimeException", "java/lang/Exception"]).filter goodWord)
def wsJ3_checkIndex_8e157 : List Cond := .code yJ3_checkIndex_8e157 cJ3_checkIndex_8e157 3 (some .int) :: ([])
def wsJ15_checkIndex_7cf53 : List Cond := .code yJ15_checkIndex_7cf53 cJ15_checkIndex_7cf53 2 (some .int) :: ([.methodLink RJ15 105 yJ3_checkIndex_8e157, .static yJ3_checkIndex_8e157, .initialized RJ3, .code yJ3_checkIndex_8e157 cJ3_checkIndex_8e157 3 (some .int)])
def wsJx4a65c_elementData_915e3 : List Cond := .code yJx4a65c_elementData_915e3 cJx4a65c_elementData_915e3 2 (some (.object "java/lang/Object")) :: ([.fieldLink RJx4a65c 9 "java/util/ArrayList" "elementData" "[Ljava/lang/Object;"] ++ wsJx4a65c0)
def wsJx4a65c_get_915e3 : List Cond := .code yJx4a65c_get_915e3 cJx4a65c_get_915e3 2 (some (.object "java/lang/Object")) :: ([.fieldLink RJx4a65c 48 "java/util/ArrayList" "size" "I", .methodLink RJx4a65c 118 yJ15_checkIndex_7cf53, .static yJ15_checkIndex_7cf53, .initialized RJ15, .code yJ15_checkIndex_7cf53 cJ15_checkIndex_7cf53 2 (some .int), .methodLink RJ15 105 yJ3_checkIndex_8e157, .static yJ3_checkIndex_8e157, .initialized RJ3, .code yJ3_checkIndex_8e157 cJ3_checkIndex_8e157 3 (some .int), .methodLink RJx4a65c 123 yJx4a65c_elementData_915e3, .instanceMethod yJx4a65c_elementData_915e3, .selects RJx4a65c yJx4a65c_elementData_915e3 yJx4a65c_elementData_915e3, .initialized RJx4a65c, .code yJx4a65c_elementData_915e3 cJx4a65c_elementData_915e3 2 (some (.object "java/lang/Object")), .fieldLink RJx4a65c 9 "java/util/ArrayList" "elementData" "[Ljava/lang/Object;"] ++ wsJx4a65c0)
def wsX4_canalNumbered_r1 : List Cond := [Cond.classLink RX4 182 "java/lang/IndexOutOfBoundsException", Cond.initialized "java/lang/IndexOutOfBoundsException", Cond.fieldLink RX4 18 "LockgateRouter" "dug" "Ljava/util/ArrayList;", Cond.classLink RX4 56 "LockgateRouter$Canal", Cond.methodLink RX4 47 yJx4a65c_size_8abf5, Cond.instanceMethod yJx4a65c_size_8abf5, Cond.selects RJx4a65c yJx4a65c_size_8abf5 yJx4a65c_size_8abf5, Cond.initialized RJx4a65c, Cond.code yJx4a65c_size_8abf5 cJx4a65c_size_8abf5 1 (some .int), Cond.fieldLink RJx4a65c 48 "java/util/ArrayList" "size" "I", Cond.methodLink RX4 177 yJx4a65c_get_915e3, Cond.instanceMethod yJx4a65c_get_915e3, Cond.selects RJx4a65c yJx4a65c_get_915e3 yJx4a65c_get_915e3, Cond.code yJx4a65c_get_915e3 cJx4a65c_get_915e3 2 (some (.object "java/lang/Object")), Cond.methodLink RJx4a65c 118 yJ15_checkIndex_7cf53, Cond.static yJ15_checkIndex_7cf53, Cond.initialized RJ15, Cond.code yJ15_checkIndex_7cf53 cJ15_checkIndex_7cf53 2 (some .int), Cond.methodLink RJ15 105 yJ3_checkIndex_8e157, Cond.static yJ3_checkIndex_8e157, Cond.initialized RJ3, Cond.code yJ3_checkIndex_8e157 cJ3_checkIndex_8e157 3 (some .int), Cond.methodLink RJx4a65c 123 yJx4a65c_elementData_915e3, Cond.instanceMethod yJx4a65c_elementData_915e3]
def wsX4_canalNumbered_r2 : List Cond := [Cond.selects RJx4a65c yJx4a65c_elementData_915e3 yJx4a65c_elementData_915e3, Cond.code yJx4a65c_elementData_915e3 cJx4a65c_elementData_915e3 2 (some (.object "java/lang/Object")), Cond.fieldLink RJx4a65c 9 "java/util/ArrayList" "elementData" "[Ljava/lang/Object;"]
def wsX4_canalNumbered : List Cond := .code yX4_canalNumbered cX4_canalNumbered 2 (some (.object "LockgateRouter$Canal")) :: ((wsX4_canalNumbered_r1 ++ wsX4_canalNumbered_r2) ++ wsX40 ++ wsJx4a65c0 ++ (vx_atS RX4 186 "java/lang/IndexOutOfBoundsException" ["java/lang/RuntimeException", "java/lang/Exception"]).filter goodWord)
def wsX4_setGate_r1 : List Cond := [Cond.fieldLink RX4 69 "LockgateRouter$Canal" "gateOpen" "Z", Cond.methodLink RX4 65 yX4_canalNumbered, Cond.instanceMethod yX4_canalNumbered, Cond.selects RX4 yX4_canalNumbered yX4_canalNumbered, Cond.initialized RX4, Cond.code yX4_canalNumbered cX4_canalNumbered 2 (some (.object "LockgateRouter$Canal")), Cond.classLink RX4 182 "java/lang/IndexOutOfBoundsException", Cond.initialized "java/lang/IndexOutOfBoundsException", Cond.fieldLink RX4 18 "LockgateRouter" "dug" "Ljava/util/ArrayList;", Cond.classLink RX4 56 "LockgateRouter$Canal", Cond.methodLink RX4 47 yJx4a65c_size_8abf5, Cond.instanceMethod yJx4a65c_size_8abf5, Cond.selects RJx4a65c yJx4a65c_size_8abf5 yJx4a65c_size_8abf5, Cond.initialized RJx4a65c, Cond.code yJx4a65c_size_8abf5 cJx4a65c_size_8abf5 1 (some .int), Cond.fieldLink RJx4a65c 48 "java/util/ArrayList" "size" "I", Cond.methodLink RX4 177 yJx4a65c_get_915e3, Cond.instanceMethod yJx4a65c_get_915e3, Cond.selects RJx4a65c yJx4a65c_get_915e3 yJx4a65c_get_915e3, Cond.code yJx4a65c_get_915e3 cJx4a65c_get_915e3 2 (some (.object "java/lang/Object")), Cond.methodLink RJx4a65c 118 yJ15_checkIndex_7cf53, Cond.static yJ15_checkIndex_7cf53, Cond.initialized RJ15, Cond.code yJ15_checkIndex_7cf53 cJ15_checkIndex_7cf53 2 (some .int)]
def wsX4_setGate_r2 : List Cond := [Cond.methodLink RJ15 105 yJ3_checkIndex_8e157, Cond.static yJ3_checkIndex_8e157, Cond.initialized RJ3, Cond.code yJ3_checkIndex_8e157 cJ3_checkIndex_8e157 3 (some .int), Cond.methodLink RJx4a65c 123 yJx4a65c_elementData_915e3, Cond.instanceMethod yJx4a65c_elementData_915e3, Cond.selects RJx4a65c yJx4a65c_elementData_915e3 yJx4a65c_elementData_915e3, Cond.code yJx4a65c_elementData_915e3 cJx4a65c_elementData_915e3 2 (some (.object "java/lang/Object")), Cond.fieldLink RJx4a65c 9 "java/util/ArrayList" "elementData" "[Ljava/lang/Object;"]
def wsX4_setGate : List Cond := .code yX4_setGate cX4_setGate 5 (some .boolean) :: ((wsX4_setGate_r1 ++ wsX4_setGate_r2) ++ wsX20 ++ wsX40 ++ wsJx4a65c0 ++ (vx_atS RX4 186 "java/lang/IndexOutOfBoundsException" ["java/lang/RuntimeException", "java/lang/Exception"]).filter goodWord)
def wsX4_setMark : List Cond := .code yX4_setMark cX4_setMark 5 (some .int) :: ([.fieldLink RX4 73 "LockgateRouter$Basin" "mark" "I", .methodLink RX4 32 yX4_basinNumbered, .instanceMethod yX4_basinNumbered, .selects RX4 yX4_basinNumbered yX4_basinNumbered, .initialized RX4, .code yX4_basinNumbered cX4_basinNumbered 2 (some (.object "LockgateRouter$Basin")), .classLink RX4 182 "java/lang/IndexOutOfBoundsException", .initialized "java/lang/IndexOutOfBoundsException", .fieldLink RX4 11 "LockgateRouter" "basins" "[LLockgateRouter$Basin;", .methodLink RX4 43 yX4_requireRange, .static yX4_requireRange, .code yX4_requireRange cX4_requireRange 3 none, .classLink RX4 36 "java/lang/IllegalArgumentException", .initialized "java/lang/IllegalArgumentException"] ++ wsX10 ++ wsX40 ++ (vx_atS RX4 186 "java/lang/IndexOutOfBoundsException" ["java/lang/RuntimeException", "java/lang/Exception"]).filter goodWord ++ (vx_atS RX4 40 "java/lang/IllegalArgumentException" ["java/lang/RuntimeException", "java/lang/Exception"]).filter goodWord)
def wsX4_rain_r1 : List Cond := [Cond.fieldLink RX4 77 "LockgateRouter" "lostWater" "I", Cond.fieldLink RX4 84 "LockgateRouter$Basin" "level" "I", Cond.methodLink RX4 32 yX4_basinNumbered, Cond.instanceMethod yX4_basinNumbered, Cond.selects RX4 yX4_basinNumbered yX4_basinNumbered, Cond.initialized RX4, Cond.code yX4_basinNumbered cX4_basinNumbered 2 (some (.object "LockgateRouter$Basin")), Cond.classLink RX4 182 "java/lang/IndexOutOfBoundsException", Cond.initialized "java/lang/IndexOutOfBoundsException", Cond.fieldLink RX4 11 "LockgateRouter" "basins" "[LLockgateRouter$Basin;", Cond.methodLink RX4 43 yX4_requireRange, Cond.static yX4_requireRange, Cond.code yX4_requireRange cX4_requireRange 3 none, Cond.classLink RX4 36 "java/lang/IllegalArgumentException", Cond.initialized "java/lang/IllegalArgumentException", Cond.methodLink RX4 80 yX1_fill, Cond.instanceMethod yX1_fill, Cond.selects RX1 yX1_fill yX1_fill, Cond.initialized RX1, Cond.code yX1_fill cX1_fill 3 (some .int), Cond.fieldLink RX1 18 "LockgateRouter$Basin" "level" "I", Cond.methodLink RX1 46 Lib.Math.max.name, Cond.static Lib.Math.max.name, Cond.initialized "java/lang/Math"]
def wsX4_rain_r2 : List Cond := [Cond.code Lib.Math.max.name Lib.Math.max.code 2 (some .int)]
def wsX4_rain : List Cond := .code yX4_rain cX4_rain 4 (some .int) :: ((wsX4_rain_r1 ++ wsX4_rain_r2) ++ wsX40 ++ wsX10 ++ (vx_atS RX4 186 "java/lang/IndexOutOfBoundsException" ["java/lang/RuntimeException", "java/lang/Exception"]).filter goodWord ++ (vx_atS RX4 40 "java/lang/IllegalArgumentException" ["java/lang/RuntimeException", "java/lang/Exception"]).filter goodWord)
def wsX4_countLowBasins : List Cond := .code yX4_countLowBasins cX4_countLowBasins 3 (some .int) :: ([.fieldLink RX4 11 "LockgateRouter" "basins" "[LLockgateRouter$Basin;", .fieldLink RX4 84 "LockgateRouter$Basin" "level" "I"] ++ wsX40 ++ wsX10)
def wsX4_dry : List Cond := .code yX4_dry cX4_dry 4 (some .int) :: ([.fieldLink RX4 11 "LockgateRouter" "basins" "[LLockgateRouter$Basin;", .methodLink RX4 43 yX4_requireRange, .static yX4_requireRange, .initialized RX4, .code yX4_requireRange cX4_requireRange 3 none, .classLink RX4 36 "java/lang/IllegalArgumentException", .initialized "java/lang/IllegalArgumentException", .methodLink RX4 87 yX1_loseDryDayWater, .instanceMethod yX1_loseDryDayWater, .selects RX1 yX1_loseDryDayWater yX1_loseDryDayWater, .initialized RX1, .code yX1_loseDryDayWater cX1_loseDryDayWater 1 none, .fieldLink RX1 18 "LockgateRouter$Basin" "level" "I", .methodLink RX1 46 Lib.Math.max.name, .static Lib.Math.max.name, .initialized "java/lang/Math", .code Lib.Math.max.name Lib.Math.max.code 2 (some .int), .methodLink RX4 90 yX4_countLowBasins, .instanceMethod yX4_countLowBasins, .selects RX4 yX4_countLowBasins yX4_countLowBasins, .code yX4_countLowBasins cX4_countLowBasins 3 (some .int), .fieldLink RX4 84 "LockgateRouter$Basin" "level" "I"] ++ wsX40 ++ wsX10 ++ (vx_atS RX4 40 "java/lang/IllegalArgumentException" ["java/lang/RuntimeException", "java/lang/Exception"]).filter goodWord)
def wsX4_prepareNextTables_r1 : List Cond := [Cond.fieldLink RX4 11 "LockgateRouter" "basins" "[LLockgateRouter$Basin;", Cond.fieldLink RX4 193 "LockgateRouter$Basin" "nextTable" "LLockgateRouter$Table;", Cond.fieldLink RX4 18 "LockgateRouter" "dug" "Ljava/util/ArrayList;", Cond.classLink RX4 56 "LockgateRouter$Canal", Cond.fieldLink RX4 69 "LockgateRouter$Canal" "gateOpen" "Z", Cond.fieldLink RX4 199 "LockgateRouter$Canal" "upper" "LLockgateRouter$Basin;", Cond.fieldLink RX4 202 "LockgateRouter$Canal" "lower" "LLockgateRouter$Basin;", Cond.methodLink RX4 196 yX3_clearFor, Cond.instanceMethod yX3_clearFor, Cond.selects RX3 yX3_clearFor yX3_clearFor, Cond.initialized RX3, Cond.code yX3_clearFor cX3_clearFor 3 none, Cond.fieldLink RX3 9 "LockgateRouter$Table" "distances" "[I", Cond.fieldLink RX3 17 "LockgateRouter$Table" "canals" "[LLockgateRouter$Canal;", Cond.methodLink RX4 47 yJx4a65c_size_8abf5, Cond.instanceMethod yJx4a65c_size_8abf5, Cond.selects RJx4a65c yJx4a65c_size_8abf5 yJx4a65c_size_8abf5, Cond.initialized RJx4a65c, Cond.code yJx4a65c_size_8abf5 cJx4a65c_size_8abf5 1 (some .int), Cond.fieldLink RJx4a65c 48 "java/util/ArrayList" "size" "I", Cond.methodLink RX4 177 yJx4a65c_get_915e3, Cond.instanceMethod yJx4a65c_get_915e3, Cond.selects RJx4a65c yJx4a65c_get_915e3 yJx4a65c_get_915e3, Cond.code yJx4a65c_get_915e3 cJx4a65c_get_915e3 2 (some (.object "java/lang/Object"))]
def wsX4_prepareNextTables_r2 : List Cond := [Cond.methodLink RJx4a65c 118 yJ15_checkIndex_7cf53, Cond.static yJ15_checkIndex_7cf53, Cond.initialized RJ15, Cond.code yJ15_checkIndex_7cf53 cJ15_checkIndex_7cf53 2 (some .int), Cond.methodLink RJ15 105 yJ3_checkIndex_8e157, Cond.static yJ3_checkIndex_8e157, Cond.initialized RJ3, Cond.code yJ3_checkIndex_8e157 cJ3_checkIndex_8e157 3 (some .int), Cond.methodLink RJx4a65c 123 yJx4a65c_elementData_915e3, Cond.instanceMethod yJx4a65c_elementData_915e3, Cond.selects RJx4a65c yJx4a65c_elementData_915e3 yJx4a65c_elementData_915e3, Cond.code yJx4a65c_elementData_915e3 cJx4a65c_elementData_915e3 2 (some (.object "java/lang/Object")), Cond.fieldLink RJx4a65c 9 "java/util/ArrayList" "elementData" "[Ljava/lang/Object;", Cond.methodLink RX4 205 yX1_hearNeighbour, Cond.instanceMethod yX1_hearNeighbour, Cond.selects RX1 yX1_hearNeighbour yX1_hearNeighbour, Cond.initialized RX1, Cond.code yX1_hearNeighbour cX1_hearNeighbour 6 none, Cond.fieldLink RX1 28 "LockgateRouter$Basin" "table" "LLockgateRouter$Table;", Cond.fieldLink RX1 61 "LockgateRouter$Table" "distances" "[I", Cond.fieldLink RX1 35 "LockgateRouter$Basin" "number" "I", Cond.fieldLink RX1 32 "LockgateRouter$Basin" "nextTable" "LLockgateRouter$Table;", Cond.methodLink RX1 56 yX2_costNow, Cond.instanceMethod yX2_costNow]
def wsX4_prepareNextTables_r3 : List Cond := [Cond.selects RX2 yX2_costNow yX2_costNow, Cond.initialized RX2, Cond.code yX2_costNow cX2_costNow 1 (some .int), Cond.fieldLink RX2 26 "LockgateRouter$Canal" "length" "I", Cond.fieldLink RX2 19 "LockgateRouter$Canal" "upper" "LLockgateRouter$Basin;", Cond.fieldLink RX2 23 "LockgateRouter$Canal" "lower" "LLockgateRouter$Basin;", Cond.methodLink RX2 32 yX1_costOfLowWater, Cond.instanceMethod yX1_costOfLowWater, Cond.selects RX1 yX1_costOfLowWater yX1_costOfLowWater, Cond.code yX1_costOfLowWater cX1_costOfLowWater 1 (some .int), Cond.fieldLink RX1 18 "LockgateRouter$Basin" "level" "I", Cond.methodLink RX1 65 yX3_offer, Cond.instanceMethod yX3_offer, Cond.selects RX3 yX3_offer yX3_offer, Cond.code yX3_offer cX3_offer 4 none]
def wsX4_prepareNextTables : List Cond := .code yX4_prepareNextTables cX4_prepareNextTables 3 none :: ((wsX4_prepareNextTables_r1 ++ (wsX4_prepareNextTables_r2 ++ wsX4_prepareNextTables_r3)) ++ wsX40 ++ wsX10 ++ wsX20 ++ wsX30 ++ wsJx4a65c0)
def wsX4_countNextChanges : List Cond := .code yX4_countNextChanges cX4_countNextChanges 3 (some .int) :: ([.fieldLink RX4 11 "LockgateRouter" "basins" "[LLockgateRouter$Basin;", .fieldLink RX4 133 "LockgateRouter$Basin" "table" "LLockgateRouter$Table;", .fieldLink RX4 193 "LockgateRouter$Basin" "nextTable" "LLockgateRouter$Table;", .methodLink RX4 209 yX3_countDifferences, .instanceMethod yX3_countDifferences, .selects RX3 yX3_countDifferences yX3_countDifferences, .initialized RX3, .code yX3_countDifferences cX3_countDifferences 4 (some .int), .fieldLink RX3 9 "LockgateRouter$Table" "distances" "[I", .fieldLink RX3 17 "LockgateRouter$Table" "canals" "[LLockgateRouter$Canal;"] ++ wsX40 ++ wsX10 ++ wsX30)
def wsX4_settle_r1 : List Cond := [Cond.fieldLink RX4 11 "LockgateRouter" "basins" "[LLockgateRouter$Basin;", Cond.methodLink RX4 43 yX4_requireRange, Cond.static yX4_requireRange, Cond.initialized RX4, Cond.code yX4_requireRange cX4_requireRange 3 none, Cond.classLink RX4 36 "java/lang/IllegalArgumentException", Cond.initialized "java/lang/IllegalArgumentException", Cond.methodLink RX4 93 yX4_prepareNextTables, Cond.instanceMethod yX4_prepareNextTables, Cond.selects RX4 yX4_prepareNextTables yX4_prepareNextTables, Cond.code yX4_prepareNextTables cX4_prepareNextTables 3 none, Cond.fieldLink RX4 193 "LockgateRouter$Basin" "nextTable" "LLockgateRouter$Table;", Cond.fieldLink RX4 18 "LockgateRouter" "dug" "Ljava/util/ArrayList;", Cond.classLink RX4 56 "LockgateRouter$Canal", Cond.fieldLink RX4 69 "LockgateRouter$Canal" "gateOpen" "Z", Cond.fieldLink RX4 199 "LockgateRouter$Canal" "upper" "LLockgateRouter$Basin;", Cond.fieldLink RX4 202 "LockgateRouter$Canal" "lower" "LLockgateRouter$Basin;", Cond.methodLink RX4 196 yX3_clearFor, Cond.instanceMethod yX3_clearFor, Cond.selects RX3 yX3_clearFor yX3_clearFor, Cond.initialized RX3, Cond.code yX3_clearFor cX3_clearFor 3 none, Cond.fieldLink RX3 9 "LockgateRouter$Table" "distances" "[I", Cond.fieldLink RX3 17 "LockgateRouter$Table" "canals" "[LLockgateRouter$Canal;"]
def wsX4_settle_r2 : List Cond := [Cond.methodLink RX4 47 yJx4a65c_size_8abf5, Cond.instanceMethod yJx4a65c_size_8abf5, Cond.selects RJx4a65c yJx4a65c_size_8abf5 yJx4a65c_size_8abf5, Cond.initialized RJx4a65c, Cond.code yJx4a65c_size_8abf5 cJx4a65c_size_8abf5 1 (some .int), Cond.fieldLink RJx4a65c 48 "java/util/ArrayList" "size" "I", Cond.methodLink RX4 177 yJx4a65c_get_915e3, Cond.instanceMethod yJx4a65c_get_915e3, Cond.selects RJx4a65c yJx4a65c_get_915e3 yJx4a65c_get_915e3, Cond.code yJx4a65c_get_915e3 cJx4a65c_get_915e3 2 (some (.object "java/lang/Object")), Cond.methodLink RJx4a65c 118 yJ15_checkIndex_7cf53, Cond.static yJ15_checkIndex_7cf53, Cond.initialized RJ15, Cond.code yJ15_checkIndex_7cf53 cJ15_checkIndex_7cf53 2 (some .int), Cond.methodLink RJ15 105 yJ3_checkIndex_8e157, Cond.static yJ3_checkIndex_8e157, Cond.initialized RJ3, Cond.code yJ3_checkIndex_8e157 cJ3_checkIndex_8e157 3 (some .int), Cond.methodLink RJx4a65c 123 yJx4a65c_elementData_915e3, Cond.instanceMethod yJx4a65c_elementData_915e3, Cond.selects RJx4a65c yJx4a65c_elementData_915e3 yJx4a65c_elementData_915e3, Cond.code yJx4a65c_elementData_915e3 cJx4a65c_elementData_915e3 2 (some (.object "java/lang/Object")), Cond.fieldLink RJx4a65c 9 "java/util/ArrayList" "elementData" "[Ljava/lang/Object;", Cond.methodLink RX4 205 yX1_hearNeighbour]
def wsX4_settle_r3 : List Cond := [Cond.instanceMethod yX1_hearNeighbour, Cond.selects RX1 yX1_hearNeighbour yX1_hearNeighbour, Cond.initialized RX1, Cond.code yX1_hearNeighbour cX1_hearNeighbour 6 none, Cond.fieldLink RX1 28 "LockgateRouter$Basin" "table" "LLockgateRouter$Table;", Cond.fieldLink RX1 61 "LockgateRouter$Table" "distances" "[I", Cond.fieldLink RX1 35 "LockgateRouter$Basin" "number" "I", Cond.fieldLink RX1 32 "LockgateRouter$Basin" "nextTable" "LLockgateRouter$Table;", Cond.methodLink RX1 56 yX2_costNow, Cond.instanceMethod yX2_costNow, Cond.selects RX2 yX2_costNow yX2_costNow, Cond.initialized RX2, Cond.code yX2_costNow cX2_costNow 1 (some .int), Cond.fieldLink RX2 26 "LockgateRouter$Canal" "length" "I", Cond.fieldLink RX2 19 "LockgateRouter$Canal" "upper" "LLockgateRouter$Basin;", Cond.fieldLink RX2 23 "LockgateRouter$Canal" "lower" "LLockgateRouter$Basin;", Cond.methodLink RX2 32 yX1_costOfLowWater, Cond.instanceMethod yX1_costOfLowWater, Cond.selects RX1 yX1_costOfLowWater yX1_costOfLowWater, Cond.code yX1_costOfLowWater cX1_costOfLowWater 1 (some .int), Cond.fieldLink RX1 18 "LockgateRouter$Basin" "level" "I", Cond.methodLink RX1 65 yX3_offer, Cond.instanceMethod yX3_offer, Cond.selects RX3 yX3_offer yX3_offer]
def wsX4_settle_r4 : List Cond := [Cond.code yX3_offer cX3_offer 4 none, Cond.methodLink RX4 96 yX4_countNextChanges, Cond.instanceMethod yX4_countNextChanges, Cond.selects RX4 yX4_countNextChanges yX4_countNextChanges, Cond.code yX4_countNextChanges cX4_countNextChanges 3 (some .int), Cond.fieldLink RX4 133 "LockgateRouter$Basin" "table" "LLockgateRouter$Table;", Cond.methodLink RX4 209 yX3_countDifferences, Cond.instanceMethod yX3_countDifferences, Cond.selects RX3 yX3_countDifferences yX3_countDifferences, Cond.code yX3_countDifferences cX3_countDifferences 4 (some .int), Cond.methodLink RX4 99 yX1_turnTable, Cond.instanceMethod yX1_turnTable, Cond.selects RX1 yX1_turnTable yX1_turnTable, Cond.code yX1_turnTable cX1_turnTable 2 none]
def wsX4_settle : List Cond := .code yX4_settle cX4_settle 5 (some .int) :: ((wsX4_settle_r1 ++ (wsX4_settle_r2 ++ (wsX4_settle_r3 ++ wsX4_settle_r4))) ++ wsX40 ++ wsX10 ++ wsX20 ++ wsX30 ++ wsJx4a65c0 ++ (vx_atS RX4 40 "java/lang/IllegalArgumentException" ["java/lang/RuntimeException", "java/lang/Exception"]).filter goodWord)
def wsX4_setOut_r1 : List Cond := [Cond.classLink RX4 51 "java/lang/IllegalStateException", Cond.initialized "java/lang/IllegalStateException", Cond.fieldLink RX4 22 "LockgateRouter" "fleet" "Ljava/util/ArrayList;", Cond.classLink RX4 108 RX0, Cond.instantiable RX0 9, Cond.initialized RX0, Cond.fieldLink RX4 113 "LockgateRouter$Barge" "condition" "I", Cond.fieldLink RX4 116 "LockgateRouter$Basin" "waiting" "Ljava/util/ArrayList;", Cond.methodLink RX4 32 yX4_basinNumbered, Cond.instanceMethod yX4_basinNumbered, Cond.selects RX4 yX4_basinNumbered yX4_basinNumbered, Cond.initialized RX4, Cond.code yX4_basinNumbered cX4_basinNumbered 2 (some (.object "LockgateRouter$Basin")), Cond.classLink RX4 182 "java/lang/IndexOutOfBoundsException", Cond.initialized "java/lang/IndexOutOfBoundsException", Cond.fieldLink RX4 11 "LockgateRouter" "basins" "[LLockgateRouter$Basin;", Cond.methodLink RX4 43 yX4_requireRange, Cond.static yX4_requireRange, Cond.code yX4_requireRange cX4_requireRange 3 none, Cond.classLink RX4 36 "java/lang/IllegalArgumentException", Cond.initialized "java/lang/IllegalArgumentException", Cond.methodLink RX4 47 yJx4a65c_size_8abf5, Cond.instanceMethod yJx4a65c_size_8abf5, Cond.selects RJx4a65c yJx4a65c_size_8abf5 yJx4a65c_size_8abf5]
def wsX4_setOut_r2 : List Cond := [Cond.initialized RJx4a65c, Cond.code yJx4a65c_size_8abf5 cJx4a65c_size_8abf5 1 (some .int), Cond.fieldLink RJx4a65c 48 "java/util/ArrayList" "size" "I", Cond.methodLink RX4 102 yX1_isFull, Cond.instanceMethod yX1_isFull, Cond.selects RX1 yX1_isFull yX1_isFull, Cond.initialized RX1, Cond.code yX1_isFull cX1_isFull 1 (some .boolean), Cond.fieldLink RX1 12 "LockgateRouter$Basin" "waiting" "Ljava/util/ArrayList;", Cond.methodLink RX1 42 yJx4a65c_size_8abf5, Cond.methodLink RX4 110 yX0_init, Cond.instanceMethod yX0_init, Cond.code yX0_init cX0_init 5 none, Cond.methodLink RX0 3 objectInit, Cond.instanceMethod objectInit, Cond.code objectInit ⟨#[0xb1]⟩ 1 none, Cond.arrayClass .boolean, Cond.fieldLink RX0 9 "LockgateRouter$Barge" "wasIn" "[Z", Cond.fieldLink RX0 15 "LockgateRouter$Barge" "condition" "I", Cond.fieldLink RX0 19 "LockgateRouter$Barge" "number" "I", Cond.fieldLink RX0 22 "LockgateRouter$Barge" "destination" "LLockgateRouter$Basin;", Cond.fieldLink RX0 26 "LockgateRouter$Barge" "place" "LLockgateRouter$Basin;", Cond.fieldLink RX0 29 "LockgateRouter$Basin" "number" "I", Cond.fieldLink RX0 32 "LockgateRouter$Barge" "lifeLeft" "I"]
def wsX4_setOut_r3 : List Cond := [Cond.methodLink RX4 61 yJx4a65c_add_9ea2d, Cond.instanceMethod yJx4a65c_add_9ea2d, Cond.selects RJx4a65c yJx4a65c_add_9ea2d yJx4a65c_add_9ea2d, Cond.code yJx4a65c_add_9ea2d cJx4a65c_add_9ea2d 2 (some .boolean), Cond.fieldLink RJx4a65c 63 "java/util/ArrayList" "modCount" "I", Cond.sameField "java/util/ArrayList" "java/util/AbstractList" "modCount" "I", Cond.fieldLink RJx4a65c 9 "java/util/ArrayList" "elementData" "[Ljava/lang/Object;", Cond.methodLink RJx4a65c 131 yJx4a65c_add_72be8, Cond.instanceMethod yJx4a65c_add_72be8, Cond.selects RJx4a65c yJx4a65c_add_72be8 yJx4a65c_add_72be8, Cond.code yJx4a65c_add_72be8 cJx4a65c_add_72be8 4 none, Cond.methodLink RJx4a65c 129 yJx4a65c_grow_d5877, Cond.instanceMethod yJx4a65c_grow_d5877, Cond.selects RJx4a65c yJx4a65c_grow_d5877 yJx4a65c_grow_d5877, Cond.code yJx4a65c_grow_d5877 cJx4a65c_grow_d5877 1 (some (.array (.object "java/lang/Object"))), Cond.methodLink RJx4a65c 69 yJx4a65c_grow_92f84, Cond.instanceMethod yJx4a65c_grow_92f84, Cond.selects RJx4a65c yJx4a65c_grow_92f84 yJx4a65c_grow_92f84, Cond.code yJx4a65c_grow_92f84 cJx4a65c_grow_92f84 4 (some (.array (.object "java/lang/Object"))), Cond.fieldLink RJx4a65c 39 "java/util/ArrayList" "DEFAULTCAPACITY_EMPTY_ELEMENTDATA" "[Ljava/lang/Object;", Cond.methodLink RJx4a65c 79 Lib.Math.max.name, Cond.static Lib.Math.max.name, Cond.initialized "java/lang/Math", Cond.code Lib.Math.max.name Lib.Math.max.code 2 (some .int)]
def wsX4_setOut_r4 : List Cond := [Cond.classLink RJx4a65c 7 "java/lang/Object", Cond.methodLink RJx4a65c 73 yJ8_newLength_cabcc, Cond.static yJ8_newLength_cabcc, Cond.initialized RJ8, Cond.code yJ8_newLength_cabcc cJ8_newLength_cabcc 4 (some .int), Cond.methodLink RJ8 194 Lib.Math.max.name, Cond.constant RJ8 200 (2147483639), Cond.methodLink RJ8 201 yJ8_hugeLength_7cf53, Cond.static yJ8_hugeLength_7cf53, Cond.code yJ8_hugeLength_7cf53 cJ8_hugeLength_7cf53 3 (some .int), Cond.methodLink RJx4a65c 66 yJ7_copyOf_1904c, Cond.static yJ7_copyOf_1904c, Cond.initialized RJ7, Cond.code yJ7_copyOf_1904c cJ7_copyOf_1904c 2 (some (.array (.object "java/lang/Object"))), Cond.methodLink RJ7 86 ⟨"java/lang/Object", "getClass", "()Ljava/lang/Class;"⟩, Cond.selects "[Ljava/lang/Object;" ⟨"java/lang/Object", "getClass", "()Ljava/lang/Class;"⟩ ⟨"java/lang/Object", "getClass", "()Ljava/lang/Class;"⟩, Cond.instanceMethod ⟨"java/lang/Object", "getClass", "()Ljava/lang/Class;"⟩, Cond.native ⟨"java/lang/Object", "getClass", "()Ljava/lang/Class;"⟩, Cond.methodLink RJ7 300 yJ7_copyOf_6403c, Cond.static yJ7_copyOf_6403c, Cond.code yJ7_copyOf_6403c cJ7_copyOf_6403c 4 (some (.array (.object "java/lang/Object"))), Cond.classLink RJ7 110 "[Ljava/lang/Object;", Cond.classLink RJ7 2 "java/lang/Object", Cond.methodLink RJ7 304 Lib.Math.min.name]
def wsX4_setOut_r5 : List Cond := [Cond.static Lib.Math.min.name, Cond.code Lib.Math.min.name Lib.Math.min.code 2 (some .int), Cond.methodLink RJ7 150 arraycopyName, Cond.native arraycopyName, Cond.static arraycopyName, Cond.initialized "java/lang/System"]
def wsX4_setOut : List Cond := .code yX4_setOut cX4_setOut 8 (some .int) :: ((wsX4_setOut_r1 ++ (wsX4_setOut_r2 ++ (wsX4_setOut_r3 ++ (wsX4_setOut_r4 ++ wsX4_setOut_r5)))) ++ wsX40 ++ wsX00 ++ wsX10 ++ wsJx4a65c0 ++ (vx_atS RX4 55 "java/lang/IllegalStateException" ["java/lang/RuntimeException", "java/lang/Exception"]).filter goodWord ++ (vx_atS RX4 186 "java/lang/IndexOutOfBoundsException" ["java/lang/RuntimeException", "java/lang/Exception"]).filter goodWord ++ (vx_atS RX4 40 "java/lang/IllegalArgumentException" ["java/lang/RuntimeException", "java/lang/Exception"]).filter goodWord)
def wsJx4a65c_isEmpty_aae02 : List Cond := .code yJx4a65c_isEmpty_aae02 cJx4a65c_isEmpty_aae02 1 (some .boolean) :: ([.fieldLink RJx4a65c 48 "java/util/ArrayList" "size" "I"] ++ wsJx4a65c0)
def wsX4_takesIn : List Cond := .code yX4_takesIn cX4_takesIn 3 (some .boolean) :: ([.fieldLink RX4 231 "LockgateRouter$Barge" "destination" "LLockgateRouter$Basin;", .fieldLink RX4 116 "LockgateRouter$Basin" "waiting" "Ljava/util/ArrayList;", .fieldLink RX4 73 "LockgateRouter$Basin" "mark" "I", .fieldLink RX4 119 "LockgateRouter" "tickCount" "I", .methodLink RX4 102 yX1_isFull, .instanceMethod yX1_isFull, .selects RX1 yX1_isFull yX1_isFull, .initialized RX1, .code yX1_isFull cX1_isFull 1 (some .boolean), .fieldLink RX1 12 "LockgateRouter$Basin" "waiting" "Ljava/util/ArrayList;", .methodLink RX1 42 yJx4a65c_size_8abf5, .instanceMethod yJx4a65c_size_8abf5, .selects RJx4a65c yJx4a65c_size_8abf5 yJx4a65c_size_8abf5, .initialized RJx4a65c, .code yJx4a65c_size_8abf5 cJx4a65c_size_8abf5 1 (some .int), .fieldLink RJx4a65c 48 "java/util/ArrayList" "size" "I", .methodLink RX4 47 yJx4a65c_size_8abf5] ++ wsX00 ++ wsX10 ++ wsX40 ++ wsJx4a65c0)
def wsJx4a65c_fastRemove_b59b0 : List Cond := .code yJx4a65c_fastRemove_b59b0 cJx4a65c_fastRemove_b59b0 4 none :: ([.fieldLink RJx4a65c 63 "java/util/ArrayList" "modCount" "I", .sameField "java/util/ArrayList" "java/util/AbstractList" "modCount" "I", .fieldLink RJx4a65c 48 "java/util/ArrayList" "size" "I", .methodLink RJx4a65c 112 arraycopyName, .native arraycopyName, .static arraycopyName, .initialized "java/lang/System"] ++ wsJx4a65c0)
def wsJx4a65c_remove_915e3 : List Cond := .code yJx4a65c_remove_915e3 cJx4a65c_remove_915e3 4 (some (.object "java/lang/Object")) :: ([.fieldLink RJx4a65c 48 "java/util/ArrayList" "size" "I", .fieldLink RJx4a65c 9 "java/util/ArrayList" "elementData" "[Ljava/lang/Object;", .methodLink RJx4a65c 118 yJ15_checkIndex_7cf53, .static yJ15_checkIndex_7cf53, .initialized RJ15, .code yJ15_checkIndex_7cf53 cJ15_checkIndex_7cf53 2 (some .int), .methodLink RJ15 105 yJ3_checkIndex_8e157, .static yJ3_checkIndex_8e157, .initialized RJ3, .code yJ3_checkIndex_8e157 cJ3_checkIndex_8e157 3 (some .int), .methodLink RJx4a65c 144 yJx4a65c_fastRemove_b59b0, .instanceMethod yJx4a65c_fastRemove_b59b0, .selects RJx4a65c yJx4a65c_fastRemove_b59b0 yJx4a65c_fastRemove_b59b0, .initialized RJx4a65c, .code yJx4a65c_fastRemove_b59b0 cJx4a65c_fastRemove_b59b0 4 none, .fieldLink RJx4a65c 63 "java/util/ArrayList" "modCount" "I", .sameField "java/util/ArrayList" "java/util/AbstractList" "modCount" "I", .methodLink RJx4a65c 112 arraycopyName, .native arraycopyName, .static arraycopyName, .initialized "java/lang/System"] ++ wsJx4a65c0)
def wsX4_sendFirst_r1 : List Cond := [Cond.fieldLink RX4 116 "LockgateRouter$Basin" "waiting" "Ljava/util/ArrayList;", Cond.classLink RX4 108 "LockgateRouter$Barge", Cond.fieldLink RX4 228 "LockgateRouter$Barge" "cameInTick" "I", Cond.fieldLink RX4 119 "LockgateRouter" "tickCount" "I", Cond.fieldLink RX4 231 "LockgateRouter$Barge" "destination" "LLockgateRouter$Basin;", Cond.fieldLink RX4 77 "LockgateRouter" "lostWater" "I", Cond.fieldLink RX4 113 "LockgateRouter$Barge" "condition" "I", Cond.methodLink RX4 225 yJx4a65c_isEmpty_aae02, Cond.instanceMethod yJx4a65c_isEmpty_aae02, Cond.selects RJx4a65c yJx4a65c_isEmpty_aae02 yJx4a65c_isEmpty_aae02, Cond.initialized RJx4a65c, Cond.code yJx4a65c_isEmpty_aae02 cJx4a65c_isEmpty_aae02 1 (some .boolean), Cond.fieldLink RJx4a65c 48 "java/util/ArrayList" "size" "I", Cond.methodLink RX4 177 yJx4a65c_get_915e3, Cond.instanceMethod yJx4a65c_get_915e3, Cond.selects RJx4a65c yJx4a65c_get_915e3 yJx4a65c_get_915e3, Cond.code yJx4a65c_get_915e3 cJx4a65c_get_915e3 2 (some (.object "java/lang/Object")), Cond.methodLink RJx4a65c 118 yJ15_checkIndex_7cf53, Cond.static yJ15_checkIndex_7cf53, Cond.initialized RJ15, Cond.code yJ15_checkIndex_7cf53 cJ15_checkIndex_7cf53 2 (some .int), Cond.methodLink RJ15 105 yJ3_checkIndex_8e157, Cond.static yJ3_checkIndex_8e157, Cond.initialized RJ3]
def wsX4_sendFirst_r2 : List Cond := [Cond.code yJ3_checkIndex_8e157 cJ3_checkIndex_8e157 3 (some .int), Cond.methodLink RJx4a65c 123 yJx4a65c_elementData_915e3, Cond.instanceMethod yJx4a65c_elementData_915e3, Cond.selects RJx4a65c yJx4a65c_elementData_915e3 yJx4a65c_elementData_915e3, Cond.code yJx4a65c_elementData_915e3 cJx4a65c_elementData_915e3 2 (some (.object "java/lang/Object")), Cond.fieldLink RJx4a65c 9 "java/util/ArrayList" "elementData" "[Ljava/lang/Object;", Cond.methodLink RX4 145 yX1_canalTowards, Cond.instanceMethod yX1_canalTowards, Cond.selects RX1 yX1_canalTowards yX1_canalTowards, Cond.initialized RX1, Cond.code yX1_canalTowards cX1_canalTowards 2 (some (.object "LockgateRouter$Canal")), Cond.fieldLink RX1 28 "LockgateRouter$Basin" "table" "LLockgateRouter$Table;", Cond.fieldLink RX1 52 "LockgateRouter$Table" "canals" "[LLockgateRouter$Canal;", Cond.fieldLink RX1 35 "LockgateRouter$Basin" "number" "I", Cond.methodLink RX4 130 yX2_isPassable, Cond.instanceMethod yX2_isPassable, Cond.selects RX2 yX2_isPassable yX2_isPassable, Cond.initialized RX2, Cond.code yX2_isPassable cX2_isPassable 1 (some .boolean), Cond.fieldLink RX2 9 "LockgateRouter$Canal" "gateOpen" "Z", Cond.fieldLink RX2 19 "LockgateRouter$Canal" "upper" "LLockgateRouter$Basin;", Cond.fieldLink RX2 38 "LockgateRouter$Basin" "level" "I", Cond.fieldLink RX2 29 "LockgateRouter$Canal" "lift" "I", Cond.methodLink RX4 217 yX2_otherEnd]
def wsX4_sendFirst_r3 : List Cond := [Cond.instanceMethod yX2_otherEnd, Cond.selects RX2 yX2_otherEnd yX2_otherEnd, Cond.code yX2_otherEnd cX2_otherEnd 2 (some (.object "LockgateRouter$Basin")), Cond.fieldLink RX2 23 "LockgateRouter$Canal" "lower" "LLockgateRouter$Basin;", Cond.methodLink RX4 234 yX4_takesIn, Cond.instanceMethod yX4_takesIn, Cond.selects RX4 yX4_takesIn yX4_takesIn, Cond.initialized RX4, Cond.code yX4_takesIn cX4_takesIn 3 (some .boolean), Cond.fieldLink RX4 73 "LockgateRouter$Basin" "mark" "I", Cond.methodLink RX4 102 yX1_isFull, Cond.instanceMethod yX1_isFull, Cond.selects RX1 yX1_isFull yX1_isFull, Cond.code yX1_isFull cX1_isFull 1 (some .boolean), Cond.fieldLink RX1 12 "LockgateRouter$Basin" "waiting" "Ljava/util/ArrayList;", Cond.methodLink RX1 42 yJx4a65c_size_8abf5, Cond.instanceMethod yJx4a65c_size_8abf5, Cond.selects RJx4a65c yJx4a65c_size_8abf5 yJx4a65c_size_8abf5, Cond.code yJx4a65c_size_8abf5 cJx4a65c_size_8abf5 1 (some .int), Cond.methodLink RX4 47 yJx4a65c_size_8abf5, Cond.methodLink RX4 238 yJx4a65c_remove_915e3, Cond.instanceMethod yJx4a65c_remove_915e3, Cond.selects RJx4a65c yJx4a65c_remove_915e3 yJx4a65c_remove_915e3, Cond.code yJx4a65c_remove_915e3 cJx4a65c_remove_915e3 4 (some (.object "java/lang/Object"))]
def wsX4_sendFirst_r4 : List Cond := [Cond.methodLink RJx4a65c 144 yJx4a65c_fastRemove_b59b0, Cond.instanceMethod yJx4a65c_fastRemove_b59b0, Cond.selects RJx4a65c yJx4a65c_fastRemove_b59b0 yJx4a65c_fastRemove_b59b0, Cond.code yJx4a65c_fastRemove_b59b0 cJx4a65c_fastRemove_b59b0 4 none, Cond.fieldLink RJx4a65c 63 "java/util/ArrayList" "modCount" "I", Cond.sameField "java/util/ArrayList" "java/util/AbstractList" "modCount" "I", Cond.methodLink RJx4a65c 112 arraycopyName, Cond.native arraycopyName, Cond.static arraycopyName, Cond.initialized "java/lang/System", Cond.methodLink RX4 241 yX2_lockThrough, Cond.instanceMethod yX2_lockThrough, Cond.selects RX2 yX2_lockThrough yX2_lockThrough, Cond.code yX2_lockThrough cX2_lockThrough 1 (some .int), Cond.methodLink RX2 41 yX1_fill, Cond.instanceMethod yX1_fill, Cond.selects RX1 yX1_fill yX1_fill, Cond.code yX1_fill cX1_fill 3 (some .int), Cond.fieldLink RX1 18 "LockgateRouter$Basin" "level" "I", Cond.methodLink RX1 46 Lib.Math.max.name, Cond.static Lib.Math.max.name, Cond.initialized "java/lang/Math", Cond.code Lib.Math.max.name Lib.Math.max.code 2 (some .int), Cond.methodLink RX4 244 yX0_comeTo]
def wsX4_sendFirst_r5 : List Cond := [Cond.instanceMethod yX0_comeTo, Cond.selects RX0 yX0_comeTo yX0_comeTo, Cond.initialized RX0, Cond.code yX0_comeTo cX0_comeTo 3 none, Cond.fieldLink RX0 26 "LockgateRouter$Barge" "place" "LLockgateRouter$Basin;", Cond.fieldLink RX0 35 "LockgateRouter$Barge" "cameInTick" "I", Cond.fieldLink RX0 38 "LockgateRouter$Barge" "hopsMade" "I", Cond.fieldLink RX0 32 "LockgateRouter$Barge" "lifeLeft" "I", Cond.fieldLink RX0 9 "LockgateRouter$Barge" "wasIn" "[Z", Cond.fieldLink RX0 29 "LockgateRouter$Basin" "number" "I", Cond.fieldLink RX0 41 "LockgateRouter$Barge" "repeatsMade" "I", Cond.fieldLink RX0 22 "LockgateRouter$Barge" "destination" "LLockgateRouter$Basin;", Cond.fieldLink RX0 15 "LockgateRouter$Barge" "condition" "I", Cond.methodLink RX4 61 yJx4a65c_add_9ea2d, Cond.instanceMethod yJx4a65c_add_9ea2d, Cond.selects RJx4a65c yJx4a65c_add_9ea2d yJx4a65c_add_9ea2d, Cond.code yJx4a65c_add_9ea2d cJx4a65c_add_9ea2d 2 (some .boolean), Cond.methodLink RJx4a65c 131 yJx4a65c_add_72be8, Cond.instanceMethod yJx4a65c_add_72be8, Cond.selects RJx4a65c yJx4a65c_add_72be8 yJx4a65c_add_72be8, Cond.code yJx4a65c_add_72be8 cJx4a65c_add_72be8 4 none, Cond.methodLink RJx4a65c 129 yJx4a65c_grow_d5877, Cond.instanceMethod yJx4a65c_grow_d5877, Cond.selects RJx4a65c yJx4a65c_grow_d5877 yJx4a65c_grow_d5877]
def wsX4_sendFirst_r6 : List Cond := [Cond.code yJx4a65c_grow_d5877 cJx4a65c_grow_d5877 1 (some (.array (.object "java/lang/Object"))), Cond.methodLink RJx4a65c 69 yJx4a65c_grow_92f84, Cond.instanceMethod yJx4a65c_grow_92f84, Cond.selects RJx4a65c yJx4a65c_grow_92f84 yJx4a65c_grow_92f84, Cond.code yJx4a65c_grow_92f84 cJx4a65c_grow_92f84 4 (some (.array (.object "java/lang/Object"))), Cond.fieldLink RJx4a65c 39 "java/util/ArrayList" "DEFAULTCAPACITY_EMPTY_ELEMENTDATA" "[Ljava/lang/Object;", Cond.methodLink RJx4a65c 79 Lib.Math.max.name, Cond.classLink RJx4a65c 7 "java/lang/Object", Cond.methodLink RJx4a65c 73 yJ8_newLength_cabcc, Cond.static yJ8_newLength_cabcc, Cond.initialized RJ8, Cond.code yJ8_newLength_cabcc cJ8_newLength_cabcc 4 (some .int), Cond.methodLink RJ8 194 Lib.Math.max.name, Cond.constant RJ8 200 (2147483639), Cond.methodLink RJ8 201 yJ8_hugeLength_7cf53, Cond.static yJ8_hugeLength_7cf53, Cond.code yJ8_hugeLength_7cf53 cJ8_hugeLength_7cf53 3 (some .int), Cond.methodLink RJx4a65c 66 yJ7_copyOf_1904c, Cond.static yJ7_copyOf_1904c, Cond.initialized RJ7, Cond.code yJ7_copyOf_1904c cJ7_copyOf_1904c 2 (some (.array (.object "java/lang/Object"))), Cond.methodLink RJ7 86 ⟨"java/lang/Object", "getClass", "()Ljava/lang/Class;"⟩, Cond.selects "[Ljava/lang/Object;" ⟨"java/lang/Object", "getClass", "()Ljava/lang/Class;"⟩ ⟨"java/lang/Object", "getClass", "()Ljava/lang/Class;"⟩, Cond.instanceMethod ⟨"java/lang/Object", "getClass", "()Ljava/lang/Class;"⟩]
def wsX4_sendFirst_r7 : List Cond := [Cond.native ⟨"java/lang/Object", "getClass", "()Ljava/lang/Class;"⟩, Cond.methodLink RJ7 300 yJ7_copyOf_6403c, Cond.static yJ7_copyOf_6403c, Cond.code yJ7_copyOf_6403c cJ7_copyOf_6403c 4 (some (.array (.object "java/lang/Object"))), Cond.classLink RJ7 110 "[Ljava/lang/Object;", Cond.classLink RJ7 2 "java/lang/Object", Cond.methodLink RJ7 304 Lib.Math.min.name, Cond.static Lib.Math.min.name, Cond.code Lib.Math.min.name Lib.Math.min.code 2 (some .int), Cond.methodLink RJ7 150 arraycopyName]
def wsX4_sendFirst : List Cond := .code yX4_sendFirst cX4_sendFirst 5 (some .boolean) :: ((wsX4_sendFirst_r1 ++ (wsX4_sendFirst_r2 ++ (wsX4_sendFirst_r3 ++ (wsX4_sendFirst_r4 ++ (wsX4_sendFirst_r5 ++ (wsX4_sendFirst_r6 ++ wsX4_sendFirst_r7)))))) ++ wsX10 ++ wsX00 ++ wsX40 ++ wsJx4a65c0 ++ wsX30 ++ wsX20)
def wsX4_tickBarges_r1 : List Cond := [Cond.fieldLink RX4 119 "LockgateRouter" "tickCount" "I", Cond.fieldLink RX4 11 "LockgateRouter" "basins" "[LLockgateRouter$Basin;", Cond.methodLink RX4 221 yX4_sendFirst, Cond.instanceMethod yX4_sendFirst, Cond.selects RX4 yX4_sendFirst yX4_sendFirst, Cond.initialized RX4, Cond.code yX4_sendFirst cX4_sendFirst 5 (some .boolean), Cond.fieldLink RX4 116 "LockgateRouter$Basin" "waiting" "Ljava/util/ArrayList;", Cond.classLink RX4 108 "LockgateRouter$Barge", Cond.fieldLink RX4 228 "LockgateRouter$Barge" "cameInTick" "I", Cond.fieldLink RX4 231 "LockgateRouter$Barge" "destination" "LLockgateRouter$Basin;", Cond.fieldLink RX4 77 "LockgateRouter" "lostWater" "I", Cond.fieldLink RX4 113 "LockgateRouter$Barge" "condition" "I", Cond.methodLink RX4 225 yJx4a65c_isEmpty_aae02, Cond.instanceMethod yJx4a65c_isEmpty_aae02, Cond.selects RJx4a65c yJx4a65c_isEmpty_aae02 yJx4a65c_isEmpty_aae02, Cond.initialized RJx4a65c, Cond.code yJx4a65c_isEmpty_aae02 cJx4a65c_isEmpty_aae02 1 (some .boolean), Cond.fieldLink RJx4a65c 48 "java/util/ArrayList" "size" "I", Cond.methodLink RX4 177 yJx4a65c_get_915e3, Cond.instanceMethod yJx4a65c_get_915e3, Cond.selects RJx4a65c yJx4a65c_get_915e3 yJx4a65c_get_915e3, Cond.code yJx4a65c_get_915e3 cJx4a65c_get_915e3 2 (some (.object "java/lang/Object")), Cond.methodLink RJx4a65c 118 yJ15_checkIndex_7cf53]
def wsX4_tickBarges_r2 : List Cond := [Cond.static yJ15_checkIndex_7cf53, Cond.initialized RJ15, Cond.code yJ15_checkIndex_7cf53 cJ15_checkIndex_7cf53 2 (some .int), Cond.methodLink RJ15 105 yJ3_checkIndex_8e157, Cond.static yJ3_checkIndex_8e157, Cond.initialized RJ3, Cond.code yJ3_checkIndex_8e157 cJ3_checkIndex_8e157 3 (some .int), Cond.methodLink RJx4a65c 123 yJx4a65c_elementData_915e3, Cond.instanceMethod yJx4a65c_elementData_915e3, Cond.selects RJx4a65c yJx4a65c_elementData_915e3 yJx4a65c_elementData_915e3, Cond.code yJx4a65c_elementData_915e3 cJx4a65c_elementData_915e3 2 (some (.object "java/lang/Object")), Cond.fieldLink RJx4a65c 9 "java/util/ArrayList" "elementData" "[Ljava/lang/Object;", Cond.methodLink RX4 145 yX1_canalTowards, Cond.instanceMethod yX1_canalTowards, Cond.selects RX1 yX1_canalTowards yX1_canalTowards, Cond.initialized RX1, Cond.code yX1_canalTowards cX1_canalTowards 2 (some (.object "LockgateRouter$Canal")), Cond.fieldLink RX1 28 "LockgateRouter$Basin" "table" "LLockgateRouter$Table;", Cond.fieldLink RX1 52 "LockgateRouter$Table" "canals" "[LLockgateRouter$Canal;", Cond.fieldLink RX1 35 "LockgateRouter$Basin" "number" "I", Cond.methodLink RX4 130 yX2_isPassable, Cond.instanceMethod yX2_isPassable, Cond.selects RX2 yX2_isPassable yX2_isPassable, Cond.initialized RX2]
def wsX4_tickBarges_r3 : List Cond := [Cond.code yX2_isPassable cX2_isPassable 1 (some .boolean), Cond.fieldLink RX2 9 "LockgateRouter$Canal" "gateOpen" "Z", Cond.fieldLink RX2 19 "LockgateRouter$Canal" "upper" "LLockgateRouter$Basin;", Cond.fieldLink RX2 38 "LockgateRouter$Basin" "level" "I", Cond.fieldLink RX2 29 "LockgateRouter$Canal" "lift" "I", Cond.methodLink RX4 217 yX2_otherEnd, Cond.instanceMethod yX2_otherEnd, Cond.selects RX2 yX2_otherEnd yX2_otherEnd, Cond.code yX2_otherEnd cX2_otherEnd 2 (some (.object "LockgateRouter$Basin")), Cond.fieldLink RX2 23 "LockgateRouter$Canal" "lower" "LLockgateRouter$Basin;", Cond.methodLink RX4 234 yX4_takesIn, Cond.instanceMethod yX4_takesIn, Cond.selects RX4 yX4_takesIn yX4_takesIn, Cond.code yX4_takesIn cX4_takesIn 3 (some .boolean), Cond.fieldLink RX4 73 "LockgateRouter$Basin" "mark" "I", Cond.methodLink RX4 102 yX1_isFull, Cond.instanceMethod yX1_isFull, Cond.selects RX1 yX1_isFull yX1_isFull, Cond.code yX1_isFull cX1_isFull 1 (some .boolean), Cond.fieldLink RX1 12 "LockgateRouter$Basin" "waiting" "Ljava/util/ArrayList;", Cond.methodLink RX1 42 yJx4a65c_size_8abf5, Cond.instanceMethod yJx4a65c_size_8abf5, Cond.selects RJx4a65c yJx4a65c_size_8abf5 yJx4a65c_size_8abf5, Cond.code yJx4a65c_size_8abf5 cJx4a65c_size_8abf5 1 (some .int)]
def wsX4_tickBarges_r4 : List Cond := [Cond.methodLink RX4 47 yJx4a65c_size_8abf5, Cond.methodLink RX4 238 yJx4a65c_remove_915e3, Cond.instanceMethod yJx4a65c_remove_915e3, Cond.selects RJx4a65c yJx4a65c_remove_915e3 yJx4a65c_remove_915e3, Cond.code yJx4a65c_remove_915e3 cJx4a65c_remove_915e3 4 (some (.object "java/lang/Object")), Cond.methodLink RJx4a65c 144 yJx4a65c_fastRemove_b59b0, Cond.instanceMethod yJx4a65c_fastRemove_b59b0, Cond.selects RJx4a65c yJx4a65c_fastRemove_b59b0 yJx4a65c_fastRemove_b59b0, Cond.code yJx4a65c_fastRemove_b59b0 cJx4a65c_fastRemove_b59b0 4 none, Cond.fieldLink RJx4a65c 63 "java/util/ArrayList" "modCount" "I", Cond.sameField "java/util/ArrayList" "java/util/AbstractList" "modCount" "I", Cond.methodLink RJx4a65c 112 arraycopyName, Cond.native arraycopyName, Cond.static arraycopyName, Cond.initialized "java/lang/System", Cond.methodLink RX4 241 yX2_lockThrough, Cond.instanceMethod yX2_lockThrough, Cond.selects RX2 yX2_lockThrough yX2_lockThrough, Cond.code yX2_lockThrough cX2_lockThrough 1 (some .int), Cond.methodLink RX2 41 yX1_fill, Cond.instanceMethod yX1_fill, Cond.selects RX1 yX1_fill yX1_fill, Cond.code yX1_fill cX1_fill 3 (some .int), Cond.fieldLink RX1 18 "LockgateRouter$Basin" "level" "I"]
def wsX4_tickBarges_r5 : List Cond := [Cond.methodLink RX1 46 Lib.Math.max.name, Cond.static Lib.Math.max.name, Cond.initialized "java/lang/Math", Cond.code Lib.Math.max.name Lib.Math.max.code 2 (some .int), Cond.methodLink RX4 244 yX0_comeTo, Cond.instanceMethod yX0_comeTo, Cond.selects RX0 yX0_comeTo yX0_comeTo, Cond.initialized RX0, Cond.code yX0_comeTo cX0_comeTo 3 none, Cond.fieldLink RX0 26 "LockgateRouter$Barge" "place" "LLockgateRouter$Basin;", Cond.fieldLink RX0 35 "LockgateRouter$Barge" "cameInTick" "I", Cond.fieldLink RX0 38 "LockgateRouter$Barge" "hopsMade" "I", Cond.fieldLink RX0 32 "LockgateRouter$Barge" "lifeLeft" "I", Cond.fieldLink RX0 9 "LockgateRouter$Barge" "wasIn" "[Z", Cond.fieldLink RX0 29 "LockgateRouter$Basin" "number" "I", Cond.fieldLink RX0 41 "LockgateRouter$Barge" "repeatsMade" "I", Cond.fieldLink RX0 22 "LockgateRouter$Barge" "destination" "LLockgateRouter$Basin;", Cond.fieldLink RX0 15 "LockgateRouter$Barge" "condition" "I", Cond.methodLink RX4 61 yJx4a65c_add_9ea2d, Cond.instanceMethod yJx4a65c_add_9ea2d, Cond.selects RJx4a65c yJx4a65c_add_9ea2d yJx4a65c_add_9ea2d, Cond.code yJx4a65c_add_9ea2d cJx4a65c_add_9ea2d 2 (some .boolean), Cond.methodLink RJx4a65c 131 yJx4a65c_add_72be8, Cond.instanceMethod yJx4a65c_add_72be8]
def wsX4_tickBarges_r6 : List Cond := [Cond.selects RJx4a65c yJx4a65c_add_72be8 yJx4a65c_add_72be8, Cond.code yJx4a65c_add_72be8 cJx4a65c_add_72be8 4 none, Cond.methodLink RJx4a65c 129 yJx4a65c_grow_d5877, Cond.instanceMethod yJx4a65c_grow_d5877, Cond.selects RJx4a65c yJx4a65c_grow_d5877 yJx4a65c_grow_d5877, Cond.code yJx4a65c_grow_d5877 cJx4a65c_grow_d5877 1 (some (.array (.object "java/lang/Object"))), Cond.methodLink RJx4a65c 69 yJx4a65c_grow_92f84, Cond.instanceMethod yJx4a65c_grow_92f84, Cond.selects RJx4a65c yJx4a65c_grow_92f84 yJx4a65c_grow_92f84, Cond.code yJx4a65c_grow_92f84 cJx4a65c_grow_92f84 4 (some (.array (.object "java/lang/Object"))), Cond.fieldLink RJx4a65c 39 "java/util/ArrayList" "DEFAULTCAPACITY_EMPTY_ELEMENTDATA" "[Ljava/lang/Object;", Cond.methodLink RJx4a65c 79 Lib.Math.max.name, Cond.classLink RJx4a65c 7 "java/lang/Object", Cond.methodLink RJx4a65c 73 yJ8_newLength_cabcc, Cond.static yJ8_newLength_cabcc, Cond.initialized RJ8, Cond.code yJ8_newLength_cabcc cJ8_newLength_cabcc 4 (some .int), Cond.methodLink RJ8 194 Lib.Math.max.name, Cond.constant RJ8 200 (2147483639), Cond.methodLink RJ8 201 yJ8_hugeLength_7cf53, Cond.static yJ8_hugeLength_7cf53, Cond.code yJ8_hugeLength_7cf53 cJ8_hugeLength_7cf53 3 (some .int), Cond.methodLink RJx4a65c 66 yJ7_copyOf_1904c, Cond.static yJ7_copyOf_1904c]
def wsX4_tickBarges_r7 : List Cond := [Cond.initialized RJ7, Cond.code yJ7_copyOf_1904c cJ7_copyOf_1904c 2 (some (.array (.object "java/lang/Object"))), Cond.methodLink RJ7 86 ⟨"java/lang/Object", "getClass", "()Ljava/lang/Class;"⟩, Cond.selects "[Ljava/lang/Object;" ⟨"java/lang/Object", "getClass", "()Ljava/lang/Class;"⟩ ⟨"java/lang/Object", "getClass", "()Ljava/lang/Class;"⟩, Cond.instanceMethod ⟨"java/lang/Object", "getClass", "()Ljava/lang/Class;"⟩, Cond.native ⟨"java/lang/Object", "getClass", "()Ljava/lang/Class;"⟩, Cond.methodLink RJ7 300 yJ7_copyOf_6403c, Cond.static yJ7_copyOf_6403c, Cond.code yJ7_copyOf_6403c cJ7_copyOf_6403c 4 (some (.array (.object "java/lang/Object"))), Cond.classLink RJ7 110 "[Ljava/lang/Object;", Cond.classLink RJ7 2 "java/lang/Object", Cond.methodLink RJ7 304 Lib.Math.min.name, Cond.static Lib.Math.min.name, Cond.code Lib.Math.min.name Lib.Math.min.code 2 (some .int), Cond.methodLink RJ7 150 arraycopyName]
def wsX4_tickBarges : List Cond := .code yX4_tickBarges cX4_tickBarges 3 (some .int) :: ((wsX4_tickBarges_r1 ++ (wsX4_tickBarges_r2 ++ (wsX4_tickBarges_r3 ++ (wsX4_tickBarges_r4 ++ (wsX4_tickBarges_r5 ++ (wsX4_tickBarges_r6 ++ wsX4_tickBarges_r7)))))) ++ wsX40 ++ wsX10 ++ wsX00 ++ wsJx4a65c0 ++ wsX30 ++ wsX20)
def wsX4_move_r1 : List Cond := [Cond.classLink RX4 51 "java/lang/IllegalStateException", Cond.initialized "java/lang/IllegalStateException", Cond.fieldLink RX4 119 "LockgateRouter" "tickCount" "I", Cond.methodLink RX4 43 yX4_requireRange, Cond.static yX4_requireRange, Cond.initialized RX4, Cond.code yX4_requireRange cX4_requireRange 3 none, Cond.classLink RX4 36 "java/lang/IllegalArgumentException", Cond.initialized "java/lang/IllegalArgumentException", Cond.methodLink RX4 124 yX4_tickBarges, Cond.instanceMethod yX4_tickBarges, Cond.selects RX4 yX4_tickBarges yX4_tickBarges, Cond.code yX4_tickBarges cX4_tickBarges 3 (some .int), Cond.fieldLink RX4 11 "LockgateRouter" "basins" "[LLockgateRouter$Basin;", Cond.methodLink RX4 221 yX4_sendFirst, Cond.instanceMethod yX4_sendFirst, Cond.selects RX4 yX4_sendFirst yX4_sendFirst, Cond.code yX4_sendFirst cX4_sendFirst 5 (some .boolean), Cond.fieldLink RX4 116 "LockgateRouter$Basin" "waiting" "Ljava/util/ArrayList;", Cond.classLink RX4 108 "LockgateRouter$Barge", Cond.fieldLink RX4 228 "LockgateRouter$Barge" "cameInTick" "I", Cond.fieldLink RX4 231 "LockgateRouter$Barge" "destination" "LLockgateRouter$Basin;", Cond.fieldLink RX4 77 "LockgateRouter" "lostWater" "I", Cond.fieldLink RX4 113 "LockgateRouter$Barge" "condition" "I"]
def wsX4_move_r2 : List Cond := [Cond.methodLink RX4 225 yJx4a65c_isEmpty_aae02, Cond.instanceMethod yJx4a65c_isEmpty_aae02, Cond.selects RJx4a65c yJx4a65c_isEmpty_aae02 yJx4a65c_isEmpty_aae02, Cond.initialized RJx4a65c, Cond.code yJx4a65c_isEmpty_aae02 cJx4a65c_isEmpty_aae02 1 (some .boolean), Cond.fieldLink RJx4a65c 48 "java/util/ArrayList" "size" "I", Cond.methodLink RX4 177 yJx4a65c_get_915e3, Cond.instanceMethod yJx4a65c_get_915e3, Cond.selects RJx4a65c yJx4a65c_get_915e3 yJx4a65c_get_915e3, Cond.code yJx4a65c_get_915e3 cJx4a65c_get_915e3 2 (some (.object "java/lang/Object")), Cond.methodLink RJx4a65c 118 yJ15_checkIndex_7cf53, Cond.static yJ15_checkIndex_7cf53, Cond.initialized RJ15, Cond.code yJ15_checkIndex_7cf53 cJ15_checkIndex_7cf53 2 (some .int), Cond.methodLink RJ15 105 yJ3_checkIndex_8e157, Cond.static yJ3_checkIndex_8e157, Cond.initialized RJ3, Cond.code yJ3_checkIndex_8e157 cJ3_checkIndex_8e157 3 (some .int), Cond.methodLink RJx4a65c 123 yJx4a65c_elementData_915e3, Cond.instanceMethod yJx4a65c_elementData_915e3, Cond.selects RJx4a65c yJx4a65c_elementData_915e3 yJx4a65c_elementData_915e3, Cond.code yJx4a65c_elementData_915e3 cJx4a65c_elementData_915e3 2 (some (.object "java/lang/Object")), Cond.fieldLink RJx4a65c 9 "java/util/ArrayList" "elementData" "[Ljava/lang/Object;", Cond.methodLink RX4 145 yX1_canalTowards]
def wsX4_move_r3 : List Cond := [Cond.instanceMethod yX1_canalTowards, Cond.selects RX1 yX1_canalTowards yX1_canalTowards, Cond.initialized RX1, Cond.code yX1_canalTowards cX1_canalTowards 2 (some (.object "LockgateRouter$Canal")), Cond.fieldLink RX1 28 "LockgateRouter$Basin" "table" "LLockgateRouter$Table;", Cond.fieldLink RX1 52 "LockgateRouter$Table" "canals" "[LLockgateRouter$Canal;", Cond.fieldLink RX1 35 "LockgateRouter$Basin" "number" "I", Cond.methodLink RX4 130 yX2_isPassable, Cond.instanceMethod yX2_isPassable, Cond.selects RX2 yX2_isPassable yX2_isPassable, Cond.initialized RX2, Cond.code yX2_isPassable cX2_isPassable 1 (some .boolean), Cond.fieldLink RX2 9 "LockgateRouter$Canal" "gateOpen" "Z", Cond.fieldLink RX2 19 "LockgateRouter$Canal" "upper" "LLockgateRouter$Basin;", Cond.fieldLink RX2 38 "LockgateRouter$Basin" "level" "I", Cond.fieldLink RX2 29 "LockgateRouter$Canal" "lift" "I", Cond.methodLink RX4 217 yX2_otherEnd, Cond.instanceMethod yX2_otherEnd, Cond.selects RX2 yX2_otherEnd yX2_otherEnd, Cond.code yX2_otherEnd cX2_otherEnd 2 (some (.object "LockgateRouter$Basin")), Cond.fieldLink RX2 23 "LockgateRouter$Canal" "lower" "LLockgateRouter$Basin;", Cond.methodLink RX4 234 yX4_takesIn, Cond.instanceMethod yX4_takesIn, Cond.selects RX4 yX4_takesIn yX4_takesIn]
def wsX4_move_r4 : List Cond := [Cond.code yX4_takesIn cX4_takesIn 3 (some .boolean), Cond.fieldLink RX4 73 "LockgateRouter$Basin" "mark" "I", Cond.methodLink RX4 102 yX1_isFull, Cond.instanceMethod yX1_isFull, Cond.selects RX1 yX1_isFull yX1_isFull, Cond.code yX1_isFull cX1_isFull 1 (some .boolean), Cond.fieldLink RX1 12 "LockgateRouter$Basin" "waiting" "Ljava/util/ArrayList;", Cond.methodLink RX1 42 yJx4a65c_size_8abf5, Cond.instanceMethod yJx4a65c_size_8abf5, Cond.selects RJx4a65c yJx4a65c_size_8abf5 yJx4a65c_size_8abf5, Cond.code yJx4a65c_size_8abf5 cJx4a65c_size_8abf5 1 (some .int), Cond.methodLink RX4 47 yJx4a65c_size_8abf5, Cond.methodLink RX4 238 yJx4a65c_remove_915e3, Cond.instanceMethod yJx4a65c_remove_915e3, Cond.selects RJx4a65c yJx4a65c_remove_915e3 yJx4a65c_remove_915e3, Cond.code yJx4a65c_remove_915e3 cJx4a65c_remove_915e3 4 (some (.object "java/lang/Object")), Cond.methodLink RJx4a65c 144 yJx4a65c_fastRemove_b59b0, Cond.instanceMethod yJx4a65c_fastRemove_b59b0, Cond.selects RJx4a65c yJx4a65c_fastRemove_b59b0 yJx4a65c_fastRemove_b59b0, Cond.code yJx4a65c_fastRemove_b59b0 cJx4a65c_fastRemove_b59b0 4 none, Cond.fieldLink RJx4a65c 63 "java/util/ArrayList" "modCount" "I", Cond.sameField "java/util/ArrayList" "java/util/AbstractList" "modCount" "I", Cond.methodLink RJx4a65c 112 arraycopyName, Cond.native arraycopyName]
def wsX4_move_r5 : List Cond := [Cond.static arraycopyName, Cond.initialized "java/lang/System", Cond.methodLink RX4 241 yX2_lockThrough, Cond.instanceMethod yX2_lockThrough, Cond.selects RX2 yX2_lockThrough yX2_lockThrough, Cond.code yX2_lockThrough cX2_lockThrough 1 (some .int), Cond.methodLink RX2 41 yX1_fill, Cond.instanceMethod yX1_fill, Cond.selects RX1 yX1_fill yX1_fill, Cond.code yX1_fill cX1_fill 3 (some .int), Cond.fieldLink RX1 18 "LockgateRouter$Basin" "level" "I", Cond.methodLink RX1 46 Lib.Math.max.name, Cond.static Lib.Math.max.name, Cond.initialized "java/lang/Math", Cond.code Lib.Math.max.name Lib.Math.max.code 2 (some .int), Cond.methodLink RX4 244 yX0_comeTo, Cond.instanceMethod yX0_comeTo, Cond.selects RX0 yX0_comeTo yX0_comeTo, Cond.initialized RX0, Cond.code yX0_comeTo cX0_comeTo 3 none, Cond.fieldLink RX0 26 "LockgateRouter$Barge" "place" "LLockgateRouter$Basin;", Cond.fieldLink RX0 35 "LockgateRouter$Barge" "cameInTick" "I", Cond.fieldLink RX0 38 "LockgateRouter$Barge" "hopsMade" "I", Cond.fieldLink RX0 32 "LockgateRouter$Barge" "lifeLeft" "I"]
def wsX4_move_r6 : List Cond := [Cond.fieldLink RX0 9 "LockgateRouter$Barge" "wasIn" "[Z", Cond.fieldLink RX0 29 "LockgateRouter$Basin" "number" "I", Cond.fieldLink RX0 41 "LockgateRouter$Barge" "repeatsMade" "I", Cond.fieldLink RX0 22 "LockgateRouter$Barge" "destination" "LLockgateRouter$Basin;", Cond.fieldLink RX0 15 "LockgateRouter$Barge" "condition" "I", Cond.methodLink RX4 61 yJx4a65c_add_9ea2d, Cond.instanceMethod yJx4a65c_add_9ea2d, Cond.selects RJx4a65c yJx4a65c_add_9ea2d yJx4a65c_add_9ea2d, Cond.code yJx4a65c_add_9ea2d cJx4a65c_add_9ea2d 2 (some .boolean), Cond.methodLink RJx4a65c 131 yJx4a65c_add_72be8, Cond.instanceMethod yJx4a65c_add_72be8, Cond.selects RJx4a65c yJx4a65c_add_72be8 yJx4a65c_add_72be8, Cond.code yJx4a65c_add_72be8 cJx4a65c_add_72be8 4 none, Cond.methodLink RJx4a65c 129 yJx4a65c_grow_d5877, Cond.instanceMethod yJx4a65c_grow_d5877, Cond.selects RJx4a65c yJx4a65c_grow_d5877 yJx4a65c_grow_d5877, Cond.code yJx4a65c_grow_d5877 cJx4a65c_grow_d5877 1 (some (.array (.object "java/lang/Object"))), Cond.methodLink RJx4a65c 69 yJx4a65c_grow_92f84, Cond.instanceMethod yJx4a65c_grow_92f84, Cond.selects RJx4a65c yJx4a65c_grow_92f84 yJx4a65c_grow_92f84, Cond.code yJx4a65c_grow_92f84 cJx4a65c_grow_92f84 4 (some (.array (.object "java/lang/Object"))), Cond.fieldLink RJx4a65c 39 "java/util/ArrayList" "DEFAULTCAPACITY_EMPTY_ELEMENTDATA" "[Ljava/lang/Object;", Cond.methodLink RJx4a65c 79 Lib.Math.max.name, Cond.classLink RJx4a65c 7 "java/lang/Object"]
def wsX4_move_r7 : List Cond := [Cond.methodLink RJx4a65c 73 yJ8_newLength_cabcc, Cond.static yJ8_newLength_cabcc, Cond.initialized RJ8, Cond.code yJ8_newLength_cabcc cJ8_newLength_cabcc 4 (some .int), Cond.methodLink RJ8 194 Lib.Math.max.name, Cond.constant RJ8 200 (2147483639), Cond.methodLink RJ8 201 yJ8_hugeLength_7cf53, Cond.static yJ8_hugeLength_7cf53, Cond.code yJ8_hugeLength_7cf53 cJ8_hugeLength_7cf53 3 (some .int), Cond.methodLink RJx4a65c 66 yJ7_copyOf_1904c, Cond.static yJ7_copyOf_1904c, Cond.initialized RJ7, Cond.code yJ7_copyOf_1904c cJ7_copyOf_1904c 2 (some (.array (.object "java/lang/Object"))), Cond.methodLink RJ7 86 ⟨"java/lang/Object", "getClass", "()Ljava/lang/Class;"⟩, Cond.selects "[Ljava/lang/Object;" ⟨"java/lang/Object", "getClass", "()Ljava/lang/Class;"⟩ ⟨"java/lang/Object", "getClass", "()Ljava/lang/Class;"⟩, Cond.instanceMethod ⟨"java/lang/Object", "getClass", "()Ljava/lang/Class;"⟩, Cond.native ⟨"java/lang/Object", "getClass", "()Ljava/lang/Class;"⟩, Cond.methodLink RJ7 300 yJ7_copyOf_6403c, Cond.static yJ7_copyOf_6403c, Cond.code yJ7_copyOf_6403c cJ7_copyOf_6403c 4 (some (.array (.object "java/lang/Object"))), Cond.classLink RJ7 110 "[Ljava/lang/Object;", Cond.classLink RJ7 2 "java/lang/Object", Cond.methodLink RJ7 304 Lib.Math.min.name, Cond.static Lib.Math.min.name]
def wsX4_move_r8 : List Cond := [Cond.code Lib.Math.min.name Lib.Math.min.code 2 (some .int), Cond.methodLink RJ7 150 arraycopyName]
def wsX4_move : List Cond := .code yX4_move cX4_move 4 (some .int) :: ((wsX4_move_r1 ++ (wsX4_move_r2 ++ (wsX4_move_r3 ++ (wsX4_move_r4 ++ (wsX4_move_r5 ++ (wsX4_move_r6 ++ (wsX4_move_r7 ++ wsX4_move_r8))))))) ++ wsX40 ++ wsX10 ++ wsX00 ++ wsJx4a65c0 ++ wsX30 ++ wsX20 ++ (vx_atS RX4 55 "java/lang/IllegalStateException" ["java/lang/RuntimeException", "java/lang/Exception"]).filter goodWord ++ (vx_atS RX4 40 "java/lang/IllegalArgumentException" ["java/lang/RuntimeException", "java/lang/Exception"]).filter goodWord)
def wsX4_canals : List Cond := .code yX4_canals cX4_canals 1 (some .int) :: ([.fieldLink RX4 18 "LockgateRouter" "dug" "Ljava/util/ArrayList;", .methodLink RX4 47 yJx4a65c_size_8abf5, .instanceMethod yJx4a65c_size_8abf5, .selects RJx4a65c yJx4a65c_size_8abf5 yJx4a65c_size_8abf5, .initialized RJx4a65c, .code yJx4a65c_size_8abf5 cJx4a65c_size_8abf5 1 (some .int), .fieldLink RJx4a65c 48 "java/util/ArrayList" "size" "I"] ++ wsX40 ++ wsJx4a65c0)
def wsX4_water : List Cond := .code yX4_water cX4_water 2 (some .int) :: ([.fieldLink RX4 84 "LockgateRouter$Basin" "level" "I", .methodLink RX4 32 yX4_basinNumbered, .instanceMethod yX4_basinNumbered, .selects RX4 yX4_basinNumbered yX4_basinNumbered, .initialized RX4, .code yX4_basinNumbered cX4_basinNumbered 2 (some (.object "LockgateRouter$Basin")), .classLink RX4 182 "java/lang/IndexOutOfBoundsException", .initialized "java/lang/IndexOutOfBoundsException", .fieldLink RX4 11 "LockgateRouter" "basins" "[LLockgateRouter$Basin;"] ++ wsX10 ++ wsX40 ++ (vx_atS RX4 186 "java/lang/IndexOutOfBoundsException" ["java/lang/RuntimeException", "java/lang/Exception"]).filter goodWord)
def wsX4_allWater : List Cond := .code yX4_allWater cX4_allWater 3 (some .int) :: ([.fieldLink RX4 11 "LockgateRouter" "basins" "[LLockgateRouter$Basin;", .fieldLink RX4 84 "LockgateRouter$Basin" "level" "I"] ++ wsX40 ++ wsX10)
def wsX4_spilt : List Cond := .code yX4_spilt cX4_spilt 1 (some .int) :: ([.fieldLink RX4 77 "LockgateRouter" "lostWater" "I"] ++ wsX40)
def wsX4_cost_r1 : List Cond := [Cond.methodLink RX4 65 yX4_canalNumbered, Cond.instanceMethod yX4_canalNumbered, Cond.selects RX4 yX4_canalNumbered yX4_canalNumbered, Cond.initialized RX4, Cond.code yX4_canalNumbered cX4_canalNumbered 2 (some (.object "LockgateRouter$Canal")), Cond.classLink RX4 182 "java/lang/IndexOutOfBoundsException", Cond.initialized "java/lang/IndexOutOfBoundsException", Cond.fieldLink RX4 18 "LockgateRouter" "dug" "Ljava/util/ArrayList;", Cond.classLink RX4 56 "LockgateRouter$Canal", Cond.methodLink RX4 47 yJx4a65c_size_8abf5, Cond.instanceMethod yJx4a65c_size_8abf5, Cond.selects RJx4a65c yJx4a65c_size_8abf5 yJx4a65c_size_8abf5, Cond.initialized RJx4a65c, Cond.code yJx4a65c_size_8abf5 cJx4a65c_size_8abf5 1 (some .int), Cond.fieldLink RJx4a65c 48 "java/util/ArrayList" "size" "I", Cond.methodLink RX4 177 yJx4a65c_get_915e3, Cond.instanceMethod yJx4a65c_get_915e3, Cond.selects RJx4a65c yJx4a65c_get_915e3 yJx4a65c_get_915e3, Cond.code yJx4a65c_get_915e3 cJx4a65c_get_915e3 2 (some (.object "java/lang/Object")), Cond.methodLink RJx4a65c 118 yJ15_checkIndex_7cf53, Cond.static yJ15_checkIndex_7cf53, Cond.initialized RJ15, Cond.code yJ15_checkIndex_7cf53 cJ15_checkIndex_7cf53 2 (some .int), Cond.methodLink RJ15 105 yJ3_checkIndex_8e157]
def wsX4_cost_r2 : List Cond := [Cond.static yJ3_checkIndex_8e157, Cond.initialized RJ3, Cond.code yJ3_checkIndex_8e157 cJ3_checkIndex_8e157 3 (some .int), Cond.methodLink RJx4a65c 123 yJx4a65c_elementData_915e3, Cond.instanceMethod yJx4a65c_elementData_915e3, Cond.selects RJx4a65c yJx4a65c_elementData_915e3 yJx4a65c_elementData_915e3, Cond.code yJx4a65c_elementData_915e3 cJx4a65c_elementData_915e3 2 (some (.object "java/lang/Object")), Cond.fieldLink RJx4a65c 9 "java/util/ArrayList" "elementData" "[Ljava/lang/Object;", Cond.methodLink RX4 127 yX2_costNow, Cond.instanceMethod yX2_costNow, Cond.selects RX2 yX2_costNow yX2_costNow, Cond.initialized RX2, Cond.code yX2_costNow cX2_costNow 1 (some .int), Cond.fieldLink RX2 26 "LockgateRouter$Canal" "length" "I", Cond.fieldLink RX2 19 "LockgateRouter$Canal" "upper" "LLockgateRouter$Basin;", Cond.fieldLink RX2 23 "LockgateRouter$Canal" "lower" "LLockgateRouter$Basin;", Cond.methodLink RX2 32 yX1_costOfLowWater, Cond.instanceMethod yX1_costOfLowWater, Cond.selects RX1 yX1_costOfLowWater yX1_costOfLowWater, Cond.initialized RX1, Cond.code yX1_costOfLowWater cX1_costOfLowWater 1 (some .int), Cond.fieldLink RX1 18 "LockgateRouter$Basin" "level" "I"]
def wsX4_cost : List Cond := .code yX4_cost cX4_cost 2 (some .int) :: ((wsX4_cost_r1 ++ wsX4_cost_r2) ++ wsX40 ++ wsJx4a65c0 ++ wsX20 ++ wsX10 ++ (vx_atS RX4 186 "java/lang/IndexOutOfBoundsException" ["java/lang/RuntimeException", "java/lang/Exception"]).filter goodWord)
def wsX4_canPass_r1 : List Cond := [Cond.methodLink RX4 65 yX4_canalNumbered, Cond.instanceMethod yX4_canalNumbered, Cond.selects RX4 yX4_canalNumbered yX4_canalNumbered, Cond.initialized RX4, Cond.code yX4_canalNumbered cX4_canalNumbered 2 (some (.object "LockgateRouter$Canal")), Cond.classLink RX4 182 "java/lang/IndexOutOfBoundsException", Cond.initialized "java/lang/IndexOutOfBoundsException", Cond.fieldLink RX4 18 "LockgateRouter" "dug" "Ljava/util/ArrayList;", Cond.classLink RX4 56 "LockgateRouter$Canal", Cond.methodLink RX4 47 yJx4a65c_size_8abf5, Cond.instanceMethod yJx4a65c_size_8abf5, Cond.selects RJx4a65c yJx4a65c_size_8abf5 yJx4a65c_size_8abf5, Cond.initialized RJx4a65c, Cond.code yJx4a65c_size_8abf5 cJx4a65c_size_8abf5 1 (some .int), Cond.fieldLink RJx4a65c 48 "java/util/ArrayList" "size" "I", Cond.methodLink RX4 177 yJx4a65c_get_915e3, Cond.instanceMethod yJx4a65c_get_915e3, Cond.selects RJx4a65c yJx4a65c_get_915e3 yJx4a65c_get_915e3, Cond.code yJx4a65c_get_915e3 cJx4a65c_get_915e3 2 (some (.object "java/lang/Object")), Cond.methodLink RJx4a65c 118 yJ15_checkIndex_7cf53, Cond.static yJ15_checkIndex_7cf53, Cond.initialized RJ15, Cond.code yJ15_checkIndex_7cf53 cJ15_checkIndex_7cf53 2 (some .int), Cond.methodLink RJ15 105 yJ3_checkIndex_8e157]
def wsX4_canPass_r2 : List Cond := [Cond.static yJ3_checkIndex_8e157, Cond.initialized RJ3, Cond.code yJ3_checkIndex_8e157 cJ3_checkIndex_8e157 3 (some .int), Cond.methodLink RJx4a65c 123 yJx4a65c_elementData_915e3, Cond.instanceMethod yJx4a65c_elementData_915e3, Cond.selects RJx4a65c yJx4a65c_elementData_915e3 yJx4a65c_elementData_915e3, Cond.code yJx4a65c_elementData_915e3 cJx4a65c_elementData_915e3 2 (some (.object "java/lang/Object")), Cond.fieldLink RJx4a65c 9 "java/util/ArrayList" "elementData" "[Ljava/lang/Object;", Cond.methodLink RX4 130 yX2_isPassable, Cond.instanceMethod yX2_isPassable, Cond.selects RX2 yX2_isPassable yX2_isPassable, Cond.initialized RX2, Cond.code yX2_isPassable cX2_isPassable 1 (some .boolean), Cond.fieldLink RX2 9 "LockgateRouter$Canal" "gateOpen" "Z", Cond.fieldLink RX2 19 "LockgateRouter$Canal" "upper" "LLockgateRouter$Basin;", Cond.fieldLink RX2 38 "LockgateRouter$Basin" "level" "I", Cond.fieldLink RX2 29 "LockgateRouter$Canal" "lift" "I"]
def wsX4_canPass : List Cond := .code yX4_canPass cX4_canPass 2 (some .boolean) :: ((wsX4_canPass_r1 ++ wsX4_canPass_r2) ++ wsX40 ++ wsJx4a65c0 ++ wsX20 ++ wsX10 ++ (vx_atS RX4 186 "java/lang/IndexOutOfBoundsException" ["java/lang/RuntimeException", "java/lang/Exception"]).filter goodWord)
def wsX4_distance : List Cond := .code yX4_distance cX4_distance 4 (some .int) :: ([.fieldLink RX4 133 "LockgateRouter$Basin" "table" "LLockgateRouter$Table;", .fieldLink RX4 137 "LockgateRouter$Table" "distances" "[I", .fieldLink RX4 142 "LockgateRouter$Basin" "number" "I", .methodLink RX4 32 yX4_basinNumbered, .instanceMethod yX4_basinNumbered, .selects RX4 yX4_basinNumbered yX4_basinNumbered, .initialized RX4, .code yX4_basinNumbered cX4_basinNumbered 2 (some (.object "LockgateRouter$Basin")), .classLink RX4 182 "java/lang/IndexOutOfBoundsException", .initialized "java/lang/IndexOutOfBoundsException", .fieldLink RX4 11 "LockgateRouter" "basins" "[LLockgateRouter$Basin;"] ++ wsX10 ++ wsX30 ++ wsX40 ++ (vx_atS RX4 186 "java/lang/IndexOutOfBoundsException" ["java/lang/RuntimeException", "java/lang/Exception"]).filter goodWord)
def wsX4_canalTo : List Cond := .code yX4_canalTo cX4_canalTo 5 (some .int) :: ([.fieldLink RX4 149 "LockgateRouter$Canal" "number" "I", .methodLink RX4 32 yX4_basinNumbered, .instanceMethod yX4_basinNumbered, .selects RX4 yX4_basinNumbered yX4_basinNumbered, .initialized RX4, .code yX4_basinNumbered cX4_basinNumbered 2 (some (.object "LockgateRouter$Basin")), .classLink RX4 182 "java/lang/IndexOutOfBoundsException", .initialized "java/lang/IndexOutOfBoundsException", .fieldLink RX4 11 "LockgateRouter" "basins" "[LLockgateRouter$Basin;", .methodLink RX4 145 yX1_canalTowards, .instanceMethod yX1_canalTowards, .selects RX1 yX1_canalTowards yX1_canalTowards, .initialized RX1, .code yX1_canalTowards cX1_canalTowards 2 (some (.object "LockgateRouter$Canal")), .fieldLink RX1 28 "LockgateRouter$Basin" "table" "LLockgateRouter$Table;", .fieldLink RX1 52 "LockgateRouter$Table" "canals" "[LLockgateRouter$Canal;", .fieldLink RX1 35 "LockgateRouter$Basin" "number" "I"] ++ wsX20 ++ wsX40 ++ wsX10 ++ wsX30 ++ (vx_atS RX4 186 "java/lang/IndexOutOfBoundsException" ["java/lang/RuntimeException", "java/lang/Exception"]).filter goodWord)
def wsX4_areStill_r1 : List Cond := [Cond.methodLink RX4 93 yX4_prepareNextTables, Cond.instanceMethod yX4_prepareNextTables, Cond.selects RX4 yX4_prepareNextTables yX4_prepareNextTables, Cond.initialized RX4, Cond.code yX4_prepareNextTables cX4_prepareNextTables 3 none, Cond.fieldLink RX4 11 "LockgateRouter" "basins" "[LLockgateRouter$Basin;", Cond.fieldLink RX4 193 "LockgateRouter$Basin" "nextTable" "LLockgateRouter$Table;", Cond.fieldLink RX4 18 "LockgateRouter" "dug" "Ljava/util/ArrayList;", Cond.classLink RX4 56 "LockgateRouter$Canal", Cond.fieldLink RX4 69 "LockgateRouter$Canal" "gateOpen" "Z", Cond.fieldLink RX4 199 "LockgateRouter$Canal" "upper" "LLockgateRouter$Basin;", Cond.fieldLink RX4 202 "LockgateRouter$Canal" "lower" "LLockgateRouter$Basin;", Cond.methodLink RX4 196 yX3_clearFor, Cond.instanceMethod yX3_clearFor, Cond.selects RX3 yX3_clearFor yX3_clearFor, Cond.initialized RX3, Cond.code yX3_clearFor cX3_clearFor 3 none, Cond.fieldLink RX3 9 "LockgateRouter$Table" "distances" "[I", Cond.fieldLink RX3 17 "LockgateRouter$Table" "canals" "[LLockgateRouter$Canal;", Cond.methodLink RX4 47 yJx4a65c_size_8abf5, Cond.instanceMethod yJx4a65c_size_8abf5, Cond.selects RJx4a65c yJx4a65c_size_8abf5 yJx4a65c_size_8abf5, Cond.initialized RJx4a65c, Cond.code yJx4a65c_size_8abf5 cJx4a65c_size_8abf5 1 (some .int)]
def wsX4_areStill_r2 : List Cond := [Cond.fieldLink RJx4a65c 48 "java/util/ArrayList" "size" "I", Cond.methodLink RX4 177 yJx4a65c_get_915e3, Cond.instanceMethod yJx4a65c_get_915e3, Cond.selects RJx4a65c yJx4a65c_get_915e3 yJx4a65c_get_915e3, Cond.code yJx4a65c_get_915e3 cJx4a65c_get_915e3 2 (some (.object "java/lang/Object")), Cond.methodLink RJx4a65c 118 yJ15_checkIndex_7cf53, Cond.static yJ15_checkIndex_7cf53, Cond.initialized RJ15, Cond.code yJ15_checkIndex_7cf53 cJ15_checkIndex_7cf53 2 (some .int), Cond.methodLink RJ15 105 yJ3_checkIndex_8e157, Cond.static yJ3_checkIndex_8e157, Cond.initialized RJ3, Cond.code yJ3_checkIndex_8e157 cJ3_checkIndex_8e157 3 (some .int), Cond.methodLink RJx4a65c 123 yJx4a65c_elementData_915e3, Cond.instanceMethod yJx4a65c_elementData_915e3, Cond.selects RJx4a65c yJx4a65c_elementData_915e3 yJx4a65c_elementData_915e3, Cond.code yJx4a65c_elementData_915e3 cJx4a65c_elementData_915e3 2 (some (.object "java/lang/Object")), Cond.fieldLink RJx4a65c 9 "java/util/ArrayList" "elementData" "[Ljava/lang/Object;", Cond.methodLink RX4 205 yX1_hearNeighbour, Cond.instanceMethod yX1_hearNeighbour, Cond.selects RX1 yX1_hearNeighbour yX1_hearNeighbour, Cond.initialized RX1, Cond.code yX1_hearNeighbour cX1_hearNeighbour 6 none, Cond.fieldLink RX1 28 "LockgateRouter$Basin" "table" "LLockgateRouter$Table;"]
def wsX4_areStill_r3 : List Cond := [Cond.fieldLink RX1 61 "LockgateRouter$Table" "distances" "[I", Cond.fieldLink RX1 35 "LockgateRouter$Basin" "number" "I", Cond.fieldLink RX1 32 "LockgateRouter$Basin" "nextTable" "LLockgateRouter$Table;", Cond.methodLink RX1 56 yX2_costNow, Cond.instanceMethod yX2_costNow, Cond.selects RX2 yX2_costNow yX2_costNow, Cond.initialized RX2, Cond.code yX2_costNow cX2_costNow 1 (some .int), Cond.fieldLink RX2 26 "LockgateRouter$Canal" "length" "I", Cond.fieldLink RX2 19 "LockgateRouter$Canal" "upper" "LLockgateRouter$Basin;", Cond.fieldLink RX2 23 "LockgateRouter$Canal" "lower" "LLockgateRouter$Basin;", Cond.methodLink RX2 32 yX1_costOfLowWater, Cond.instanceMethod yX1_costOfLowWater, Cond.selects RX1 yX1_costOfLowWater yX1_costOfLowWater, Cond.code yX1_costOfLowWater cX1_costOfLowWater 1 (some .int), Cond.fieldLink RX1 18 "LockgateRouter$Basin" "level" "I", Cond.methodLink RX1 65 yX3_offer, Cond.instanceMethod yX3_offer, Cond.selects RX3 yX3_offer yX3_offer, Cond.code yX3_offer cX3_offer 4 none, Cond.methodLink RX4 96 yX4_countNextChanges, Cond.instanceMethod yX4_countNextChanges, Cond.selects RX4 yX4_countNextChanges yX4_countNextChanges, Cond.code yX4_countNextChanges cX4_countNextChanges 3 (some .int)]
def wsX4_areStill_r4 : List Cond := [Cond.fieldLink RX4 133 "LockgateRouter$Basin" "table" "LLockgateRouter$Table;", Cond.methodLink RX4 209 yX3_countDifferences, Cond.instanceMethod yX3_countDifferences, Cond.selects RX3 yX3_countDifferences yX3_countDifferences, Cond.code yX3_countDifferences cX3_countDifferences 4 (some .int)]
def wsX4_areStill : List Cond := .code yX4_areStill cX4_areStill 1 (some .boolean) :: ((wsX4_areStill_r1 ++ (wsX4_areStill_r2 ++ (wsX4_areStill_r3 ++ wsX4_areStill_r4))) ++ wsX40 ++ wsX10 ++ wsX20 ++ wsX30 ++ wsJx4a65c0)
def wsX4_extendWay : List Cond := .code yX4_extendWay cX4_extendWay 6 none :: ([.fieldLink RX4 25 "LockgateRouter" "cheapestSoFar" "[I", .fieldLink RX4 142 "LockgateRouter$Basin" "number" "I"] ++ wsX40 ++ wsX10)
def wsX4_findCheapestWays_r1 : List Cond := [Cond.fieldLink RX4 25 "LockgateRouter" "cheapestSoFar" "[I", Cond.fieldLink RX4 142 "LockgateRouter$Basin" "number" "I", Cond.fieldLink RX4 18 "LockgateRouter" "dug" "Ljava/util/ArrayList;", Cond.classLink RX4 56 "LockgateRouter$Canal", Cond.fieldLink RX4 69 "LockgateRouter$Canal" "gateOpen" "Z", Cond.fieldLink RX4 199 "LockgateRouter$Canal" "upper" "LLockgateRouter$Basin;", Cond.fieldLink RX4 202 "LockgateRouter$Canal" "lower" "LLockgateRouter$Basin;", Cond.methodLink RX4 47 yJx4a65c_size_8abf5, Cond.instanceMethod yJx4a65c_size_8abf5, Cond.selects RJx4a65c yJx4a65c_size_8abf5 yJx4a65c_size_8abf5, Cond.initialized RJx4a65c, Cond.code yJx4a65c_size_8abf5 cJx4a65c_size_8abf5 1 (some .int), Cond.fieldLink RJx4a65c 48 "java/util/ArrayList" "size" "I", Cond.methodLink RX4 177 yJx4a65c_get_915e3, Cond.instanceMethod yJx4a65c_get_915e3, Cond.selects RJx4a65c yJx4a65c_get_915e3 yJx4a65c_get_915e3, Cond.code yJx4a65c_get_915e3 cJx4a65c_get_915e3 2 (some (.object "java/lang/Object")), Cond.methodLink RJx4a65c 118 yJ15_checkIndex_7cf53, Cond.static yJ15_checkIndex_7cf53, Cond.initialized RJ15, Cond.code yJ15_checkIndex_7cf53 cJ15_checkIndex_7cf53 2 (some .int), Cond.methodLink RJ15 105 yJ3_checkIndex_8e157, Cond.static yJ3_checkIndex_8e157, Cond.initialized RJ3]
def wsX4_findCheapestWays_r2 : List Cond := [Cond.code yJ3_checkIndex_8e157 cJ3_checkIndex_8e157 3 (some .int), Cond.methodLink RJx4a65c 123 yJx4a65c_elementData_915e3, Cond.instanceMethod yJx4a65c_elementData_915e3, Cond.selects RJx4a65c yJx4a65c_elementData_915e3 yJx4a65c_elementData_915e3, Cond.code yJx4a65c_elementData_915e3 cJx4a65c_elementData_915e3 2 (some (.object "java/lang/Object")), Cond.fieldLink RJx4a65c 9 "java/util/ArrayList" "elementData" "[Ljava/lang/Object;", Cond.methodLink RX4 127 yX2_costNow, Cond.instanceMethod yX2_costNow, Cond.selects RX2 yX2_costNow yX2_costNow, Cond.initialized RX2, Cond.code yX2_costNow cX2_costNow 1 (some .int), Cond.fieldLink RX2 26 "LockgateRouter$Canal" "length" "I", Cond.fieldLink RX2 19 "LockgateRouter$Canal" "upper" "LLockgateRouter$Basin;", Cond.fieldLink RX2 23 "LockgateRouter$Canal" "lower" "LLockgateRouter$Basin;", Cond.methodLink RX2 32 yX1_costOfLowWater, Cond.instanceMethod yX1_costOfLowWater, Cond.selects RX1 yX1_costOfLowWater yX1_costOfLowWater, Cond.initialized RX1, Cond.code yX1_costOfLowWater cX1_costOfLowWater 1 (some .int), Cond.fieldLink RX1 18 "LockgateRouter$Basin" "level" "I", Cond.methodLink RX4 213 yX4_extendWay, Cond.instanceMethod yX4_extendWay, Cond.selects RX4 yX4_extendWay yX4_extendWay, Cond.initialized RX4]
def wsX4_findCheapestWays_r3 : List Cond := [Cond.code yX4_extendWay cX4_extendWay 6 none]
def wsX4_findCheapestWays : List Cond := .code yX4_findCheapestWays cX4_findCheapestWays 5 none :: ((wsX4_findCheapestWays_r1 ++ (wsX4_findCheapestWays_r2 ++ wsX4_findCheapestWays_r3)) ++ wsX40 ++ wsX10 ++ wsX20 ++ wsJx4a65c0)
def wsX4_cheapest_r1 : List Cond := [Cond.fieldLink RX4 25 "LockgateRouter" "cheapestSoFar" "[I", Cond.fieldLink RX4 142 "LockgateRouter$Basin" "number" "I", Cond.methodLink RX4 32 yX4_basinNumbered, Cond.instanceMethod yX4_basinNumbered, Cond.selects RX4 yX4_basinNumbered yX4_basinNumbered, Cond.initialized RX4, Cond.code yX4_basinNumbered cX4_basinNumbered 2 (some (.object "LockgateRouter$Basin")), Cond.classLink RX4 182 "java/lang/IndexOutOfBoundsException", Cond.initialized "java/lang/IndexOutOfBoundsException", Cond.fieldLink RX4 11 "LockgateRouter" "basins" "[LLockgateRouter$Basin;", Cond.methodLink RX4 150 yX4_findCheapestWays, Cond.instanceMethod yX4_findCheapestWays, Cond.selects RX4 yX4_findCheapestWays yX4_findCheapestWays, Cond.code yX4_findCheapestWays cX4_findCheapestWays 5 none, Cond.fieldLink RX4 18 "LockgateRouter" "dug" "Ljava/util/ArrayList;", Cond.classLink RX4 56 "LockgateRouter$Canal", Cond.fieldLink RX4 69 "LockgateRouter$Canal" "gateOpen" "Z", Cond.fieldLink RX4 199 "LockgateRouter$Canal" "upper" "LLockgateRouter$Basin;", Cond.fieldLink RX4 202 "LockgateRouter$Canal" "lower" "LLockgateRouter$Basin;", Cond.methodLink RX4 47 yJx4a65c_size_8abf5, Cond.instanceMethod yJx4a65c_size_8abf5, Cond.selects RJx4a65c yJx4a65c_size_8abf5 yJx4a65c_size_8abf5, Cond.initialized RJx4a65c, Cond.code yJx4a65c_size_8abf5 cJx4a65c_size_8abf5 1 (some .int)]
def wsX4_cheapest_r2 : List Cond := [Cond.fieldLink RJx4a65c 48 "java/util/ArrayList" "size" "I", Cond.methodLink RX4 177 yJx4a65c_get_915e3, Cond.instanceMethod yJx4a65c_get_915e3, Cond.selects RJx4a65c yJx4a65c_get_915e3 yJx4a65c_get_915e3, Cond.code yJx4a65c_get_915e3 cJx4a65c_get_915e3 2 (some (.object "java/lang/Object")), Cond.methodLink RJx4a65c 118 yJ15_checkIndex_7cf53, Cond.static yJ15_checkIndex_7cf53, Cond.initialized RJ15, Cond.code yJ15_checkIndex_7cf53 cJ15_checkIndex_7cf53 2 (some .int), Cond.methodLink RJ15 105 yJ3_checkIndex_8e157, Cond.static yJ3_checkIndex_8e157, Cond.initialized RJ3, Cond.code yJ3_checkIndex_8e157 cJ3_checkIndex_8e157 3 (some .int), Cond.methodLink RJx4a65c 123 yJx4a65c_elementData_915e3, Cond.instanceMethod yJx4a65c_elementData_915e3, Cond.selects RJx4a65c yJx4a65c_elementData_915e3 yJx4a65c_elementData_915e3, Cond.code yJx4a65c_elementData_915e3 cJx4a65c_elementData_915e3 2 (some (.object "java/lang/Object")), Cond.fieldLink RJx4a65c 9 "java/util/ArrayList" "elementData" "[Ljava/lang/Object;", Cond.methodLink RX4 127 yX2_costNow, Cond.instanceMethod yX2_costNow, Cond.selects RX2 yX2_costNow yX2_costNow, Cond.initialized RX2, Cond.code yX2_costNow cX2_costNow 1 (some .int), Cond.fieldLink RX2 26 "LockgateRouter$Canal" "length" "I"]
def wsX4_cheapest_r3 : List Cond := [Cond.fieldLink RX2 19 "LockgateRouter$Canal" "upper" "LLockgateRouter$Basin;", Cond.fieldLink RX2 23 "LockgateRouter$Canal" "lower" "LLockgateRouter$Basin;", Cond.methodLink RX2 32 yX1_costOfLowWater, Cond.instanceMethod yX1_costOfLowWater, Cond.selects RX1 yX1_costOfLowWater yX1_costOfLowWater, Cond.initialized RX1, Cond.code yX1_costOfLowWater cX1_costOfLowWater 1 (some .int), Cond.fieldLink RX1 18 "LockgateRouter$Basin" "level" "I", Cond.methodLink RX4 213 yX4_extendWay, Cond.instanceMethod yX4_extendWay, Cond.selects RX4 yX4_extendWay yX4_extendWay, Cond.code yX4_extendWay cX4_extendWay 6 none]
def wsX4_cheapest : List Cond := .code yX4_cheapest cX4_cheapest 6 (some .int) :: ((wsX4_cheapest_r1 ++ (wsX4_cheapest_r2 ++ wsX4_cheapest_r3)) ++ wsX40 ++ wsX10 ++ wsX20 ++ wsJx4a65c0 ++ (vx_atS RX4 186 "java/lang/IndexOutOfBoundsException" ["java/lang/RuntimeException", "java/lang/Exception"]).filter goodWord)
def wsX4_goesRound : List Cond := .code yX4_goesRound cX4_goesRound 5 (some .boolean) :: ([.methodLink RX4 145 yX1_canalTowards, .instanceMethod yX1_canalTowards, .selects RX1 yX1_canalTowards yX1_canalTowards, .initialized RX1, .code yX1_canalTowards cX1_canalTowards 2 (some (.object "LockgateRouter$Canal")), .fieldLink RX1 28 "LockgateRouter$Basin" "table" "LLockgateRouter$Table;", .fieldLink RX1 52 "LockgateRouter$Table" "canals" "[LLockgateRouter$Canal;", .fieldLink RX1 35 "LockgateRouter$Basin" "number" "I", .methodLink RX4 217 yX2_otherEnd, .instanceMethod yX2_otherEnd, .selects RX2 yX2_otherEnd yX2_otherEnd, .initialized RX2, .code yX2_otherEnd cX2_otherEnd 2 (some (.object "LockgateRouter$Basin")), .fieldLink RX2 19 "LockgateRouter$Canal" "upper" "LLockgateRouter$Basin;", .fieldLink RX2 23 "LockgateRouter$Canal" "lower" "LLockgateRouter$Basin;"] ++ wsX10 ++ wsX30 ++ wsX20)
def wsX4_isLoop_r1 : List Cond := [Cond.methodLink RX4 32 yX4_basinNumbered, Cond.instanceMethod yX4_basinNumbered, Cond.selects RX4 yX4_basinNumbered yX4_basinNumbered, Cond.initialized RX4, Cond.code yX4_basinNumbered cX4_basinNumbered 2 (some (.object "LockgateRouter$Basin")), Cond.classLink RX4 182 "java/lang/IndexOutOfBoundsException", Cond.initialized "java/lang/IndexOutOfBoundsException", Cond.fieldLink RX4 11 "LockgateRouter" "basins" "[LLockgateRouter$Basin;", Cond.methodLink RX4 154 yX4_goesRound, Cond.static yX4_goesRound, Cond.code yX4_goesRound cX4_goesRound 5 (some .boolean), Cond.methodLink RX4 145 yX1_canalTowards, Cond.instanceMethod yX1_canalTowards, Cond.selects RX1 yX1_canalTowards yX1_canalTowards, Cond.initialized RX1, Cond.code yX1_canalTowards cX1_canalTowards 2 (some (.object "LockgateRouter$Canal")), Cond.fieldLink RX1 28 "LockgateRouter$Basin" "table" "LLockgateRouter$Table;", Cond.fieldLink RX1 52 "LockgateRouter$Table" "canals" "[LLockgateRouter$Canal;", Cond.fieldLink RX1 35 "LockgateRouter$Basin" "number" "I", Cond.methodLink RX4 217 yX2_otherEnd, Cond.instanceMethod yX2_otherEnd, Cond.selects RX2 yX2_otherEnd yX2_otherEnd, Cond.initialized RX2, Cond.code yX2_otherEnd cX2_otherEnd 2 (some (.object "LockgateRouter$Basin"))]
def wsX4_isLoop_r2 : List Cond := [Cond.fieldLink RX2 19 "LockgateRouter$Canal" "upper" "LLockgateRouter$Basin;", Cond.fieldLink RX2 23 "LockgateRouter$Canal" "lower" "LLockgateRouter$Basin;"]
def wsX4_isLoop : List Cond := .code yX4_isLoop cX4_isLoop 4 (some .boolean) :: ((wsX4_isLoop_r1 ++ wsX4_isLoop_r2) ++ wsX40 ++ wsX10 ++ wsX30 ++ wsX20 ++ (vx_atS RX4 186 "java/lang/IndexOutOfBoundsException" ["java/lang/RuntimeException", "java/lang/Exception"]).filter goodWord)
def wsX4_loops : List Cond := .code yX4_loops cX4_loops 4 (some .int) :: ([.fieldLink RX4 11 "LockgateRouter" "basins" "[LLockgateRouter$Basin;", .methodLink RX4 154 yX4_goesRound, .static yX4_goesRound, .initialized RX4, .code yX4_goesRound cX4_goesRound 5 (some .boolean), .methodLink RX4 145 yX1_canalTowards, .instanceMethod yX1_canalTowards, .selects RX1 yX1_canalTowards yX1_canalTowards, .initialized RX1, .code yX1_canalTowards cX1_canalTowards 2 (some (.object "LockgateRouter$Canal")), .fieldLink RX1 28 "LockgateRouter$Basin" "table" "LLockgateRouter$Table;", .fieldLink RX1 52 "LockgateRouter$Table" "canals" "[LLockgateRouter$Canal;", .fieldLink RX1 35 "LockgateRouter$Basin" "number" "I", .methodLink RX4 217 yX2_otherEnd, .instanceMethod yX2_otherEnd, .selects RX2 yX2_otherEnd yX2_otherEnd, .initialized RX2, .code yX2_otherEnd cX2_otherEnd 2 (some (.object "LockgateRouter$Basin")), .fieldLink RX2 19 "LockgateRouter$Canal" "upper" "LLockgateRouter$Basin;", .fieldLink RX2 23 "LockgateRouter$Canal" "lower" "LLockgateRouter$Basin;"] ++ wsX40 ++ wsX10 ++ wsX30 ++ wsX20)
def wsX4_barges : List Cond := .code yX4_barges cX4_barges 1 (some .int) :: ([.fieldLink RX4 22 "LockgateRouter" "fleet" "Ljava/util/ArrayList;", .methodLink RX4 47 yJx4a65c_size_8abf5, .instanceMethod yJx4a65c_size_8abf5, .selects RJx4a65c yJx4a65c_size_8abf5 yJx4a65c_size_8abf5, .initialized RJx4a65c, .code yJx4a65c_size_8abf5 cJx4a65c_size_8abf5 1 (some .int), .fieldLink RJx4a65c 48 "java/util/ArrayList" "size" "I"] ++ wsX40 ++ wsJx4a65c0)
def wsX4_ticks : List Cond := .code yX4_ticks cX4_ticks 1 (some .int) :: ([.fieldLink RX4 119 "LockgateRouter" "tickCount" "I"] ++ wsX40)
def wsX4_bargeNumbered_r1 : List Cond := [Cond.classLink RX4 182 "java/lang/IndexOutOfBoundsException", Cond.initialized "java/lang/IndexOutOfBoundsException", Cond.fieldLink RX4 22 "LockgateRouter" "fleet" "Ljava/util/ArrayList;", Cond.classLink RX4 108 "LockgateRouter$Barge", Cond.methodLink RX4 47 yJx4a65c_size_8abf5, Cond.instanceMethod yJx4a65c_size_8abf5, Cond.selects RJx4a65c yJx4a65c_size_8abf5 yJx4a65c_size_8abf5, Cond.initialized RJx4a65c, Cond.code yJx4a65c_size_8abf5 cJx4a65c_size_8abf5 1 (some .int), Cond.fieldLink RJx4a65c 48 "java/util/ArrayList" "size" "I", Cond.methodLink RX4 177 yJx4a65c_get_915e3, Cond.instanceMethod yJx4a65c_get_915e3, Cond.selects RJx4a65c yJx4a65c_get_915e3 yJx4a65c_get_915e3, Cond.code yJx4a65c_get_915e3 cJx4a65c_get_915e3 2 (some (.object "java/lang/Object")), Cond.methodLink RJx4a65c 118 yJ15_checkIndex_7cf53, Cond.static yJ15_checkIndex_7cf53, Cond.initialized RJ15, Cond.code yJ15_checkIndex_7cf53 cJ15_checkIndex_7cf53 2 (some .int), Cond.methodLink RJ15 105 yJ3_checkIndex_8e157, Cond.static yJ3_checkIndex_8e157, Cond.initialized RJ3, Cond.code yJ3_checkIndex_8e157 cJ3_checkIndex_8e157 3 (some .int), Cond.methodLink RJx4a65c 123 yJx4a65c_elementData_915e3, Cond.instanceMethod yJx4a65c_elementData_915e3]
def wsX4_bargeNumbered_r2 : List Cond := [Cond.selects RJx4a65c yJx4a65c_elementData_915e3 yJx4a65c_elementData_915e3, Cond.code yJx4a65c_elementData_915e3 cJx4a65c_elementData_915e3 2 (some (.object "java/lang/Object")), Cond.fieldLink RJx4a65c 9 "java/util/ArrayList" "elementData" "[Ljava/lang/Object;"]
def wsX4_bargeNumbered : List Cond := .code yX4_bargeNumbered cX4_bargeNumbered 2 (some (.object "LockgateRouter$Barge")) :: ((wsX4_bargeNumbered_r1 ++ wsX4_bargeNumbered_r2) ++ wsX40 ++ wsJx4a65c0 ++ (vx_atS RX4 186 "java/lang/IndexOutOfBoundsException" ["java/lang/RuntimeException", "java/lang/Exception"]).filter goodWord)
def wsX4_state_r1 : List Cond := [Cond.fieldLink RX4 113 "LockgateRouter$Barge" "condition" "I", Cond.methodLink RX4 158 yX4_bargeNumbered, Cond.instanceMethod yX4_bargeNumbered, Cond.selects RX4 yX4_bargeNumbered yX4_bargeNumbered, Cond.initialized RX4, Cond.code yX4_bargeNumbered cX4_bargeNumbered 2 (some (.object "LockgateRouter$Barge")), Cond.classLink RX4 182 "java/lang/IndexOutOfBoundsException", Cond.initialized "java/lang/IndexOutOfBoundsException", Cond.fieldLink RX4 22 "LockgateRouter" "fleet" "Ljava/util/ArrayList;", Cond.classLink RX4 108 "LockgateRouter$Barge", Cond.methodLink RX4 47 yJx4a65c_size_8abf5, Cond.instanceMethod yJx4a65c_size_8abf5, Cond.selects RJx4a65c yJx4a65c_size_8abf5 yJx4a65c_size_8abf5, Cond.initialized RJx4a65c, Cond.code yJx4a65c_size_8abf5 cJx4a65c_size_8abf5 1 (some .int), Cond.fieldLink RJx4a65c 48 "java/util/ArrayList" "size" "I", Cond.methodLink RX4 177 yJx4a65c_get_915e3, Cond.instanceMethod yJx4a65c_get_915e3, Cond.selects RJx4a65c yJx4a65c_get_915e3 yJx4a65c_get_915e3, Cond.code yJx4a65c_get_915e3 cJx4a65c_get_915e3 2 (some (.object "java/lang/Object")), Cond.methodLink RJx4a65c 118 yJ15_checkIndex_7cf53, Cond.static yJ15_checkIndex_7cf53, Cond.initialized RJ15, Cond.code yJ15_checkIndex_7cf53 cJ15_checkIndex_7cf53 2 (some .int)]
def wsX4_state_r2 : List Cond := [Cond.methodLink RJ15 105 yJ3_checkIndex_8e157, Cond.static yJ3_checkIndex_8e157, Cond.initialized RJ3, Cond.code yJ3_checkIndex_8e157 cJ3_checkIndex_8e157 3 (some .int), Cond.methodLink RJx4a65c 123 yJx4a65c_elementData_915e3, Cond.instanceMethod yJx4a65c_elementData_915e3, Cond.selects RJx4a65c yJx4a65c_elementData_915e3 yJx4a65c_elementData_915e3, Cond.code yJx4a65c_elementData_915e3 cJx4a65c_elementData_915e3 2 (some (.object "java/lang/Object")), Cond.fieldLink RJx4a65c 9 "java/util/ArrayList" "elementData" "[Ljava/lang/Object;"]
def wsX4_state : List Cond := .code yX4_state cX4_state 2 (some .int) :: ((wsX4_state_r1 ++ wsX4_state_r2) ++ wsX00 ++ wsX40 ++ wsJx4a65c0 ++ (vx_atS RX4 186 "java/lang/IndexOutOfBoundsException" ["java/lang/RuntimeException", "java/lang/Exception"]).filter goodWord)
def wsX4_basinOf_r1 : List Cond := [Cond.fieldLink RX4 162 "LockgateRouter$Barge" "place" "LLockgateRouter$Basin;", Cond.fieldLink RX4 142 "LockgateRouter$Basin" "number" "I", Cond.methodLink RX4 158 yX4_bargeNumbered, Cond.instanceMethod yX4_bargeNumbered, Cond.selects RX4 yX4_bargeNumbered yX4_bargeNumbered, Cond.initialized RX4, Cond.code yX4_bargeNumbered cX4_bargeNumbered 2 (some (.object "LockgateRouter$Barge")), Cond.classLink RX4 182 "java/lang/IndexOutOfBoundsException", Cond.initialized "java/lang/IndexOutOfBoundsException", Cond.fieldLink RX4 22 "LockgateRouter" "fleet" "Ljava/util/ArrayList;", Cond.classLink RX4 108 "LockgateRouter$Barge", Cond.methodLink RX4 47 yJx4a65c_size_8abf5, Cond.instanceMethod yJx4a65c_size_8abf5, Cond.selects RJx4a65c yJx4a65c_size_8abf5 yJx4a65c_size_8abf5, Cond.initialized RJx4a65c, Cond.code yJx4a65c_size_8abf5 cJx4a65c_size_8abf5 1 (some .int), Cond.fieldLink RJx4a65c 48 "java/util/ArrayList" "size" "I", Cond.methodLink RX4 177 yJx4a65c_get_915e3, Cond.instanceMethod yJx4a65c_get_915e3, Cond.selects RJx4a65c yJx4a65c_get_915e3 yJx4a65c_get_915e3, Cond.code yJx4a65c_get_915e3 cJx4a65c_get_915e3 2 (some (.object "java/lang/Object")), Cond.methodLink RJx4a65c 118 yJ15_checkIndex_7cf53, Cond.static yJ15_checkIndex_7cf53, Cond.initialized RJ15]
def wsX4_basinOf_r2 : List Cond := [Cond.code yJ15_checkIndex_7cf53 cJ15_checkIndex_7cf53 2 (some .int), Cond.methodLink RJ15 105 yJ3_checkIndex_8e157, Cond.static yJ3_checkIndex_8e157, Cond.initialized RJ3, Cond.code yJ3_checkIndex_8e157 cJ3_checkIndex_8e157 3 (some .int), Cond.methodLink RJx4a65c 123 yJx4a65c_elementData_915e3, Cond.instanceMethod yJx4a65c_elementData_915e3, Cond.selects RJx4a65c yJx4a65c_elementData_915e3 yJx4a65c_elementData_915e3, Cond.code yJx4a65c_elementData_915e3 cJx4a65c_elementData_915e3 2 (some (.object "java/lang/Object")), Cond.fieldLink RJx4a65c 9 "java/util/ArrayList" "elementData" "[Ljava/lang/Object;"]
def wsX4_basinOf : List Cond := .code yX4_basinOf cX4_basinOf 2 (some .int) :: ((wsX4_basinOf_r1 ++ wsX4_basinOf_r2) ++ wsX00 ++ wsX10 ++ wsX40 ++ wsJx4a65c0 ++ (vx_atS RX4 186 "java/lang/IndexOutOfBoundsException" ["java/lang/RuntimeException", "java/lang/Exception"]).filter goodWord)
def wsX4_hops_r1 : List Cond := [Cond.fieldLink RX4 166 "LockgateRouter$Barge" "hopsMade" "I", Cond.methodLink RX4 158 yX4_bargeNumbered, Cond.instanceMethod yX4_bargeNumbered, Cond.selects RX4 yX4_bargeNumbered yX4_bargeNumbered, Cond.initialized RX4, Cond.code yX4_bargeNumbered cX4_bargeNumbered 2 (some (.object "LockgateRouter$Barge")), Cond.classLink RX4 182 "java/lang/IndexOutOfBoundsException", Cond.initialized "java/lang/IndexOutOfBoundsException", Cond.fieldLink RX4 22 "LockgateRouter" "fleet" "Ljava/util/ArrayList;", Cond.classLink RX4 108 "LockgateRouter$Barge", Cond.methodLink RX4 47 yJx4a65c_size_8abf5, Cond.instanceMethod yJx4a65c_size_8abf5, Cond.selects RJx4a65c yJx4a65c_size_8abf5 yJx4a65c_size_8abf5, Cond.initialized RJx4a65c, Cond.code yJx4a65c_size_8abf5 cJx4a65c_size_8abf5 1 (some .int), Cond.fieldLink RJx4a65c 48 "java/util/ArrayList" "size" "I", Cond.methodLink RX4 177 yJx4a65c_get_915e3, Cond.instanceMethod yJx4a65c_get_915e3, Cond.selects RJx4a65c yJx4a65c_get_915e3 yJx4a65c_get_915e3, Cond.code yJx4a65c_get_915e3 cJx4a65c_get_915e3 2 (some (.object "java/lang/Object")), Cond.methodLink RJx4a65c 118 yJ15_checkIndex_7cf53, Cond.static yJ15_checkIndex_7cf53, Cond.initialized RJ15, Cond.code yJ15_checkIndex_7cf53 cJ15_checkIndex_7cf53 2 (some .int)]
def wsX4_hops_r2 : List Cond := [Cond.methodLink RJ15 105 yJ3_checkIndex_8e157, Cond.static yJ3_checkIndex_8e157, Cond.initialized RJ3, Cond.code yJ3_checkIndex_8e157 cJ3_checkIndex_8e157 3 (some .int), Cond.methodLink RJx4a65c 123 yJx4a65c_elementData_915e3, Cond.instanceMethod yJx4a65c_elementData_915e3, Cond.selects RJx4a65c yJx4a65c_elementData_915e3 yJx4a65c_elementData_915e3, Cond.code yJx4a65c_elementData_915e3 cJx4a65c_elementData_915e3 2 (some (.object "java/lang/Object")), Cond.fieldLink RJx4a65c 9 "java/util/ArrayList" "elementData" "[Ljava/lang/Object;"]
def wsX4_hops : List Cond := .code yX4_hops cX4_hops 2 (some .int) :: ((wsX4_hops_r1 ++ wsX4_hops_r2) ++ wsX00 ++ wsX40 ++ wsJx4a65c0 ++ (vx_atS RX4 186 "java/lang/IndexOutOfBoundsException" ["java/lang/RuntimeException", "java/lang/Exception"]).filter goodWord)
def wsX4_life_r1 : List Cond := [Cond.fieldLink RX4 169 "LockgateRouter$Barge" "lifeLeft" "I", Cond.methodLink RX4 158 yX4_bargeNumbered, Cond.instanceMethod yX4_bargeNumbered, Cond.selects RX4 yX4_bargeNumbered yX4_bargeNumbered, Cond.initialized RX4, Cond.code yX4_bargeNumbered cX4_bargeNumbered 2 (some (.object "LockgateRouter$Barge")), Cond.classLink RX4 182 "java/lang/IndexOutOfBoundsException", Cond.initialized "java/lang/IndexOutOfBoundsException", Cond.fieldLink RX4 22 "LockgateRouter" "fleet" "Ljava/util/ArrayList;", Cond.classLink RX4 108 "LockgateRouter$Barge", Cond.methodLink RX4 47 yJx4a65c_size_8abf5, Cond.instanceMethod yJx4a65c_size_8abf5, Cond.selects RJx4a65c yJx4a65c_size_8abf5 yJx4a65c_size_8abf5, Cond.initialized RJx4a65c, Cond.code yJx4a65c_size_8abf5 cJx4a65c_size_8abf5 1 (some .int), Cond.fieldLink RJx4a65c 48 "java/util/ArrayList" "size" "I", Cond.methodLink RX4 177 yJx4a65c_get_915e3, Cond.instanceMethod yJx4a65c_get_915e3, Cond.selects RJx4a65c yJx4a65c_get_915e3 yJx4a65c_get_915e3, Cond.code yJx4a65c_get_915e3 cJx4a65c_get_915e3 2 (some (.object "java/lang/Object")), Cond.methodLink RJx4a65c 118 yJ15_checkIndex_7cf53, Cond.static yJ15_checkIndex_7cf53, Cond.initialized RJ15, Cond.code yJ15_checkIndex_7cf53 cJ15_checkIndex_7cf53 2 (some .int)]
def wsX4_life_r2 : List Cond := [Cond.methodLink RJ15 105 yJ3_checkIndex_8e157, Cond.static yJ3_checkIndex_8e157, Cond.initialized RJ3, Cond.code yJ3_checkIndex_8e157 cJ3_checkIndex_8e157 3 (some .int), Cond.methodLink RJx4a65c 123 yJx4a65c_elementData_915e3, Cond.instanceMethod yJx4a65c_elementData_915e3, Cond.selects RJx4a65c yJx4a65c_elementData_915e3 yJx4a65c_elementData_915e3, Cond.code yJx4a65c_elementData_915e3 cJx4a65c_elementData_915e3 2 (some (.object "java/lang/Object")), Cond.fieldLink RJx4a65c 9 "java/util/ArrayList" "elementData" "[Ljava/lang/Object;"]
def wsX4_life : List Cond := .code yX4_life cX4_life 2 (some .int) :: ((wsX4_life_r1 ++ wsX4_life_r2) ++ wsX00 ++ wsX40 ++ wsJx4a65c0 ++ (vx_atS RX4 186 "java/lang/IndexOutOfBoundsException" ["java/lang/RuntimeException", "java/lang/Exception"]).filter goodWord)
def wsX4_repeats_r1 : List Cond := [Cond.fieldLink RX4 172 "LockgateRouter$Barge" "repeatsMade" "I", Cond.methodLink RX4 158 yX4_bargeNumbered, Cond.instanceMethod yX4_bargeNumbered, Cond.selects RX4 yX4_bargeNumbered yX4_bargeNumbered, Cond.initialized RX4, Cond.code yX4_bargeNumbered cX4_bargeNumbered 2 (some (.object "LockgateRouter$Barge")), Cond.classLink RX4 182 "java/lang/IndexOutOfBoundsException", Cond.initialized "java/lang/IndexOutOfBoundsException", Cond.fieldLink RX4 22 "LockgateRouter" "fleet" "Ljava/util/ArrayList;", Cond.classLink RX4 108 "LockgateRouter$Barge", Cond.methodLink RX4 47 yJx4a65c_size_8abf5, Cond.instanceMethod yJx4a65c_size_8abf5, Cond.selects RJx4a65c yJx4a65c_size_8abf5 yJx4a65c_size_8abf5, Cond.initialized RJx4a65c, Cond.code yJx4a65c_size_8abf5 cJx4a65c_size_8abf5 1 (some .int), Cond.fieldLink RJx4a65c 48 "java/util/ArrayList" "size" "I", Cond.methodLink RX4 177 yJx4a65c_get_915e3, Cond.instanceMethod yJx4a65c_get_915e3, Cond.selects RJx4a65c yJx4a65c_get_915e3 yJx4a65c_get_915e3, Cond.code yJx4a65c_get_915e3 cJx4a65c_get_915e3 2 (some (.object "java/lang/Object")), Cond.methodLink RJx4a65c 118 yJ15_checkIndex_7cf53, Cond.static yJ15_checkIndex_7cf53, Cond.initialized RJ15, Cond.code yJ15_checkIndex_7cf53 cJ15_checkIndex_7cf53 2 (some .int)]
def wsX4_repeats_r2 : List Cond := [Cond.methodLink RJ15 105 yJ3_checkIndex_8e157, Cond.static yJ3_checkIndex_8e157, Cond.initialized RJ3, Cond.code yJ3_checkIndex_8e157 cJ3_checkIndex_8e157 3 (some .int), Cond.methodLink RJx4a65c 123 yJx4a65c_elementData_915e3, Cond.instanceMethod yJx4a65c_elementData_915e3, Cond.selects RJx4a65c yJx4a65c_elementData_915e3 yJx4a65c_elementData_915e3, Cond.code yJx4a65c_elementData_915e3 cJx4a65c_elementData_915e3 2 (some (.object "java/lang/Object")), Cond.fieldLink RJx4a65c 9 "java/util/ArrayList" "elementData" "[Ljava/lang/Object;"]
def wsX4_repeats : List Cond := .code yX4_repeats cX4_repeats 2 (some .int) :: ((wsX4_repeats_r1 ++ wsX4_repeats_r2) ++ wsX00 ++ wsX40 ++ wsJx4a65c0 ++ (vx_atS RX4 186 "java/lang/IndexOutOfBoundsException" ["java/lang/RuntimeException", "java/lang/Exception"]).filter goodWord)
def wsX4_queue : List Cond := .code yX4_queue cX4_queue 2 (some .int) :: ([.fieldLink RX4 116 "LockgateRouter$Basin" "waiting" "Ljava/util/ArrayList;", .methodLink RX4 32 yX4_basinNumbered, .instanceMethod yX4_basinNumbered, .selects RX4 yX4_basinNumbered yX4_basinNumbered, .initialized RX4, .code yX4_basinNumbered cX4_basinNumbered 2 (some (.object "LockgateRouter$Basin")), .classLink RX4 182 "java/lang/IndexOutOfBoundsException", .initialized "java/lang/IndexOutOfBoundsException", .fieldLink RX4 11 "LockgateRouter" "basins" "[LLockgateRouter$Basin;", .methodLink RX4 47 yJx4a65c_size_8abf5, .instanceMethod yJx4a65c_size_8abf5, .selects RJx4a65c yJx4a65c_size_8abf5 yJx4a65c_size_8abf5, .initialized RJx4a65c, .code yJx4a65c_size_8abf5 cJx4a65c_size_8abf5 1 (some .int), .fieldLink RJx4a65c 48 "java/util/ArrayList" "size" "I"] ++ wsX10 ++ wsX40 ++ wsJx4a65c0 ++ (vx_atS RX4 186 "java/lang/IndexOutOfBoundsException" ["java/lang/RuntimeException", "java/lang/Exception"]).filter goodWord)
def wsX4_queued_r1 : List Cond := [Cond.classLink RX4 36 "java/lang/IllegalArgumentException", Cond.initialized "java/lang/IllegalArgumentException", Cond.fieldLink RX4 116 "LockgateRouter$Basin" "waiting" "Ljava/util/ArrayList;", Cond.classLink RX4 108 "LockgateRouter$Barge", Cond.fieldLink RX4 181 "LockgateRouter$Barge" "number" "I", Cond.methodLink RX4 32 yX4_basinNumbered, Cond.instanceMethod yX4_basinNumbered, Cond.selects RX4 yX4_basinNumbered yX4_basinNumbered, Cond.initialized RX4, Cond.code yX4_basinNumbered cX4_basinNumbered 2 (some (.object "LockgateRouter$Basin")), Cond.classLink RX4 182 "java/lang/IndexOutOfBoundsException", Cond.initialized "java/lang/IndexOutOfBoundsException", Cond.fieldLink RX4 11 "LockgateRouter" "basins" "[LLockgateRouter$Basin;", Cond.methodLink RX4 47 yJx4a65c_size_8abf5, Cond.instanceMethod yJx4a65c_size_8abf5, Cond.selects RJx4a65c yJx4a65c_size_8abf5 yJx4a65c_size_8abf5, Cond.initialized RJx4a65c, Cond.code yJx4a65c_size_8abf5 cJx4a65c_size_8abf5 1 (some .int), Cond.fieldLink RJx4a65c 48 "java/util/ArrayList" "size" "I", Cond.methodLink RX4 177 yJx4a65c_get_915e3, Cond.instanceMethod yJx4a65c_get_915e3, Cond.selects RJx4a65c yJx4a65c_get_915e3 yJx4a65c_get_915e3, Cond.code yJx4a65c_get_915e3 cJx4a65c_get_915e3 2 (some (.object "java/lang/Object")), Cond.methodLink RJx4a65c 118 yJ15_checkIndex_7cf53]
def wsX4_queued_r2 : List Cond := [Cond.static yJ15_checkIndex_7cf53, Cond.initialized RJ15, Cond.code yJ15_checkIndex_7cf53 cJ15_checkIndex_7cf53 2 (some .int), Cond.methodLink RJ15 105 yJ3_checkIndex_8e157, Cond.static yJ3_checkIndex_8e157, Cond.initialized RJ3, Cond.code yJ3_checkIndex_8e157 cJ3_checkIndex_8e157 3 (some .int), Cond.methodLink RJx4a65c 123 yJx4a65c_elementData_915e3, Cond.instanceMethod yJx4a65c_elementData_915e3, Cond.selects RJx4a65c yJx4a65c_elementData_915e3 yJx4a65c_elementData_915e3, Cond.code yJx4a65c_elementData_915e3 cJx4a65c_elementData_915e3 2 (some (.object "java/lang/Object")), Cond.fieldLink RJx4a65c 9 "java/util/ArrayList" "elementData" "[Ljava/lang/Object;"]
def wsX4_queued : List Cond := .code yX4_queued cX4_queued 4 (some .int) :: ((wsX4_queued_r1 ++ wsX4_queued_r2) ++ wsX10 ++ wsX00 ++ wsX40 ++ wsJx4a65c0 ++ (vx_atS RX4 40 "java/lang/IllegalArgumentException" ["java/lang/RuntimeException", "java/lang/Exception"]).filter goodWord ++ (vx_atS RX4 186 "java/lang/IndexOutOfBoundsException" ["java/lang/RuntimeException", "java/lang/Exception"]).filter goodWord)
def wsX4_laidBy_r1 : List Cond := [Cond.fieldLink RX4 22 "LockgateRouter" "fleet" "Ljava/util/ArrayList;", Cond.classLink RX4 108 "LockgateRouter$Barge", Cond.fieldLink RX4 113 "LockgateRouter$Barge" "condition" "I", Cond.methodLink RX4 47 yJx4a65c_size_8abf5, Cond.instanceMethod yJx4a65c_size_8abf5, Cond.selects RJx4a65c yJx4a65c_size_8abf5 yJx4a65c_size_8abf5, Cond.initialized RJx4a65c, Cond.code yJx4a65c_size_8abf5 cJx4a65c_size_8abf5 1 (some .int), Cond.fieldLink RJx4a65c 48 "java/util/ArrayList" "size" "I", Cond.methodLink RX4 177 yJx4a65c_get_915e3, Cond.instanceMethod yJx4a65c_get_915e3, Cond.selects RJx4a65c yJx4a65c_get_915e3 yJx4a65c_get_915e3, Cond.code yJx4a65c_get_915e3 cJx4a65c_get_915e3 2 (some (.object "java/lang/Object")), Cond.methodLink RJx4a65c 118 yJ15_checkIndex_7cf53, Cond.static yJ15_checkIndex_7cf53, Cond.initialized RJ15, Cond.code yJ15_checkIndex_7cf53 cJ15_checkIndex_7cf53 2 (some .int), Cond.methodLink RJ15 105 yJ3_checkIndex_8e157, Cond.static yJ3_checkIndex_8e157, Cond.initialized RJ3, Cond.code yJ3_checkIndex_8e157 cJ3_checkIndex_8e157 3 (some .int), Cond.methodLink RJx4a65c 123 yJx4a65c_elementData_915e3, Cond.instanceMethod yJx4a65c_elementData_915e3, Cond.selects RJx4a65c yJx4a65c_elementData_915e3 yJx4a65c_elementData_915e3]
def wsX4_laidBy_r2 : List Cond := [Cond.code yJx4a65c_elementData_915e3 cJx4a65c_elementData_915e3 2 (some (.object "java/lang/Object")), Cond.fieldLink RJx4a65c 9 "java/util/ArrayList" "elementData" "[Ljava/lang/Object;"]
def wsX4_laidBy : List Cond := .code yX4_laidBy cX4_laidBy 3 (some .int) :: ((wsX4_laidBy_r1 ++ wsX4_laidBy_r2) ++ wsX40 ++ wsX00 ++ wsJx4a65c0)
def wsX5_init_r1 : List Cond := [Cond.methodLink RX5 1 objectInit, Cond.instanceMethod objectInit, Cond.code objectInit ⟨#[0xb1]⟩ 1 none, Cond.arrayClass .int, Cond.fieldLink RX5 7 "LockgateRouterModel" "water" "[I", Cond.fieldLink RX5 13 "LockgateRouterModel" "mark" "[I", Cond.fieldLink RX5 16 "LockgateRouterModel" "many" "[I", Cond.fieldLink RX5 19 "LockgateRouterModel" "queue" "[I", Cond.fieldLink RX5 22 "LockgateRouterModel" "upper" "[I", Cond.fieldLink RX5 25 "LockgateRouterModel" "lower" "[I", Cond.fieldLink RX5 28 "LockgateRouterModel" "length" "[I", Cond.fieldLink RX5 31 "LockgateRouterModel" "lift" "[I", Cond.arrayClass .boolean, Cond.fieldLink RX5 34 "LockgateRouterModel" "isOpen" "[Z", Cond.fieldLink RX5 38 "LockgateRouterModel" "far" "[I", Cond.fieldLink RX5 41 "LockgateRouterModel" "by" "[I", Cond.fieldLink RX5 44 "LockgateRouterModel" "nextFar" "[I", Cond.fieldLink RX5 47 "LockgateRouterModel" "nextBy" "[I", Cond.fieldLink RX5 50 "LockgateRouterModel" "goal" "[I", Cond.fieldLink RX5 53 "LockgateRouterModel" "life" "[I", Cond.fieldLink RX5 56 "LockgateRouterModel" "hops" "[I", Cond.fieldLink RX5 59 "LockgateRouterModel" "repeats" "[I", Cond.fieldLink RX5 62 "LockgateRouterModel" "state" "[I", Cond.fieldLink RX5 65 "LockgateRouterModel" "at" "[I"]
def wsX5_init_r2 : List Cond := [Cond.fieldLink RX5 68 "LockgateRouterModel" "been" "[I", Cond.fieldLink RX5 71 "LockgateRouterModel" "came" "[I"]
def wsX5_init : List Cond := .code yX5_init cX5_init 2 none :: ((wsX5_init_r1 ++ wsX5_init_r2) ++ wsX50)
def wsX5_thrown : List Cond := .code yX5_thrown cX5_thrown 1 (some .int) :: ([.fieldLink RX5 74 "LockgateRouterModel" "thrown" "I"] ++ wsX50)
def wsX5_can : List Cond := .code yX5_can cX5_can 2 (some .boolean) :: ([.fieldLink RX5 74 "LockgateRouterModel" "thrown" "I"] ++ wsX50)
def wsX5_isIn : List Cond := .code yX5_isIn cX5_isIn 3 (some .boolean) :: ([])
def wsX5_isBasin : List Cond := .code yX5_isBasin cX5_isBasin 1 (some .boolean) :: ([.methodLink RX5 78 yX5_isIn, .static yX5_isIn, .initialized RX5, .code yX5_isIn cX5_isIn 3 (some .boolean)])
def wsX5_isCanal : List Cond := .code yX5_isCanal cX5_isCanal 2 (some .boolean) :: ([.fieldLink RX5 82 "LockgateRouterModel" "canals" "I", .methodLink RX5 78 yX5_isIn, .static yX5_isIn, .initialized RX5, .code yX5_isIn cX5_isIn 3 (some .boolean)] ++ wsX50)
def wsX5_isBarge : List Cond := .code yX5_isBarge cX5_isBarge 2 (some .boolean) :: ([.fieldLink RX5 85 "LockgateRouterModel" "barges" "I", .methodLink RX5 78 yX5_isIn, .static yX5_isIn, .initialized RX5, .code yX5_isIn cX5_isIn 3 (some .boolean)] ++ wsX50)
def wsX5_dig : List Cond := .code yX5_dig cX5_dig 7 (some .int) :: ([.fieldLink RX5 82 "LockgateRouterModel" "canals" "I", .fieldLink RX5 22 "LockgateRouterModel" "upper" "[I", .fieldLink RX5 25 "LockgateRouterModel" "lower" "[I", .fieldLink RX5 28 "LockgateRouterModel" "length" "[I", .fieldLink RX5 31 "LockgateRouterModel" "lift" "[I", .fieldLink RX5 34 "LockgateRouterModel" "isOpen" "[Z", .methodLink RX5 88 yX5_isBasin, .static yX5_isBasin, .initialized RX5, .code yX5_isBasin cX5_isBasin 1 (some .boolean), .methodLink RX5 78 yX5_isIn, .static yX5_isIn, .code yX5_isIn cX5_isIn 3 (some .boolean), .methodLink RX5 92 yX5_can, .instanceMethod yX5_can, .selects RX5 yX5_can yX5_can, .code yX5_can cX5_can 2 (some .boolean), .fieldLink RX5 74 "LockgateRouterModel" "thrown" "I"] ++ wsX50)
def wsX5_setGate : List Cond := .code yX5_setGate cX5_setGate 4 (some .boolean) :: ([.fieldLink RX5 34 "LockgateRouterModel" "isOpen" "[Z", .methodLink RX5 95 yX5_isCanal, .instanceMethod yX5_isCanal, .selects RX5 yX5_isCanal yX5_isCanal, .initialized RX5, .code yX5_isCanal cX5_isCanal 2 (some .boolean), .fieldLink RX5 82 "LockgateRouterModel" "canals" "I", .methodLink RX5 78 yX5_isIn, .static yX5_isIn, .code yX5_isIn cX5_isIn 3 (some .boolean), .methodLink RX5 92 yX5_can, .instanceMethod yX5_can, .selects RX5 yX5_can yX5_can, .code yX5_can cX5_can 2 (some .boolean), .fieldLink RX5 74 "LockgateRouterModel" "thrown" "I"] ++ wsX50)
def wsX5_setMark : List Cond := .code yX5_setMark cX5_setMark 4 (some .int) :: ([.fieldLink RX5 13 "LockgateRouterModel" "mark" "[I", .methodLink RX5 88 yX5_isBasin, .static yX5_isBasin, .initialized RX5, .code yX5_isBasin cX5_isBasin 1 (some .boolean), .methodLink RX5 78 yX5_isIn, .static yX5_isIn, .code yX5_isIn cX5_isIn 3 (some .boolean), .methodLink RX5 92 yX5_can, .instanceMethod yX5_can, .selects RX5 yX5_can yX5_can, .code yX5_can cX5_can 2 (some .boolean), .fieldLink RX5 74 "LockgateRouterModel" "thrown" "I"] ++ wsX50)
def wsX5_pours : List Cond := .code yX5_pours cX5_pours 4 none :: ([.fieldLink RX5 7 "LockgateRouterModel" "water" "[I", .fieldLink RX5 98 "LockgateRouterModel" "spilt" "I"] ++ wsX50)
def wsX5_rain : List Cond := .code yX5_rain cX5_rain 3 (some .int) :: ([.fieldLink RX5 7 "LockgateRouterModel" "water" "[I", .methodLink RX5 88 yX5_isBasin, .static yX5_isBasin, .initialized RX5, .code yX5_isBasin cX5_isBasin 1 (some .boolean), .methodLink RX5 78 yX5_isIn, .static yX5_isIn, .code yX5_isIn cX5_isIn 3 (some .boolean), .methodLink RX5 92 yX5_can, .instanceMethod yX5_can, .selects RX5 yX5_can yX5_can, .code yX5_can cX5_can 2 (some .boolean), .fieldLink RX5 74 "LockgateRouterModel" "thrown" "I", .methodLink RX5 101 yX5_pours, .instanceMethod yX5_pours, .selects RX5 yX5_pours yX5_pours, .code yX5_pours cX5_pours 4 none, .fieldLink RX5 98 "LockgateRouterModel" "spilt" "I"] ++ wsX50)
def wsX5_dry : List Cond := .code yX5_dry cX5_dry 5 (some .int) :: ([.fieldLink RX5 7 "LockgateRouterModel" "water" "[I", .methodLink RX5 78 yX5_isIn, .static yX5_isIn, .initialized RX5, .code yX5_isIn cX5_isIn 3 (some .boolean), .methodLink RX5 92 yX5_can, .instanceMethod yX5_can, .selects RX5 yX5_can yX5_can, .code yX5_can cX5_can 2 (some .boolean), .fieldLink RX5 74 "LockgateRouterModel" "thrown" "I"] ++ wsX50)
def wsX5_dearer : List Cond := .code yX5_dearer cX5_dearer 2 (some .int) :: ([.fieldLink RX5 7 "LockgateRouterModel" "water" "[I"] ++ wsX50)
def wsX5_costOf : List Cond := .code yX5_costOf cX5_costOf 2 (some .int) :: ([.fieldLink RX5 28 "LockgateRouterModel" "length" "[I", .fieldLink RX5 22 "LockgateRouterModel" "upper" "[I", .fieldLink RX5 25 "LockgateRouterModel" "lower" "[I", .methodLink RX5 105 yX5_dearer, .instanceMethod yX5_dearer, .selects RX5 yX5_dearer yX5_dearer, .initialized RX5, .code yX5_dearer cX5_dearer 2 (some .int), .fieldLink RX5 7 "LockgateRouterModel" "water" "[I"] ++ wsX50)
def wsX5_goes : List Cond := .code yX5_goes cX5_goes 2 (some .boolean) :: ([.fieldLink RX5 34 "LockgateRouterModel" "isOpen" "[Z", .fieldLink RX5 7 "LockgateRouterModel" "water" "[I", .fieldLink RX5 22 "LockgateRouterModel" "upper" "[I", .fieldLink RX5 31 "LockgateRouterModel" "lift" "[I"] ++ wsX50)
def wsX5_isAt : List Cond := .code yX5_isAt cX5_isAt 3 (some .boolean) :: ([.fieldLink RX5 22 "LockgateRouterModel" "upper" "[I", .fieldLink RX5 25 "LockgateRouterModel" "lower" "[I"] ++ wsX50)
def wsX5_beyond : List Cond := .code yX5_beyond cX5_beyond 3 (some .int) :: ([.fieldLink RX5 22 "LockgateRouterModel" "upper" "[I", .fieldLink RX5 25 "LockgateRouterModel" "lower" "[I"] ++ wsX50)
def wsX5_looksOn_r1 : List Cond := [Cond.fieldLink RX5 44 "LockgateRouterModel" "nextFar" "[I", Cond.fieldLink RX5 47 "LockgateRouterModel" "nextBy" "[I", Cond.fieldLink RX5 82 "LockgateRouterModel" "canals" "I", Cond.fieldLink RX5 34 "LockgateRouterModel" "isOpen" "[Z", Cond.fieldLink RX5 38 "LockgateRouterModel" "far" "[I", Cond.fieldLink RX5 41 "LockgateRouterModel" "by" "[I", Cond.methodLink RX5 109 yX5_isAt, Cond.instanceMethod yX5_isAt, Cond.selects RX5 yX5_isAt yX5_isAt, Cond.initialized RX5, Cond.code yX5_isAt cX5_isAt 3 (some .boolean), Cond.fieldLink RX5 22 "LockgateRouterModel" "upper" "[I", Cond.fieldLink RX5 25 "LockgateRouterModel" "lower" "[I", Cond.methodLink RX5 113 yX5_beyond, Cond.instanceMethod yX5_beyond, Cond.selects RX5 yX5_beyond yX5_beyond, Cond.code yX5_beyond cX5_beyond 3 (some .int), Cond.methodLink RX5 117 yX5_costOf, Cond.instanceMethod yX5_costOf, Cond.selects RX5 yX5_costOf yX5_costOf, Cond.code yX5_costOf cX5_costOf 2 (some .int), Cond.fieldLink RX5 28 "LockgateRouterModel" "length" "[I", Cond.methodLink RX5 105 yX5_dearer, Cond.instanceMethod yX5_dearer]
def wsX5_looksOn_r2 : List Cond := [Cond.selects RX5 yX5_dearer yX5_dearer, Cond.code yX5_dearer cX5_dearer 2 (some .int), Cond.fieldLink RX5 7 "LockgateRouterModel" "water" "[I"]
def wsX5_looksOn : List Cond := .code yX5_looksOn cX5_looksOn 9 (some .int) :: ((wsX5_looksOn_r1 ++ wsX5_looksOn_r2) ++ wsX50)
def wsX5_settle_r1 : List Cond := [Cond.fieldLink RX5 38 "LockgateRouterModel" "far" "[I", Cond.fieldLink RX5 44 "LockgateRouterModel" "nextFar" "[I", Cond.fieldLink RX5 41 "LockgateRouterModel" "by" "[I", Cond.fieldLink RX5 47 "LockgateRouterModel" "nextBy" "[I", Cond.methodLink RX5 78 yX5_isIn, Cond.static yX5_isIn, Cond.initialized RX5, Cond.code yX5_isIn cX5_isIn 3 (some .boolean), Cond.methodLink RX5 92 yX5_can, Cond.instanceMethod yX5_can, Cond.selects RX5 yX5_can yX5_can, Cond.code yX5_can cX5_can 2 (some .boolean), Cond.fieldLink RX5 74 "LockgateRouterModel" "thrown" "I", Cond.methodLink RX5 120 yX5_looksOn, Cond.instanceMethod yX5_looksOn, Cond.selects RX5 yX5_looksOn yX5_looksOn, Cond.code yX5_looksOn cX5_looksOn 9 (some .int), Cond.fieldLink RX5 82 "LockgateRouterModel" "canals" "I", Cond.fieldLink RX5 34 "LockgateRouterModel" "isOpen" "[Z", Cond.methodLink RX5 109 yX5_isAt, Cond.instanceMethod yX5_isAt, Cond.selects RX5 yX5_isAt yX5_isAt, Cond.code yX5_isAt cX5_isAt 3 (some .boolean), Cond.fieldLink RX5 22 "LockgateRouterModel" "upper" "[I"]
def wsX5_settle_r2 : List Cond := [Cond.fieldLink RX5 25 "LockgateRouterModel" "lower" "[I", Cond.methodLink RX5 113 yX5_beyond, Cond.instanceMethod yX5_beyond, Cond.selects RX5 yX5_beyond yX5_beyond, Cond.code yX5_beyond cX5_beyond 3 (some .int), Cond.methodLink RX5 117 yX5_costOf, Cond.instanceMethod yX5_costOf, Cond.selects RX5 yX5_costOf yX5_costOf, Cond.code yX5_costOf cX5_costOf 2 (some .int), Cond.fieldLink RX5 28 "LockgateRouterModel" "length" "[I", Cond.methodLink RX5 105 yX5_dearer, Cond.instanceMethod yX5_dearer, Cond.selects RX5 yX5_dearer yX5_dearer, Cond.code yX5_dearer cX5_dearer 2 (some .int), Cond.fieldLink RX5 7 "LockgateRouterModel" "water" "[I"]
def wsX5_settle : List Cond := .code yX5_settle cX5_settle 5 (some .int) :: ((wsX5_settle_r1 ++ wsX5_settle_r2) ++ wsX50)
def wsX5_joins : List Cond := .code yX5_joins cX5_joins 3 none :: ([.fieldLink RX5 19 "LockgateRouterModel" "queue" "[I", .fieldLink RX5 16 "LockgateRouterModel" "many" "[I"] ++ wsX50)
def wsX5_setOut_r1 : List Cond := [Cond.fieldLink RX5 85 "LockgateRouterModel" "barges" "I", Cond.fieldLink RX5 16 "LockgateRouterModel" "many" "[I", Cond.fieldLink RX5 50 "LockgateRouterModel" "goal" "[I", Cond.fieldLink RX5 53 "LockgateRouterModel" "life" "[I", Cond.fieldLink RX5 65 "LockgateRouterModel" "at" "[I", Cond.fieldLink RX5 68 "LockgateRouterModel" "been" "[I", Cond.fieldLink RX5 71 "LockgateRouterModel" "came" "[I", Cond.fieldLink RX5 62 "LockgateRouterModel" "state" "[I", Cond.methodLink RX5 88 yX5_isBasin, Cond.static yX5_isBasin, Cond.initialized RX5, Cond.code yX5_isBasin cX5_isBasin 1 (some .boolean), Cond.methodLink RX5 78 yX5_isIn, Cond.static yX5_isIn, Cond.code yX5_isIn cX5_isIn 3 (some .boolean), Cond.methodLink RX5 92 yX5_can, Cond.instanceMethod yX5_can, Cond.selects RX5 yX5_can yX5_can, Cond.code yX5_can cX5_can 2 (some .boolean), Cond.fieldLink RX5 74 "LockgateRouterModel" "thrown" "I", Cond.methodLink RX5 124 yX5_joins, Cond.instanceMethod yX5_joins, Cond.selects RX5 yX5_joins yX5_joins, Cond.code yX5_joins cX5_joins 3 none]
def wsX5_setOut_r2 : List Cond := [Cond.fieldLink RX5 19 "LockgateRouterModel" "queue" "[I"]
def wsX5_setOut : List Cond := .code yX5_setOut cX5_setOut 7 (some .int) :: ((wsX5_setOut_r1 ++ wsX5_setOut_r2) ++ wsX50)
def wsX5_wayFrom : List Cond := .code yX5_wayFrom cX5_wayFrom 6 (some .int) :: ([.fieldLink RX5 16 "LockgateRouterModel" "many" "[I", .fieldLink RX5 19 "LockgateRouterModel" "queue" "[I", .fieldLink RX5 41 "LockgateRouterModel" "by" "[I", .fieldLink RX5 50 "LockgateRouterModel" "goal" "[I", .fieldLink RX5 71 "LockgateRouterModel" "came" "[I", .fieldLink RX5 127 "LockgateRouterModel" "ticks" "I", .fieldLink RX5 13 "LockgateRouterModel" "mark" "[I", .methodLink RX5 130 yX5_goes, .instanceMethod yX5_goes, .selects RX5 yX5_goes yX5_goes, .initialized RX5, .code yX5_goes cX5_goes 2 (some .boolean), .fieldLink RX5 34 "LockgateRouterModel" "isOpen" "[Z", .fieldLink RX5 7 "LockgateRouterModel" "water" "[I", .fieldLink RX5 22 "LockgateRouterModel" "upper" "[I", .fieldLink RX5 31 "LockgateRouterModel" "lift" "[I", .methodLink RX5 113 yX5_beyond, .instanceMethod yX5_beyond, .selects RX5 yX5_beyond yX5_beyond, .code yX5_beyond cX5_beyond 3 (some .int), .fieldLink RX5 25 "LockgateRouterModel" "lower" "[I"] ++ wsX50)
def wsX5_passes_r1 : List Cond := [Cond.fieldLink RX5 19 "LockgateRouterModel" "queue" "[I", Cond.fieldLink RX5 16 "LockgateRouterModel" "many" "[I", Cond.fieldLink RX5 7 "LockgateRouterModel" "water" "[I", Cond.fieldLink RX5 22 "LockgateRouterModel" "upper" "[I", Cond.fieldLink RX5 31 "LockgateRouterModel" "lift" "[I", Cond.fieldLink RX5 25 "LockgateRouterModel" "lower" "[I", Cond.fieldLink RX5 56 "LockgateRouterModel" "hops" "[I", Cond.fieldLink RX5 53 "LockgateRouterModel" "life" "[I", Cond.fieldLink RX5 59 "LockgateRouterModel" "repeats" "[I", Cond.fieldLink RX5 68 "LockgateRouterModel" "been" "[I", Cond.fieldLink RX5 65 "LockgateRouterModel" "at" "[I", Cond.fieldLink RX5 71 "LockgateRouterModel" "came" "[I", Cond.fieldLink RX5 127 "LockgateRouterModel" "ticks" "I", Cond.fieldLink RX5 50 "LockgateRouterModel" "goal" "[I", Cond.fieldLink RX5 62 "LockgateRouterModel" "state" "[I", Cond.methodLink RX5 113 yX5_beyond, Cond.instanceMethod yX5_beyond, Cond.selects RX5 yX5_beyond yX5_beyond, Cond.initialized RX5, Cond.code yX5_beyond cX5_beyond 3 (some .int), Cond.methodLink RX5 101 yX5_pours, Cond.instanceMethod yX5_pours, Cond.selects RX5 yX5_pours yX5_pours, Cond.code yX5_pours cX5_pours 4 none]
def wsX5_passes_r2 : List Cond := [Cond.fieldLink RX5 98 "LockgateRouterModel" "spilt" "I", Cond.methodLink RX5 124 yX5_joins, Cond.instanceMethod yX5_joins, Cond.selects RX5 yX5_joins yX5_joins, Cond.code yX5_joins cX5_joins 3 none]
def wsX5_passes : List Cond := .code yX5_passes cX5_passes 6 none :: ((wsX5_passes_r1 ++ wsX5_passes_r2) ++ wsX50)
def wsX5_move_r1 : List Cond := [Cond.fieldLink RX5 127 "LockgateRouterModel" "ticks" "I", Cond.methodLink RX5 78 yX5_isIn, Cond.static yX5_isIn, Cond.initialized RX5, Cond.code yX5_isIn cX5_isIn 3 (some .boolean), Cond.methodLink RX5 92 yX5_can, Cond.instanceMethod yX5_can, Cond.selects RX5 yX5_can yX5_can, Cond.code yX5_can cX5_can 2 (some .boolean), Cond.fieldLink RX5 74 "LockgateRouterModel" "thrown" "I", Cond.methodLink RX5 133 yX5_wayFrom, Cond.instanceMethod yX5_wayFrom, Cond.selects RX5 yX5_wayFrom yX5_wayFrom, Cond.code yX5_wayFrom cX5_wayFrom 6 (some .int), Cond.fieldLink RX5 16 "LockgateRouterModel" "many" "[I", Cond.fieldLink RX5 19 "LockgateRouterModel" "queue" "[I", Cond.fieldLink RX5 41 "LockgateRouterModel" "by" "[I", Cond.fieldLink RX5 50 "LockgateRouterModel" "goal" "[I", Cond.fieldLink RX5 71 "LockgateRouterModel" "came" "[I", Cond.fieldLink RX5 13 "LockgateRouterModel" "mark" "[I", Cond.methodLink RX5 130 yX5_goes, Cond.instanceMethod yX5_goes, Cond.selects RX5 yX5_goes yX5_goes, Cond.code yX5_goes cX5_goes 2 (some .boolean)]
def wsX5_move_r2 : List Cond := [Cond.fieldLink RX5 34 "LockgateRouterModel" "isOpen" "[Z", Cond.fieldLink RX5 7 "LockgateRouterModel" "water" "[I", Cond.fieldLink RX5 22 "LockgateRouterModel" "upper" "[I", Cond.fieldLink RX5 31 "LockgateRouterModel" "lift" "[I", Cond.methodLink RX5 113 yX5_beyond, Cond.instanceMethod yX5_beyond, Cond.selects RX5 yX5_beyond yX5_beyond, Cond.code yX5_beyond cX5_beyond 3 (some .int), Cond.fieldLink RX5 25 "LockgateRouterModel" "lower" "[I", Cond.methodLink RX5 136 yX5_passes, Cond.instanceMethod yX5_passes, Cond.selects RX5 yX5_passes yX5_passes, Cond.code yX5_passes cX5_passes 6 none, Cond.fieldLink RX5 56 "LockgateRouterModel" "hops" "[I", Cond.fieldLink RX5 53 "LockgateRouterModel" "life" "[I", Cond.fieldLink RX5 59 "LockgateRouterModel" "repeats" "[I", Cond.fieldLink RX5 68 "LockgateRouterModel" "been" "[I", Cond.fieldLink RX5 65 "LockgateRouterModel" "at" "[I", Cond.fieldLink RX5 62 "LockgateRouterModel" "state" "[I", Cond.methodLink RX5 101 yX5_pours, Cond.instanceMethod yX5_pours, Cond.selects RX5 yX5_pours yX5_pours, Cond.code yX5_pours cX5_pours 4 none, Cond.fieldLink RX5 98 "LockgateRouterModel" "spilt" "I"]
def wsX5_move_r3 : List Cond := [Cond.methodLink RX5 124 yX5_joins, Cond.instanceMethod yX5_joins, Cond.selects RX5 yX5_joins yX5_joins, Cond.code yX5_joins cX5_joins 3 none]
def wsX5_move : List Cond := .code yX5_move cX5_move 6 (some .int) :: ((wsX5_move_r1 ++ (wsX5_move_r2 ++ wsX5_move_r3)) ++ wsX50)
def wsX5_canals : List Cond := .code yX5_canals cX5_canals 1 (some .int) :: ([.fieldLink RX5 74 "LockgateRouterModel" "thrown" "I", .fieldLink RX5 82 "LockgateRouterModel" "canals" "I"] ++ wsX50)
def wsX5_water : List Cond := .code yX5_water cX5_water 2 (some .int) :: ([.fieldLink RX5 7 "LockgateRouterModel" "water" "[I", .methodLink RX5 88 yX5_isBasin, .static yX5_isBasin, .initialized RX5, .code yX5_isBasin cX5_isBasin 1 (some .boolean), .methodLink RX5 78 yX5_isIn, .static yX5_isIn, .code yX5_isIn cX5_isIn 3 (some .boolean), .methodLink RX5 92 yX5_can, .instanceMethod yX5_can, .selects RX5 yX5_can yX5_can, .code yX5_can cX5_can 2 (some .boolean), .fieldLink RX5 74 "LockgateRouterModel" "thrown" "I"] ++ wsX50)
def wsX5_allWater : List Cond := .code yX5_allWater cX5_allWater 3 (some .int) :: ([.fieldLink RX5 74 "LockgateRouterModel" "thrown" "I", .fieldLink RX5 7 "LockgateRouterModel" "water" "[I"] ++ wsX50)
def wsX5_spilt : List Cond := .code yX5_spilt cX5_spilt 1 (some .int) :: ([.fieldLink RX5 74 "LockgateRouterModel" "thrown" "I", .fieldLink RX5 98 "LockgateRouterModel" "spilt" "I"] ++ wsX50)
def wsX5_cost_r1 : List Cond := [Cond.methodLink RX5 95 yX5_isCanal, Cond.instanceMethod yX5_isCanal, Cond.selects RX5 yX5_isCanal yX5_isCanal, Cond.initialized RX5, Cond.code yX5_isCanal cX5_isCanal 2 (some .boolean), Cond.fieldLink RX5 82 "LockgateRouterModel" "canals" "I", Cond.methodLink RX5 78 yX5_isIn, Cond.static yX5_isIn, Cond.code yX5_isIn cX5_isIn 3 (some .boolean), Cond.methodLink RX5 92 yX5_can, Cond.instanceMethod yX5_can, Cond.selects RX5 yX5_can yX5_can, Cond.code yX5_can cX5_can 2 (some .boolean), Cond.fieldLink RX5 74 "LockgateRouterModel" "thrown" "I", Cond.methodLink RX5 117 yX5_costOf, Cond.instanceMethod yX5_costOf, Cond.selects RX5 yX5_costOf yX5_costOf, Cond.code yX5_costOf cX5_costOf 2 (some .int), Cond.fieldLink RX5 28 "LockgateRouterModel" "length" "[I", Cond.fieldLink RX5 22 "LockgateRouterModel" "upper" "[I", Cond.fieldLink RX5 25 "LockgateRouterModel" "lower" "[I", Cond.methodLink RX5 105 yX5_dearer, Cond.instanceMethod yX5_dearer, Cond.selects RX5 yX5_dearer yX5_dearer]
def wsX5_cost_r2 : List Cond := [Cond.code yX5_dearer cX5_dearer 2 (some .int), Cond.fieldLink RX5 7 "LockgateRouterModel" "water" "[I"]
def wsX5_cost : List Cond := .code yX5_cost cX5_cost 2 (some .int) :: ((wsX5_cost_r1 ++ wsX5_cost_r2) ++ wsX50)
def wsX5_canPass : List Cond := .code yX5_canPass cX5_canPass 2 (some .boolean) :: ([.methodLink RX5 95 yX5_isCanal, .instanceMethod yX5_isCanal, .selects RX5 yX5_isCanal yX5_isCanal, .initialized RX5, .code yX5_isCanal cX5_isCanal 2 (some .boolean), .fieldLink RX5 82 "LockgateRouterModel" "canals" "I", .methodLink RX5 78 yX5_isIn, .static yX5_isIn, .code yX5_isIn cX5_isIn 3 (some .boolean), .methodLink RX5 92 yX5_can, .instanceMethod yX5_can, .selects RX5 yX5_can yX5_can, .code yX5_can cX5_can 2 (some .boolean), .fieldLink RX5 74 "LockgateRouterModel" "thrown" "I", .methodLink RX5 130 yX5_goes, .instanceMethod yX5_goes, .selects RX5 yX5_goes yX5_goes, .code yX5_goes cX5_goes 2 (some .boolean), .fieldLink RX5 34 "LockgateRouterModel" "isOpen" "[Z", .fieldLink RX5 7 "LockgateRouterModel" "water" "[I", .fieldLink RX5 22 "LockgateRouterModel" "upper" "[I", .fieldLink RX5 31 "LockgateRouterModel" "lift" "[I"] ++ wsX50)
def wsX5_areAsked : List Cond := .code yX5_areAsked cX5_areAsked 3 (some .boolean) :: ([.methodLink RX5 88 yX5_isBasin, .static yX5_isBasin, .initialized RX5, .code yX5_isBasin cX5_isBasin 1 (some .boolean), .methodLink RX5 78 yX5_isIn, .static yX5_isIn, .code yX5_isIn cX5_isIn 3 (some .boolean), .methodLink RX5 92 yX5_can, .instanceMethod yX5_can, .selects RX5 yX5_can yX5_can, .code yX5_can cX5_can 2 (some .boolean), .fieldLink RX5 74 "LockgateRouterModel" "thrown" "I"] ++ wsX50)
def wsX5_distance : List Cond := .code yX5_distance cX5_distance 3 (some .int) :: ([.fieldLink RX5 38 "LockgateRouterModel" "far" "[I", .methodLink RX5 139 yX5_areAsked, .instanceMethod yX5_areAsked, .selects RX5 yX5_areAsked yX5_areAsked, .initialized RX5, .code yX5_areAsked cX5_areAsked 3 (some .boolean), .methodLink RX5 88 yX5_isBasin, .static yX5_isBasin, .code yX5_isBasin cX5_isBasin 1 (some .boolean), .methodLink RX5 78 yX5_isIn, .static yX5_isIn, .code yX5_isIn cX5_isIn 3 (some .boolean), .methodLink RX5 92 yX5_can, .instanceMethod yX5_can, .selects RX5 yX5_can yX5_can, .code yX5_can cX5_can 2 (some .boolean), .fieldLink RX5 74 "LockgateRouterModel" "thrown" "I"] ++ wsX50)
def wsX5_canalTo : List Cond := .code yX5_canalTo cX5_canalTo 3 (some .int) :: ([.fieldLink RX5 41 "LockgateRouterModel" "by" "[I", .methodLink RX5 139 yX5_areAsked, .instanceMethod yX5_areAsked, .selects RX5 yX5_areAsked yX5_areAsked, .initialized RX5, .code yX5_areAsked cX5_areAsked 3 (some .boolean), .methodLink RX5 88 yX5_isBasin, .static yX5_isBasin, .code yX5_isBasin cX5_isBasin 1 (some .boolean), .methodLink RX5 78 yX5_isIn, .static yX5_isIn, .code yX5_isIn cX5_isIn 3 (some .boolean), .methodLink RX5 92 yX5_can, .instanceMethod yX5_can, .selects RX5 yX5_can yX5_can, .code yX5_can cX5_can 2 (some .boolean), .fieldLink RX5 74 "LockgateRouterModel" "thrown" "I"] ++ wsX50)
def wsX5_areStill_r1 : List Cond := [Cond.fieldLink RX5 74 "LockgateRouterModel" "thrown" "I", Cond.methodLink RX5 120 yX5_looksOn, Cond.instanceMethod yX5_looksOn, Cond.selects RX5 yX5_looksOn yX5_looksOn, Cond.initialized RX5, Cond.code yX5_looksOn cX5_looksOn 9 (some .int), Cond.fieldLink RX5 44 "LockgateRouterModel" "nextFar" "[I", Cond.fieldLink RX5 47 "LockgateRouterModel" "nextBy" "[I", Cond.fieldLink RX5 82 "LockgateRouterModel" "canals" "I", Cond.fieldLink RX5 34 "LockgateRouterModel" "isOpen" "[Z", Cond.fieldLink RX5 38 "LockgateRouterModel" "far" "[I", Cond.fieldLink RX5 41 "LockgateRouterModel" "by" "[I", Cond.methodLink RX5 109 yX5_isAt, Cond.instanceMethod yX5_isAt, Cond.selects RX5 yX5_isAt yX5_isAt, Cond.code yX5_isAt cX5_isAt 3 (some .boolean), Cond.fieldLink RX5 22 "LockgateRouterModel" "upper" "[I", Cond.fieldLink RX5 25 "LockgateRouterModel" "lower" "[I", Cond.methodLink RX5 113 yX5_beyond, Cond.instanceMethod yX5_beyond, Cond.selects RX5 yX5_beyond yX5_beyond, Cond.code yX5_beyond cX5_beyond 3 (some .int), Cond.methodLink RX5 117 yX5_costOf, Cond.instanceMethod yX5_costOf]
def wsX5_areStill_r2 : List Cond := [Cond.selects RX5 yX5_costOf yX5_costOf, Cond.code yX5_costOf cX5_costOf 2 (some .int), Cond.fieldLink RX5 28 "LockgateRouterModel" "length" "[I", Cond.methodLink RX5 105 yX5_dearer, Cond.instanceMethod yX5_dearer, Cond.selects RX5 yX5_dearer yX5_dearer, Cond.code yX5_dearer cX5_dearer 2 (some .int), Cond.fieldLink RX5 7 "LockgateRouterModel" "water" "[I"]
def wsX5_areStill : List Cond := .code yX5_areStill cX5_areStill 1 (some .boolean) :: ((wsX5_areStill_r1 ++ wsX5_areStill_r2) ++ wsX50)
def wsX5_cheapest_r1 : List Cond := [Cond.fieldLink RX5 44 "LockgateRouterModel" "nextFar" "[I", Cond.fieldLink RX5 82 "LockgateRouterModel" "canals" "I", Cond.fieldLink RX5 22 "LockgateRouterModel" "upper" "[I", Cond.fieldLink RX5 25 "LockgateRouterModel" "lower" "[I", Cond.fieldLink RX5 34 "LockgateRouterModel" "isOpen" "[Z", Cond.methodLink RX5 139 yX5_areAsked, Cond.instanceMethod yX5_areAsked, Cond.selects RX5 yX5_areAsked yX5_areAsked, Cond.initialized RX5, Cond.code yX5_areAsked cX5_areAsked 3 (some .boolean), Cond.methodLink RX5 88 yX5_isBasin, Cond.static yX5_isBasin, Cond.code yX5_isBasin cX5_isBasin 1 (some .boolean), Cond.methodLink RX5 78 yX5_isIn, Cond.static yX5_isIn, Cond.code yX5_isIn cX5_isIn 3 (some .boolean), Cond.methodLink RX5 92 yX5_can, Cond.instanceMethod yX5_can, Cond.selects RX5 yX5_can yX5_can, Cond.code yX5_can cX5_can 2 (some .boolean), Cond.fieldLink RX5 74 "LockgateRouterModel" "thrown" "I", Cond.methodLink RX5 117 yX5_costOf, Cond.instanceMethod yX5_costOf, Cond.selects RX5 yX5_costOf yX5_costOf]
def wsX5_cheapest_r2 : List Cond := [Cond.code yX5_costOf cX5_costOf 2 (some .int), Cond.fieldLink RX5 28 "LockgateRouterModel" "length" "[I", Cond.methodLink RX5 105 yX5_dearer, Cond.instanceMethod yX5_dearer, Cond.selects RX5 yX5_dearer yX5_dearer, Cond.code yX5_dearer cX5_dearer 2 (some .int), Cond.fieldLink RX5 7 "LockgateRouterModel" "water" "[I"]
def wsX5_cheapest : List Cond := .code yX5_cheapest cX5_cheapest 8 (some .int) :: ((wsX5_cheapest_r1 ++ wsX5_cheapest_r2) ++ wsX50)
def wsX5_circles : List Cond := .code yX5_circles cX5_circles 6 (some .boolean) :: ([.fieldLink RX5 41 "LockgateRouterModel" "by" "[I", .methodLink RX5 113 yX5_beyond, .instanceMethod yX5_beyond, .selects RX5 yX5_beyond yX5_beyond, .initialized RX5, .code yX5_beyond cX5_beyond 3 (some .int), .fieldLink RX5 22 "LockgateRouterModel" "upper" "[I", .fieldLink RX5 25 "LockgateRouterModel" "lower" "[I"] ++ wsX50)
def wsX5_isLoop_r1 : List Cond := [Cond.methodLink RX5 139 yX5_areAsked, Cond.instanceMethod yX5_areAsked, Cond.selects RX5 yX5_areAsked yX5_areAsked, Cond.initialized RX5, Cond.code yX5_areAsked cX5_areAsked 3 (some .boolean), Cond.methodLink RX5 88 yX5_isBasin, Cond.static yX5_isBasin, Cond.code yX5_isBasin cX5_isBasin 1 (some .boolean), Cond.methodLink RX5 78 yX5_isIn, Cond.static yX5_isIn, Cond.code yX5_isIn cX5_isIn 3 (some .boolean), Cond.methodLink RX5 92 yX5_can, Cond.instanceMethod yX5_can, Cond.selects RX5 yX5_can yX5_can, Cond.code yX5_can cX5_can 2 (some .boolean), Cond.fieldLink RX5 74 "LockgateRouterModel" "thrown" "I", Cond.methodLink RX5 142 yX5_circles, Cond.instanceMethod yX5_circles, Cond.selects RX5 yX5_circles yX5_circles, Cond.code yX5_circles cX5_circles 6 (some .boolean), Cond.fieldLink RX5 41 "LockgateRouterModel" "by" "[I", Cond.methodLink RX5 113 yX5_beyond, Cond.instanceMethod yX5_beyond, Cond.selects RX5 yX5_beyond yX5_beyond]
def wsX5_isLoop_r2 : List Cond := [Cond.code yX5_beyond cX5_beyond 3 (some .int), Cond.fieldLink RX5 22 "LockgateRouterModel" "upper" "[I", Cond.fieldLink RX5 25 "LockgateRouterModel" "lower" "[I"]
def wsX5_isLoop : List Cond := .code yX5_isLoop cX5_isLoop 3 (some .boolean) :: ((wsX5_isLoop_r1 ++ wsX5_isLoop_r2) ++ wsX50)
def wsX5_loops : List Cond := .code yX5_loops cX5_loops 3 (some .int) :: ([.fieldLink RX5 74 "LockgateRouterModel" "thrown" "I", .methodLink RX5 142 yX5_circles, .instanceMethod yX5_circles, .selects RX5 yX5_circles yX5_circles, .initialized RX5, .code yX5_circles cX5_circles 6 (some .boolean), .fieldLink RX5 41 "LockgateRouterModel" "by" "[I", .methodLink RX5 113 yX5_beyond, .instanceMethod yX5_beyond, .selects RX5 yX5_beyond yX5_beyond, .code yX5_beyond cX5_beyond 3 (some .int), .fieldLink RX5 22 "LockgateRouterModel" "upper" "[I", .fieldLink RX5 25 "LockgateRouterModel" "lower" "[I"] ++ wsX50)
def wsX5_barges : List Cond := .code yX5_barges cX5_barges 1 (some .int) :: ([.fieldLink RX5 74 "LockgateRouterModel" "thrown" "I", .fieldLink RX5 85 "LockgateRouterModel" "barges" "I"] ++ wsX50)
def wsX5_ticks : List Cond := .code yX5_ticks cX5_ticks 1 (some .int) :: ([.fieldLink RX5 74 "LockgateRouterModel" "thrown" "I", .fieldLink RX5 127 "LockgateRouterModel" "ticks" "I"] ++ wsX50)
def wsX5_isAsked : List Cond := .code yX5_isAsked cX5_isAsked 2 (some .boolean) :: ([.methodLink RX5 145 yX5_isBarge, .instanceMethod yX5_isBarge, .selects RX5 yX5_isBarge yX5_isBarge, .initialized RX5, .code yX5_isBarge cX5_isBarge 2 (some .boolean), .fieldLink RX5 85 "LockgateRouterModel" "barges" "I", .methodLink RX5 78 yX5_isIn, .static yX5_isIn, .code yX5_isIn cX5_isIn 3 (some .boolean), .methodLink RX5 92 yX5_can, .instanceMethod yX5_can, .selects RX5 yX5_can yX5_can, .code yX5_can cX5_can 2 (some .boolean), .fieldLink RX5 74 "LockgateRouterModel" "thrown" "I"] ++ wsX50)
def wsX5_state : List Cond := .code yX5_state cX5_state 2 (some .int) :: ([.fieldLink RX5 62 "LockgateRouterModel" "state" "[I", .methodLink RX5 148 yX5_isAsked, .instanceMethod yX5_isAsked, .selects RX5 yX5_isAsked yX5_isAsked, .initialized RX5, .code yX5_isAsked cX5_isAsked 2 (some .boolean), .methodLink RX5 145 yX5_isBarge, .instanceMethod yX5_isBarge, .selects RX5 yX5_isBarge yX5_isBarge, .code yX5_isBarge cX5_isBarge 2 (some .boolean), .fieldLink RX5 85 "LockgateRouterModel" "barges" "I", .methodLink RX5 78 yX5_isIn, .static yX5_isIn, .code yX5_isIn cX5_isIn 3 (some .boolean), .methodLink RX5 92 yX5_can, .instanceMethod yX5_can, .selects RX5 yX5_can yX5_can, .code yX5_can cX5_can 2 (some .boolean), .fieldLink RX5 74 "LockgateRouterModel" "thrown" "I"] ++ wsX50)
def wsX5_basinOf : List Cond := .code yX5_basinOf cX5_basinOf 2 (some .int) :: ([.fieldLink RX5 65 "LockgateRouterModel" "at" "[I", .methodLink RX5 148 yX5_isAsked, .instanceMethod yX5_isAsked, .selects RX5 yX5_isAsked yX5_isAsked, .initialized RX5, .code yX5_isAsked cX5_isAsked 2 (some .boolean), .methodLink RX5 145 yX5_isBarge, .instanceMethod yX5_isBarge, .selects RX5 yX5_isBarge yX5_isBarge, .code yX5_isBarge cX5_isBarge 2 (some .boolean), .fieldLink RX5 85 "LockgateRouterModel" "barges" "I", .methodLink RX5 78 yX5_isIn, .static yX5_isIn, .code yX5_isIn cX5_isIn 3 (some .boolean), .methodLink RX5 92 yX5_can, .instanceMethod yX5_can, .selects RX5 yX5_can yX5_can, .code yX5_can cX5_can 2 (some .boolean), .fieldLink RX5 74 "LockgateRouterModel" "thrown" "I"] ++ wsX50)
def wsX5_hops : List Cond := .code yX5_hops cX5_hops 2 (some .int) :: ([.fieldLink RX5 56 "LockgateRouterModel" "hops" "[I", .methodLink RX5 148 yX5_isAsked, .instanceMethod yX5_isAsked, .selects RX5 yX5_isAsked yX5_isAsked, .initialized RX5, .code yX5_isAsked cX5_isAsked 2 (some .boolean), .methodLink RX5 145 yX5_isBarge, .instanceMethod yX5_isBarge, .selects RX5 yX5_isBarge yX5_isBarge, .code yX5_isBarge cX5_isBarge 2 (some .boolean), .fieldLink RX5 85 "LockgateRouterModel" "barges" "I", .methodLink RX5 78 yX5_isIn, .static yX5_isIn, .code yX5_isIn cX5_isIn 3 (some .boolean), .methodLink RX5 92 yX5_can, .instanceMethod yX5_can, .selects RX5 yX5_can yX5_can, .code yX5_can cX5_can 2 (some .boolean), .fieldLink RX5 74 "LockgateRouterModel" "thrown" "I"] ++ wsX50)
def wsX5_life : List Cond := .code yX5_life cX5_life 2 (some .int) :: ([.fieldLink RX5 53 "LockgateRouterModel" "life" "[I", .methodLink RX5 148 yX5_isAsked, .instanceMethod yX5_isAsked, .selects RX5 yX5_isAsked yX5_isAsked, .initialized RX5, .code yX5_isAsked cX5_isAsked 2 (some .boolean), .methodLink RX5 145 yX5_isBarge, .instanceMethod yX5_isBarge, .selects RX5 yX5_isBarge yX5_isBarge, .code yX5_isBarge cX5_isBarge 2 (some .boolean), .fieldLink RX5 85 "LockgateRouterModel" "barges" "I", .methodLink RX5 78 yX5_isIn, .static yX5_isIn, .code yX5_isIn cX5_isIn 3 (some .boolean), .methodLink RX5 92 yX5_can, .instanceMethod yX5_can, .selects RX5 yX5_can yX5_can, .code yX5_can cX5_can 2 (some .boolean), .fieldLink RX5 74 "LockgateRouterModel" "thrown" "I"] ++ wsX50)
def wsX5_repeats : List Cond := .code yX5_repeats cX5_repeats 2 (some .int) :: ([.fieldLink RX5 59 "LockgateRouterModel" "repeats" "[I", .methodLink RX5 148 yX5_isAsked, .instanceMethod yX5_isAsked, .selects RX5 yX5_isAsked yX5_isAsked, .initialized RX5, .code yX5_isAsked cX5_isAsked 2 (some .boolean), .methodLink RX5 145 yX5_isBarge, .instanceMethod yX5_isBarge, .selects RX5 yX5_isBarge yX5_isBarge, .code yX5_isBarge cX5_isBarge 2 (some .boolean), .fieldLink RX5 85 "LockgateRouterModel" "barges" "I", .methodLink RX5 78 yX5_isIn, .static yX5_isIn, .code yX5_isIn cX5_isIn 3 (some .boolean), .methodLink RX5 92 yX5_can, .instanceMethod yX5_can, .selects RX5 yX5_can yX5_can, .code yX5_can cX5_can 2 (some .boolean), .fieldLink RX5 74 "LockgateRouterModel" "thrown" "I"] ++ wsX50)
def wsX5_queue : List Cond := .code yX5_queue cX5_queue 2 (some .int) :: ([.fieldLink RX5 16 "LockgateRouterModel" "many" "[I", .methodLink RX5 88 yX5_isBasin, .static yX5_isBasin, .initialized RX5, .code yX5_isBasin cX5_isBasin 1 (some .boolean), .methodLink RX5 78 yX5_isIn, .static yX5_isIn, .code yX5_isIn cX5_isIn 3 (some .boolean), .methodLink RX5 92 yX5_can, .instanceMethod yX5_can, .selects RX5 yX5_can yX5_can, .code yX5_can cX5_can 2 (some .boolean), .fieldLink RX5 74 "LockgateRouterModel" "thrown" "I"] ++ wsX50)
def wsX5_queued : List Cond := .code yX5_queued cX5_queued 3 (some .int) :: ([.fieldLink RX5 16 "LockgateRouterModel" "many" "[I", .fieldLink RX5 19 "LockgateRouterModel" "queue" "[I", .methodLink RX5 88 yX5_isBasin, .static yX5_isBasin, .initialized RX5, .code yX5_isBasin cX5_isBasin 1 (some .boolean), .methodLink RX5 78 yX5_isIn, .static yX5_isIn, .code yX5_isIn cX5_isIn 3 (some .boolean), .methodLink RX5 92 yX5_can, .instanceMethod yX5_can, .selects RX5 yX5_can yX5_can, .code yX5_can cX5_can 2 (some .boolean), .fieldLink RX5 74 "LockgateRouterModel" "thrown" "I"] ++ wsX50)
def wsX5_laidBy : List Cond := .code yX5_laidBy cX5_laidBy 3 (some .int) :: ([.fieldLink RX5 74 "LockgateRouterModel" "thrown" "I", .fieldLink RX5 85 "LockgateRouterModel" "barges" "I", .fieldLink RX5 62 "LockgateRouterModel" "state" "[I"] ++ wsX50)
def wsJ9_max_7cf53 : List Cond := .code yJ9_max_7cf53 cJ9_max_7cf53 2 (some .int) :: ([])
def wsJ9_min_7cf53 : List Cond := .code yJ9_min_7cf53 cJ9_min_7cf53 2 (some .int) :: ([])
def wsL_dig_r1 : List Cond := [Cond.classLink RL 13 "java/lang/IndexOutOfBoundsException", Cond.classLink RL 15 "java/lang/IllegalArgumentException", Cond.classLink RL 17 "java/lang/IllegalStateException", Cond.methodLink RL 7 yX4_dig, Cond.instanceMethod yX4_dig, Cond.selects RX4 yX4_dig yX4_dig, Cond.initialized RX4, Cond.code yX4_dig cX4_dig 8 (some .int), Cond.classLink RX4 36 "java/lang/IllegalArgumentException", Cond.initialized "java/lang/IllegalArgumentException", Cond.classLink RX4 51 "java/lang/IllegalStateException", Cond.initialized "java/lang/IllegalStateException", Cond.fieldLink RX4 18 "LockgateRouter" "dug" "Ljava/util/ArrayList;", Cond.classLink RX4 56 RX2, Cond.instantiable RX2 6, Cond.initialized RX2, Cond.methodLink RX4 32 yX4_basinNumbered, Cond.instanceMethod yX4_basinNumbered, Cond.selects RX4 yX4_basinNumbered yX4_basinNumbered, Cond.code yX4_basinNumbered cX4_basinNumbered 2 (some (.object "LockgateRouter$Basin")), Cond.classLink RX4 182 "java/lang/IndexOutOfBoundsException", Cond.initialized "java/lang/IndexOutOfBoundsException", Cond.fieldLink RX4 11 "LockgateRouter" "basins" "[LLockgateRouter$Basin;", Cond.methodLink RX4 43 yX4_requireRange]
def wsL_dig_r2 : List Cond := [Cond.static yX4_requireRange, Cond.code yX4_requireRange cX4_requireRange 3 none, Cond.methodLink RX4 47 yJx4a65c_size_8abf5, Cond.instanceMethod yJx4a65c_size_8abf5, Cond.selects RJx4a65c yJx4a65c_size_8abf5 yJx4a65c_size_8abf5, Cond.initialized RJx4a65c, Cond.code yJx4a65c_size_8abf5 cJx4a65c_size_8abf5 1 (some .int), Cond.fieldLink RJx4a65c 48 "java/util/ArrayList" "size" "I", Cond.methodLink RX4 58 yX2_init, Cond.instanceMethod yX2_init, Cond.code yX2_init cX2_init 6 none, Cond.methodLink RX2 3 objectInit, Cond.instanceMethod objectInit, Cond.code objectInit ⟨#[0xb1]⟩ 1 none, Cond.fieldLink RX2 9 "LockgateRouter$Canal" "gateOpen" "Z", Cond.fieldLink RX2 15 "LockgateRouter$Canal" "number" "I", Cond.fieldLink RX2 19 "LockgateRouter$Canal" "upper" "LLockgateRouter$Basin;", Cond.fieldLink RX2 23 "LockgateRouter$Canal" "lower" "LLockgateRouter$Basin;", Cond.fieldLink RX2 26 "LockgateRouter$Canal" "length" "I", Cond.fieldLink RX2 29 "LockgateRouter$Canal" "lift" "I", Cond.methodLink RX4 61 yJx4a65c_add_9ea2d, Cond.instanceMethod yJx4a65c_add_9ea2d, Cond.selects RJx4a65c yJx4a65c_add_9ea2d yJx4a65c_add_9ea2d, Cond.code yJx4a65c_add_9ea2d cJx4a65c_add_9ea2d 2 (some .boolean)]
def wsL_dig_r3 : List Cond := [Cond.fieldLink RJx4a65c 63 "java/util/ArrayList" "modCount" "I", Cond.sameField "java/util/ArrayList" "java/util/AbstractList" "modCount" "I", Cond.fieldLink RJx4a65c 9 "java/util/ArrayList" "elementData" "[Ljava/lang/Object;", Cond.methodLink RJx4a65c 131 yJx4a65c_add_72be8, Cond.instanceMethod yJx4a65c_add_72be8, Cond.selects RJx4a65c yJx4a65c_add_72be8 yJx4a65c_add_72be8, Cond.code yJx4a65c_add_72be8 cJx4a65c_add_72be8 4 none, Cond.methodLink RJx4a65c 129 yJx4a65c_grow_d5877, Cond.instanceMethod yJx4a65c_grow_d5877, Cond.selects RJx4a65c yJx4a65c_grow_d5877 yJx4a65c_grow_d5877, Cond.code yJx4a65c_grow_d5877 cJx4a65c_grow_d5877 1 (some (.array (.object "java/lang/Object"))), Cond.methodLink RJx4a65c 69 yJx4a65c_grow_92f84, Cond.instanceMethod yJx4a65c_grow_92f84, Cond.selects RJx4a65c yJx4a65c_grow_92f84 yJx4a65c_grow_92f84, Cond.code yJx4a65c_grow_92f84 cJx4a65c_grow_92f84 4 (some (.array (.object "java/lang/Object"))), Cond.fieldLink RJx4a65c 39 "java/util/ArrayList" "DEFAULTCAPACITY_EMPTY_ELEMENTDATA" "[Ljava/lang/Object;", Cond.methodLink RJx4a65c 79 Lib.Math.max.name, Cond.static Lib.Math.max.name, Cond.initialized "java/lang/Math", Cond.code Lib.Math.max.name Lib.Math.max.code 2 (some .int), Cond.classLink RJx4a65c 7 "java/lang/Object", Cond.methodLink RJx4a65c 73 yJ8_newLength_cabcc, Cond.static yJ8_newLength_cabcc, Cond.initialized RJ8]
def wsL_dig_r4 : List Cond := [Cond.code yJ8_newLength_cabcc cJ8_newLength_cabcc 4 (some .int), Cond.methodLink RJ8 194 Lib.Math.max.name, Cond.constant RJ8 200 (2147483639), Cond.methodLink RJ8 201 yJ8_hugeLength_7cf53, Cond.static yJ8_hugeLength_7cf53, Cond.code yJ8_hugeLength_7cf53 cJ8_hugeLength_7cf53 3 (some .int), Cond.methodLink RJx4a65c 66 yJ7_copyOf_1904c, Cond.static yJ7_copyOf_1904c, Cond.initialized RJ7, Cond.code yJ7_copyOf_1904c cJ7_copyOf_1904c 2 (some (.array (.object "java/lang/Object"))), Cond.methodLink RJ7 86 ⟨"java/lang/Object", "getClass", "()Ljava/lang/Class;"⟩, Cond.selects "[Ljava/lang/Object;" ⟨"java/lang/Object", "getClass", "()Ljava/lang/Class;"⟩ ⟨"java/lang/Object", "getClass", "()Ljava/lang/Class;"⟩, Cond.instanceMethod ⟨"java/lang/Object", "getClass", "()Ljava/lang/Class;"⟩, Cond.native ⟨"java/lang/Object", "getClass", "()Ljava/lang/Class;"⟩, Cond.methodLink RJ7 300 yJ7_copyOf_6403c, Cond.static yJ7_copyOf_6403c, Cond.code yJ7_copyOf_6403c cJ7_copyOf_6403c 4 (some (.array (.object "java/lang/Object"))), Cond.classLink RJ7 110 "[Ljava/lang/Object;", Cond.classLink RJ7 2 "java/lang/Object", Cond.methodLink RJ7 304 Lib.Math.min.name, Cond.static Lib.Math.min.name, Cond.code Lib.Math.min.name Lib.Math.min.code 2 (some .int), Cond.methodLink RJ7 150 arraycopyName, Cond.native arraycopyName]
def wsL_dig_r5 : List Cond := [Cond.static arraycopyName, Cond.initialized "java/lang/System"]
def wsL_dig : List Cond := .codeWith yL_dig cL_dig 7 (some .int) [(0, 14, 17, 13), (0, 14, 21, 15), (0, 14, 25, 17)] :: ((wsL_dig_r1 ++ (wsL_dig_r2 ++ (wsL_dig_r3 ++ (wsL_dig_r4 ++ wsL_dig_r5)))) ++ wsX40 ++ wsX20 ++ wsJx4a65c0 ++ (vx_atS RX4 40 "java/lang/IllegalArgumentException" ["java/lang/RuntimeException", "java/lang/Exception"]).filter goodWord ++ (vx_atS RX4 55 "java/lang/IllegalStateException" ["java/lang/RuntimeException", "java/lang/Exception"]).filter goodWord ++ (vx_atS RX4 186 "java/lang/IndexOutOfBoundsException" ["java/lang/RuntimeException", "java/lang/Exception"]).filter goodWord)
def wsL_setGate_r1 : List Cond := [Cond.classLink RL 13 "java/lang/IndexOutOfBoundsException", Cond.methodLink RL 19 yX4_setGate, Cond.instanceMethod yX4_setGate, Cond.selects RX4 yX4_setGate yX4_setGate, Cond.initialized RX4, Cond.code yX4_setGate cX4_setGate 5 (some .boolean), Cond.fieldLink RX4 69 "LockgateRouter$Canal" "gateOpen" "Z", Cond.methodLink RX4 65 yX4_canalNumbered, Cond.instanceMethod yX4_canalNumbered, Cond.selects RX4 yX4_canalNumbered yX4_canalNumbered, Cond.code yX4_canalNumbered cX4_canalNumbered 2 (some (.object "LockgateRouter$Canal")), Cond.classLink RX4 182 "java/lang/IndexOutOfBoundsException", Cond.initialized "java/lang/IndexOutOfBoundsException", Cond.fieldLink RX4 18 "LockgateRouter" "dug" "Ljava/util/ArrayList;", Cond.classLink RX4 56 "LockgateRouter$Canal", Cond.methodLink RX4 47 yJx4a65c_size_8abf5, Cond.instanceMethod yJx4a65c_size_8abf5, Cond.selects RJx4a65c yJx4a65c_size_8abf5 yJx4a65c_size_8abf5, Cond.initialized RJx4a65c, Cond.code yJx4a65c_size_8abf5 cJx4a65c_size_8abf5 1 (some .int), Cond.fieldLink RJx4a65c 48 "java/util/ArrayList" "size" "I", Cond.methodLink RX4 177 yJx4a65c_get_915e3, Cond.instanceMethod yJx4a65c_get_915e3, Cond.selects RJx4a65c yJx4a65c_get_915e3 yJx4a65c_get_915e3]
def wsL_setGate_r2 : List Cond := [Cond.code yJx4a65c_get_915e3 cJx4a65c_get_915e3 2 (some (.object "java/lang/Object")), Cond.methodLink RJx4a65c 118 yJ15_checkIndex_7cf53, Cond.static yJ15_checkIndex_7cf53, Cond.initialized RJ15, Cond.code yJ15_checkIndex_7cf53 cJ15_checkIndex_7cf53 2 (some .int), Cond.methodLink RJ15 105 yJ3_checkIndex_8e157, Cond.static yJ3_checkIndex_8e157, Cond.initialized RJ3, Cond.code yJ3_checkIndex_8e157 cJ3_checkIndex_8e157 3 (some .int), Cond.methodLink RJx4a65c 123 yJx4a65c_elementData_915e3, Cond.instanceMethod yJx4a65c_elementData_915e3, Cond.selects RJx4a65c yJx4a65c_elementData_915e3 yJx4a65c_elementData_915e3, Cond.code yJx4a65c_elementData_915e3 cJx4a65c_elementData_915e3 2 (some (.object "java/lang/Object")), Cond.fieldLink RJx4a65c 9 "java/util/ArrayList" "elementData" "[Ljava/lang/Object;"]
def wsL_setGate : List Cond := .codeWith yL_setGate cL_setGate 5 (some .int) [(0, 17, 20, 13)] :: ((wsL_setGate_r1 ++ wsL_setGate_r2) ++ wsX20 ++ wsX40 ++ wsJx4a65c0 ++ (vx_atS RX4 186 "java/lang/IndexOutOfBoundsException" ["java/lang/RuntimeException", "java/lang/Exception"]).filter goodWord)
def wsL_setMark : List Cond := .codeWith yL_setMark cL_setMark 5 (some .int) [(0, 10, 13, 13), (0, 10, 17, 15)] :: ([.classLink RL 13 "java/lang/IndexOutOfBoundsException", .classLink RL 15 "java/lang/IllegalArgumentException", .methodLink RL 23 yX4_setMark, .instanceMethod yX4_setMark, .selects RX4 yX4_setMark yX4_setMark, .initialized RX4, .code yX4_setMark cX4_setMark 5 (some .int), .fieldLink RX4 73 "LockgateRouter$Basin" "mark" "I", .methodLink RX4 32 yX4_basinNumbered, .instanceMethod yX4_basinNumbered, .selects RX4 yX4_basinNumbered yX4_basinNumbered, .code yX4_basinNumbered cX4_basinNumbered 2 (some (.object "LockgateRouter$Basin")), .classLink RX4 182 "java/lang/IndexOutOfBoundsException", .initialized "java/lang/IndexOutOfBoundsException", .fieldLink RX4 11 "LockgateRouter" "basins" "[LLockgateRouter$Basin;", .methodLink RX4 43 yX4_requireRange, .static yX4_requireRange, .code yX4_requireRange cX4_requireRange 3 none, .classLink RX4 36 "java/lang/IllegalArgumentException", .initialized "java/lang/IllegalArgumentException"] ++ wsX10 ++ wsX40 ++ (vx_atS RX4 186 "java/lang/IndexOutOfBoundsException" ["java/lang/RuntimeException", "java/lang/Exception"]).filter goodWord ++ (vx_atS RX4 40 "java/lang/IllegalArgumentException" ["java/lang/RuntimeException", "java/lang/Exception"]).filter goodWord)
def wsL_rain_r1 : List Cond := [Cond.classLink RL 13 "java/lang/IndexOutOfBoundsException", Cond.classLink RL 15 "java/lang/IllegalArgumentException", Cond.methodLink RL 27 yX4_rain, Cond.instanceMethod yX4_rain, Cond.selects RX4 yX4_rain yX4_rain, Cond.initialized RX4, Cond.code yX4_rain cX4_rain 4 (some .int), Cond.fieldLink RX4 77 "LockgateRouter" "lostWater" "I", Cond.fieldLink RX4 84 "LockgateRouter$Basin" "level" "I", Cond.methodLink RX4 32 yX4_basinNumbered, Cond.instanceMethod yX4_basinNumbered, Cond.selects RX4 yX4_basinNumbered yX4_basinNumbered, Cond.code yX4_basinNumbered cX4_basinNumbered 2 (some (.object "LockgateRouter$Basin")), Cond.classLink RX4 182 "java/lang/IndexOutOfBoundsException", Cond.initialized "java/lang/IndexOutOfBoundsException", Cond.fieldLink RX4 11 "LockgateRouter" "basins" "[LLockgateRouter$Basin;", Cond.methodLink RX4 43 yX4_requireRange, Cond.static yX4_requireRange, Cond.code yX4_requireRange cX4_requireRange 3 none, Cond.classLink RX4 36 "java/lang/IllegalArgumentException", Cond.initialized "java/lang/IllegalArgumentException", Cond.methodLink RX4 80 yX1_fill, Cond.instanceMethod yX1_fill, Cond.selects RX1 yX1_fill yX1_fill]
def wsL_rain_r2 : List Cond := [Cond.initialized RX1, Cond.code yX1_fill cX1_fill 3 (some .int), Cond.fieldLink RX1 18 "LockgateRouter$Basin" "level" "I", Cond.methodLink RX1 46 Lib.Math.max.name, Cond.static Lib.Math.max.name, Cond.initialized "java/lang/Math", Cond.code Lib.Math.max.name Lib.Math.max.code 2 (some .int)]
def wsL_rain : List Cond := .codeWith yL_rain cL_rain 5 (some .int) [(0, 10, 13, 13), (0, 10, 17, 15)] :: ((wsL_rain_r1 ++ wsL_rain_r2) ++ wsX40 ++ wsX10 ++ (vx_atS RX4 186 "java/lang/IndexOutOfBoundsException" ["java/lang/RuntimeException", "java/lang/Exception"]).filter goodWord ++ (vx_atS RX4 40 "java/lang/IllegalArgumentException" ["java/lang/RuntimeException", "java/lang/Exception"]).filter goodWord)
def wsL_dry_r1 : List Cond := [Cond.classLink RL 15 "java/lang/IllegalArgumentException", Cond.methodLink RL 30 yX4_dry, Cond.instanceMethod yX4_dry, Cond.selects RX4 yX4_dry yX4_dry, Cond.initialized RX4, Cond.code yX4_dry cX4_dry 4 (some .int), Cond.fieldLink RX4 11 "LockgateRouter" "basins" "[LLockgateRouter$Basin;", Cond.methodLink RX4 43 yX4_requireRange, Cond.static yX4_requireRange, Cond.code yX4_requireRange cX4_requireRange 3 none, Cond.classLink RX4 36 "java/lang/IllegalArgumentException", Cond.initialized "java/lang/IllegalArgumentException", Cond.methodLink RX4 87 yX1_loseDryDayWater, Cond.instanceMethod yX1_loseDryDayWater, Cond.selects RX1 yX1_loseDryDayWater yX1_loseDryDayWater, Cond.initialized RX1, Cond.code yX1_loseDryDayWater cX1_loseDryDayWater 1 none, Cond.fieldLink RX1 18 "LockgateRouter$Basin" "level" "I", Cond.methodLink RX1 46 Lib.Math.max.name, Cond.static Lib.Math.max.name, Cond.initialized "java/lang/Math", Cond.code Lib.Math.max.name Lib.Math.max.code 2 (some .int), Cond.methodLink RX4 90 yX4_countLowBasins, Cond.instanceMethod yX4_countLowBasins]
def wsL_dry_r2 : List Cond := [Cond.selects RX4 yX4_countLowBasins yX4_countLowBasins, Cond.code yX4_countLowBasins cX4_countLowBasins 3 (some .int), Cond.fieldLink RX4 84 "LockgateRouter$Basin" "level" "I"]
def wsL_dry : List Cond := .codeWith yL_dry cL_dry 4 (some .int) [(0, 9, 12, 15)] :: ((wsL_dry_r1 ++ wsL_dry_r2) ++ wsX40 ++ wsX10 ++ (vx_atS RX4 40 "java/lang/IllegalArgumentException" ["java/lang/RuntimeException", "java/lang/Exception"]).filter goodWord)
def wsL_settle_r1 : List Cond := [Cond.classLink RL 15 "java/lang/IllegalArgumentException", Cond.methodLink RL 34 yX4_settle, Cond.instanceMethod yX4_settle, Cond.selects RX4 yX4_settle yX4_settle, Cond.initialized RX4, Cond.code yX4_settle cX4_settle 5 (some .int), Cond.fieldLink RX4 11 "LockgateRouter" "basins" "[LLockgateRouter$Basin;", Cond.methodLink RX4 43 yX4_requireRange, Cond.static yX4_requireRange, Cond.code yX4_requireRange cX4_requireRange 3 none, Cond.classLink RX4 36 "java/lang/IllegalArgumentException", Cond.initialized "java/lang/IllegalArgumentException", Cond.methodLink RX4 93 yX4_prepareNextTables, Cond.instanceMethod yX4_prepareNextTables, Cond.selects RX4 yX4_prepareNextTables yX4_prepareNextTables, Cond.code yX4_prepareNextTables cX4_prepareNextTables 3 none, Cond.fieldLink RX4 193 "LockgateRouter$Basin" "nextTable" "LLockgateRouter$Table;", Cond.fieldLink RX4 18 "LockgateRouter" "dug" "Ljava/util/ArrayList;", Cond.classLink RX4 56 "LockgateRouter$Canal", Cond.fieldLink RX4 69 "LockgateRouter$Canal" "gateOpen" "Z", Cond.fieldLink RX4 199 "LockgateRouter$Canal" "upper" "LLockgateRouter$Basin;", Cond.fieldLink RX4 202 "LockgateRouter$Canal" "lower" "LLockgateRouter$Basin;", Cond.methodLink RX4 196 yX3_clearFor, Cond.instanceMethod yX3_clearFor]
def wsL_settle_r2 : List Cond := [Cond.selects RX3 yX3_clearFor yX3_clearFor, Cond.initialized RX3, Cond.code yX3_clearFor cX3_clearFor 3 none, Cond.fieldLink RX3 9 "LockgateRouter$Table" "distances" "[I", Cond.fieldLink RX3 17 "LockgateRouter$Table" "canals" "[LLockgateRouter$Canal;", Cond.methodLink RX4 47 yJx4a65c_size_8abf5, Cond.instanceMethod yJx4a65c_size_8abf5, Cond.selects RJx4a65c yJx4a65c_size_8abf5 yJx4a65c_size_8abf5, Cond.initialized RJx4a65c, Cond.code yJx4a65c_size_8abf5 cJx4a65c_size_8abf5 1 (some .int), Cond.fieldLink RJx4a65c 48 "java/util/ArrayList" "size" "I", Cond.methodLink RX4 177 yJx4a65c_get_915e3, Cond.instanceMethod yJx4a65c_get_915e3, Cond.selects RJx4a65c yJx4a65c_get_915e3 yJx4a65c_get_915e3, Cond.code yJx4a65c_get_915e3 cJx4a65c_get_915e3 2 (some (.object "java/lang/Object")), Cond.methodLink RJx4a65c 118 yJ15_checkIndex_7cf53, Cond.static yJ15_checkIndex_7cf53, Cond.initialized RJ15, Cond.code yJ15_checkIndex_7cf53 cJ15_checkIndex_7cf53 2 (some .int), Cond.methodLink RJ15 105 yJ3_checkIndex_8e157, Cond.static yJ3_checkIndex_8e157, Cond.initialized RJ3, Cond.code yJ3_checkIndex_8e157 cJ3_checkIndex_8e157 3 (some .int), Cond.methodLink RJx4a65c 123 yJx4a65c_elementData_915e3]
def wsL_settle_r3 : List Cond := [Cond.instanceMethod yJx4a65c_elementData_915e3, Cond.selects RJx4a65c yJx4a65c_elementData_915e3 yJx4a65c_elementData_915e3, Cond.code yJx4a65c_elementData_915e3 cJx4a65c_elementData_915e3 2 (some (.object "java/lang/Object")), Cond.fieldLink RJx4a65c 9 "java/util/ArrayList" "elementData" "[Ljava/lang/Object;", Cond.methodLink RX4 205 yX1_hearNeighbour, Cond.instanceMethod yX1_hearNeighbour, Cond.selects RX1 yX1_hearNeighbour yX1_hearNeighbour, Cond.initialized RX1, Cond.code yX1_hearNeighbour cX1_hearNeighbour 6 none, Cond.fieldLink RX1 28 "LockgateRouter$Basin" "table" "LLockgateRouter$Table;", Cond.fieldLink RX1 61 "LockgateRouter$Table" "distances" "[I", Cond.fieldLink RX1 35 "LockgateRouter$Basin" "number" "I", Cond.fieldLink RX1 32 "LockgateRouter$Basin" "nextTable" "LLockgateRouter$Table;", Cond.methodLink RX1 56 yX2_costNow, Cond.instanceMethod yX2_costNow, Cond.selects RX2 yX2_costNow yX2_costNow, Cond.initialized RX2, Cond.code yX2_costNow cX2_costNow 1 (some .int), Cond.fieldLink RX2 26 "LockgateRouter$Canal" "length" "I", Cond.fieldLink RX2 19 "LockgateRouter$Canal" "upper" "LLockgateRouter$Basin;", Cond.fieldLink RX2 23 "LockgateRouter$Canal" "lower" "LLockgateRouter$Basin;", Cond.methodLink RX2 32 yX1_costOfLowWater, Cond.instanceMethod yX1_costOfLowWater, Cond.selects RX1 yX1_costOfLowWater yX1_costOfLowWater]
def wsL_settle_r4 : List Cond := [Cond.code yX1_costOfLowWater cX1_costOfLowWater 1 (some .int), Cond.fieldLink RX1 18 "LockgateRouter$Basin" "level" "I", Cond.methodLink RX1 65 yX3_offer, Cond.instanceMethod yX3_offer, Cond.selects RX3 yX3_offer yX3_offer, Cond.code yX3_offer cX3_offer 4 none, Cond.methodLink RX4 96 yX4_countNextChanges, Cond.instanceMethod yX4_countNextChanges, Cond.selects RX4 yX4_countNextChanges yX4_countNextChanges, Cond.code yX4_countNextChanges cX4_countNextChanges 3 (some .int), Cond.fieldLink RX4 133 "LockgateRouter$Basin" "table" "LLockgateRouter$Table;", Cond.methodLink RX4 209 yX3_countDifferences, Cond.instanceMethod yX3_countDifferences, Cond.selects RX3 yX3_countDifferences yX3_countDifferences, Cond.code yX3_countDifferences cX3_countDifferences 4 (some .int), Cond.methodLink RX4 99 yX1_turnTable, Cond.instanceMethod yX1_turnTable, Cond.selects RX1 yX1_turnTable yX1_turnTable, Cond.code yX1_turnTable cX1_turnTable 2 none]
def wsL_settle : List Cond := .codeWith yL_settle cL_settle 4 (some .int) [(0, 9, 12, 15)] :: ((wsL_settle_r1 ++ (wsL_settle_r2 ++ (wsL_settle_r3 ++ wsL_settle_r4))) ++ wsX40 ++ wsX10 ++ wsX20 ++ wsX30 ++ wsJx4a65c0 ++ (vx_atS RX4 40 "java/lang/IllegalArgumentException" ["java/lang/RuntimeException", "java/lang/Exception"]).filter goodWord)
def wsL_setOut_r1 : List Cond := [Cond.classLink RL 13 "java/lang/IndexOutOfBoundsException", Cond.classLink RL 15 "java/lang/IllegalArgumentException", Cond.classLink RL 17 "java/lang/IllegalStateException", Cond.methodLink RL 37 yX4_setOut, Cond.instanceMethod yX4_setOut, Cond.selects RX4 yX4_setOut yX4_setOut, Cond.initialized RX4, Cond.code yX4_setOut cX4_setOut 8 (some .int), Cond.classLink RX4 51 "java/lang/IllegalStateException", Cond.initialized "java/lang/IllegalStateException", Cond.fieldLink RX4 22 "LockgateRouter" "fleet" "Ljava/util/ArrayList;", Cond.classLink RX4 108 RX0, Cond.instantiable RX0 9, Cond.initialized RX0, Cond.fieldLink RX4 113 "LockgateRouter$Barge" "condition" "I", Cond.fieldLink RX4 116 "LockgateRouter$Basin" "waiting" "Ljava/util/ArrayList;", Cond.methodLink RX4 32 yX4_basinNumbered, Cond.instanceMethod yX4_basinNumbered, Cond.selects RX4 yX4_basinNumbered yX4_basinNumbered, Cond.code yX4_basinNumbered cX4_basinNumbered 2 (some (.object "LockgateRouter$Basin")), Cond.classLink RX4 182 "java/lang/IndexOutOfBoundsException", Cond.initialized "java/lang/IndexOutOfBoundsException", Cond.fieldLink RX4 11 "LockgateRouter" "basins" "[LLockgateRouter$Basin;", Cond.methodLink RX4 43 yX4_requireRange]
def wsL_setOut_r2 : List Cond := [Cond.static yX4_requireRange, Cond.code yX4_requireRange cX4_requireRange 3 none, Cond.classLink RX4 36 "java/lang/IllegalArgumentException", Cond.initialized "java/lang/IllegalArgumentException", Cond.methodLink RX4 47 yJx4a65c_size_8abf5, Cond.instanceMethod yJx4a65c_size_8abf5, Cond.selects RJx4a65c yJx4a65c_size_8abf5 yJx4a65c_size_8abf5, Cond.initialized RJx4a65c, Cond.code yJx4a65c_size_8abf5 cJx4a65c_size_8abf5 1 (some .int), Cond.fieldLink RJx4a65c 48 "java/util/ArrayList" "size" "I", Cond.methodLink RX4 102 yX1_isFull, Cond.instanceMethod yX1_isFull, Cond.selects RX1 yX1_isFull yX1_isFull, Cond.initialized RX1, Cond.code yX1_isFull cX1_isFull 1 (some .boolean), Cond.fieldLink RX1 12 "LockgateRouter$Basin" "waiting" "Ljava/util/ArrayList;", Cond.methodLink RX1 42 yJx4a65c_size_8abf5, Cond.methodLink RX4 110 yX0_init, Cond.instanceMethod yX0_init, Cond.code yX0_init cX0_init 5 none, Cond.methodLink RX0 3 objectInit, Cond.instanceMethod objectInit, Cond.code objectInit ⟨#[0xb1]⟩ 1 none, Cond.arrayClass .boolean]
def wsL_setOut_r3 : List Cond := [Cond.fieldLink RX0 9 "LockgateRouter$Barge" "wasIn" "[Z", Cond.fieldLink RX0 15 "LockgateRouter$Barge" "condition" "I", Cond.fieldLink RX0 19 "LockgateRouter$Barge" "number" "I", Cond.fieldLink RX0 22 "LockgateRouter$Barge" "destination" "LLockgateRouter$Basin;", Cond.fieldLink RX0 26 "LockgateRouter$Barge" "place" "LLockgateRouter$Basin;", Cond.fieldLink RX0 29 "LockgateRouter$Basin" "number" "I", Cond.fieldLink RX0 32 "LockgateRouter$Barge" "lifeLeft" "I", Cond.methodLink RX4 61 yJx4a65c_add_9ea2d, Cond.instanceMethod yJx4a65c_add_9ea2d, Cond.selects RJx4a65c yJx4a65c_add_9ea2d yJx4a65c_add_9ea2d, Cond.code yJx4a65c_add_9ea2d cJx4a65c_add_9ea2d 2 (some .boolean), Cond.fieldLink RJx4a65c 63 "java/util/ArrayList" "modCount" "I", Cond.sameField "java/util/ArrayList" "java/util/AbstractList" "modCount" "I", Cond.fieldLink RJx4a65c 9 "java/util/ArrayList" "elementData" "[Ljava/lang/Object;", Cond.methodLink RJx4a65c 131 yJx4a65c_add_72be8, Cond.instanceMethod yJx4a65c_add_72be8, Cond.selects RJx4a65c yJx4a65c_add_72be8 yJx4a65c_add_72be8, Cond.code yJx4a65c_add_72be8 cJx4a65c_add_72be8 4 none, Cond.methodLink RJx4a65c 129 yJx4a65c_grow_d5877, Cond.instanceMethod yJx4a65c_grow_d5877, Cond.selects RJx4a65c yJx4a65c_grow_d5877 yJx4a65c_grow_d5877, Cond.code yJx4a65c_grow_d5877 cJx4a65c_grow_d5877 1 (some (.array (.object "java/lang/Object"))), Cond.methodLink RJx4a65c 69 yJx4a65c_grow_92f84, Cond.instanceMethod yJx4a65c_grow_92f84]
def wsL_setOut_r4 : List Cond := [Cond.selects RJx4a65c yJx4a65c_grow_92f84 yJx4a65c_grow_92f84, Cond.code yJx4a65c_grow_92f84 cJx4a65c_grow_92f84 4 (some (.array (.object "java/lang/Object"))), Cond.fieldLink RJx4a65c 39 "java/util/ArrayList" "DEFAULTCAPACITY_EMPTY_ELEMENTDATA" "[Ljava/lang/Object;", Cond.methodLink RJx4a65c 79 Lib.Math.max.name, Cond.static Lib.Math.max.name, Cond.initialized "java/lang/Math", Cond.code Lib.Math.max.name Lib.Math.max.code 2 (some .int), Cond.classLink RJx4a65c 7 "java/lang/Object", Cond.methodLink RJx4a65c 73 yJ8_newLength_cabcc, Cond.static yJ8_newLength_cabcc, Cond.initialized RJ8, Cond.code yJ8_newLength_cabcc cJ8_newLength_cabcc 4 (some .int), Cond.methodLink RJ8 194 Lib.Math.max.name, Cond.constant RJ8 200 (2147483639), Cond.methodLink RJ8 201 yJ8_hugeLength_7cf53, Cond.static yJ8_hugeLength_7cf53, Cond.code yJ8_hugeLength_7cf53 cJ8_hugeLength_7cf53 3 (some .int), Cond.methodLink RJx4a65c 66 yJ7_copyOf_1904c, Cond.static yJ7_copyOf_1904c, Cond.initialized RJ7, Cond.code yJ7_copyOf_1904c cJ7_copyOf_1904c 2 (some (.array (.object "java/lang/Object"))), Cond.methodLink RJ7 86 ⟨"java/lang/Object", "getClass", "()Ljava/lang/Class;"⟩, Cond.selects "[Ljava/lang/Object;" ⟨"java/lang/Object", "getClass", "()Ljava/lang/Class;"⟩ ⟨"java/lang/Object", "getClass", "()Ljava/lang/Class;"⟩, Cond.instanceMethod ⟨"java/lang/Object", "getClass", "()Ljava/lang/Class;"⟩]
def wsL_setOut_r5 : List Cond := [Cond.native ⟨"java/lang/Object", "getClass", "()Ljava/lang/Class;"⟩, Cond.methodLink RJ7 300 yJ7_copyOf_6403c, Cond.static yJ7_copyOf_6403c, Cond.code yJ7_copyOf_6403c cJ7_copyOf_6403c 4 (some (.array (.object "java/lang/Object"))), Cond.classLink RJ7 110 "[Ljava/lang/Object;", Cond.classLink RJ7 2 "java/lang/Object", Cond.methodLink RJ7 304 Lib.Math.min.name, Cond.static Lib.Math.min.name, Cond.code Lib.Math.min.name Lib.Math.min.code 2 (some .int), Cond.methodLink RJ7 150 arraycopyName, Cond.native arraycopyName, Cond.static arraycopyName, Cond.initialized "java/lang/System"]
def wsL_setOut : List Cond := .codeWith yL_setOut cL_setOut 6 (some .int) [(0, 12, 15, 13), (0, 12, 19, 15), (0, 12, 23, 17)] :: ((wsL_setOut_r1 ++ (wsL_setOut_r2 ++ (wsL_setOut_r3 ++ (wsL_setOut_r4 ++ wsL_setOut_r5)))) ++ wsX40 ++ wsX00 ++ wsX10 ++ wsJx4a65c0 ++ (vx_atS RX4 55 "java/lang/IllegalStateException" ["java/lang/RuntimeException", "java/lang/Exception"]).filter goodWord ++ (vx_atS RX4 186 "java/lang/IndexOutOfBoundsException" ["java/lang/RuntimeException", "java/lang/Exception"]).filter goodWord ++ (vx_atS RX4 40 "java/lang/IllegalArgumentException" ["java/lang/RuntimeException", "java/lang/Exception"]).filter goodWord)
def wsL_move_r1 : List Cond := [Cond.classLink RL 15 "java/lang/IllegalArgumentException", Cond.classLink RL 17 "java/lang/IllegalStateException", Cond.methodLink RL 41 yX4_move, Cond.instanceMethod yX4_move, Cond.selects RX4 yX4_move yX4_move, Cond.initialized RX4, Cond.code yX4_move cX4_move 4 (some .int), Cond.classLink RX4 51 "java/lang/IllegalStateException", Cond.initialized "java/lang/IllegalStateException", Cond.fieldLink RX4 119 "LockgateRouter" "tickCount" "I", Cond.methodLink RX4 43 yX4_requireRange, Cond.static yX4_requireRange, Cond.code yX4_requireRange cX4_requireRange 3 none, Cond.classLink RX4 36 "java/lang/IllegalArgumentException", Cond.initialized "java/lang/IllegalArgumentException", Cond.methodLink RX4 124 yX4_tickBarges, Cond.instanceMethod yX4_tickBarges, Cond.selects RX4 yX4_tickBarges yX4_tickBarges, Cond.code yX4_tickBarges cX4_tickBarges 3 (some .int), Cond.fieldLink RX4 11 "LockgateRouter" "basins" "[LLockgateRouter$Basin;", Cond.methodLink RX4 221 yX4_sendFirst, Cond.instanceMethod yX4_sendFirst, Cond.selects RX4 yX4_sendFirst yX4_sendFirst, Cond.code yX4_sendFirst cX4_sendFirst 5 (some .boolean)]
def wsL_move_r2 : List Cond := [Cond.fieldLink RX4 116 "LockgateRouter$Basin" "waiting" "Ljava/util/ArrayList;", Cond.classLink RX4 108 "LockgateRouter$Barge", Cond.fieldLink RX4 228 "LockgateRouter$Barge" "cameInTick" "I", Cond.fieldLink RX4 231 "LockgateRouter$Barge" "destination" "LLockgateRouter$Basin;", Cond.fieldLink RX4 77 "LockgateRouter" "lostWater" "I", Cond.fieldLink RX4 113 "LockgateRouter$Barge" "condition" "I", Cond.methodLink RX4 225 yJx4a65c_isEmpty_aae02, Cond.instanceMethod yJx4a65c_isEmpty_aae02, Cond.selects RJx4a65c yJx4a65c_isEmpty_aae02 yJx4a65c_isEmpty_aae02, Cond.initialized RJx4a65c, Cond.code yJx4a65c_isEmpty_aae02 cJx4a65c_isEmpty_aae02 1 (some .boolean), Cond.fieldLink RJx4a65c 48 "java/util/ArrayList" "size" "I", Cond.methodLink RX4 177 yJx4a65c_get_915e3, Cond.instanceMethod yJx4a65c_get_915e3, Cond.selects RJx4a65c yJx4a65c_get_915e3 yJx4a65c_get_915e3, Cond.code yJx4a65c_get_915e3 cJx4a65c_get_915e3 2 (some (.object "java/lang/Object")), Cond.methodLink RJx4a65c 118 yJ15_checkIndex_7cf53, Cond.static yJ15_checkIndex_7cf53, Cond.initialized RJ15, Cond.code yJ15_checkIndex_7cf53 cJ15_checkIndex_7cf53 2 (some .int), Cond.methodLink RJ15 105 yJ3_checkIndex_8e157, Cond.static yJ3_checkIndex_8e157, Cond.initialized RJ3, Cond.code yJ3_checkIndex_8e157 cJ3_checkIndex_8e157 3 (some .int)]
def wsL_move_r3 : List Cond := [Cond.methodLink RJx4a65c 123 yJx4a65c_elementData_915e3, Cond.instanceMethod yJx4a65c_elementData_915e3, Cond.selects RJx4a65c yJx4a65c_elementData_915e3 yJx4a65c_elementData_915e3, Cond.code yJx4a65c_elementData_915e3 cJx4a65c_elementData_915e3 2 (some (.object "java/lang/Object")), Cond.fieldLink RJx4a65c 9 "java/util/ArrayList" "elementData" "[Ljava/lang/Object;", Cond.methodLink RX4 145 yX1_canalTowards, Cond.instanceMethod yX1_canalTowards, Cond.selects RX1 yX1_canalTowards yX1_canalTowards, Cond.initialized RX1, Cond.code yX1_canalTowards cX1_canalTowards 2 (some (.object "LockgateRouter$Canal")), Cond.fieldLink RX1 28 "LockgateRouter$Basin" "table" "LLockgateRouter$Table;", Cond.fieldLink RX1 52 "LockgateRouter$Table" "canals" "[LLockgateRouter$Canal;", Cond.fieldLink RX1 35 "LockgateRouter$Basin" "number" "I", Cond.methodLink RX4 130 yX2_isPassable, Cond.instanceMethod yX2_isPassable, Cond.selects RX2 yX2_isPassable yX2_isPassable, Cond.initialized RX2, Cond.code yX2_isPassable cX2_isPassable 1 (some .boolean), Cond.fieldLink RX2 9 "LockgateRouter$Canal" "gateOpen" "Z", Cond.fieldLink RX2 19 "LockgateRouter$Canal" "upper" "LLockgateRouter$Basin;", Cond.fieldLink RX2 38 "LockgateRouter$Basin" "level" "I", Cond.fieldLink RX2 29 "LockgateRouter$Canal" "lift" "I", Cond.methodLink RX4 217 yX2_otherEnd, Cond.instanceMethod yX2_otherEnd]
def wsL_move_r4 : List Cond := [Cond.selects RX2 yX2_otherEnd yX2_otherEnd, Cond.code yX2_otherEnd cX2_otherEnd 2 (some (.object "LockgateRouter$Basin")), Cond.fieldLink RX2 23 "LockgateRouter$Canal" "lower" "LLockgateRouter$Basin;", Cond.methodLink RX4 234 yX4_takesIn, Cond.instanceMethod yX4_takesIn, Cond.selects RX4 yX4_takesIn yX4_takesIn, Cond.code yX4_takesIn cX4_takesIn 3 (some .boolean), Cond.fieldLink RX4 73 "LockgateRouter$Basin" "mark" "I", Cond.methodLink RX4 102 yX1_isFull, Cond.instanceMethod yX1_isFull, Cond.selects RX1 yX1_isFull yX1_isFull, Cond.code yX1_isFull cX1_isFull 1 (some .boolean), Cond.fieldLink RX1 12 "LockgateRouter$Basin" "waiting" "Ljava/util/ArrayList;", Cond.methodLink RX1 42 yJx4a65c_size_8abf5, Cond.instanceMethod yJx4a65c_size_8abf5, Cond.selects RJx4a65c yJx4a65c_size_8abf5 yJx4a65c_size_8abf5, Cond.code yJx4a65c_size_8abf5 cJx4a65c_size_8abf5 1 (some .int), Cond.methodLink RX4 47 yJx4a65c_size_8abf5, Cond.methodLink RX4 238 yJx4a65c_remove_915e3, Cond.instanceMethod yJx4a65c_remove_915e3, Cond.selects RJx4a65c yJx4a65c_remove_915e3 yJx4a65c_remove_915e3, Cond.code yJx4a65c_remove_915e3 cJx4a65c_remove_915e3 4 (some (.object "java/lang/Object")), Cond.methodLink RJx4a65c 144 yJx4a65c_fastRemove_b59b0, Cond.instanceMethod yJx4a65c_fastRemove_b59b0]
def wsL_move_r5 : List Cond := [Cond.selects RJx4a65c yJx4a65c_fastRemove_b59b0 yJx4a65c_fastRemove_b59b0, Cond.code yJx4a65c_fastRemove_b59b0 cJx4a65c_fastRemove_b59b0 4 none, Cond.fieldLink RJx4a65c 63 "java/util/ArrayList" "modCount" "I", Cond.sameField "java/util/ArrayList" "java/util/AbstractList" "modCount" "I", Cond.methodLink RJx4a65c 112 arraycopyName, Cond.native arraycopyName, Cond.static arraycopyName, Cond.initialized "java/lang/System", Cond.methodLink RX4 241 yX2_lockThrough, Cond.instanceMethod yX2_lockThrough, Cond.selects RX2 yX2_lockThrough yX2_lockThrough, Cond.code yX2_lockThrough cX2_lockThrough 1 (some .int), Cond.methodLink RX2 41 yX1_fill, Cond.instanceMethod yX1_fill, Cond.selects RX1 yX1_fill yX1_fill, Cond.code yX1_fill cX1_fill 3 (some .int), Cond.fieldLink RX1 18 "LockgateRouter$Basin" "level" "I", Cond.methodLink RX1 46 Lib.Math.max.name, Cond.static Lib.Math.max.name, Cond.initialized "java/lang/Math", Cond.code Lib.Math.max.name Lib.Math.max.code 2 (some .int), Cond.methodLink RX4 244 yX0_comeTo, Cond.instanceMethod yX0_comeTo, Cond.selects RX0 yX0_comeTo yX0_comeTo]
def wsL_move_r6 : List Cond := [Cond.initialized RX0, Cond.code yX0_comeTo cX0_comeTo 3 none, Cond.fieldLink RX0 26 "LockgateRouter$Barge" "place" "LLockgateRouter$Basin;", Cond.fieldLink RX0 35 "LockgateRouter$Barge" "cameInTick" "I", Cond.fieldLink RX0 38 "LockgateRouter$Barge" "hopsMade" "I", Cond.fieldLink RX0 32 "LockgateRouter$Barge" "lifeLeft" "I", Cond.fieldLink RX0 9 "LockgateRouter$Barge" "wasIn" "[Z", Cond.fieldLink RX0 29 "LockgateRouter$Basin" "number" "I", Cond.fieldLink RX0 41 "LockgateRouter$Barge" "repeatsMade" "I", Cond.fieldLink RX0 22 "LockgateRouter$Barge" "destination" "LLockgateRouter$Basin;", Cond.fieldLink RX0 15 "LockgateRouter$Barge" "condition" "I", Cond.methodLink RX4 61 yJx4a65c_add_9ea2d, Cond.instanceMethod yJx4a65c_add_9ea2d, Cond.selects RJx4a65c yJx4a65c_add_9ea2d yJx4a65c_add_9ea2d, Cond.code yJx4a65c_add_9ea2d cJx4a65c_add_9ea2d 2 (some .boolean), Cond.methodLink RJx4a65c 131 yJx4a65c_add_72be8, Cond.instanceMethod yJx4a65c_add_72be8, Cond.selects RJx4a65c yJx4a65c_add_72be8 yJx4a65c_add_72be8, Cond.code yJx4a65c_add_72be8 cJx4a65c_add_72be8 4 none, Cond.methodLink RJx4a65c 129 yJx4a65c_grow_d5877, Cond.instanceMethod yJx4a65c_grow_d5877, Cond.selects RJx4a65c yJx4a65c_grow_d5877 yJx4a65c_grow_d5877, Cond.code yJx4a65c_grow_d5877 cJx4a65c_grow_d5877 1 (some (.array (.object "java/lang/Object"))), Cond.methodLink RJx4a65c 69 yJx4a65c_grow_92f84]
def wsL_move_r7 : List Cond := [Cond.instanceMethod yJx4a65c_grow_92f84, Cond.selects RJx4a65c yJx4a65c_grow_92f84 yJx4a65c_grow_92f84, Cond.code yJx4a65c_grow_92f84 cJx4a65c_grow_92f84 4 (some (.array (.object "java/lang/Object"))), Cond.fieldLink RJx4a65c 39 "java/util/ArrayList" "DEFAULTCAPACITY_EMPTY_ELEMENTDATA" "[Ljava/lang/Object;", Cond.methodLink RJx4a65c 79 Lib.Math.max.name, Cond.classLink RJx4a65c 7 "java/lang/Object", Cond.methodLink RJx4a65c 73 yJ8_newLength_cabcc, Cond.static yJ8_newLength_cabcc, Cond.initialized RJ8, Cond.code yJ8_newLength_cabcc cJ8_newLength_cabcc 4 (some .int), Cond.methodLink RJ8 194 Lib.Math.max.name, Cond.constant RJ8 200 (2147483639), Cond.methodLink RJ8 201 yJ8_hugeLength_7cf53, Cond.static yJ8_hugeLength_7cf53, Cond.code yJ8_hugeLength_7cf53 cJ8_hugeLength_7cf53 3 (some .int), Cond.methodLink RJx4a65c 66 yJ7_copyOf_1904c, Cond.static yJ7_copyOf_1904c, Cond.initialized RJ7, Cond.code yJ7_copyOf_1904c cJ7_copyOf_1904c 2 (some (.array (.object "java/lang/Object"))), Cond.methodLink RJ7 86 ⟨"java/lang/Object", "getClass", "()Ljava/lang/Class;"⟩, Cond.selects "[Ljava/lang/Object;" ⟨"java/lang/Object", "getClass", "()Ljava/lang/Class;"⟩ ⟨"java/lang/Object", "getClass", "()Ljava/lang/Class;"⟩, Cond.instanceMethod ⟨"java/lang/Object", "getClass", "()Ljava/lang/Class;"⟩, Cond.native ⟨"java/lang/Object", "getClass", "()Ljava/lang/Class;"⟩, Cond.methodLink RJ7 300 yJ7_copyOf_6403c]
def wsL_move_r8 : List Cond := [Cond.static yJ7_copyOf_6403c, Cond.code yJ7_copyOf_6403c cJ7_copyOf_6403c 4 (some (.array (.object "java/lang/Object"))), Cond.classLink RJ7 110 "[Ljava/lang/Object;", Cond.classLink RJ7 2 "java/lang/Object", Cond.methodLink RJ7 304 Lib.Math.min.name, Cond.static Lib.Math.min.name, Cond.code Lib.Math.min.name Lib.Math.min.code 2 (some .int), Cond.methodLink RJ7 150 arraycopyName]
def wsL_move : List Cond := .codeWith yL_move cL_move 4 (some .int) [(0, 9, 12, 15), (0, 9, 15, 17)] :: ((wsL_move_r1 ++ (wsL_move_r2 ++ (wsL_move_r3 ++ (wsL_move_r4 ++ (wsL_move_r5 ++ (wsL_move_r6 ++ (wsL_move_r7 ++ wsL_move_r8))))))) ++ wsX40 ++ wsX10 ++ wsX00 ++ wsJx4a65c0 ++ wsX30 ++ wsX20 ++ (vx_atS RX4 55 "java/lang/IllegalStateException" ["java/lang/RuntimeException", "java/lang/Exception"]).filter goodWord ++ (vx_atS RX4 40 "java/lang/IllegalArgumentException" ["java/lang/RuntimeException", "java/lang/Exception"]).filter goodWord)
def wsL_water : List Cond := .codeWith yL_water cL_water 4 (some .int) [(0, 9, 12, 13)] :: ([.classLink RL 13 "java/lang/IndexOutOfBoundsException", .methodLink RL 44 yX4_water, .instanceMethod yX4_water, .selects RX4 yX4_water yX4_water, .initialized RX4, .code yX4_water cX4_water 2 (some .int), .fieldLink RX4 84 "LockgateRouter$Basin" "level" "I", .methodLink RX4 32 yX4_basinNumbered, .instanceMethod yX4_basinNumbered, .selects RX4 yX4_basinNumbered yX4_basinNumbered, .code yX4_basinNumbered cX4_basinNumbered 2 (some (.object "LockgateRouter$Basin")), .classLink RX4 182 "java/lang/IndexOutOfBoundsException", .initialized "java/lang/IndexOutOfBoundsException", .fieldLink RX4 11 "LockgateRouter" "basins" "[LLockgateRouter$Basin;"] ++ wsX10 ++ wsX40 ++ (vx_atS RX4 186 "java/lang/IndexOutOfBoundsException" ["java/lang/RuntimeException", "java/lang/Exception"]).filter goodWord)
def wsL_cost_r1 : List Cond := [Cond.classLink RL 13 "java/lang/IndexOutOfBoundsException", Cond.methodLink RL 47 yX4_cost, Cond.instanceMethod yX4_cost, Cond.selects RX4 yX4_cost yX4_cost, Cond.initialized RX4, Cond.code yX4_cost cX4_cost 2 (some .int), Cond.methodLink RX4 65 yX4_canalNumbered, Cond.instanceMethod yX4_canalNumbered, Cond.selects RX4 yX4_canalNumbered yX4_canalNumbered, Cond.code yX4_canalNumbered cX4_canalNumbered 2 (some (.object "LockgateRouter$Canal")), Cond.classLink RX4 182 "java/lang/IndexOutOfBoundsException", Cond.initialized "java/lang/IndexOutOfBoundsException", Cond.fieldLink RX4 18 "LockgateRouter" "dug" "Ljava/util/ArrayList;", Cond.classLink RX4 56 "LockgateRouter$Canal", Cond.methodLink RX4 47 yJx4a65c_size_8abf5, Cond.instanceMethod yJx4a65c_size_8abf5, Cond.selects RJx4a65c yJx4a65c_size_8abf5 yJx4a65c_size_8abf5, Cond.initialized RJx4a65c, Cond.code yJx4a65c_size_8abf5 cJx4a65c_size_8abf5 1 (some .int), Cond.fieldLink RJx4a65c 48 "java/util/ArrayList" "size" "I", Cond.methodLink RX4 177 yJx4a65c_get_915e3, Cond.instanceMethod yJx4a65c_get_915e3, Cond.selects RJx4a65c yJx4a65c_get_915e3 yJx4a65c_get_915e3, Cond.code yJx4a65c_get_915e3 cJx4a65c_get_915e3 2 (some (.object "java/lang/Object"))]
def wsL_cost_r2 : List Cond := [Cond.methodLink RJx4a65c 118 yJ15_checkIndex_7cf53, Cond.static yJ15_checkIndex_7cf53, Cond.initialized RJ15, Cond.code yJ15_checkIndex_7cf53 cJ15_checkIndex_7cf53 2 (some .int), Cond.methodLink RJ15 105 yJ3_checkIndex_8e157, Cond.static yJ3_checkIndex_8e157, Cond.initialized RJ3, Cond.code yJ3_checkIndex_8e157 cJ3_checkIndex_8e157 3 (some .int), Cond.methodLink RJx4a65c 123 yJx4a65c_elementData_915e3, Cond.instanceMethod yJx4a65c_elementData_915e3, Cond.selects RJx4a65c yJx4a65c_elementData_915e3 yJx4a65c_elementData_915e3, Cond.code yJx4a65c_elementData_915e3 cJx4a65c_elementData_915e3 2 (some (.object "java/lang/Object")), Cond.fieldLink RJx4a65c 9 "java/util/ArrayList" "elementData" "[Ljava/lang/Object;", Cond.methodLink RX4 127 yX2_costNow, Cond.instanceMethod yX2_costNow, Cond.selects RX2 yX2_costNow yX2_costNow, Cond.initialized RX2, Cond.code yX2_costNow cX2_costNow 1 (some .int), Cond.fieldLink RX2 26 "LockgateRouter$Canal" "length" "I", Cond.fieldLink RX2 19 "LockgateRouter$Canal" "upper" "LLockgateRouter$Basin;", Cond.fieldLink RX2 23 "LockgateRouter$Canal" "lower" "LLockgateRouter$Basin;", Cond.methodLink RX2 32 yX1_costOfLowWater, Cond.instanceMethod yX1_costOfLowWater, Cond.selects RX1 yX1_costOfLowWater yX1_costOfLowWater]
def wsL_cost_r3 : List Cond := [Cond.initialized RX1, Cond.code yX1_costOfLowWater cX1_costOfLowWater 1 (some .int), Cond.fieldLink RX1 18 "LockgateRouter$Basin" "level" "I"]
def wsL_cost : List Cond := .codeWith yL_cost cL_cost 4 (some .int) [(0, 9, 12, 13)] :: ((wsL_cost_r1 ++ (wsL_cost_r2 ++ wsL_cost_r3)) ++ wsX40 ++ wsJx4a65c0 ++ wsX20 ++ wsX10 ++ (vx_atS RX4 186 "java/lang/IndexOutOfBoundsException" ["java/lang/RuntimeException", "java/lang/Exception"]).filter goodWord)
def wsL_canPass_r1 : List Cond := [Cond.classLink RL 13 "java/lang/IndexOutOfBoundsException", Cond.methodLink RL 50 yX4_canPass, Cond.instanceMethod yX4_canPass, Cond.selects RX4 yX4_canPass yX4_canPass, Cond.initialized RX4, Cond.code yX4_canPass cX4_canPass 2 (some .boolean), Cond.methodLink RX4 65 yX4_canalNumbered, Cond.instanceMethod yX4_canalNumbered, Cond.selects RX4 yX4_canalNumbered yX4_canalNumbered, Cond.code yX4_canalNumbered cX4_canalNumbered 2 (some (.object "LockgateRouter$Canal")), Cond.classLink RX4 182 "java/lang/IndexOutOfBoundsException", Cond.initialized "java/lang/IndexOutOfBoundsException", Cond.fieldLink RX4 18 "LockgateRouter" "dug" "Ljava/util/ArrayList;", Cond.classLink RX4 56 "LockgateRouter$Canal", Cond.methodLink RX4 47 yJx4a65c_size_8abf5, Cond.instanceMethod yJx4a65c_size_8abf5, Cond.selects RJx4a65c yJx4a65c_size_8abf5 yJx4a65c_size_8abf5, Cond.initialized RJx4a65c, Cond.code yJx4a65c_size_8abf5 cJx4a65c_size_8abf5 1 (some .int), Cond.fieldLink RJx4a65c 48 "java/util/ArrayList" "size" "I", Cond.methodLink RX4 177 yJx4a65c_get_915e3, Cond.instanceMethod yJx4a65c_get_915e3, Cond.selects RJx4a65c yJx4a65c_get_915e3 yJx4a65c_get_915e3, Cond.code yJx4a65c_get_915e3 cJx4a65c_get_915e3 2 (some (.object "java/lang/Object"))]
def wsL_canPass_r2 : List Cond := [Cond.methodLink RJx4a65c 118 yJ15_checkIndex_7cf53, Cond.static yJ15_checkIndex_7cf53, Cond.initialized RJ15, Cond.code yJ15_checkIndex_7cf53 cJ15_checkIndex_7cf53 2 (some .int), Cond.methodLink RJ15 105 yJ3_checkIndex_8e157, Cond.static yJ3_checkIndex_8e157, Cond.initialized RJ3, Cond.code yJ3_checkIndex_8e157 cJ3_checkIndex_8e157 3 (some .int), Cond.methodLink RJx4a65c 123 yJx4a65c_elementData_915e3, Cond.instanceMethod yJx4a65c_elementData_915e3, Cond.selects RJx4a65c yJx4a65c_elementData_915e3 yJx4a65c_elementData_915e3, Cond.code yJx4a65c_elementData_915e3 cJx4a65c_elementData_915e3 2 (some (.object "java/lang/Object")), Cond.fieldLink RJx4a65c 9 "java/util/ArrayList" "elementData" "[Ljava/lang/Object;", Cond.methodLink RX4 130 yX2_isPassable, Cond.instanceMethod yX2_isPassable, Cond.selects RX2 yX2_isPassable yX2_isPassable, Cond.initialized RX2, Cond.code yX2_isPassable cX2_isPassable 1 (some .boolean), Cond.fieldLink RX2 9 "LockgateRouter$Canal" "gateOpen" "Z", Cond.fieldLink RX2 19 "LockgateRouter$Canal" "upper" "LLockgateRouter$Basin;", Cond.fieldLink RX2 38 "LockgateRouter$Basin" "level" "I", Cond.fieldLink RX2 29 "LockgateRouter$Canal" "lift" "I"]
def wsL_canPass : List Cond := .codeWith yL_canPass cL_canPass 4 (some .int) [(0, 16, 19, 13)] :: ((wsL_canPass_r1 ++ wsL_canPass_r2) ++ wsX40 ++ wsJx4a65c0 ++ wsX20 ++ wsX10 ++ (vx_atS RX4 186 "java/lang/IndexOutOfBoundsException" ["java/lang/RuntimeException", "java/lang/Exception"]).filter goodWord)
def wsL_distance : List Cond := .codeWith yL_distance cL_distance 5 (some .int) [(0, 10, 13, 13)] :: ([.classLink RL 13 "java/lang/IndexOutOfBoundsException", .methodLink RL 54 yX4_distance, .instanceMethod yX4_distance, .selects RX4 yX4_distance yX4_distance, .initialized RX4, .code yX4_distance cX4_distance 4 (some .int), .fieldLink RX4 133 "LockgateRouter$Basin" "table" "LLockgateRouter$Table;", .fieldLink RX4 137 "LockgateRouter$Table" "distances" "[I", .fieldLink RX4 142 "LockgateRouter$Basin" "number" "I", .methodLink RX4 32 yX4_basinNumbered, .instanceMethod yX4_basinNumbered, .selects RX4 yX4_basinNumbered yX4_basinNumbered, .code yX4_basinNumbered cX4_basinNumbered 2 (some (.object "LockgateRouter$Basin")), .classLink RX4 182 "java/lang/IndexOutOfBoundsException", .initialized "java/lang/IndexOutOfBoundsException", .fieldLink RX4 11 "LockgateRouter" "basins" "[LLockgateRouter$Basin;"] ++ wsX10 ++ wsX30 ++ wsX40 ++ (vx_atS RX4 186 "java/lang/IndexOutOfBoundsException" ["java/lang/RuntimeException", "java/lang/Exception"]).filter goodWord)
def wsL_canalTo : List Cond := .codeWith yL_canalTo cL_canalTo 5 (some .int) [(0, 10, 13, 13)] :: ([.classLink RL 13 "java/lang/IndexOutOfBoundsException", .methodLink RL 57 yX4_canalTo, .instanceMethod yX4_canalTo, .selects RX4 yX4_canalTo yX4_canalTo, .initialized RX4, .code yX4_canalTo cX4_canalTo 5 (some .int), .fieldLink RX4 149 "LockgateRouter$Canal" "number" "I", .methodLink RX4 32 yX4_basinNumbered, .instanceMethod yX4_basinNumbered, .selects RX4 yX4_basinNumbered yX4_basinNumbered, .code yX4_basinNumbered cX4_basinNumbered 2 (some (.object "LockgateRouter$Basin")), .classLink RX4 182 "java/lang/IndexOutOfBoundsException", .initialized "java/lang/IndexOutOfBoundsException", .fieldLink RX4 11 "LockgateRouter" "basins" "[LLockgateRouter$Basin;", .methodLink RX4 145 yX1_canalTowards, .instanceMethod yX1_canalTowards, .selects RX1 yX1_canalTowards yX1_canalTowards, .initialized RX1, .code yX1_canalTowards cX1_canalTowards 2 (some (.object "LockgateRouter$Canal")), .fieldLink RX1 28 "LockgateRouter$Basin" "table" "LLockgateRouter$Table;", .fieldLink RX1 52 "LockgateRouter$Table" "canals" "[LLockgateRouter$Canal;", .fieldLink RX1 35 "LockgateRouter$Basin" "number" "I"] ++ wsX20 ++ wsX40 ++ wsX10 ++ wsX30 ++ (vx_atS RX4 186 "java/lang/IndexOutOfBoundsException" ["java/lang/RuntimeException", "java/lang/Exception"]).filter goodWord)
def wsL_cheapest_r1 : List Cond := [Cond.classLink RL 13 "java/lang/IndexOutOfBoundsException", Cond.methodLink RL 60 yX4_cheapest, Cond.instanceMethod yX4_cheapest, Cond.selects RX4 yX4_cheapest yX4_cheapest, Cond.initialized RX4, Cond.code yX4_cheapest cX4_cheapest 6 (some .int), Cond.fieldLink RX4 25 "LockgateRouter" "cheapestSoFar" "[I", Cond.fieldLink RX4 142 "LockgateRouter$Basin" "number" "I", Cond.methodLink RX4 32 yX4_basinNumbered, Cond.instanceMethod yX4_basinNumbered, Cond.selects RX4 yX4_basinNumbered yX4_basinNumbered, Cond.code yX4_basinNumbered cX4_basinNumbered 2 (some (.object "LockgateRouter$Basin")), Cond.classLink RX4 182 "java/lang/IndexOutOfBoundsException", Cond.initialized "java/lang/IndexOutOfBoundsException", Cond.fieldLink RX4 11 "LockgateRouter" "basins" "[LLockgateRouter$Basin;", Cond.methodLink RX4 150 yX4_findCheapestWays, Cond.instanceMethod yX4_findCheapestWays, Cond.selects RX4 yX4_findCheapestWays yX4_findCheapestWays, Cond.code yX4_findCheapestWays cX4_findCheapestWays 5 none, Cond.fieldLink RX4 18 "LockgateRouter" "dug" "Ljava/util/ArrayList;", Cond.classLink RX4 56 "LockgateRouter$Canal", Cond.fieldLink RX4 69 "LockgateRouter$Canal" "gateOpen" "Z", Cond.fieldLink RX4 199 "LockgateRouter$Canal" "upper" "LLockgateRouter$Basin;", Cond.fieldLink RX4 202 "LockgateRouter$Canal" "lower" "LLockgateRouter$Basin;"]
def wsL_cheapest_r2 : List Cond := [Cond.methodLink RX4 47 yJx4a65c_size_8abf5, Cond.instanceMethod yJx4a65c_size_8abf5, Cond.selects RJx4a65c yJx4a65c_size_8abf5 yJx4a65c_size_8abf5, Cond.initialized RJx4a65c, Cond.code yJx4a65c_size_8abf5 cJx4a65c_size_8abf5 1 (some .int), Cond.fieldLink RJx4a65c 48 "java/util/ArrayList" "size" "I", Cond.methodLink RX4 177 yJx4a65c_get_915e3, Cond.instanceMethod yJx4a65c_get_915e3, Cond.selects RJx4a65c yJx4a65c_get_915e3 yJx4a65c_get_915e3, Cond.code yJx4a65c_get_915e3 cJx4a65c_get_915e3 2 (some (.object "java/lang/Object")), Cond.methodLink RJx4a65c 118 yJ15_checkIndex_7cf53, Cond.static yJ15_checkIndex_7cf53, Cond.initialized RJ15, Cond.code yJ15_checkIndex_7cf53 cJ15_checkIndex_7cf53 2 (some .int), Cond.methodLink RJ15 105 yJ3_checkIndex_8e157, Cond.static yJ3_checkIndex_8e157, Cond.initialized RJ3, Cond.code yJ3_checkIndex_8e157 cJ3_checkIndex_8e157 3 (some .int), Cond.methodLink RJx4a65c 123 yJx4a65c_elementData_915e3, Cond.instanceMethod yJx4a65c_elementData_915e3, Cond.selects RJx4a65c yJx4a65c_elementData_915e3 yJx4a65c_elementData_915e3, Cond.code yJx4a65c_elementData_915e3 cJx4a65c_elementData_915e3 2 (some (.object "java/lang/Object")), Cond.fieldLink RJx4a65c 9 "java/util/ArrayList" "elementData" "[Ljava/lang/Object;", Cond.methodLink RX4 127 yX2_costNow]
def wsL_cheapest_r3 : List Cond := [Cond.instanceMethod yX2_costNow, Cond.selects RX2 yX2_costNow yX2_costNow, Cond.initialized RX2, Cond.code yX2_costNow cX2_costNow 1 (some .int), Cond.fieldLink RX2 26 "LockgateRouter$Canal" "length" "I", Cond.fieldLink RX2 19 "LockgateRouter$Canal" "upper" "LLockgateRouter$Basin;", Cond.fieldLink RX2 23 "LockgateRouter$Canal" "lower" "LLockgateRouter$Basin;", Cond.methodLink RX2 32 yX1_costOfLowWater, Cond.instanceMethod yX1_costOfLowWater, Cond.selects RX1 yX1_costOfLowWater yX1_costOfLowWater, Cond.initialized RX1, Cond.code yX1_costOfLowWater cX1_costOfLowWater 1 (some .int), Cond.fieldLink RX1 18 "LockgateRouter$Basin" "level" "I", Cond.methodLink RX4 213 yX4_extendWay, Cond.instanceMethod yX4_extendWay, Cond.selects RX4 yX4_extendWay yX4_extendWay, Cond.code yX4_extendWay cX4_extendWay 6 none]
def wsL_cheapest : List Cond := .codeWith yL_cheapest cL_cheapest 5 (some .int) [(0, 10, 13, 13)] :: ((wsL_cheapest_r1 ++ (wsL_cheapest_r2 ++ wsL_cheapest_r3)) ++ wsX40 ++ wsX10 ++ wsX20 ++ wsJx4a65c0 ++ (vx_atS RX4 186 "java/lang/IndexOutOfBoundsException" ["java/lang/RuntimeException", "java/lang/Exception"]).filter goodWord)
def wsL_isLoop_r1 : List Cond := [Cond.classLink RL 13 "java/lang/IndexOutOfBoundsException", Cond.methodLink RL 63 yX4_isLoop, Cond.instanceMethod yX4_isLoop, Cond.selects RX4 yX4_isLoop yX4_isLoop, Cond.initialized RX4, Cond.code yX4_isLoop cX4_isLoop 4 (some .boolean), Cond.methodLink RX4 32 yX4_basinNumbered, Cond.instanceMethod yX4_basinNumbered, Cond.selects RX4 yX4_basinNumbered yX4_basinNumbered, Cond.code yX4_basinNumbered cX4_basinNumbered 2 (some (.object "LockgateRouter$Basin")), Cond.classLink RX4 182 "java/lang/IndexOutOfBoundsException", Cond.initialized "java/lang/IndexOutOfBoundsException", Cond.fieldLink RX4 11 "LockgateRouter" "basins" "[LLockgateRouter$Basin;", Cond.methodLink RX4 154 yX4_goesRound, Cond.static yX4_goesRound, Cond.code yX4_goesRound cX4_goesRound 5 (some .boolean), Cond.methodLink RX4 145 yX1_canalTowards, Cond.instanceMethod yX1_canalTowards, Cond.selects RX1 yX1_canalTowards yX1_canalTowards, Cond.initialized RX1, Cond.code yX1_canalTowards cX1_canalTowards 2 (some (.object "LockgateRouter$Canal")), Cond.fieldLink RX1 28 "LockgateRouter$Basin" "table" "LLockgateRouter$Table;", Cond.fieldLink RX1 52 "LockgateRouter$Table" "canals" "[LLockgateRouter$Canal;", Cond.fieldLink RX1 35 "LockgateRouter$Basin" "number" "I"]
def wsL_isLoop_r2 : List Cond := [Cond.methodLink RX4 217 yX2_otherEnd, Cond.instanceMethod yX2_otherEnd, Cond.selects RX2 yX2_otherEnd yX2_otherEnd, Cond.initialized RX2, Cond.code yX2_otherEnd cX2_otherEnd 2 (some (.object "LockgateRouter$Basin")), Cond.fieldLink RX2 19 "LockgateRouter$Canal" "upper" "LLockgateRouter$Basin;", Cond.fieldLink RX2 23 "LockgateRouter$Canal" "lower" "LLockgateRouter$Basin;"]
def wsL_isLoop : List Cond := .codeWith yL_isLoop cL_isLoop 5 (some .int) [(0, 17, 20, 13)] :: ((wsL_isLoop_r1 ++ wsL_isLoop_r2) ++ wsX40 ++ wsX10 ++ wsX30 ++ wsX20 ++ (vx_atS RX4 186 "java/lang/IndexOutOfBoundsException" ["java/lang/RuntimeException", "java/lang/Exception"]).filter goodWord)
def wsL_state_r1 : List Cond := [Cond.classLink RL 13 "java/lang/IndexOutOfBoundsException", Cond.methodLink RL 67 yX4_state, Cond.instanceMethod yX4_state, Cond.selects RX4 yX4_state yX4_state, Cond.initialized RX4, Cond.code yX4_state cX4_state 2 (some .int), Cond.fieldLink RX4 113 "LockgateRouter$Barge" "condition" "I", Cond.methodLink RX4 158 yX4_bargeNumbered, Cond.instanceMethod yX4_bargeNumbered, Cond.selects RX4 yX4_bargeNumbered yX4_bargeNumbered, Cond.code yX4_bargeNumbered cX4_bargeNumbered 2 (some (.object "LockgateRouter$Barge")), Cond.classLink RX4 182 "java/lang/IndexOutOfBoundsException", Cond.initialized "java/lang/IndexOutOfBoundsException", Cond.fieldLink RX4 22 "LockgateRouter" "fleet" "Ljava/util/ArrayList;", Cond.classLink RX4 108 "LockgateRouter$Barge", Cond.methodLink RX4 47 yJx4a65c_size_8abf5, Cond.instanceMethod yJx4a65c_size_8abf5, Cond.selects RJx4a65c yJx4a65c_size_8abf5 yJx4a65c_size_8abf5, Cond.initialized RJx4a65c, Cond.code yJx4a65c_size_8abf5 cJx4a65c_size_8abf5 1 (some .int), Cond.fieldLink RJx4a65c 48 "java/util/ArrayList" "size" "I", Cond.methodLink RX4 177 yJx4a65c_get_915e3, Cond.instanceMethod yJx4a65c_get_915e3, Cond.selects RJx4a65c yJx4a65c_get_915e3 yJx4a65c_get_915e3]
def wsL_state_r2 : List Cond := [Cond.code yJx4a65c_get_915e3 cJx4a65c_get_915e3 2 (some (.object "java/lang/Object")), Cond.methodLink RJx4a65c 118 yJ15_checkIndex_7cf53, Cond.static yJ15_checkIndex_7cf53, Cond.initialized RJ15, Cond.code yJ15_checkIndex_7cf53 cJ15_checkIndex_7cf53 2 (some .int), Cond.methodLink RJ15 105 yJ3_checkIndex_8e157, Cond.static yJ3_checkIndex_8e157, Cond.initialized RJ3, Cond.code yJ3_checkIndex_8e157 cJ3_checkIndex_8e157 3 (some .int), Cond.methodLink RJx4a65c 123 yJx4a65c_elementData_915e3, Cond.instanceMethod yJx4a65c_elementData_915e3, Cond.selects RJx4a65c yJx4a65c_elementData_915e3 yJx4a65c_elementData_915e3, Cond.code yJx4a65c_elementData_915e3 cJx4a65c_elementData_915e3 2 (some (.object "java/lang/Object")), Cond.fieldLink RJx4a65c 9 "java/util/ArrayList" "elementData" "[Ljava/lang/Object;"]
def wsL_state : List Cond := .codeWith yL_state cL_state 4 (some .int) [(0, 9, 12, 13)] :: ((wsL_state_r1 ++ wsL_state_r2) ++ wsX00 ++ wsX40 ++ wsJx4a65c0 ++ (vx_atS RX4 186 "java/lang/IndexOutOfBoundsException" ["java/lang/RuntimeException", "java/lang/Exception"]).filter goodWord)
def wsL_basinOf_r1 : List Cond := [Cond.classLink RL 13 "java/lang/IndexOutOfBoundsException", Cond.methodLink RL 70 yX4_basinOf, Cond.instanceMethod yX4_basinOf, Cond.selects RX4 yX4_basinOf yX4_basinOf, Cond.initialized RX4, Cond.code yX4_basinOf cX4_basinOf 2 (some .int), Cond.fieldLink RX4 162 "LockgateRouter$Barge" "place" "LLockgateRouter$Basin;", Cond.fieldLink RX4 142 "LockgateRouter$Basin" "number" "I", Cond.methodLink RX4 158 yX4_bargeNumbered, Cond.instanceMethod yX4_bargeNumbered, Cond.selects RX4 yX4_bargeNumbered yX4_bargeNumbered, Cond.code yX4_bargeNumbered cX4_bargeNumbered 2 (some (.object "LockgateRouter$Barge")), Cond.classLink RX4 182 "java/lang/IndexOutOfBoundsException", Cond.initialized "java/lang/IndexOutOfBoundsException", Cond.fieldLink RX4 22 "LockgateRouter" "fleet" "Ljava/util/ArrayList;", Cond.classLink RX4 108 "LockgateRouter$Barge", Cond.methodLink RX4 47 yJx4a65c_size_8abf5, Cond.instanceMethod yJx4a65c_size_8abf5, Cond.selects RJx4a65c yJx4a65c_size_8abf5 yJx4a65c_size_8abf5, Cond.initialized RJx4a65c, Cond.code yJx4a65c_size_8abf5 cJx4a65c_size_8abf5 1 (some .int), Cond.fieldLink RJx4a65c 48 "java/util/ArrayList" "size" "I", Cond.methodLink RX4 177 yJx4a65c_get_915e3, Cond.instanceMethod yJx4a65c_get_915e3]
def wsL_basinOf_r2 : List Cond := [Cond.selects RJx4a65c yJx4a65c_get_915e3 yJx4a65c_get_915e3, Cond.code yJx4a65c_get_915e3 cJx4a65c_get_915e3 2 (some (.object "java/lang/Object")), Cond.methodLink RJx4a65c 118 yJ15_checkIndex_7cf53, Cond.static yJ15_checkIndex_7cf53, Cond.initialized RJ15, Cond.code yJ15_checkIndex_7cf53 cJ15_checkIndex_7cf53 2 (some .int), Cond.methodLink RJ15 105 yJ3_checkIndex_8e157, Cond.static yJ3_checkIndex_8e157, Cond.initialized RJ3, Cond.code yJ3_checkIndex_8e157 cJ3_checkIndex_8e157 3 (some .int), Cond.methodLink RJx4a65c 123 yJx4a65c_elementData_915e3, Cond.instanceMethod yJx4a65c_elementData_915e3, Cond.selects RJx4a65c yJx4a65c_elementData_915e3 yJx4a65c_elementData_915e3, Cond.code yJx4a65c_elementData_915e3 cJx4a65c_elementData_915e3 2 (some (.object "java/lang/Object")), Cond.fieldLink RJx4a65c 9 "java/util/ArrayList" "elementData" "[Ljava/lang/Object;"]
def wsL_basinOf : List Cond := .codeWith yL_basinOf cL_basinOf 4 (some .int) [(0, 9, 12, 13)] :: ((wsL_basinOf_r1 ++ wsL_basinOf_r2) ++ wsX00 ++ wsX10 ++ wsX40 ++ wsJx4a65c0 ++ (vx_atS RX4 186 "java/lang/IndexOutOfBoundsException" ["java/lang/RuntimeException", "java/lang/Exception"]).filter goodWord)
def wsL_hops_r1 : List Cond := [Cond.classLink RL 13 "java/lang/IndexOutOfBoundsException", Cond.methodLink RL 73 yX4_hops, Cond.instanceMethod yX4_hops, Cond.selects RX4 yX4_hops yX4_hops, Cond.initialized RX4, Cond.code yX4_hops cX4_hops 2 (some .int), Cond.fieldLink RX4 166 "LockgateRouter$Barge" "hopsMade" "I", Cond.methodLink RX4 158 yX4_bargeNumbered, Cond.instanceMethod yX4_bargeNumbered, Cond.selects RX4 yX4_bargeNumbered yX4_bargeNumbered, Cond.code yX4_bargeNumbered cX4_bargeNumbered 2 (some (.object "LockgateRouter$Barge")), Cond.classLink RX4 182 "java/lang/IndexOutOfBoundsException", Cond.initialized "java/lang/IndexOutOfBoundsException", Cond.fieldLink RX4 22 "LockgateRouter" "fleet" "Ljava/util/ArrayList;", Cond.classLink RX4 108 "LockgateRouter$Barge", Cond.methodLink RX4 47 yJx4a65c_size_8abf5, Cond.instanceMethod yJx4a65c_size_8abf5, Cond.selects RJx4a65c yJx4a65c_size_8abf5 yJx4a65c_size_8abf5, Cond.initialized RJx4a65c, Cond.code yJx4a65c_size_8abf5 cJx4a65c_size_8abf5 1 (some .int), Cond.fieldLink RJx4a65c 48 "java/util/ArrayList" "size" "I", Cond.methodLink RX4 177 yJx4a65c_get_915e3, Cond.instanceMethod yJx4a65c_get_915e3, Cond.selects RJx4a65c yJx4a65c_get_915e3 yJx4a65c_get_915e3]
def wsL_hops_r2 : List Cond := [Cond.code yJx4a65c_get_915e3 cJx4a65c_get_915e3 2 (some (.object "java/lang/Object")), Cond.methodLink RJx4a65c 118 yJ15_checkIndex_7cf53, Cond.static yJ15_checkIndex_7cf53, Cond.initialized RJ15, Cond.code yJ15_checkIndex_7cf53 cJ15_checkIndex_7cf53 2 (some .int), Cond.methodLink RJ15 105 yJ3_checkIndex_8e157, Cond.static yJ3_checkIndex_8e157, Cond.initialized RJ3, Cond.code yJ3_checkIndex_8e157 cJ3_checkIndex_8e157 3 (some .int), Cond.methodLink RJx4a65c 123 yJx4a65c_elementData_915e3, Cond.instanceMethod yJx4a65c_elementData_915e3, Cond.selects RJx4a65c yJx4a65c_elementData_915e3 yJx4a65c_elementData_915e3, Cond.code yJx4a65c_elementData_915e3 cJx4a65c_elementData_915e3 2 (some (.object "java/lang/Object")), Cond.fieldLink RJx4a65c 9 "java/util/ArrayList" "elementData" "[Ljava/lang/Object;"]
def wsL_hops : List Cond := .codeWith yL_hops cL_hops 4 (some .int) [(0, 9, 12, 13)] :: ((wsL_hops_r1 ++ wsL_hops_r2) ++ wsX00 ++ wsX40 ++ wsJx4a65c0 ++ (vx_atS RX4 186 "java/lang/IndexOutOfBoundsException" ["java/lang/RuntimeException", "java/lang/Exception"]).filter goodWord)
def wsL_life_r1 : List Cond := [Cond.classLink RL 13 "java/lang/IndexOutOfBoundsException", Cond.methodLink RL 76 yX4_life, Cond.instanceMethod yX4_life, Cond.selects RX4 yX4_life yX4_life, Cond.initialized RX4, Cond.code yX4_life cX4_life 2 (some .int), Cond.fieldLink RX4 169 "LockgateRouter$Barge" "lifeLeft" "I", Cond.methodLink RX4 158 yX4_bargeNumbered, Cond.instanceMethod yX4_bargeNumbered, Cond.selects RX4 yX4_bargeNumbered yX4_bargeNumbered, Cond.code yX4_bargeNumbered cX4_bargeNumbered 2 (some (.object "LockgateRouter$Barge")), Cond.classLink RX4 182 "java/lang/IndexOutOfBoundsException", Cond.initialized "java/lang/IndexOutOfBoundsException", Cond.fieldLink RX4 22 "LockgateRouter" "fleet" "Ljava/util/ArrayList;", Cond.classLink RX4 108 "LockgateRouter$Barge", Cond.methodLink RX4 47 yJx4a65c_size_8abf5, Cond.instanceMethod yJx4a65c_size_8abf5, Cond.selects RJx4a65c yJx4a65c_size_8abf5 yJx4a65c_size_8abf5, Cond.initialized RJx4a65c, Cond.code yJx4a65c_size_8abf5 cJx4a65c_size_8abf5 1 (some .int), Cond.fieldLink RJx4a65c 48 "java/util/ArrayList" "size" "I", Cond.methodLink RX4 177 yJx4a65c_get_915e3, Cond.instanceMethod yJx4a65c_get_915e3, Cond.selects RJx4a65c yJx4a65c_get_915e3 yJx4a65c_get_915e3]
def wsL_life_r2 : List Cond := [Cond.code yJx4a65c_get_915e3 cJx4a65c_get_915e3 2 (some (.object "java/lang/Object")), Cond.methodLink RJx4a65c 118 yJ15_checkIndex_7cf53, Cond.static yJ15_checkIndex_7cf53, Cond.initialized RJ15, Cond.code yJ15_checkIndex_7cf53 cJ15_checkIndex_7cf53 2 (some .int), Cond.methodLink RJ15 105 yJ3_checkIndex_8e157, Cond.static yJ3_checkIndex_8e157, Cond.initialized RJ3, Cond.code yJ3_checkIndex_8e157 cJ3_checkIndex_8e157 3 (some .int), Cond.methodLink RJx4a65c 123 yJx4a65c_elementData_915e3, Cond.instanceMethod yJx4a65c_elementData_915e3, Cond.selects RJx4a65c yJx4a65c_elementData_915e3 yJx4a65c_elementData_915e3, Cond.code yJx4a65c_elementData_915e3 cJx4a65c_elementData_915e3 2 (some (.object "java/lang/Object")), Cond.fieldLink RJx4a65c 9 "java/util/ArrayList" "elementData" "[Ljava/lang/Object;"]
def wsL_life : List Cond := .codeWith yL_life cL_life 4 (some .int) [(0, 9, 12, 13)] :: ((wsL_life_r1 ++ wsL_life_r2) ++ wsX00 ++ wsX40 ++ wsJx4a65c0 ++ (vx_atS RX4 186 "java/lang/IndexOutOfBoundsException" ["java/lang/RuntimeException", "java/lang/Exception"]).filter goodWord)
def wsL_repeats_r1 : List Cond := [Cond.classLink RL 13 "java/lang/IndexOutOfBoundsException", Cond.methodLink RL 79 yX4_repeats, Cond.instanceMethod yX4_repeats, Cond.selects RX4 yX4_repeats yX4_repeats, Cond.initialized RX4, Cond.code yX4_repeats cX4_repeats 2 (some .int), Cond.fieldLink RX4 172 "LockgateRouter$Barge" "repeatsMade" "I", Cond.methodLink RX4 158 yX4_bargeNumbered, Cond.instanceMethod yX4_bargeNumbered, Cond.selects RX4 yX4_bargeNumbered yX4_bargeNumbered, Cond.code yX4_bargeNumbered cX4_bargeNumbered 2 (some (.object "LockgateRouter$Barge")), Cond.classLink RX4 182 "java/lang/IndexOutOfBoundsException", Cond.initialized "java/lang/IndexOutOfBoundsException", Cond.fieldLink RX4 22 "LockgateRouter" "fleet" "Ljava/util/ArrayList;", Cond.classLink RX4 108 "LockgateRouter$Barge", Cond.methodLink RX4 47 yJx4a65c_size_8abf5, Cond.instanceMethod yJx4a65c_size_8abf5, Cond.selects RJx4a65c yJx4a65c_size_8abf5 yJx4a65c_size_8abf5, Cond.initialized RJx4a65c, Cond.code yJx4a65c_size_8abf5 cJx4a65c_size_8abf5 1 (some .int), Cond.fieldLink RJx4a65c 48 "java/util/ArrayList" "size" "I", Cond.methodLink RX4 177 yJx4a65c_get_915e3, Cond.instanceMethod yJx4a65c_get_915e3, Cond.selects RJx4a65c yJx4a65c_get_915e3 yJx4a65c_get_915e3]
def wsL_repeats_r2 : List Cond := [Cond.code yJx4a65c_get_915e3 cJx4a65c_get_915e3 2 (some (.object "java/lang/Object")), Cond.methodLink RJx4a65c 118 yJ15_checkIndex_7cf53, Cond.static yJ15_checkIndex_7cf53, Cond.initialized RJ15, Cond.code yJ15_checkIndex_7cf53 cJ15_checkIndex_7cf53 2 (some .int), Cond.methodLink RJ15 105 yJ3_checkIndex_8e157, Cond.static yJ3_checkIndex_8e157, Cond.initialized RJ3, Cond.code yJ3_checkIndex_8e157 cJ3_checkIndex_8e157 3 (some .int), Cond.methodLink RJx4a65c 123 yJx4a65c_elementData_915e3, Cond.instanceMethod yJx4a65c_elementData_915e3, Cond.selects RJx4a65c yJx4a65c_elementData_915e3 yJx4a65c_elementData_915e3, Cond.code yJx4a65c_elementData_915e3 cJx4a65c_elementData_915e3 2 (some (.object "java/lang/Object")), Cond.fieldLink RJx4a65c 9 "java/util/ArrayList" "elementData" "[Ljava/lang/Object;"]
def wsL_repeats : List Cond := .codeWith yL_repeats cL_repeats 4 (some .int) [(0, 9, 12, 13)] :: ((wsL_repeats_r1 ++ wsL_repeats_r2) ++ wsX00 ++ wsX40 ++ wsJx4a65c0 ++ (vx_atS RX4 186 "java/lang/IndexOutOfBoundsException" ["java/lang/RuntimeException", "java/lang/Exception"]).filter goodWord)
def wsL_queue : List Cond := .codeWith yL_queue cL_queue 4 (some .int) [(0, 9, 12, 13)] :: ([.classLink RL 13 "java/lang/IndexOutOfBoundsException", .methodLink RL 82 yX4_queue, .instanceMethod yX4_queue, .selects RX4 yX4_queue yX4_queue, .initialized RX4, .code yX4_queue cX4_queue 2 (some .int), .fieldLink RX4 116 "LockgateRouter$Basin" "waiting" "Ljava/util/ArrayList;", .methodLink RX4 32 yX4_basinNumbered, .instanceMethod yX4_basinNumbered, .selects RX4 yX4_basinNumbered yX4_basinNumbered, .code yX4_basinNumbered cX4_basinNumbered 2 (some (.object "LockgateRouter$Basin")), .classLink RX4 182 "java/lang/IndexOutOfBoundsException", .initialized "java/lang/IndexOutOfBoundsException", .fieldLink RX4 11 "LockgateRouter" "basins" "[LLockgateRouter$Basin;", .methodLink RX4 47 yJx4a65c_size_8abf5, .instanceMethod yJx4a65c_size_8abf5, .selects RJx4a65c yJx4a65c_size_8abf5 yJx4a65c_size_8abf5, .initialized RJx4a65c, .code yJx4a65c_size_8abf5 cJx4a65c_size_8abf5 1 (some .int), .fieldLink RJx4a65c 48 "java/util/ArrayList" "size" "I"] ++ wsX10 ++ wsX40 ++ wsJx4a65c0 ++ (vx_atS RX4 186 "java/lang/IndexOutOfBoundsException" ["java/lang/RuntimeException", "java/lang/Exception"]).filter goodWord)
def wsL_queued_r1 : List Cond := [Cond.classLink RL 13 "java/lang/IndexOutOfBoundsException", Cond.classLink RL 15 "java/lang/IllegalArgumentException", Cond.methodLink RL 85 yX4_queued, Cond.instanceMethod yX4_queued, Cond.selects RX4 yX4_queued yX4_queued, Cond.initialized RX4, Cond.code yX4_queued cX4_queued 4 (some .int), Cond.classLink RX4 36 "java/lang/IllegalArgumentException", Cond.initialized "java/lang/IllegalArgumentException", Cond.fieldLink RX4 116 "LockgateRouter$Basin" "waiting" "Ljava/util/ArrayList;", Cond.classLink RX4 108 "LockgateRouter$Barge", Cond.fieldLink RX4 181 "LockgateRouter$Barge" "number" "I", Cond.methodLink RX4 32 yX4_basinNumbered, Cond.instanceMethod yX4_basinNumbered, Cond.selects RX4 yX4_basinNumbered yX4_basinNumbered, Cond.code yX4_basinNumbered cX4_basinNumbered 2 (some (.object "LockgateRouter$Basin")), Cond.classLink RX4 182 "java/lang/IndexOutOfBoundsException", Cond.initialized "java/lang/IndexOutOfBoundsException", Cond.fieldLink RX4 11 "LockgateRouter" "basins" "[LLockgateRouter$Basin;", Cond.methodLink RX4 47 yJx4a65c_size_8abf5, Cond.instanceMethod yJx4a65c_size_8abf5, Cond.selects RJx4a65c yJx4a65c_size_8abf5 yJx4a65c_size_8abf5, Cond.initialized RJx4a65c, Cond.code yJx4a65c_size_8abf5 cJx4a65c_size_8abf5 1 (some .int)]
def wsL_queued_r2 : List Cond := [Cond.fieldLink RJx4a65c 48 "java/util/ArrayList" "size" "I", Cond.methodLink RX4 177 yJx4a65c_get_915e3, Cond.instanceMethod yJx4a65c_get_915e3, Cond.selects RJx4a65c yJx4a65c_get_915e3 yJx4a65c_get_915e3, Cond.code yJx4a65c_get_915e3 cJx4a65c_get_915e3 2 (some (.object "java/lang/Object")), Cond.methodLink RJx4a65c 118 yJ15_checkIndex_7cf53, Cond.static yJ15_checkIndex_7cf53, Cond.initialized RJ15, Cond.code yJ15_checkIndex_7cf53 cJ15_checkIndex_7cf53 2 (some .int), Cond.methodLink RJ15 105 yJ3_checkIndex_8e157, Cond.static yJ3_checkIndex_8e157, Cond.initialized RJ3, Cond.code yJ3_checkIndex_8e157 cJ3_checkIndex_8e157 3 (some .int), Cond.methodLink RJx4a65c 123 yJx4a65c_elementData_915e3, Cond.instanceMethod yJx4a65c_elementData_915e3, Cond.selects RJx4a65c yJx4a65c_elementData_915e3 yJx4a65c_elementData_915e3, Cond.code yJx4a65c_elementData_915e3 cJx4a65c_elementData_915e3 2 (some (.object "java/lang/Object")), Cond.fieldLink RJx4a65c 9 "java/util/ArrayList" "elementData" "[Ljava/lang/Object;"]
def wsL_queued : List Cond := .codeWith yL_queued cL_queued 5 (some .int) [(0, 10, 13, 13), (0, 10, 17, 15)] :: ((wsL_queued_r1 ++ wsL_queued_r2) ++ wsX10 ++ wsX00 ++ wsX40 ++ wsJx4a65c0 ++ (vx_atS RX4 40 "java/lang/IllegalArgumentException" ["java/lang/RuntimeException", "java/lang/Exception"]).filter goodWord ++ (vx_atS RX4 186 "java/lang/IndexOutOfBoundsException" ["java/lang/RuntimeException", "java/lang/Exception"]).filter goodWord)
def wsL_law0_r1 : List Cond := [Cond.classLink RL 8 RX4, Cond.instantiable RX4 6, Cond.initialized RX4, Cond.classLink RL 89 RX5, Cond.instantiable RX5 26, Cond.initialized RX5, Cond.arrayClass .long, Cond.methodLink RL 88 yX4_init, Cond.instanceMethod yX4_init, Cond.code yX4_init cX4_init 2 none, Cond.methodLink RX4 1 objectInit, Cond.instanceMethod objectInit, Cond.code objectInit ⟨#[0xb1]⟩ 1 none, Cond.classLink RX4 9 RX1, Cond.fieldLink RX4 11 "LockgateRouter" "basins" "[LLockgateRouter$Basin;", Cond.classLink RX4 15 RJx4a65c, Cond.instantiable RJx4a65c 3, Cond.initialized RJx4a65c, Cond.fieldLink RX4 18 "LockgateRouter" "dug" "Ljava/util/ArrayList;", Cond.fieldLink RX4 22 "LockgateRouter" "fleet" "Ljava/util/ArrayList;", Cond.arrayClass .int, Cond.fieldLink RX4 25 "LockgateRouter" "cheapestSoFar" "[I", Cond.instantiable RX1 6, Cond.initialized RX1]
def wsL_law0_r2 : List Cond := [Cond.methodLink RX4 17 yJx4a65c_init_da8c8, Cond.instanceMethod yJx4a65c_init_da8c8, Cond.code yJx4a65c_init_da8c8 cJx4a65c_init_da8c8 1 none, Cond.fieldLink RJx4a65c 39 "java/util/ArrayList" "DEFAULTCAPACITY_EMPTY_ELEMENTDATA" "[Ljava/lang/Object;", Cond.fieldLink RJx4a65c 9 "java/util/ArrayList" "elementData" "[Ljava/lang/Object;", Cond.methodLink RJx4a65c 1 yJxc12de_init_da8c8, Cond.instanceMethod yJxc12de_init_da8c8, Cond.initialized RJxc12de, Cond.code yJxc12de_init_da8c8 cJxc12de_init_da8c8 1 none, Cond.fieldLink RJxc12de 7 "java/util/AbstractList" "modCount" "I", Cond.methodLink RJxc12de 1 yJxa1e45_init_da8c8, Cond.instanceMethod yJxa1e45_init_da8c8, Cond.initialized RJxa1e45, Cond.code yJxa1e45_init_da8c8 cJxa1e45_init_da8c8 1 none, Cond.methodLink RJxa1e45 1 objectInit, Cond.methodLink RX4 29 yX1_init, Cond.instanceMethod yX1_init, Cond.code yX1_init cX1_init 2 none, Cond.methodLink RX1 3 objectInit, Cond.classLink RX1 9 RJx4a65c, Cond.fieldLink RX1 12 "LockgateRouter$Basin" "waiting" "Ljava/util/ArrayList;", Cond.fieldLink RX1 18 "LockgateRouter$Basin" "level" "I", Cond.fieldLink RX1 22 "LockgateRouter$Basin" "mark" "I", Cond.classLink RX1 25 RX3]
def wsL_law0_r3 : List Cond := [Cond.instantiable RX3 2, Cond.initialized RX3, Cond.fieldLink RX1 28 "LockgateRouter$Basin" "table" "LLockgateRouter$Table;", Cond.fieldLink RX1 32 "LockgateRouter$Basin" "nextTable" "LLockgateRouter$Table;", Cond.fieldLink RX1 35 "LockgateRouter$Basin" "number" "I", Cond.methodLink RX1 11 yJx4a65c_init_da8c8, Cond.instanceMethod yX3_init, Cond.code yX3_init cX3_init 1 none, Cond.methodLink RX3 3 objectInit, Cond.fieldLink RX3 9 "LockgateRouter$Table" "distances" "[I", Cond.classLink RX3 15 RX2, Cond.fieldLink RX3 17 "LockgateRouter$Table" "canals" "[LLockgateRouter$Canal;", Cond.methodLink RX1 38 yX3_clearFor, Cond.instanceMethod yX3_clearFor, Cond.selects RX3 yX3_clearFor yX3_clearFor, Cond.code yX3_clearFor cX3_clearFor 3 none, Cond.methodLink RL 91 yX5_init, Cond.instanceMethod yX5_init, Cond.code yX5_init cX5_init 2 none, Cond.methodLink RX5 1 objectInit, Cond.fieldLink RX5 7 "LockgateRouterModel" "water" "[I", Cond.fieldLink RX5 13 "LockgateRouterModel" "mark" "[I", Cond.fieldLink RX5 16 "LockgateRouterModel" "many" "[I", Cond.fieldLink RX5 19 "LockgateRouterModel" "queue" "[I"]
def wsL_law0_r4 : List Cond := [Cond.fieldLink RX5 22 "LockgateRouterModel" "upper" "[I", Cond.fieldLink RX5 25 "LockgateRouterModel" "lower" "[I", Cond.fieldLink RX5 28 "LockgateRouterModel" "length" "[I", Cond.fieldLink RX5 31 "LockgateRouterModel" "lift" "[I", Cond.arrayClass .boolean, Cond.fieldLink RX5 34 "LockgateRouterModel" "isOpen" "[Z", Cond.fieldLink RX5 38 "LockgateRouterModel" "far" "[I", Cond.fieldLink RX5 41 "LockgateRouterModel" "by" "[I", Cond.fieldLink RX5 44 "LockgateRouterModel" "nextFar" "[I", Cond.fieldLink RX5 47 "LockgateRouterModel" "nextBy" "[I", Cond.fieldLink RX5 50 "LockgateRouterModel" "goal" "[I", Cond.fieldLink RX5 53 "LockgateRouterModel" "life" "[I", Cond.fieldLink RX5 56 "LockgateRouterModel" "hops" "[I", Cond.fieldLink RX5 59 "LockgateRouterModel" "repeats" "[I", Cond.fieldLink RX5 62 "LockgateRouterModel" "state" "[I", Cond.fieldLink RX5 65 "LockgateRouterModel" "at" "[I", Cond.fieldLink RX5 68 "LockgateRouterModel" "been" "[I", Cond.fieldLink RX5 71 "LockgateRouterModel" "came" "[I", Cond.methodLink RL 92 yL_dig, Cond.static yL_dig, Cond.initialized RL, Cond.codeWith yL_dig cL_dig 7 (some .int) [(0, 14, 17, 13), (0, 14, 21, 15), (0, 14, 25, 17)], Cond.classLink RL 13 "java/lang/IndexOutOfBoundsException", Cond.classLink RL 15 "java/lang/IllegalArgumentException"]
def wsL_law0_r5 : List Cond := [Cond.classLink RL 17 "java/lang/IllegalStateException", Cond.methodLink RL 7 yX4_dig, Cond.instanceMethod yX4_dig, Cond.selects RX4 yX4_dig yX4_dig, Cond.code yX4_dig cX4_dig 8 (some .int), Cond.classLink RX4 36 "java/lang/IllegalArgumentException", Cond.initialized "java/lang/IllegalArgumentException", Cond.classLink RX4 51 "java/lang/IllegalStateException", Cond.initialized "java/lang/IllegalStateException", Cond.classLink RX4 56 RX2, Cond.instantiable RX2 6, Cond.initialized RX2, Cond.methodLink RX4 32 yX4_basinNumbered, Cond.instanceMethod yX4_basinNumbered, Cond.selects RX4 yX4_basinNumbered yX4_basinNumbered, Cond.code yX4_basinNumbered cX4_basinNumbered 2 (some (.object "LockgateRouter$Basin")), Cond.classLink RX4 182 "java/lang/IndexOutOfBoundsException", Cond.initialized "java/lang/IndexOutOfBoundsException", Cond.methodLink RX4 43 yX4_requireRange, Cond.static yX4_requireRange, Cond.code yX4_requireRange cX4_requireRange 3 none, Cond.methodLink RX4 47 yJx4a65c_size_8abf5, Cond.instanceMethod yJx4a65c_size_8abf5, Cond.selects RJx4a65c yJx4a65c_size_8abf5 yJx4a65c_size_8abf5]
def wsL_law0_r6 : List Cond := [Cond.code yJx4a65c_size_8abf5 cJx4a65c_size_8abf5 1 (some .int), Cond.fieldLink RJx4a65c 48 "java/util/ArrayList" "size" "I", Cond.methodLink RX4 58 yX2_init, Cond.instanceMethod yX2_init, Cond.code yX2_init cX2_init 6 none, Cond.methodLink RX2 3 objectInit, Cond.fieldLink RX2 9 "LockgateRouter$Canal" "gateOpen" "Z", Cond.fieldLink RX2 15 "LockgateRouter$Canal" "number" "I", Cond.fieldLink RX2 19 "LockgateRouter$Canal" "upper" "LLockgateRouter$Basin;", Cond.fieldLink RX2 23 "LockgateRouter$Canal" "lower" "LLockgateRouter$Basin;", Cond.fieldLink RX2 26 "LockgateRouter$Canal" "length" "I", Cond.fieldLink RX2 29 "LockgateRouter$Canal" "lift" "I", Cond.methodLink RX4 61 yJx4a65c_add_9ea2d, Cond.instanceMethod yJx4a65c_add_9ea2d, Cond.selects RJx4a65c yJx4a65c_add_9ea2d yJx4a65c_add_9ea2d, Cond.code yJx4a65c_add_9ea2d cJx4a65c_add_9ea2d 2 (some .boolean), Cond.fieldLink RJx4a65c 63 "java/util/ArrayList" "modCount" "I", Cond.sameField "java/util/ArrayList" "java/util/AbstractList" "modCount" "I", Cond.methodLink RJx4a65c 131 yJx4a65c_add_72be8, Cond.instanceMethod yJx4a65c_add_72be8, Cond.selects RJx4a65c yJx4a65c_add_72be8 yJx4a65c_add_72be8, Cond.code yJx4a65c_add_72be8 cJx4a65c_add_72be8 4 none, Cond.methodLink RJx4a65c 129 yJx4a65c_grow_d5877, Cond.instanceMethod yJx4a65c_grow_d5877]
def wsL_law0_r7 : List Cond := [Cond.selects RJx4a65c yJx4a65c_grow_d5877 yJx4a65c_grow_d5877, Cond.code yJx4a65c_grow_d5877 cJx4a65c_grow_d5877 1 (some (.array (.object "java/lang/Object"))), Cond.methodLink RJx4a65c 69 yJx4a65c_grow_92f84, Cond.instanceMethod yJx4a65c_grow_92f84, Cond.selects RJx4a65c yJx4a65c_grow_92f84 yJx4a65c_grow_92f84, Cond.code yJx4a65c_grow_92f84 cJx4a65c_grow_92f84 4 (some (.array (.object "java/lang/Object"))), Cond.methodLink RJx4a65c 79 Lib.Math.max.name, Cond.static Lib.Math.max.name, Cond.initialized "java/lang/Math", Cond.code Lib.Math.max.name Lib.Math.max.code 2 (some .int), Cond.classLink RJx4a65c 7 "java/lang/Object", Cond.methodLink RJx4a65c 73 yJ8_newLength_cabcc, Cond.static yJ8_newLength_cabcc, Cond.initialized RJ8, Cond.code yJ8_newLength_cabcc cJ8_newLength_cabcc 4 (some .int), Cond.methodLink RJ8 194 Lib.Math.max.name, Cond.constant RJ8 200 (2147483639), Cond.methodLink RJ8 201 yJ8_hugeLength_7cf53, Cond.static yJ8_hugeLength_7cf53, Cond.code yJ8_hugeLength_7cf53 cJ8_hugeLength_7cf53 3 (some .int), Cond.methodLink RJx4a65c 66 yJ7_copyOf_1904c, Cond.static yJ7_copyOf_1904c, Cond.initialized RJ7, Cond.code yJ7_copyOf_1904c cJ7_copyOf_1904c 2 (some (.array (.object "java/lang/Object")))]
def wsL_law0_r8 : List Cond := [Cond.methodLink RJ7 86 ⟨"java/lang/Object", "getClass", "()Ljava/lang/Class;"⟩, Cond.selects "[Ljava/lang/Object;" ⟨"java/lang/Object", "getClass", "()Ljava/lang/Class;"⟩ ⟨"java/lang/Object", "getClass", "()Ljava/lang/Class;"⟩, Cond.instanceMethod ⟨"java/lang/Object", "getClass", "()Ljava/lang/Class;"⟩, Cond.native ⟨"java/lang/Object", "getClass", "()Ljava/lang/Class;"⟩, Cond.methodLink RJ7 300 yJ7_copyOf_6403c, Cond.static yJ7_copyOf_6403c, Cond.code yJ7_copyOf_6403c cJ7_copyOf_6403c 4 (some (.array (.object "java/lang/Object"))), Cond.classLink RJ7 110 "[Ljava/lang/Object;", Cond.classLink RJ7 2 "java/lang/Object", Cond.methodLink RJ7 304 Lib.Math.min.name, Cond.static Lib.Math.min.name, Cond.code Lib.Math.min.name Lib.Math.min.code 2 (some .int), Cond.methodLink RJ7 150 arraycopyName, Cond.native arraycopyName, Cond.static arraycopyName, Cond.initialized "java/lang/System", Cond.methodLink RL 97 yX5_dig, Cond.instanceMethod yX5_dig, Cond.selects RX5 yX5_dig yX5_dig, Cond.code yX5_dig cX5_dig 7 (some .int), Cond.fieldLink RX5 82 "LockgateRouterModel" "canals" "I", Cond.methodLink RX5 88 yX5_isBasin, Cond.static yX5_isBasin, Cond.code yX5_isBasin cX5_isBasin 1 (some .boolean)]
def wsL_law0_r9 : List Cond := [Cond.methodLink RX5 78 yX5_isIn, Cond.static yX5_isIn, Cond.code yX5_isIn cX5_isIn 3 (some .boolean), Cond.methodLink RX5 92 yX5_can, Cond.instanceMethod yX5_can, Cond.selects RX5 yX5_can yX5_can, Cond.code yX5_can cX5_can 2 (some .boolean), Cond.fieldLink RX5 74 "LockgateRouterModel" "thrown" "I", Cond.methodLink RL 98 yX5_thrown, Cond.instanceMethod yX5_thrown, Cond.selects RX5 yX5_thrown yX5_thrown, Cond.code yX5_thrown cX5_thrown 1 (some .int), Cond.methodLink RL 102 yL_setGate, Cond.static yL_setGate, Cond.codeWith yL_setGate cL_setGate 5 (some .int) [(0, 17, 20, 13)], Cond.methodLink RL 19 yX4_setGate, Cond.instanceMethod yX4_setGate, Cond.selects RX4 yX4_setGate yX4_setGate, Cond.code yX4_setGate cX4_setGate 5 (some .boolean), Cond.fieldLink RX4 69 "LockgateRouter$Canal" "gateOpen" "Z", Cond.methodLink RX4 65 yX4_canalNumbered, Cond.instanceMethod yX4_canalNumbered, Cond.selects RX4 yX4_canalNumbered yX4_canalNumbered, Cond.code yX4_canalNumbered cX4_canalNumbered 2 (some (.object "LockgateRouter$Canal"))]
def wsL_law0_r10 : List Cond := [Cond.classLink RX4 56 "LockgateRouter$Canal", Cond.methodLink RX4 177 yJx4a65c_get_915e3, Cond.instanceMethod yJx4a65c_get_915e3, Cond.selects RJx4a65c yJx4a65c_get_915e3 yJx4a65c_get_915e3, Cond.code yJx4a65c_get_915e3 cJx4a65c_get_915e3 2 (some (.object "java/lang/Object")), Cond.methodLink RJx4a65c 118 yJ15_checkIndex_7cf53, Cond.static yJ15_checkIndex_7cf53, Cond.initialized RJ15, Cond.code yJ15_checkIndex_7cf53 cJ15_checkIndex_7cf53 2 (some .int), Cond.methodLink RJ15 105 yJ3_checkIndex_8e157, Cond.static yJ3_checkIndex_8e157, Cond.initialized RJ3, Cond.code yJ3_checkIndex_8e157 cJ3_checkIndex_8e157 3 (some .int), Cond.methodLink RJx4a65c 123 yJx4a65c_elementData_915e3, Cond.instanceMethod yJx4a65c_elementData_915e3, Cond.selects RJx4a65c yJx4a65c_elementData_915e3 yJx4a65c_elementData_915e3, Cond.code yJx4a65c_elementData_915e3 cJx4a65c_elementData_915e3 2 (some (.object "java/lang/Object")), Cond.methodLink RL 105 yX5_setGate, Cond.instanceMethod yX5_setGate, Cond.selects RX5 yX5_setGate yX5_setGate, Cond.code yX5_setGate cX5_setGate 4 (some .boolean), Cond.methodLink RX5 95 yX5_isCanal, Cond.instanceMethod yX5_isCanal, Cond.selects RX5 yX5_isCanal yX5_isCanal]
def wsL_law0_r11 : List Cond := [Cond.code yX5_isCanal cX5_isCanal 2 (some .boolean), Cond.methodLink RL 106 yL_setMark, Cond.static yL_setMark, Cond.codeWith yL_setMark cL_setMark 5 (some .int) [(0, 10, 13, 13), (0, 10, 17, 15)], Cond.methodLink RL 23 yX4_setMark, Cond.instanceMethod yX4_setMark, Cond.selects RX4 yX4_setMark yX4_setMark, Cond.code yX4_setMark cX4_setMark 5 (some .int), Cond.fieldLink RX4 73 "LockgateRouter$Basin" "mark" "I", Cond.methodLink RL 109 yX5_setMark, Cond.instanceMethod yX5_setMark, Cond.selects RX5 yX5_setMark yX5_setMark, Cond.code yX5_setMark cX5_setMark 4 (some .int), Cond.methodLink RL 110 yL_rain, Cond.static yL_rain, Cond.codeWith yL_rain cL_rain 5 (some .int) [(0, 10, 13, 13), (0, 10, 17, 15)], Cond.methodLink RL 27 yX4_rain, Cond.instanceMethod yX4_rain, Cond.selects RX4 yX4_rain yX4_rain, Cond.code yX4_rain cX4_rain 4 (some .int), Cond.fieldLink RX4 77 "LockgateRouter" "lostWater" "I", Cond.fieldLink RX4 84 "LockgateRouter$Basin" "level" "I", Cond.methodLink RX4 80 yX1_fill, Cond.instanceMethod yX1_fill]
def wsL_law0_r12 : List Cond := [Cond.selects RX1 yX1_fill yX1_fill, Cond.code yX1_fill cX1_fill 3 (some .int), Cond.methodLink RX1 46 Lib.Math.max.name, Cond.methodLink RL 112 yX5_rain, Cond.instanceMethod yX5_rain, Cond.selects RX5 yX5_rain yX5_rain, Cond.code yX5_rain cX5_rain 3 (some .int), Cond.methodLink RX5 101 yX5_pours, Cond.instanceMethod yX5_pours, Cond.selects RX5 yX5_pours yX5_pours, Cond.code yX5_pours cX5_pours 4 none, Cond.fieldLink RX5 98 "LockgateRouterModel" "spilt" "I", Cond.methodLink RL 113 yL_dry, Cond.static yL_dry, Cond.codeWith yL_dry cL_dry 4 (some .int) [(0, 9, 12, 15)], Cond.methodLink RL 30 yX4_dry, Cond.instanceMethod yX4_dry, Cond.selects RX4 yX4_dry yX4_dry, Cond.code yX4_dry cX4_dry 4 (some .int), Cond.methodLink RX4 87 yX1_loseDryDayWater, Cond.instanceMethod yX1_loseDryDayWater, Cond.selects RX1 yX1_loseDryDayWater yX1_loseDryDayWater, Cond.code yX1_loseDryDayWater cX1_loseDryDayWater 1 none, Cond.methodLink RX4 90 yX4_countLowBasins]
def wsL_law0_r13 : List Cond := [Cond.instanceMethod yX4_countLowBasins, Cond.selects RX4 yX4_countLowBasins yX4_countLowBasins, Cond.code yX4_countLowBasins cX4_countLowBasins 3 (some .int), Cond.methodLink RL 116 yX5_dry, Cond.instanceMethod yX5_dry, Cond.selects RX5 yX5_dry yX5_dry, Cond.code yX5_dry cX5_dry 5 (some .int), Cond.methodLink RL 117 yL_settle, Cond.static yL_settle, Cond.codeWith yL_settle cL_settle 4 (some .int) [(0, 9, 12, 15)], Cond.methodLink RL 34 yX4_settle, Cond.instanceMethod yX4_settle, Cond.selects RX4 yX4_settle yX4_settle, Cond.code yX4_settle cX4_settle 5 (some .int), Cond.methodLink RX4 93 yX4_prepareNextTables, Cond.instanceMethod yX4_prepareNextTables, Cond.selects RX4 yX4_prepareNextTables yX4_prepareNextTables, Cond.code yX4_prepareNextTables cX4_prepareNextTables 3 none, Cond.fieldLink RX4 193 "LockgateRouter$Basin" "nextTable" "LLockgateRouter$Table;", Cond.fieldLink RX4 199 "LockgateRouter$Canal" "upper" "LLockgateRouter$Basin;", Cond.fieldLink RX4 202 "LockgateRouter$Canal" "lower" "LLockgateRouter$Basin;", Cond.methodLink RX4 196 yX3_clearFor, Cond.methodLink RX4 205 yX1_hearNeighbour, Cond.instanceMethod yX1_hearNeighbour]
def wsL_law0_r14 : List Cond := [Cond.selects RX1 yX1_hearNeighbour yX1_hearNeighbour, Cond.code yX1_hearNeighbour cX1_hearNeighbour 6 none, Cond.fieldLink RX1 61 "LockgateRouter$Table" "distances" "[I", Cond.methodLink RX1 56 yX2_costNow, Cond.instanceMethod yX2_costNow, Cond.selects RX2 yX2_costNow yX2_costNow, Cond.code yX2_costNow cX2_costNow 1 (some .int), Cond.methodLink RX2 32 yX1_costOfLowWater, Cond.instanceMethod yX1_costOfLowWater, Cond.selects RX1 yX1_costOfLowWater yX1_costOfLowWater, Cond.code yX1_costOfLowWater cX1_costOfLowWater 1 (some .int), Cond.methodLink RX1 65 yX3_offer, Cond.instanceMethod yX3_offer, Cond.selects RX3 yX3_offer yX3_offer, Cond.code yX3_offer cX3_offer 4 none, Cond.methodLink RX4 96 yX4_countNextChanges, Cond.instanceMethod yX4_countNextChanges, Cond.selects RX4 yX4_countNextChanges yX4_countNextChanges, Cond.code yX4_countNextChanges cX4_countNextChanges 3 (some .int), Cond.fieldLink RX4 133 "LockgateRouter$Basin" "table" "LLockgateRouter$Table;", Cond.methodLink RX4 209 yX3_countDifferences, Cond.instanceMethod yX3_countDifferences, Cond.selects RX3 yX3_countDifferences yX3_countDifferences, Cond.code yX3_countDifferences cX3_countDifferences 4 (some .int)]
def wsL_law0_r15 : List Cond := [Cond.methodLink RX4 99 yX1_turnTable, Cond.instanceMethod yX1_turnTable, Cond.selects RX1 yX1_turnTable yX1_turnTable, Cond.code yX1_turnTable cX1_turnTable 2 none, Cond.methodLink RL 119 yX5_settle, Cond.instanceMethod yX5_settle, Cond.selects RX5 yX5_settle yX5_settle, Cond.code yX5_settle cX5_settle 5 (some .int), Cond.methodLink RX5 120 yX5_looksOn, Cond.instanceMethod yX5_looksOn, Cond.selects RX5 yX5_looksOn yX5_looksOn, Cond.code yX5_looksOn cX5_looksOn 9 (some .int), Cond.methodLink RX5 109 yX5_isAt, Cond.instanceMethod yX5_isAt, Cond.selects RX5 yX5_isAt yX5_isAt, Cond.code yX5_isAt cX5_isAt 3 (some .boolean), Cond.methodLink RX5 113 yX5_beyond, Cond.instanceMethod yX5_beyond, Cond.selects RX5 yX5_beyond yX5_beyond, Cond.code yX5_beyond cX5_beyond 3 (some .int), Cond.methodLink RX5 117 yX5_costOf, Cond.instanceMethod yX5_costOf, Cond.selects RX5 yX5_costOf yX5_costOf, Cond.code yX5_costOf cX5_costOf 2 (some .int)]
def wsL_law0_r16 : List Cond := [Cond.methodLink RX5 105 yX5_dearer, Cond.instanceMethod yX5_dearer, Cond.selects RX5 yX5_dearer yX5_dearer, Cond.code yX5_dearer cX5_dearer 2 (some .int), Cond.methodLink RL 120 yL_setOut, Cond.static yL_setOut, Cond.codeWith yL_setOut cL_setOut 6 (some .int) [(0, 12, 15, 13), (0, 12, 19, 15), (0, 12, 23, 17)], Cond.methodLink RL 37 yX4_setOut, Cond.instanceMethod yX4_setOut, Cond.selects RX4 yX4_setOut yX4_setOut, Cond.code yX4_setOut cX4_setOut 8 (some .int), Cond.classLink RX4 108 RX0, Cond.instantiable RX0 9, Cond.initialized RX0, Cond.fieldLink RX4 113 "LockgateRouter$Barge" "condition" "I", Cond.fieldLink RX4 116 "LockgateRouter$Basin" "waiting" "Ljava/util/ArrayList;", Cond.methodLink RX4 102 yX1_isFull, Cond.instanceMethod yX1_isFull, Cond.selects RX1 yX1_isFull yX1_isFull, Cond.code yX1_isFull cX1_isFull 1 (some .boolean), Cond.methodLink RX1 42 yJx4a65c_size_8abf5, Cond.methodLink RX4 110 yX0_init, Cond.instanceMethod yX0_init, Cond.code yX0_init cX0_init 5 none]
def wsL_law0_r17 : List Cond := [Cond.methodLink RX0 3 objectInit, Cond.fieldLink RX0 9 "LockgateRouter$Barge" "wasIn" "[Z", Cond.fieldLink RX0 15 "LockgateRouter$Barge" "condition" "I", Cond.fieldLink RX0 19 "LockgateRouter$Barge" "number" "I", Cond.fieldLink RX0 22 "LockgateRouter$Barge" "destination" "LLockgateRouter$Basin;", Cond.fieldLink RX0 26 "LockgateRouter$Barge" "place" "LLockgateRouter$Basin;", Cond.fieldLink RX0 29 "LockgateRouter$Basin" "number" "I", Cond.fieldLink RX0 32 "LockgateRouter$Barge" "lifeLeft" "I", Cond.methodLink RL 123 yX5_setOut, Cond.instanceMethod yX5_setOut, Cond.selects RX5 yX5_setOut yX5_setOut, Cond.code yX5_setOut cX5_setOut 7 (some .int), Cond.fieldLink RX5 85 "LockgateRouterModel" "barges" "I", Cond.methodLink RX5 124 yX5_joins, Cond.instanceMethod yX5_joins, Cond.selects RX5 yX5_joins yX5_joins, Cond.code yX5_joins cX5_joins 3 none, Cond.methodLink RL 124 yL_move, Cond.static yL_move, Cond.codeWith yL_move cL_move 4 (some .int) [(0, 9, 12, 15), (0, 9, 15, 17)], Cond.methodLink RL 41 yX4_move, Cond.instanceMethod yX4_move, Cond.selects RX4 yX4_move yX4_move, Cond.code yX4_move cX4_move 4 (some .int)]
def wsL_law0_r18 : List Cond := [Cond.fieldLink RX4 119 "LockgateRouter" "tickCount" "I", Cond.methodLink RX4 124 yX4_tickBarges, Cond.instanceMethod yX4_tickBarges, Cond.selects RX4 yX4_tickBarges yX4_tickBarges, Cond.code yX4_tickBarges cX4_tickBarges 3 (some .int), Cond.methodLink RX4 221 yX4_sendFirst, Cond.instanceMethod yX4_sendFirst, Cond.selects RX4 yX4_sendFirst yX4_sendFirst, Cond.code yX4_sendFirst cX4_sendFirst 5 (some .boolean), Cond.classLink RX4 108 "LockgateRouter$Barge", Cond.fieldLink RX4 228 "LockgateRouter$Barge" "cameInTick" "I", Cond.fieldLink RX4 231 "LockgateRouter$Barge" "destination" "LLockgateRouter$Basin;", Cond.methodLink RX4 225 yJx4a65c_isEmpty_aae02, Cond.instanceMethod yJx4a65c_isEmpty_aae02, Cond.selects RJx4a65c yJx4a65c_isEmpty_aae02 yJx4a65c_isEmpty_aae02, Cond.code yJx4a65c_isEmpty_aae02 cJx4a65c_isEmpty_aae02 1 (some .boolean), Cond.methodLink RX4 145 yX1_canalTowards, Cond.instanceMethod yX1_canalTowards, Cond.selects RX1 yX1_canalTowards yX1_canalTowards, Cond.code yX1_canalTowards cX1_canalTowards 2 (some (.object "LockgateRouter$Canal")), Cond.fieldLink RX1 52 "LockgateRouter$Table" "canals" "[LLockgateRouter$Canal;", Cond.methodLink RX4 130 yX2_isPassable, Cond.instanceMethod yX2_isPassable, Cond.selects RX2 yX2_isPassable yX2_isPassable]
def wsL_law0_r19 : List Cond := [Cond.code yX2_isPassable cX2_isPassable 1 (some .boolean), Cond.fieldLink RX2 38 "LockgateRouter$Basin" "level" "I", Cond.methodLink RX4 217 yX2_otherEnd, Cond.instanceMethod yX2_otherEnd, Cond.selects RX2 yX2_otherEnd yX2_otherEnd, Cond.code yX2_otherEnd cX2_otherEnd 2 (some (.object "LockgateRouter$Basin")), Cond.methodLink RX4 234 yX4_takesIn, Cond.instanceMethod yX4_takesIn, Cond.selects RX4 yX4_takesIn yX4_takesIn, Cond.code yX4_takesIn cX4_takesIn 3 (some .boolean), Cond.methodLink RX4 238 yJx4a65c_remove_915e3, Cond.instanceMethod yJx4a65c_remove_915e3, Cond.selects RJx4a65c yJx4a65c_remove_915e3 yJx4a65c_remove_915e3, Cond.code yJx4a65c_remove_915e3 cJx4a65c_remove_915e3 4 (some (.object "java/lang/Object")), Cond.methodLink RJx4a65c 144 yJx4a65c_fastRemove_b59b0, Cond.instanceMethod yJx4a65c_fastRemove_b59b0, Cond.selects RJx4a65c yJx4a65c_fastRemove_b59b0 yJx4a65c_fastRemove_b59b0, Cond.code yJx4a65c_fastRemove_b59b0 cJx4a65c_fastRemove_b59b0 4 none, Cond.methodLink RJx4a65c 112 arraycopyName, Cond.methodLink RX4 241 yX2_lockThrough, Cond.instanceMethod yX2_lockThrough, Cond.selects RX2 yX2_lockThrough yX2_lockThrough, Cond.code yX2_lockThrough cX2_lockThrough 1 (some .int), Cond.methodLink RX2 41 yX1_fill]
def wsL_law0_r20 : List Cond := [Cond.methodLink RX4 244 yX0_comeTo, Cond.instanceMethod yX0_comeTo, Cond.selects RX0 yX0_comeTo yX0_comeTo, Cond.code yX0_comeTo cX0_comeTo 3 none, Cond.fieldLink RX0 35 "LockgateRouter$Barge" "cameInTick" "I", Cond.fieldLink RX0 38 "LockgateRouter$Barge" "hopsMade" "I", Cond.fieldLink RX0 41 "LockgateRouter$Barge" "repeatsMade" "I", Cond.methodLink RL 126 yX5_move, Cond.instanceMethod yX5_move, Cond.selects RX5 yX5_move yX5_move, Cond.code yX5_move cX5_move 6 (some .int), Cond.fieldLink RX5 127 "LockgateRouterModel" "ticks" "I", Cond.methodLink RX5 133 yX5_wayFrom, Cond.instanceMethod yX5_wayFrom, Cond.selects RX5 yX5_wayFrom yX5_wayFrom, Cond.code yX5_wayFrom cX5_wayFrom 6 (some .int), Cond.methodLink RX5 130 yX5_goes, Cond.instanceMethod yX5_goes, Cond.selects RX5 yX5_goes yX5_goes, Cond.code yX5_goes cX5_goes 2 (some .boolean), Cond.methodLink RX5 136 yX5_passes, Cond.instanceMethod yX5_passes, Cond.selects RX5 yX5_passes yX5_passes, Cond.code yX5_passes cX5_passes 6 none]
def wsL_law0_r21 : List Cond := [Cond.methodLink RL 127 yX4_canals, Cond.instanceMethod yX4_canals, Cond.selects RX4 yX4_canals yX4_canals, Cond.code yX4_canals cX4_canals 1 (some .int), Cond.methodLink RL 130 yX5_canals, Cond.instanceMethod yX5_canals, Cond.selects RX5 yX5_canals yX5_canals, Cond.code yX5_canals cX5_canals 1 (some .int), Cond.methodLink RL 131 yL_water, Cond.static yL_water, Cond.codeWith yL_water cL_water 4 (some .int) [(0, 9, 12, 13)], Cond.methodLink RL 44 yX4_water, Cond.instanceMethod yX4_water, Cond.selects RX4 yX4_water yX4_water, Cond.code yX4_water cX4_water 2 (some .int), Cond.methodLink RL 133 yX5_water, Cond.instanceMethod yX5_water, Cond.selects RX5 yX5_water yX5_water, Cond.code yX5_water cX5_water 2 (some .int), Cond.methodLink RL 134 yX4_allWater, Cond.instanceMethod yX4_allWater, Cond.selects RX4 yX4_allWater yX4_allWater, Cond.code yX4_allWater cX4_allWater 3 (some .int), Cond.methodLink RL 137 yX5_allWater]
def wsL_law0_r22 : List Cond := [Cond.instanceMethod yX5_allWater, Cond.selects RX5 yX5_allWater yX5_allWater, Cond.code yX5_allWater cX5_allWater 3 (some .int), Cond.methodLink RL 138 yX4_spilt, Cond.instanceMethod yX4_spilt, Cond.selects RX4 yX4_spilt yX4_spilt, Cond.code yX4_spilt cX4_spilt 1 (some .int), Cond.methodLink RL 141 yX5_spilt, Cond.instanceMethod yX5_spilt, Cond.selects RX5 yX5_spilt yX5_spilt, Cond.code yX5_spilt cX5_spilt 1 (some .int), Cond.methodLink RL 142 yL_cost, Cond.static yL_cost, Cond.codeWith yL_cost cL_cost 4 (some .int) [(0, 9, 12, 13)], Cond.methodLink RL 47 yX4_cost, Cond.instanceMethod yX4_cost, Cond.selects RX4 yX4_cost yX4_cost, Cond.code yX4_cost cX4_cost 2 (some .int), Cond.methodLink RX4 127 yX2_costNow, Cond.methodLink RL 144 yX5_cost, Cond.instanceMethod yX5_cost, Cond.selects RX5 yX5_cost yX5_cost, Cond.code yX5_cost cX5_cost 2 (some .int), Cond.methodLink RL 145 yL_canPass]
def wsL_law0_r23 : List Cond := [Cond.static yL_canPass, Cond.codeWith yL_canPass cL_canPass 4 (some .int) [(0, 16, 19, 13)], Cond.methodLink RL 50 yX4_canPass, Cond.instanceMethod yX4_canPass, Cond.selects RX4 yX4_canPass yX4_canPass, Cond.code yX4_canPass cX4_canPass 2 (some .boolean), Cond.methodLink RL 147 yX5_canPass, Cond.instanceMethod yX5_canPass, Cond.selects RX5 yX5_canPass yX5_canPass, Cond.code yX5_canPass cX5_canPass 2 (some .boolean), Cond.methodLink RL 148 yL_distance, Cond.static yL_distance, Cond.codeWith yL_distance cL_distance 5 (some .int) [(0, 10, 13, 13)], Cond.methodLink RL 54 yX4_distance, Cond.instanceMethod yX4_distance, Cond.selects RX4 yX4_distance yX4_distance, Cond.code yX4_distance cX4_distance 4 (some .int), Cond.fieldLink RX4 137 "LockgateRouter$Table" "distances" "[I", Cond.fieldLink RX4 142 "LockgateRouter$Basin" "number" "I", Cond.methodLink RL 150 yX5_distance, Cond.instanceMethod yX5_distance, Cond.selects RX5 yX5_distance yX5_distance, Cond.code yX5_distance cX5_distance 3 (some .int), Cond.methodLink RX5 139 yX5_areAsked]
def wsL_law0_r24 : List Cond := [Cond.instanceMethod yX5_areAsked, Cond.selects RX5 yX5_areAsked yX5_areAsked, Cond.code yX5_areAsked cX5_areAsked 3 (some .boolean), Cond.methodLink RL 151 yL_canalTo, Cond.static yL_canalTo, Cond.codeWith yL_canalTo cL_canalTo 5 (some .int) [(0, 10, 13, 13)], Cond.methodLink RL 57 yX4_canalTo, Cond.instanceMethod yX4_canalTo, Cond.selects RX4 yX4_canalTo yX4_canalTo, Cond.code yX4_canalTo cX4_canalTo 5 (some .int), Cond.fieldLink RX4 149 "LockgateRouter$Canal" "number" "I", Cond.methodLink RL 153 yX5_canalTo, Cond.instanceMethod yX5_canalTo, Cond.selects RX5 yX5_canalTo yX5_canalTo, Cond.code yX5_canalTo cX5_canalTo 3 (some .int), Cond.methodLink RL 154 yX4_areStill, Cond.instanceMethod yX4_areStill, Cond.selects RX4 yX4_areStill yX4_areStill, Cond.code yX4_areStill cX4_areStill 1 (some .boolean), Cond.methodLink RL 158 yX5_areStill, Cond.instanceMethod yX5_areStill, Cond.selects RX5 yX5_areStill yX5_areStill, Cond.code yX5_areStill cX5_areStill 1 (some .boolean), Cond.methodLink RL 159 yL_cheapest]
def wsL_law0_r25 : List Cond := [Cond.static yL_cheapest, Cond.codeWith yL_cheapest cL_cheapest 5 (some .int) [(0, 10, 13, 13)], Cond.methodLink RL 60 yX4_cheapest, Cond.instanceMethod yX4_cheapest, Cond.selects RX4 yX4_cheapest yX4_cheapest, Cond.code yX4_cheapest cX4_cheapest 6 (some .int), Cond.methodLink RX4 150 yX4_findCheapestWays, Cond.instanceMethod yX4_findCheapestWays, Cond.selects RX4 yX4_findCheapestWays yX4_findCheapestWays, Cond.code yX4_findCheapestWays cX4_findCheapestWays 5 none, Cond.methodLink RX4 213 yX4_extendWay, Cond.instanceMethod yX4_extendWay, Cond.selects RX4 yX4_extendWay yX4_extendWay, Cond.code yX4_extendWay cX4_extendWay 6 none, Cond.methodLink RL 161 yX5_cheapest, Cond.instanceMethod yX5_cheapest, Cond.selects RX5 yX5_cheapest yX5_cheapest, Cond.code yX5_cheapest cX5_cheapest 8 (some .int), Cond.methodLink RL 162 yL_isLoop, Cond.static yL_isLoop, Cond.codeWith yL_isLoop cL_isLoop 5 (some .int) [(0, 17, 20, 13)], Cond.methodLink RL 63 yX4_isLoop, Cond.instanceMethod yX4_isLoop, Cond.selects RX4 yX4_isLoop yX4_isLoop]
def wsL_law0_r26 : List Cond := [Cond.code yX4_isLoop cX4_isLoop 4 (some .boolean), Cond.methodLink RX4 154 yX4_goesRound, Cond.static yX4_goesRound, Cond.code yX4_goesRound cX4_goesRound 5 (some .boolean), Cond.methodLink RL 164 yX5_isLoop, Cond.instanceMethod yX5_isLoop, Cond.selects RX5 yX5_isLoop yX5_isLoop, Cond.code yX5_isLoop cX5_isLoop 3 (some .boolean), Cond.methodLink RX5 142 yX5_circles, Cond.instanceMethod yX5_circles, Cond.selects RX5 yX5_circles yX5_circles, Cond.code yX5_circles cX5_circles 6 (some .boolean), Cond.methodLink RL 165 yX4_loops, Cond.instanceMethod yX4_loops, Cond.selects RX4 yX4_loops yX4_loops, Cond.code yX4_loops cX4_loops 4 (some .int), Cond.methodLink RL 168 yX5_loops, Cond.instanceMethod yX5_loops, Cond.selects RX5 yX5_loops yX5_loops, Cond.code yX5_loops cX5_loops 3 (some .int), Cond.methodLink RL 169 yX4_barges, Cond.instanceMethod yX4_barges, Cond.selects RX4 yX4_barges yX4_barges, Cond.code yX4_barges cX4_barges 1 (some .int)]
def wsL_law0_r27 : List Cond := [Cond.methodLink RL 172 yX5_barges, Cond.instanceMethod yX5_barges, Cond.selects RX5 yX5_barges yX5_barges, Cond.code yX5_barges cX5_barges 1 (some .int), Cond.methodLink RL 173 yX4_ticks, Cond.instanceMethod yX4_ticks, Cond.selects RX4 yX4_ticks yX4_ticks, Cond.code yX4_ticks cX4_ticks 1 (some .int), Cond.methodLink RL 176 yX5_ticks, Cond.instanceMethod yX5_ticks, Cond.selects RX5 yX5_ticks yX5_ticks, Cond.code yX5_ticks cX5_ticks 1 (some .int), Cond.methodLink RL 177 yL_state, Cond.static yL_state, Cond.codeWith yL_state cL_state 4 (some .int) [(0, 9, 12, 13)], Cond.methodLink RL 67 yX4_state, Cond.instanceMethod yX4_state, Cond.selects RX4 yX4_state yX4_state, Cond.code yX4_state cX4_state 2 (some .int), Cond.methodLink RX4 158 yX4_bargeNumbered, Cond.instanceMethod yX4_bargeNumbered, Cond.selects RX4 yX4_bargeNumbered yX4_bargeNumbered, Cond.code yX4_bargeNumbered cX4_bargeNumbered 2 (some (.object "LockgateRouter$Barge")), Cond.methodLink RL 179 yX5_state]
def wsL_law0_r28 : List Cond := [Cond.instanceMethod yX5_state, Cond.selects RX5 yX5_state yX5_state, Cond.code yX5_state cX5_state 2 (some .int), Cond.methodLink RX5 148 yX5_isAsked, Cond.instanceMethod yX5_isAsked, Cond.selects RX5 yX5_isAsked yX5_isAsked, Cond.code yX5_isAsked cX5_isAsked 2 (some .boolean), Cond.methodLink RX5 145 yX5_isBarge, Cond.instanceMethod yX5_isBarge, Cond.selects RX5 yX5_isBarge yX5_isBarge, Cond.code yX5_isBarge cX5_isBarge 2 (some .boolean), Cond.methodLink RL 180 yL_basinOf, Cond.static yL_basinOf, Cond.codeWith yL_basinOf cL_basinOf 4 (some .int) [(0, 9, 12, 13)], Cond.methodLink RL 70 yX4_basinOf, Cond.instanceMethod yX4_basinOf, Cond.selects RX4 yX4_basinOf yX4_basinOf, Cond.code yX4_basinOf cX4_basinOf 2 (some .int), Cond.fieldLink RX4 162 "LockgateRouter$Barge" "place" "LLockgateRouter$Basin;", Cond.methodLink RL 182 yX5_basinOf, Cond.instanceMethod yX5_basinOf, Cond.selects RX5 yX5_basinOf yX5_basinOf, Cond.code yX5_basinOf cX5_basinOf 2 (some .int), Cond.methodLink RL 183 yL_hops]
def wsL_law0_r29 : List Cond := [Cond.static yL_hops, Cond.codeWith yL_hops cL_hops 4 (some .int) [(0, 9, 12, 13)], Cond.methodLink RL 73 yX4_hops, Cond.instanceMethod yX4_hops, Cond.selects RX4 yX4_hops yX4_hops, Cond.code yX4_hops cX4_hops 2 (some .int), Cond.fieldLink RX4 166 "LockgateRouter$Barge" "hopsMade" "I", Cond.methodLink RL 185 yX5_hops, Cond.instanceMethod yX5_hops, Cond.selects RX5 yX5_hops yX5_hops, Cond.code yX5_hops cX5_hops 2 (some .int), Cond.methodLink RL 186 yL_life, Cond.static yL_life, Cond.codeWith yL_life cL_life 4 (some .int) [(0, 9, 12, 13)], Cond.methodLink RL 76 yX4_life, Cond.instanceMethod yX4_life, Cond.selects RX4 yX4_life yX4_life, Cond.code yX4_life cX4_life 2 (some .int), Cond.fieldLink RX4 169 "LockgateRouter$Barge" "lifeLeft" "I", Cond.methodLink RL 188 yX5_life, Cond.instanceMethod yX5_life, Cond.selects RX5 yX5_life yX5_life, Cond.code yX5_life cX5_life 2 (some .int), Cond.methodLink RL 189 yL_repeats]
def wsL_law0_r30 : List Cond := [Cond.static yL_repeats, Cond.codeWith yL_repeats cL_repeats 4 (some .int) [(0, 9, 12, 13)], Cond.methodLink RL 79 yX4_repeats, Cond.instanceMethod yX4_repeats, Cond.selects RX4 yX4_repeats yX4_repeats, Cond.code yX4_repeats cX4_repeats 2 (some .int), Cond.fieldLink RX4 172 "LockgateRouter$Barge" "repeatsMade" "I", Cond.methodLink RL 191 yX5_repeats, Cond.instanceMethod yX5_repeats, Cond.selects RX5 yX5_repeats yX5_repeats, Cond.code yX5_repeats cX5_repeats 2 (some .int), Cond.methodLink RL 192 yL_queue, Cond.static yL_queue, Cond.codeWith yL_queue cL_queue 4 (some .int) [(0, 9, 12, 13)], Cond.methodLink RL 82 yX4_queue, Cond.instanceMethod yX4_queue, Cond.selects RX4 yX4_queue yX4_queue, Cond.code yX4_queue cX4_queue 2 (some .int), Cond.methodLink RL 194 yX5_queue, Cond.instanceMethod yX5_queue, Cond.selects RX5 yX5_queue yX5_queue, Cond.code yX5_queue cX5_queue 2 (some .int), Cond.methodLink RL 195 yL_queued, Cond.static yL_queued]
def wsL_law0_r31 : List Cond := [Cond.codeWith yL_queued cL_queued 5 (some .int) [(0, 10, 13, 13), (0, 10, 17, 15)], Cond.methodLink RL 85 yX4_queued, Cond.instanceMethod yX4_queued, Cond.selects RX4 yX4_queued yX4_queued, Cond.code yX4_queued cX4_queued 4 (some .int), Cond.fieldLink RX4 181 "LockgateRouter$Barge" "number" "I", Cond.methodLink RL 197 yX5_queued, Cond.instanceMethod yX5_queued, Cond.selects RX5 yX5_queued yX5_queued, Cond.code yX5_queued cX5_queued 3 (some .int), Cond.methodLink RL 198 yX4_laidBy, Cond.instanceMethod yX4_laidBy, Cond.selects RX4 yX4_laidBy yX4_laidBy, Cond.code yX4_laidBy cX4_laidBy 3 (some .int), Cond.methodLink RL 201 yX5_laidBy, Cond.instanceMethod yX5_laidBy, Cond.selects RX5 yX5_laidBy yX5_laidBy, Cond.code yX5_laidBy cX5_laidBy 3 (some .int)]
def wsL_law0 : List Cond := (wsL_law0_r1 ++ (wsL_law0_r2 ++ (wsL_law0_r3 ++ (wsL_law0_r4 ++ (wsL_law0_r5 ++ (wsL_law0_r6 ++ (wsL_law0_r7 ++ (wsL_law0_r8 ++ (wsL_law0_r9 ++ (wsL_law0_r10 ++ (wsL_law0_r11 ++ (wsL_law0_r12 ++ (wsL_law0_r13 ++ (wsL_law0_r14 ++ (wsL_law0_r15 ++ (wsL_law0_r16 ++ (wsL_law0_r17 ++ (wsL_law0_r18 ++ (wsL_law0_r19 ++ (wsL_law0_r20 ++ (wsL_law0_r21 ++ (wsL_law0_r22 ++ (wsL_law0_r23 ++ (wsL_law0_r24 ++ (wsL_law0_r25 ++ (wsL_law0_r26 ++ (wsL_law0_r27 ++ (wsL_law0_r28 ++ (wsL_law0_r29 ++ (wsL_law0_r30 ++ wsL_law0_r31)))))))))))))))))))))))))))))) ++ wsX40 ++ wsX50 ++ wsJx4a65c0 ++ wsX10 ++ wsX30 ++ wsX20 ++ wsX00 ++ ([] : List Cond)
def wsL_law : List Cond := wsL_law0 ++ (vx_atS RX4 40 "java/lang/IllegalArgumentException" ["java/lang/RuntimeException", "java/lang/Exception"]).filter goodWord ++ (vx_atS RX4 55 "java/lang/IllegalStateException" ["java/lang/RuntimeException", "java/lang/Exception"]).filter goodWord ++ (vx_atS RX4 186 "java/lang/IndexOutOfBoundsException" ["java/lang/RuntimeException", "java/lang/Exception"]).filter goodWord
abbrev vwCl : List vw_C := [(RJx4a65c, TJx4a65c, 3), (RX0, TX0, 9), (RX1, TX1, 6), (RX2, TX2, 6), (RX3, TX3, 2), (RX4, TX4, 6), (RX5, TX5, 26)]
end
section
/-! THE LAYER: the heap as a function from addresses to cells (a cell of the kit, or a list whole), and a law an instruction over it -/
abbrev hv_E : Type := va_E ⊕ List Nat
abbrev hv_H : Type := Nat → Option hv_E
/-- the world's constants: the tables' numbers, the array kinds, the first address of ours, the empty static array, the mirror of Object[] -/
abbrev hv_W : Type := va_G × (Nat → ClassId) × Nat × Nat × Nat
abbrev hv_D (w : hv_W) : va_G := w.1
abbrev hv_c (w : hv_W) : Nat → ClassId := w.2.1
abbrev hv_b (w : hv_W) : Nat := w.2.2.1
abbrev hv_t (w : hv_W) : Nat := w.2.2.2.1
abbrev hv_m (w : hv_W) : Nat := w.2.2.2.2
def hv_A (w : hv_W) : Nat → Prop := fun q => hv_b w ≤ q
def hv_T (w : hv_W) : List (ClassId × FieldType) := [(hv_c w 0, .int), (hv_c w 1, .boolean), (hv_c w 2, .long), (hv_c w 3, .object RX1), (hv_c w 4, .object RX2), (hv_c w 5, .object "java/lang/Object")]
def hv_up (Y : hv_H) (a : Nat) (e : hv_E) : hv_H := fun b => if b = a then some e else Y b
theorem hv_up_s {Y : hv_H} {a : Nat} {e : hv_E} : hv_up Y a e a = some e := by simp [hv_up]
theorem hv_up_n {Y : hv_H} {a b : Nat} {e : hv_E} (h : b ≠ a) : hv_up Y a e b = Y b := by simp [hv_up, h]
def hv_ref (f : Nat → Option Nat) : (Nat → Int32) ⊕ (Nat → Int64) ⊕ (Nat → UInt32) ⊕ (Nat → UInt64) ⊕ (Nat → Option Nat) := .inr (.inr (.inr (.inr f)))
/-- an ArrayList with the elements L -/
def hv_L (w : hv_W) (X : Nat → Option va_E) (Y : hv_H) (ow : Nat → Nat) (a : Nat) (L : List Nat) : Prop :=
  ∃ (ed : Nat) (mc : Int32), X a = some (.inr (0, [.int mc, .ref ed, .int (nI L.length)])) ∧ ((ed = hv_t w ∧ L = []) ∨ ∃ n : Nat, X ed = some (.inl (hv_c w 5, n, hv_ref (fun j => L[j]?))) ∧ ow ed = a ∧ Y ed = none ∧ L.length ≤ n ∧ 10 ≤ n ∧ n ≤ 60)
/-- the heap H has what Y says -/
def hv_R (w : hv_W) (Y : hv_H) (H : Heap) : Prop :=
  (hv_t w < hv_b w ∧ hv_b w ≤ H.size) ∧ ∃ (X : Nat → Option va_E) (ow : Nat → Nat), (∀ (a : Nat) (e : va_E), X a = some e → hv_b w ≤ a ∧ va_at (hv_D w) vwCl (a, e) H) ∧ (∀ (a : Nat) (e : va_E), Y a = some (.inl e) → X a = some e) ∧ ∀ (a : Nat) (L : List Nat), Y a = some (.inr L) → hv_L w X Y ow a L
theorem hv_R.at {w : hv_W} {Y : hv_H} {H : Heap} (h : hv_R w Y H) {a : Nat} {e : va_E} (hY : Y a = some (.inl e)) : va_P (hv_D w) vwCl [(a, e)] H := by
  obtain ⟨-, X, ow, h1, h2, h3⟩ := h
  intro k q hk
  have hz : k < 1 := (List.getElem?_eq_some_iff.mp hk).1
  rw [show k = 0 by omega] at hk
  cases hk
  exact (h1 a e (h2 a e hY)).2
theorem hv_R.own {w : hv_W} {Y : hv_H} {H : Heap} (h : hv_R w Y H) {a : Nat} {e : hv_E} (hY : Y a = some e) : hv_b w ≤ a ∧ a < H.size := by
  obtain ⟨-, X, ow, h1, h2, h3⟩ := h
  cases e with
  | inl e => exact ⟨(h1 a e (h2 a e hY)).1, (h1 a e (h2 a e hY)).2.lt⟩
  | inr L =>
    obtain ⟨ed, mc, g1, -⟩ := h3 a L hY
    exact ⟨(h1 _ _ g1).1, (h1 _ _ g1).2.lt⟩
theorem hv_R.put {w : hv_W} {Y : hv_H} {H H1 : Heap} {a : Nat} {e0 e1 : va_E} (h : hv_R w Y H) (hY : Y a = some (.inl e0)) (he : va_at (hv_D w) vwCl (a, e1) H1) (z : H1.size = H.size) (oq : ∀ q : Nat, q ≠ a → H1[q]? = H[q]?) : hv_R w (hv_up Y a (.inl e1)) H1 := by
  have hb := (h.own hY).1
  obtain ⟨h0, X, ow, h1, h2, h3⟩ := h
  refine ⟨by rw [z]; exact h0, fun b => if b = a then some e1 else X b, ow, fun b e hb1 => ?_, fun b e hb1 => ?_, fun b L hb1 => ?_⟩
  · by_cases hba : b = a
    · subst hba
      simp at hb1
      subst hb1
      exact ⟨hb, he⟩
    · simp [hba] at hb1
      exact ⟨(h1 b e hb1).1, (h1 b e hb1).2.kept (oq b hba)⟩
  · by_cases hba : b = a
    · subst hba
      simp [hv_up] at hb1
      simp [hb1]
    · simp [hv_up, hba] at hb1
      simp [hba, h2 b e hb1]
  · have hba : b ≠ a := by
      intro q
      subst q
      simp [hv_up] at hb1
    simp [hv_up, hba] at hb1
    obtain ⟨ed, mc, g1, g2⟩ := h3 b L hb1
    refine ⟨ed, mc, by simp [hba, g1], ?_⟩
    rcases g2 with g2 | ⟨n, k1, k2, k3, k4⟩
    · exact Or.inl g2
    · have hea : ed ≠ a := by
        intro q
        subst q
        rw [hY] at k3
        cases k3
      exact Or.inr ⟨n, by simp [hea, k1], k2, by simp [hv_up, hea, k3], k4⟩
theorem hv_R.fresh {w : hv_W} {Y : hv_H} {H : Heap} (h : hv_R w Y H) : Y H.size = none := by
  cases hy : Y H.size with
  | none => rfl
  | some e => exact absurd (h.own hy).2 (Nat.lt_irrefl _)
theorem hv_R.new {w : hv_W} {Y : hv_H} {H H1 : Heap} {e1 : va_E} (h : hv_R w Y H) (he : va_at (hv_D w) vwCl (H.size, e1) H1) (z : H1.size = H.size + 1) (oq : ∀ q : Nat, q < H.size → H1[q]? = H[q]?) : hv_R w (hv_up Y H.size (.inl e1)) H1 := by
  obtain ⟨h0, X, ow, h1, h2, h3⟩ := h
  have hx : ∀ (b : Nat) (e : va_E), X b = some e → b ≠ H.size := fun b e hb q => by
    have h9 : b < H.size := (h1 b e hb).2.lt
    omega
  refine ⟨⟨h0.1, by have := h0.2; omega⟩, fun b => if b = H.size then some e1 else X b, ow, fun b e hb1 => ?_, fun b e hb1 => ?_, fun b L hb1 => ?_⟩
  · by_cases hba : b = H.size
    · subst hba
      simp at hb1
      subst hb1
      exact ⟨h0.2, he⟩
    · simp [hba] at hb1
      exact ⟨(h1 b e hb1).1, (h1 b e hb1).2.kept (oq b (h1 b e hb1).2.lt)⟩
  · by_cases hba : b = H.size
    · subst hba
      simp [hv_up] at hb1
      simp [hb1]
    · simp [hv_up, hba] at hb1
      simp [hba, h2 b e hb1]
  · have hba : b ≠ H.size := by
      intro q
      rw [q] at hb1
      simp [hv_up] at hb1
    simp [hv_up, hba] at hb1
    obtain ⟨ed, mc, g1, g2⟩ := h3 b L hb1
    refine ⟨ed, mc, by simp [hba, g1], ?_⟩
    rcases g2 with g2 | ⟨n, k1, k2, k3, k4⟩
    · exact Or.inl g2
    · have hea := hx ed _ k1
      exact Or.inr ⟨n, by simp [hea, k1], k2, by simp [hv_up, hea, k3], k4⟩
/-- a list's cells, the array behind it -/
def hv_lo (mc : Int32) (ed : Nat) (L : List Nat) : hv_E := .inl (.inr (0, [.int mc, .ref ed, .int (nI L.length)]))
def hv_la (w : hv_W) (n : Nat) (L : List Nat) : hv_E := .inl (.inl (hv_c w 5, n, hv_ref (fun j => L[j]?)))
theorem hv_R.opn {w : hv_W} {Y : hv_H} {H : Heap} (h : hv_R w Y H) {a : Nat} {L : List Nat} (hY : Y a = some (.inr L)) : ∃ (ed : Nat) (mc : Int32), ed ≠ a ∧ Y ed = none ∧ ((ed = hv_t w ∧ L = [] ∧ hv_R w (hv_up Y a (hv_lo mc ed L)) H) ∨ ∃ n : Nat, L.length ≤ n ∧ 10 ≤ n ∧ n ≤ 60 ∧ hv_R w (hv_up (hv_up Y a (hv_lo mc ed L)) ed (hv_la w n L)) H) := by
  have hown := h
  obtain ⟨h0, X, ow, h1, h2, h3⟩ := h
  obtain ⟨ed, mc, g1, g2⟩ := h3 a L hY
  have hYed : Y ed = none := by
    rcases g2 with ⟨g2, -⟩ | ⟨n, k1, k2, k3, -⟩
    · cases hy : Y ed with
      | none => rfl
      | some e =>
        have := (hown.own hy).1
        have := h0.1
        omega
    · exact k3
  have hea : ed ≠ a := by
    intro q
    subst q
    rw [hY] at hYed
    cases hYed
  refine ⟨ed, mc, hea, hYed, ?_⟩
  rcases g2 with ⟨g2, g3⟩ | ⟨n, k1, k2, k3, k4, k5, k6⟩
  · refine Or.inl ⟨g2, g3, h0, X, ow, h1, fun b e hb => ?_, fun b L' hb => ?_⟩
    · by_cases hba : b = a
      · subst hba
        simp [hv_up, hv_lo] at hb
        rw [← hb]; exact g1
      · simp [hv_up, hba] at hb
        exact h2 b e hb
    · have hba : b ≠ a := by
        intro q
        subst q
        simp [hv_up, hv_lo] at hb
      simp [hv_up, hba] at hb
      obtain ⟨ed', mc', f1, f2⟩ := h3 b L' hb
      refine ⟨ed', mc', f1, ?_⟩
      rcases f2 with f2 | ⟨n', j1, j2, j3, j4⟩
      · exact Or.inl f2
      · have hea : ed' ≠ a := by
          intro q
          subst q
          rw [hY] at j3
          cases j3
        exact Or.inr ⟨n', j1, j2, by simp [hv_up, hea, j3], j4⟩
  · refine Or.inr ⟨n, k4, k5, k6, h0, X, ow, h1, fun b e hb => ?_, fun b L' hb => ?_⟩
    · by_cases hbe : b = ed
      · subst hbe
        simp [hv_up, hv_la] at hb
        rw [← hb]; exact k1
      · by_cases hba : b = a
        · subst hba
          simp [hv_up, hbe, hv_lo] at hb
          rw [← hb]; exact g1
        · simp [hv_up, hba, hbe] at hb
          exact h2 b e hb
    · have hbe : b ≠ ed := by
        intro q
        subst q
        simp [hv_up, hv_la] at hb
      have hba : b ≠ a := by
        intro q
        subst q
        simp [hv_up, hbe, hv_lo] at hb
      simp [hv_up, hba, hbe] at hb
      obtain ⟨ed', mc', f1, f2⟩ := h3 b L' hb
      refine ⟨ed', mc', f1, ?_⟩
      rcases f2 with f2 | ⟨n', j1, j2, j3, j4⟩
      · exact Or.inl f2
      · have he1 : ed' ≠ a := by
          intro q
          subst q
          rw [hY] at j3
          cases j3
        have he2 : ed' ≠ ed := by
          intro q
          subst q
          exact hba (j2.symm.trans k2)
        exact Or.inr ⟨n', j1, j2, by simp [hv_up, he1, he2, j3], j4⟩
theorem hv_R.cls {w : hv_W} {Z : hv_H} {H : Heap} (h : hv_R w Z H) {a ed : Nat} {mc : Int32} {L : List Nat} (ha : Z a = some (hv_lo mc ed L)) (hL : (ed = hv_t w ∧ L = []) ∨ ∃ n : Nat, Z ed = some (hv_la w n L) ∧ L.length ≤ n ∧ 10 ≤ n ∧ n ≤ 60) (hne : ed ≠ a) :
    hv_R w (fun b => if b = a then some (.inr L) else if b = ed then none else Z b) H := by
  obtain ⟨h0, X, ow, h1, h2, h3⟩ := h
  refine ⟨h0, X, fun b => if b = ed then a else ow b, h1, fun b e hb => ?_, fun b L' hb => ?_⟩
  · by_cases hba : b = a
    · simp [hba] at hb
    · by_cases hbe : b = ed
      · subst hbe
        simp [hne] at hb
      · simp [hba, hbe] at hb
        exact h2 b e hb
  · by_cases hba : b = a
    · subst hba
      simp at hb
      subst hb
      refine ⟨ed, mc, h2 _ _ ha, ?_⟩
      rcases hL with hL | ⟨n, k1, k2⟩
      · exact Or.inl hL
      · exact Or.inr ⟨n, h2 _ _ k1, by simp, by simp [hne], k2⟩
    · by_cases hbe : b = ed
      · subst hbe
        simp [hne] at hb
      · simp [hba, hbe] at hb
        obtain ⟨ed', mc', f1, f2⟩ := h3 b L' hb
        refine ⟨ed', mc', f1, ?_⟩
        rcases f2 with f2 | ⟨n', j1, j2, j3, j4⟩
        · exact Or.inl f2
        · have he1 : ed' ≠ a := by
            intro q
            subst q
            rw [ha] at j3
            cases j3
          have he2 : ed' ≠ ed := by
            intro q
            subst q
            rcases hL with ⟨hL, -⟩ | ⟨n, k1, -⟩
            · have := (h1 _ _ j1).1
              have := h0.1
              omega
            · rw [k1] at j3
              cases j3
          exact Or.inr ⟨n', j1, by simp [he2, j2], by simp [he1, he2, j3], j4⟩
theorem hv_R.mono {w : hv_W} {Y : hv_H} {H H1 : Heap} (h : hv_R w Y H) (hz : H.size ≤ H1.size) (ho : ∀ q : Nat, q < H.size → H1[q]? = H[q]?) : hv_R w Y H1 := by
  obtain ⟨h0, X, ow, h1, h2, h3⟩ := h
  exact ⟨⟨h0.1, Nat.le_trans h0.2 hz⟩, X, ow, fun a e ha => ⟨(h1 a e ha).1, (h1 a e ha).2.kept (ho a (h1 a e ha).2.lt)⟩, h2, h3⟩
/-! the world's premises, carried from state to state -/
/-- words that the tables alone decide and that stay, though not of the plain kind -/
theorem hv_face {x : Cond} {s U : State} {A : Array Value} (hx : (x.onTables && x.keepsFace) = true) (hW : s.WarmedH U.vm) (h : x.before #[] s = true) : x.before A U = true := by
  simp only [Bool.and_eq_true] at hx
  have h1 : x.before #[] (s.setVm U.vm) = true := Cond.before_shiftedFace (State.Shifted.of_warmed hW) x hx.2 h
  exact va_tabs hx.1 (rfl : (s.setVm U.vm).vm = U.vm) h1
abbrev hv_IA : String := "java/lang/IllegalArgumentException"
abbrev hv_IS : String := "java/lang/IllegalStateException"
abbrev hv_IO : String := "java/lang/IndexOutOfBoundsException"
abbrev hv_RE : List String := ["java/lang/RuntimeException", "java/lang/Exception"]
def hv_N : List Cond := (vx_atS RX4 40 hv_IA hv_RE).filter (fun x => !goodWord x) ++ (vx_atS RX4 55 hv_IS hv_RE).filter (fun x => !goodWord x) ++ (vx_atS RX4 186 hv_IO hv_RE).filter (fun x => !goodWord x) ++ [.castable RX0 "java/lang/Object", .castable RX2 "java/lang/Object", .castable hv_IA hv_IA, .castable hv_IS hv_IS, .castable hv_IO hv_IO]
theorem hv_N_face : ∀ x ∈ hv_N, (x.onTables && x.keepsFace) = true := by decide +kernel
def hv_St : List (Nat × String) := [(106, "no more barges can set out here"), (122, "too many ticks"), (175, "places begin at 0"), (184, "no such basin"), (187, "no such canal"), (189, "no such barge"), (191, "a number is out of range"), (38, "a canal goes between two basins"), (53, "no more canals can be dug")]
def hv_WD (w : hv_W) (U : State) : Prop :=
  va_K (hv_D w) vwCl (hv_T w) U ∧ va_Z "java/util/ArrayList" "DEFAULTCAPACITY_EMPTY_ELEMENTDATA" "[Ljava/lang/Object;" (.ref (hv_t w)) (hv_A w) U U.heap ∧ va_T (.object "java/lang/Object") (hv_t w) 0 (fun _ => .null) (hv_A w) U U.heap ∧
  (vx_Zq Bundle.tN "UNASSIGNED_STACK" Bundle.steD (hv_A w) U U.heap ∧ vx_Zq Bundle.tN "SUPPRESSED_SENTINEL" Bundle.listD (hv_A w) U U.heap) ∧
  (va_AO RX1 U ∧ va_AO RX2 U ∧ va_AO "java/lang/Object" U) ∧ (va_Mi "[Ljava/lang/Object;" (hv_m w) U ∧ va_Dc U) ∧ va_Nw (.methodLinkNest RX1 27 yX3_init RX4) U ∧ (∀ x ∈ hv_N, x.before #[] U = true) ∧ (∀ q ∈ hv_St, ∃ a : Nat, vk_R RX4 q.1 q.2 a U) ∧
  (va_Nc hv_IA hv_IO U ∧ va_Nc hv_IS hv_IO U ∧ va_Nc hv_IS hv_IA U)
theorem hv_WD.go {w : hv_W} {s U : State} (h : hv_WD w s) (hW : s.WarmedH U.vm) (hq : ∀ a : Nat, a < s.heap.size → ¬ hv_A w a → U.heap[a]? = s.heap[a]?) : hv_WD w U := by
  obtain ⟨h1, h2, h3, ⟨h4, h5⟩, ⟨h6, h7, h8⟩, ⟨h9, h10⟩, h11, h12, h13, h14, h15, h16⟩ := h
  have hv := hW.alike
  refine ⟨va_K.moved hv h1, (va_Z.moved hv h2).kept hq, (va_T.moved hv h3).kept hq, ⟨(vx_Zq.moved hv h4).kept hq, (vx_Zq.moved hv h5).kept hq⟩, ⟨va_AO.moved hv h6, va_AO.moved hv h7, va_AO.moved hv h8⟩, ⟨va_Mi.moved hv h9, va_Dc.moved hv h10⟩, va_Nw.warmM hW h11, fun x hx => hv_face (hv_N_face x hx) hW (h12 x hx), fun q hq9 => ?_, ?_⟩
  · obtain ⟨a, ha⟩ := h13 q hq9
    exact ⟨a, vk_R.warm hW ha⟩
  · exact ⟨va_Nc.moved hv h14, va_Nc.moved hv h15, va_Nc.moved hv h16⟩
/-- what a method's body has at hand -/
def hv_C (own : String) (cc : ByteArray) (nL : Nat) (Ts : List Cond) (w : hv_W) (p : Program) (s : State) (m : MethodId) (args : Array Value) (meth : Method) (c : Code) : Prop :=
  p.tables.exec = Jvm.exec ∧ c.code = cc ∧ c.maxLocals = nL ∧ s.vm.findClass own = some m.cls ∧ (∀ t ∈ Ts, t.before args s = true) ∧ meth.locks = false ∧ hv_WD w s ∧ hv_b w ≤ s.heap.size
/-- THE JUDGEMENT: from every heap that has what Y says, the frame at pc comes to Q -/
def hv_V (p : Program) (l : Launch) (e : Env) (R : Room) (s : State) (m : MethodId) (args : Array Value) (below : List Frame) (meth : Method) (c : Code) (w : hv_W) (nL : Nat) (Q : State → Prop) (cells slots : Nat) (Y : hv_H) (lv : List (Nat × Value)) (pc : Nat) (st : List Value) : Prop :=
  ∀ (H : Heap) (locs : List Loc) (ls : Array Slot), hv_R w Y H → va_S (hv_A w) s.heap H locs → lv_has ls nL lv → W p l e R s m args below meth c H locs cells slots Q (F0 m pc ls st)
/-! contracts -/
def hv_Pc (w : hv_W) (As : List Value) (Y : hv_H) : Array Value → State → Prop := va_Pc As (fun U => hv_WD w U ∧ hv_R w Y U.heap)
def hv_Qr (w : hv_W) (post : Value → hv_H → Prop) : Array Value → State → Outcome → State → Prop := fun _ st oc t => (∃ (r : Value) (Y1 : hv_H), oc = .returned (some r) ∧ post r Y1 ∧ hv_R w Y1 t.heap) ∧ va_F (hv_A w) st t
def hv_Qv (w : hv_W) (post : hv_H → Prop) : Array Value → State → Outcome → State → Prop := fun _ st oc t => (∃ Y1 : hv_H, oc = .returned none ∧ post Y1 ∧ hv_R w Y1 t.heap) ∧ va_F (hv_A w) st t
def hv_Xc (w : hv_W) (px : String → hv_H → Prop) : String → State → State → Prop := fun E st t => (∃ Y1 : hv_H, px E Y1 ∧ hv_R w Y1 t.heap) ∧ va_F (hv_A w) st t
theorem hv_blind {w : hv_W} {As : List Value} {Y : hv_H} : FrameBlind (hv_Pc w As Y) := by
  intro a U g mk h
  obtain ⟨h1, h2, h3⟩ := h
  exact ⟨h1, h2.go (U := U.calling g mk a) (State.WarmedH.refl U) (fun _ _ _ => rfl), h3⟩
def hv_Mr (l : Launch) (y : MethodName) (ws : List Cond) (rm : Room) (w : hv_W) (As : List Value) (Y : hv_H) (post : Value → hv_H → Prop) : Prop := Met l y ws rm (hv_Pc w As Y) (hv_Qr w post) rm.cells rm.slots (hv_A w)
def hv_Mv (l : Launch) (y : MethodName) (ws : List Cond) (rm : Room) (w : hv_W) (As : List Value) (Y : hv_H) (post : hv_H → Prop) : Prop := Met l y ws rm (hv_Pc w As Y) (hv_Qv w post) rm.cells rm.slots (hv_A w)
/-- .. that may throw -/
def hv_Nr (l : Launch) (y : MethodName) (ws : List Cond) (rm : Room) (w : hv_W) (As : List Value) (Y : hv_H) (post : Value → hv_H → Prop) (px : String → hv_H → Prop) : Prop := vx_Met l y ws rm (hv_Pc w As Y) (hv_Qr w post) (hv_Xc w px) rm.cells rm.slots (hv_A w)
def hv_Nv (l : Launch) (y : MethodName) (ws : List Cond) (rm : Room) (w : hv_W) (As : List Value) (Y : hv_H) (post : hv_H → Prop) (px : String → hv_H → Prop) : Prop := vx_Met l y ws rm (hv_Pc w As Y) (hv_Qv w post) (hv_Xc w px) rm.cells rm.slots (hv_A w)

section HV
variable {p : Program} {l : Launch} {e : Env} {R : Room} {s : State} {m : MethodId} {args : Array Value} {below : List Frame} {meth : Method} {c : Code} {w : hv_W} {nL : Nat} {Q : State → Prop} {cells slots : Nat} {Y : hv_H} {lv : List (Nat × Value)} {pc : Nat} {rest : List Value} {own : String} {cc : ByteArray} {Ts : List Cond}
theorem hv_iconst (C : hv_C own cc nL Ts w p s m args meth c) {n : Int} {v : Int32} (hdg : decode cc pc = .ok (.iconst n, 1)) (hv : Int32.ofInt n = v) (kk : hv_V p l e R s m args below meth c w nL Q cells slots Y lv (pc + 1) (.int v :: rest)) : hv_V p l e R s m args below meth c w nL Q cells slots Y lv pc rest := fun H locs ls hR hS hl => lv_iconst C.1 C.2.1 hdg hv (kk H locs ls hR hS hl)
theorem hv_bipush (C : hv_C own cc nL Ts w p s m args meth c) {n : Int} {v : Int32} (hdg : decode cc pc = .ok (.bipush n, 2)) (hv : (Int8.ofInt n).toInt32 = v) (kk : hv_V p l e R s m args below meth c w nL Q cells slots Y lv (pc + 2) (.int v :: rest)) : hv_V p l e R s m args below meth c w nL Q cells slots Y lv pc rest := fun H locs ls hR hS hl => lv_bipush C.1 C.2.1 hdg hv (kk H locs ls hR hS hl)
theorem hv_sipush (C : hv_C own cc nL Ts w p s m args meth c) {n : Int} {v : Int32} (hdg : decode cc pc = .ok (.sipush n, 3)) (hv : (Int16.ofInt n).toInt32 = v) (kk : hv_V p l e R s m args below meth c w nL Q cells slots Y lv (pc + 3) (.int v :: rest)) : hv_V p l e R s m args below meth c w nL Q cells slots Y lv pc rest := fun H locs ls hR hS hl => lv_sipush C.1 C.2.1 hdg hv (kk H locs ls hR hS hl)
theorem hv_lconst (C : hv_C own cc nL Ts w p s m args meth c) {n : Fin 2} {v : Int64} (hdg : decode cc pc = .ok (.lconst n, 1)) (hv : Int64.ofNat (n : Nat) = v) (kk : hv_V p l e R s m args below meth c w nL Q cells slots Y lv (pc + 1) (.long v :: rest)) : hv_V p l e R s m args below meth c w nL Q cells slots Y lv pc rest := fun H locs ls hR hS hl => lv_lconst C.1 C.2.1 hdg hv (kk H locs ls hR hS hl)
theorem hv_null (C : hv_C own cc nL Ts w p s m args meth c)  (hdg : decode cc pc = .ok (.aconst_null, 1)) (kk : hv_V p l e R s m args below meth c w nL Q cells slots Y lv (pc + 1) (.null :: rest)) : hv_V p l e R s m args below meth c w nL Q cells slots Y lv pc rest := fun H locs ls hR hS hl => lv_null C.1 C.2.1 hdg (kk H locs ls hR hS hl)
theorem hv_ldc (C : hv_C own cc nL Ts w p s m args meth c) {index : Nat} {v : Int32} (hk : Cond.constant own index v ∈ Ts) (hdg : decode cc pc = .ok (.ldc index, 2)) (kk : hv_V p l e R s m args below meth c w nL Q cells slots Y lv (pc + 2) (.int v :: rest)) : hv_V p l e R s m args below meth c w nL Q cells slots Y lv pc rest := fun H locs ls hR hS hl => lv_ldc C.1 C.2.1 C.2.2.2.1 (C.2.2.2.2.1 _ hk) hdg (kk H locs ls hR hS hl)
theorem hv_iload_n (C : hv_C own cc nL Ts w p s m args meth c) {k : Fin 4} {i : Nat} {x : Int32} (hdg : decode cc pc = .ok (.iload_n k, 1)) (hi : (k : Nat) = i) (j : Nat) (hj : lv[j]? = some (i, .int x)) (kk : hv_V p l e R s m args below meth c w nL Q cells slots Y lv (pc + 1) (.int x :: rest)) : hv_V p l e R s m args below meth c w nL Q cells slots Y lv pc rest := fun H locs ls hR hS hl => lv_iload_n C.1 C.2.1 hdg hi (lv_at hl j hj) (kk H locs ls hR hS hl)
theorem hv_iload (C : hv_C own cc nL Ts w p s m args meth c) {i : Nat} {x : Int32} (hdg : decode cc pc = .ok (.iload i, 2)) (j : Nat) (hj : lv[j]? = some (i, .int x)) (kk : hv_V p l e R s m args below meth c w nL Q cells slots Y lv (pc + 2) (.int x :: rest)) : hv_V p l e R s m args below meth c w nL Q cells slots Y lv pc rest := fun H locs ls hR hS hl => lv_iload C.1 C.2.1 hdg (lv_at hl j hj) (kk H locs ls hR hS hl)
theorem hv_aload_n (C : hv_C own cc nL Ts w p s m args meth c) {k : Fin 4} {i : Nat} {x : Nat} (hdg : decode cc pc = .ok (.aload_n k, 1)) (hi : (k : Nat) = i) (j : Nat) (hj : lv[j]? = some (i, .ref x)) (kk : hv_V p l e R s m args below meth c w nL Q cells slots Y lv (pc + 1) (.ref x :: rest)) : hv_V p l e R s m args below meth c w nL Q cells slots Y lv pc rest := fun H locs ls hR hS hl => lv_aload_n C.1 C.2.1 hdg hi (lv_at hl j hj) (kk H locs ls hR hS hl)
theorem hv_aload (C : hv_C own cc nL Ts w p s m args meth c) {i : Nat} {x : Nat} (hdg : decode cc pc = .ok (.aload i, 2)) (j : Nat) (hj : lv[j]? = some (i, .ref x)) (kk : hv_V p l e R s m args below meth c w nL Q cells slots Y lv (pc + 2) (.ref x :: rest)) : hv_V p l e R s m args below meth c w nL Q cells slots Y lv pc rest := fun H locs ls hR hS hl => lv_aload C.1 C.2.1 hdg (lv_at hl j hj) (kk H locs ls hR hS hl)
theorem hv_istore_n (C : hv_C own cc nL Ts w p s m args meth c) {k : Fin 4} {i : Nat} {x : Int32} {lv1 : List (Nat × Value)} (hdg : decode cc pc = .ok (.istore_n k, 1)) (hi : (k : Nat) = i) (hn : i < nL) (ks : List Nat) (hlv : lv_pick ((i, Value.int x) :: lv.filter (fun q => !(q.1 == i) && !(q.1 + 1 == i && q.2.category == 2))) ks = lv1) (kk : hv_V p l e R s m args below meth c w nL Q cells slots Y lv1 (pc + 1) rest) : hv_V p l e R s m args below meth c w nL Q cells slots Y lv pc (Value.int x :: rest) := fun H locs ls hR hS hl => lv_istore_n C.1 C.2.1 hdg hi hl hn rfl (fun ls1 hl1 => kk H locs ls1 hR hS (lv_sub hl1 ks hlv))
theorem hv_istore (C : hv_C own cc nL Ts w p s m args meth c) {i : Nat} {x : Int32} {lv1 : List (Nat × Value)} (hdg : decode cc pc = .ok (.istore i, 2))  (hn : i < nL) (ks : List Nat) (hlv : lv_pick ((i, Value.int x) :: lv.filter (fun q => !(q.1 == i) && !(q.1 + 1 == i && q.2.category == 2))) ks = lv1) (kk : hv_V p l e R s m args below meth c w nL Q cells slots Y lv1 (pc + 2) rest) : hv_V p l e R s m args below meth c w nL Q cells slots Y lv pc (Value.int x :: rest) := fun H locs ls hR hS hl => lv_istore C.1 C.2.1 hdg hl hn rfl (fun ls1 hl1 => kk H locs ls1 hR hS (lv_sub hl1 ks hlv))
theorem hv_astore_n (C : hv_C own cc nL Ts w p s m args meth c) {k : Fin 4} {i : Nat} {x : Nat} {lv1 : List (Nat × Value)} (hdg : decode cc pc = .ok (.astore_n k, 1)) (hi : (k : Nat) = i) (hn : i < nL) (ks : List Nat) (hlv : lv_pick ((i, Value.ref x) :: lv.filter (fun q => !(q.1 == i) && !(q.1 + 1 == i && q.2.category == 2))) ks = lv1) (kk : hv_V p l e R s m args below meth c w nL Q cells slots Y lv1 (pc + 1) rest) : hv_V p l e R s m args below meth c w nL Q cells slots Y lv pc (Value.ref x :: rest) := fun H locs ls hR hS hl => lv_astore_n C.1 C.2.1 hdg hi hl hn rfl (fun ls1 hl1 => kk H locs ls1 hR hS (lv_sub hl1 ks hlv))
theorem hv_astore (C : hv_C own cc nL Ts w p s m args meth c) {i : Nat} {x : Nat} {lv1 : List (Nat × Value)} (hdg : decode cc pc = .ok (.astore i, 2))  (hn : i < nL) (ks : List Nat) (hlv : lv_pick ((i, Value.ref x) :: lv.filter (fun q => !(q.1 == i) && !(q.1 + 1 == i && q.2.category == 2))) ks = lv1) (kk : hv_V p l e R s m args below meth c w nL Q cells slots Y lv1 (pc + 2) rest) : hv_V p l e R s m args below meth c w nL Q cells slots Y lv pc (Value.ref x :: rest) := fun H locs ls hR hS hl => lv_astore C.1 C.2.1 hdg hl hn rfl (fun ls1 hl1 => kk H locs ls1 hR hS (lv_sub hl1 ks hlv))
theorem hv_iinc (C : hv_C own cc nL Ts w p s m args meth c) {i k : Nat} {n : Int} {x v : Int32} {lv1 : List (Nat × Value)} (hdg : decode cc pc = .ok (.iinc i n, 3)) (hk : lv[k]? = some (i, .int x)) (hv : x + Int32.ofInt n = v) (hn : i < nL) (ks : List Nat) (hlv : lv_pick ((i, Value.int v) :: lv.filter (fun q => !(q.1 == i) && !(q.1 + 1 == i && q.2.category == 2))) ks = lv1) (kk : hv_V p l e R s m args below meth c w nL Q cells slots Y lv1 (pc + 3) rest) : hv_V p l e R s m args below meth c w nL Q cells slots Y lv pc rest := fun H locs ls hR hS hl => lv_iinc C.1 C.2.1 hdg hl hk hv hn rfl (fun ls1 hl1 => kk H locs ls1 hR hS (lv_sub hl1 ks hlv))
theorem hv_sub {lv1 : List (Nat × Value)} {st : List Value} (ks : List Nat) (hlv : lv_pick lv ks = lv1) (kk : hv_V p l e R s m args below meth c w nL Q cells slots Y lv1 pc st) : hv_V p l e R s m args below meth c w nL Q cells slots Y lv pc st := fun H locs ls hR hS hl => kk H locs ls hR hS (lv_sub hl ks hlv)
theorem hv_iadd (C : hv_C own cc nL Ts w p s m args meth c) {x y : Int32} (hdg : decode cc pc = .ok (.iadd, 1)) (kk : hv_V p l e R s m args below meth c w nL Q cells slots Y lv (pc + 1) (.int (x + y) :: rest)) : hv_V p l e R s m args below meth c w nL Q cells slots Y lv pc (.int y :: .int x :: rest) := fun H locs ls hR hS hl => lv_iadd C.1 C.2.1 hdg (kk H locs ls hR hS hl)
theorem hv_isub (C : hv_C own cc nL Ts w p s m args meth c) {x y : Int32} (hdg : decode cc pc = .ok (.isub, 1)) (kk : hv_V p l e R s m args below meth c w nL Q cells slots Y lv (pc + 1) (.int (x - y) :: rest)) : hv_V p l e R s m args below meth c w nL Q cells slots Y lv pc (.int y :: .int x :: rest) := fun H locs ls hR hS hl => lv_isub C.1 C.2.1 hdg (kk H locs ls hR hS hl)
theorem hv_imul (C : hv_C own cc nL Ts w p s m args meth c) {x y : Int32} (hdg : decode cc pc = .ok (.imul, 1)) (kk : hv_V p l e R s m args below meth c w nL Q cells slots Y lv (pc + 1) (.int (x * y) :: rest)) : hv_V p l e R s m args below meth c w nL Q cells slots Y lv pc (.int y :: .int x :: rest) := fun H locs ls hR hS hl => lv_imul C.1 C.2.1 hdg (kk H locs ls hR hS hl)
theorem hv_iand (C : hv_C own cc nL Ts w p s m args meth c) {x y : Int32} (hdg : decode cc pc = .ok (.iand, 1)) (kk : hv_V p l e R s m args below meth c w nL Q cells slots Y lv (pc + 1) (.int (x &&& y) :: rest)) : hv_V p l e R s m args below meth c w nL Q cells slots Y lv pc (.int y :: .int x :: rest) := fun H locs ls hR hS hl => lv_iand C.1 C.2.1 hdg (kk H locs ls hR hS hl)
theorem hv_ior (C : hv_C own cc nL Ts w p s m args meth c) {x y : Int32} (hdg : decode cc pc = .ok (.ior, 1)) (kk : hv_V p l e R s m args below meth c w nL Q cells slots Y lv (pc + 1) (.int (x ||| y) :: rest)) : hv_V p l e R s m args below meth c w nL Q cells slots Y lv pc (.int y :: .int x :: rest) := fun H locs ls hR hS hl => lv_ior C.1 C.2.1 hdg (kk H locs ls hR hS hl)
theorem hv_idiv (C : hv_C own cc nL Ts w p s m args meth c) {x y : Int32} (hdg : decode cc pc = .ok (.idiv, 1)) (hne : ¬ y = 0) (kk : hv_V p l e R s m args below meth c w nL Q cells slots Y lv (pc + 1) (.int (x / y) :: rest)) : hv_V p l e R s m args below meth c w nL Q cells slots Y lv pc (.int y :: .int x :: rest) := fun H locs ls hR hS hl => lv_idiv C.1 C.2.1 hdg hne (kk H locs ls hR hS hl)
theorem hv_irem (C : hv_C own cc nL Ts w p s m args meth c) {x y : Int32} (hdg : decode cc pc = .ok (.irem, 1)) (hne : ¬ y = 0) (kk : hv_V p l e R s m args below meth c w nL Q cells slots Y lv (pc + 1) (.int (x - x / y * y) :: rest)) : hv_V p l e R s m args below meth c w nL Q cells slots Y lv pc (.int y :: .int x :: rest) := fun H locs ls hR hS hl => lv_irem C.1 C.2.1 hdg hne (kk H locs ls hR hS hl)
theorem hv_ishl (C : hv_C own cc nL Ts w p s m args meth c) {x y : Int32} (hdg : decode cc pc = .ok (.ishl, 1)) (kk : hv_V p l e R s m args below meth c w nL Q cells slots Y lv (pc + 1) (.int (x <<< (y &&& 31)) :: rest)) : hv_V p l e R s m args below meth c w nL Q cells slots Y lv pc (.int y :: .int x :: rest) := fun H locs ls hR hS hl => lv_ishl C.1 C.2.1 hdg (kk H locs ls hR hS hl)
theorem hv_ishr (C : hv_C own cc nL Ts w p s m args meth c) {x y : Int32} (hdg : decode cc pc = .ok (.ishr, 1)) (kk : hv_V p l e R s m args below meth c w nL Q cells slots Y lv (pc + 1) (.int (x >>> (y &&& 31)) :: rest)) : hv_V p l e R s m args below meth c w nL Q cells slots Y lv pc (.int y :: .int x :: rest) := fun H locs ls hR hS hl => lv_ishr C.1 C.2.1 hdg (kk H locs ls hR hS hl)
theorem hv_i2l (C : hv_C own cc nL Ts w p s m args meth c) {x : Int32} {v : Int64} (hdg : decode cc pc = .ok (.i2l, 1)) (hv : x.toInt64 = v) (kk : hv_V p l e R s m args below meth c w nL Q cells slots Y lv (pc + 1) (.long v :: rest)) : hv_V p l e R s m args below meth c w nL Q cells slots Y lv pc (.int x :: rest) := fun H locs ls hR hS hl => lv_i2l C.1 C.2.1 hdg hv (kk H locs ls hR hS hl)
theorem hv_dup (C : hv_C own cc nL Ts w p s m args meth c) {va : Value} (hdg : decode cc pc = .ok (.dup, 1)) (hva : va.category = 1) (kk : hv_V p l e R s m args below meth c w nL Q cells slots Y lv (pc + 1) (va :: va :: rest)) : hv_V p l e R s m args below meth c w nL Q cells slots Y lv pc (va :: rest) := fun H locs ls hR hS hl => lv_dup C.1 C.2.1 hdg hva (kk H locs ls hR hS hl)
theorem hv_dup_x1 (C : hv_C own cc nL Ts w p s m args meth c) {va vb : Value} (hdg : decode cc pc = .ok (.dup_x1, 1)) (hva : va.category = 1) (hvb : vb.category = 1) (kk : hv_V p l e R s m args below meth c w nL Q cells slots Y lv (pc + 1) (va :: vb :: va :: rest)) : hv_V p l e R s m args below meth c w nL Q cells slots Y lv pc (va :: vb :: rest) := fun H locs ls hR hS hl => lv_dup_x1 C.1 C.2.1 hdg hva hvb (kk H locs ls hR hS hl)
theorem hv_dup2 (C : hv_C own cc nL Ts w p s m args meth c) {va vb : Value} (hdg : decode cc pc = .ok (.dup2, 1)) (hva : va.category = 1) (hvb : vb.category = 1) (kk : hv_V p l e R s m args below meth c w nL Q cells slots Y lv (pc + 1) (va :: vb :: va :: vb :: rest)) : hv_V p l e R s m args below meth c w nL Q cells slots Y lv pc (va :: vb :: rest) := fun H locs ls hR hS hl => lv_dup2_11 C.1 C.2.1 hdg hva hvb (kk H locs ls hR hS hl)
theorem hv_pop (C : hv_C own cc nL Ts w p s m args meth c) {va : Value} (hdg : decode cc pc = .ok (.pop, 1)) (hva : va.category = 1) (kk : hv_V p l e R s m args below meth c w nL Q cells slots Y lv (pc + 1) rest) : hv_V p l e R s m args below meth c w nL Q cells slots Y lv pc (va :: rest) := fun H locs ls hR hS hl => lv_pop C.1 C.2.1 hdg hva (kk H locs ls hR hS hl)
theorem hv_if_eq (C : hv_C own cc nL Ts w p s m args meth c) {x : Int32} {off : Int} {tgt : Nat} (hdg : decode cc pc = .ok (.ifCond .eq off, 3)) (ht : (pc : Int) + off = (tgt : Int)) (kt : x = 0 → hv_V p l e R s m args below meth c w nL Q cells slots Y lv tgt rest) (kf : ¬ x = 0 → hv_V p l e R s m args below meth c w nL Q cells slots Y lv (pc + 3) rest) : hv_V p l e R s m args below meth c w nL Q cells slots Y lv pc (.int x :: rest) := fun H locs ls hR hS hl => lv_if_eq C.1 C.2.1 hdg ht (fun h => kt h H locs ls hR hS hl) (fun h => kf h H locs ls hR hS hl)
theorem hv_if_ne (C : hv_C own cc nL Ts w p s m args meth c) {x : Int32} {off : Int} {tgt : Nat} (hdg : decode cc pc = .ok (.ifCond .ne off, 3)) (ht : (pc : Int) + off = (tgt : Int)) (kt : ¬ x = 0 → hv_V p l e R s m args below meth c w nL Q cells slots Y lv tgt rest) (kf : x = 0 → hv_V p l e R s m args below meth c w nL Q cells slots Y lv (pc + 3) rest) : hv_V p l e R s m args below meth c w nL Q cells slots Y lv pc (.int x :: rest) := fun H locs ls hR hS hl => lv_if_ne C.1 C.2.1 hdg ht (fun h => kt h H locs ls hR hS hl) (fun h => kf h H locs ls hR hS hl)
theorem hv_if_lt (C : hv_C own cc nL Ts w p s m args meth c) {x : Int32} {off : Int} {tgt : Nat} (hdg : decode cc pc = .ok (.ifCond .lt off, 3)) (ht : (pc : Int) + off = (tgt : Int)) (kt : x < 0 → hv_V p l e R s m args below meth c w nL Q cells slots Y lv tgt rest) (kf : ¬ x < 0 → hv_V p l e R s m args below meth c w nL Q cells slots Y lv (pc + 3) rest) : hv_V p l e R s m args below meth c w nL Q cells slots Y lv pc (.int x :: rest) := fun H locs ls hR hS hl => lv_if_lt C.1 C.2.1 hdg ht (fun h => kt h H locs ls hR hS hl) (fun h => kf h H locs ls hR hS hl)
theorem hv_if_ge (C : hv_C own cc nL Ts w p s m args meth c) {x : Int32} {off : Int} {tgt : Nat} (hdg : decode cc pc = .ok (.ifCond .ge off, 3)) (ht : (pc : Int) + off = (tgt : Int)) (kt : 0 ≤ x → hv_V p l e R s m args below meth c w nL Q cells slots Y lv tgt rest) (kf : ¬ 0 ≤ x → hv_V p l e R s m args below meth c w nL Q cells slots Y lv (pc + 3) rest) : hv_V p l e R s m args below meth c w nL Q cells slots Y lv pc (.int x :: rest) := fun H locs ls hR hS hl => lv_if_ge C.1 C.2.1 hdg ht (fun h => kt h H locs ls hR hS hl) (fun h => kf h H locs ls hR hS hl)
theorem hv_if_gt (C : hv_C own cc nL Ts w p s m args meth c) {x : Int32} {off : Int} {tgt : Nat} (hdg : decode cc pc = .ok (.ifCond .gt off, 3)) (ht : (pc : Int) + off = (tgt : Int)) (kt : 0 < x → hv_V p l e R s m args below meth c w nL Q cells slots Y lv tgt rest) (kf : ¬ 0 < x → hv_V p l e R s m args below meth c w nL Q cells slots Y lv (pc + 3) rest) : hv_V p l e R s m args below meth c w nL Q cells slots Y lv pc (.int x :: rest) := fun H locs ls hR hS hl => lv_if_gt C.1 C.2.1 hdg ht (fun h => kt h H locs ls hR hS hl) (fun h => kf h H locs ls hR hS hl)
theorem hv_if_le (C : hv_C own cc nL Ts w p s m args meth c) {x : Int32} {off : Int} {tgt : Nat} (hdg : decode cc pc = .ok (.ifCond .le off, 3)) (ht : (pc : Int) + off = (tgt : Int)) (kt : x ≤ 0 → hv_V p l e R s m args below meth c w nL Q cells slots Y lv tgt rest) (kf : ¬ x ≤ 0 → hv_V p l e R s m args below meth c w nL Q cells slots Y lv (pc + 3) rest) : hv_V p l e R s m args below meth c w nL Q cells slots Y lv pc (.int x :: rest) := fun H locs ls hR hS hl => lv_if_le C.1 C.2.1 hdg ht (fun h => kt h H locs ls hR hS hl) (fun h => kf h H locs ls hR hS hl)
theorem hv_icmp_eq (C : hv_C own cc nL Ts w p s m args meth c) {x y : Int32} {off : Int} {tgt : Nat} (hdg : decode cc pc = .ok (.if_icmp .eq off, 3)) (ht : (pc : Int) + off = (tgt : Int)) (kt : x = y → hv_V p l e R s m args below meth c w nL Q cells slots Y lv tgt rest) (kf : ¬ x = y → hv_V p l e R s m args below meth c w nL Q cells slots Y lv (pc + 3) rest) : hv_V p l e R s m args below meth c w nL Q cells slots Y lv pc (.int y :: .int x :: rest) := fun H locs ls hR hS hl => lv_icmp_eq C.1 C.2.1 hdg ht (fun h => kt h H locs ls hR hS hl) (fun h => kf h H locs ls hR hS hl)
theorem hv_icmp_ne (C : hv_C own cc nL Ts w p s m args meth c) {x y : Int32} {off : Int} {tgt : Nat} (hdg : decode cc pc = .ok (.if_icmp .ne off, 3)) (ht : (pc : Int) + off = (tgt : Int)) (kt : ¬ x = y → hv_V p l e R s m args below meth c w nL Q cells slots Y lv tgt rest) (kf : x = y → hv_V p l e R s m args below meth c w nL Q cells slots Y lv (pc + 3) rest) : hv_V p l e R s m args below meth c w nL Q cells slots Y lv pc (.int y :: .int x :: rest) := fun H locs ls hR hS hl => lv_icmp_ne C.1 C.2.1 hdg ht (fun h => kt h H locs ls hR hS hl) (fun h => kf h H locs ls hR hS hl)
theorem hv_icmp_lt (C : hv_C own cc nL Ts w p s m args meth c) {x y : Int32} {off : Int} {tgt : Nat} (hdg : decode cc pc = .ok (.if_icmp .lt off, 3)) (ht : (pc : Int) + off = (tgt : Int)) (kt : x < y → hv_V p l e R s m args below meth c w nL Q cells slots Y lv tgt rest) (kf : ¬ x < y → hv_V p l e R s m args below meth c w nL Q cells slots Y lv (pc + 3) rest) : hv_V p l e R s m args below meth c w nL Q cells slots Y lv pc (.int y :: .int x :: rest) := fun H locs ls hR hS hl => lv_icmp_lt C.1 C.2.1 hdg ht (fun h => kt h H locs ls hR hS hl) (fun h => kf h H locs ls hR hS hl)
theorem hv_icmp_ge (C : hv_C own cc nL Ts w p s m args meth c) {x y : Int32} {off : Int} {tgt : Nat} (hdg : decode cc pc = .ok (.if_icmp .ge off, 3)) (ht : (pc : Int) + off = (tgt : Int)) (kt : y ≤ x → hv_V p l e R s m args below meth c w nL Q cells slots Y lv tgt rest) (kf : ¬ y ≤ x → hv_V p l e R s m args below meth c w nL Q cells slots Y lv (pc + 3) rest) : hv_V p l e R s m args below meth c w nL Q cells slots Y lv pc (.int y :: .int x :: rest) := fun H locs ls hR hS hl => lv_icmp_ge C.1 C.2.1 hdg ht (fun h => kt h H locs ls hR hS hl) (fun h => kf h H locs ls hR hS hl)
theorem hv_icmp_gt (C : hv_C own cc nL Ts w p s m args meth c) {x y : Int32} {off : Int} {tgt : Nat} (hdg : decode cc pc = .ok (.if_icmp .gt off, 3)) (ht : (pc : Int) + off = (tgt : Int)) (kt : y < x → hv_V p l e R s m args below meth c w nL Q cells slots Y lv tgt rest) (kf : ¬ y < x → hv_V p l e R s m args below meth c w nL Q cells slots Y lv (pc + 3) rest) : hv_V p l e R s m args below meth c w nL Q cells slots Y lv pc (.int y :: .int x :: rest) := fun H locs ls hR hS hl => lv_icmp_gt C.1 C.2.1 hdg ht (fun h => kt h H locs ls hR hS hl) (fun h => kf h H locs ls hR hS hl)
theorem hv_icmp_le (C : hv_C own cc nL Ts w p s m args meth c) {x y : Int32} {off : Int} {tgt : Nat} (hdg : decode cc pc = .ok (.if_icmp .le off, 3)) (ht : (pc : Int) + off = (tgt : Int)) (kt : x ≤ y → hv_V p l e R s m args below meth c w nL Q cells slots Y lv tgt rest) (kf : ¬ x ≤ y → hv_V p l e R s m args below meth c w nL Q cells slots Y lv (pc + 3) rest) : hv_V p l e R s m args below meth c w nL Q cells slots Y lv pc (.int y :: .int x :: rest) := fun H locs ls hR hS hl => lv_icmp_le C.1 C.2.1 hdg ht (fun h => kt h H locs ls hR hS hl) (fun h => kf h H locs ls hR hS hl)
theorem hv_acmp_eq (C : hv_C own cc nL Ts w p s m args meth c) {rx ry : Option Nat} {off : Int} {tgt : Nat} (hdg : decode cc pc = .ok (.if_acmp .eq off, 3)) (ht : (pc : Int) + off = (tgt : Int)) (kt : rx = ry → hv_V p l e R s m args below meth c w nL Q cells slots Y lv tgt rest) (kf : ¬ rx = ry → hv_V p l e R s m args below meth c w nL Q cells slots Y lv (pc + 3) rest) : hv_V p l e R s m args below meth c w nL Q cells slots Y lv pc (va_rf ry :: va_rf rx :: rest) := fun H locs ls hR hS hl => lv_acmp_eq C.1 C.2.1 hdg ht (fun h => kt h H locs ls hR hS hl) (fun h => kf h H locs ls hR hS hl)
theorem hv_acmpR_eq (C : hv_C own cc nL Ts w p s m args meth c) {x y : Nat} {off : Int} {tgt : Nat} (hdg : decode cc pc = .ok (.if_acmp .eq off, 3)) (ht : (pc : Int) + off = (tgt : Int)) (kt : x = y → hv_V p l e R s m args below meth c w nL Q cells slots Y lv tgt rest) (kf : ¬ x = y → hv_V p l e R s m args below meth c w nL Q cells slots Y lv (pc + 3) rest) : hv_V p l e R s m args below meth c w nL Q cells slots Y lv pc (.ref y :: .ref x :: rest) := hv_acmp_eq C (rx := some x) (ry := some y) hdg ht (fun h => kt (by first | exact Option.some.inj h | exact fun q => h (congrArg some q))) (fun h => kf (by first | exact Option.some.inj h | exact fun q => h (congrArg some q)))
theorem hv_acmp_ne (C : hv_C own cc nL Ts w p s m args meth c) {rx ry : Option Nat} {off : Int} {tgt : Nat} (hdg : decode cc pc = .ok (.if_acmp .ne off, 3)) (ht : (pc : Int) + off = (tgt : Int)) (kt : ¬ rx = ry → hv_V p l e R s m args below meth c w nL Q cells slots Y lv tgt rest) (kf : rx = ry → hv_V p l e R s m args below meth c w nL Q cells slots Y lv (pc + 3) rest) : hv_V p l e R s m args below meth c w nL Q cells slots Y lv pc (va_rf ry :: va_rf rx :: rest) := fun H locs ls hR hS hl => lv_acmp_ne C.1 C.2.1 hdg ht (fun h => kt h H locs ls hR hS hl) (fun h => kf h H locs ls hR hS hl)
theorem hv_acmpR_ne (C : hv_C own cc nL Ts w p s m args meth c) {x y : Nat} {off : Int} {tgt : Nat} (hdg : decode cc pc = .ok (.if_acmp .ne off, 3)) (ht : (pc : Int) + off = (tgt : Int)) (kt : ¬ x = y → hv_V p l e R s m args below meth c w nL Q cells slots Y lv tgt rest) (kf : x = y → hv_V p l e R s m args below meth c w nL Q cells slots Y lv (pc + 3) rest) : hv_V p l e R s m args below meth c w nL Q cells slots Y lv pc (.ref y :: .ref x :: rest) := hv_acmp_ne C (rx := some x) (ry := some y) hdg ht (fun h => kt (by first | exact Option.some.inj h | exact fun q => h (congrArg some q))) (fun h => kf (by first | exact Option.some.inj h | exact fun q => h (congrArg some q)))
theorem hv_goto (C : hv_C own cc nL Ts w p s m args meth c) {off : Int} {tgt : Nat} (hdg : decode cc pc = .ok (.goto off, 3)) (ht : (pc : Int) + off = (tgt : Int)) (kk : hv_V p l e R s m args below meth c w nL Q cells slots Y lv tgt rest) : hv_V p l e R s m args below meth c w nL Q cells slots Y lv pc rest := fun H locs ls hR hS hl => lv_goto C.1 C.2.1 hdg ht (kk H locs ls hR hS hl)
theorem hv_ifnullN (C : hv_C own cc nL Ts w p s m args meth c) {off : Int} {tgt : Nat} (hdg : decode cc pc = .ok (.ifnull off, 3)) (ht : (pc : Int) + off = (tgt : Int)) (kk : hv_V p l e R s m args below meth c w nL Q cells slots Y lv tgt rest) : hv_V p l e R s m args below meth c w nL Q cells slots Y lv pc (.null :: rest) := fun H locs ls hR hS hl => lv_ifnullN C.1 C.2.1 hdg ht (kk H locs ls hR hS hl)
theorem hv_ifnullR (C : hv_C own cc nL Ts w p s m args meth c) {off : Int} {x : Nat} (hdg : decode cc pc = .ok (.ifnull off, 3)) (kk : hv_V p l e R s m args below meth c w nL Q cells slots Y lv (pc + 3) rest) : hv_V p l e R s m args below meth c w nL Q cells slots Y lv pc (.ref x :: rest) := fun H locs ls hR hS hl => lv_ifnull C.1 C.2.1 hdg (kk H locs ls hR hS hl)
theorem hv_ifnonnullR (C : hv_C own cc nL Ts w p s m args meth c) {off : Int} {x tgt : Nat} (hdg : decode cc pc = .ok (.ifnonnull off, 3)) (ht : (pc : Int) + off = (tgt : Int)) (kk : hv_V p l e R s m args below meth c w nL Q cells slots Y lv tgt rest) : hv_V p l e R s m args below meth c w nL Q cells slots Y lv pc (.ref x :: rest) := fun H locs ls hR hS hl => lv_ifnonnull C.1 C.2.1 hdg ht (kk H locs ls hR hS hl)
theorem hv_ifnonnullN (C : hv_C own cc nL Ts w p s m args meth c) {off : Int} (hdg : decode cc pc = .ok (.ifnonnull off, 3)) (kk : hv_V p l e R s m args below meth c w nL Q cells slots Y lv (pc + 3) rest) : hv_V p l e R s m args below meth c w nL Q cells slots Y lv pc (.null :: rest) := fun H locs ls hR hS hl => lv_ifnonnullN C.1 C.2.1 hdg (kk H locs ls hR hS hl)
theorem hv_aload_nN (C : hv_C own cc nL Ts w p s m args meth c) {k : Fin 4} {i : Nat} (hdg : decode cc pc = .ok (.aload_n k, 1)) (hi : (k : Nat) = i) (j : Nat) (hj : lv[j]? = some (i, .null)) (kk : hv_V p l e R s m args below meth c w nL Q cells slots Y lv (pc + 1) (.null :: rest)) : hv_V p l e R s m args below meth c w nL Q cells slots Y lv pc rest := fun H locs ls hR hS hl => lv_aload_nN C.1 C.2.1 hdg hi (lv_at hl j hj) (kk H locs ls hR hS hl)
theorem hv_aloadN (C : hv_C own cc nL Ts w p s m args meth c) {i : Nat} (hdg : decode cc pc = .ok (.aload i, 2)) (j : Nat) (hj : lv[j]? = some (i, .null)) (kk : hv_V p l e R s m args below meth c w nL Q cells slots Y lv (pc + 2) (.null :: rest)) : hv_V p l e R s m args below meth c w nL Q cells slots Y lv pc rest := fun H locs ls hR hS hl => lv_aloadN C.1 C.2.1 hdg (lv_at hl j hj) (kk H locs ls hR hS hl)
theorem hv_astore_nN (C : hv_C own cc nL Ts w p s m args meth c) {k : Fin 4} {i : Nat} {lv1 : List (Nat × Value)} (hdg : decode cc pc = .ok (.astore_n k, 1)) (hi : (k : Nat) = i) (hn : i < nL) (ks : List Nat) (hlv : lv_pick ((i, Value.null) :: lv.filter (fun q => !(q.1 == i) && !(q.1 + 1 == i && q.2.category == 2))) ks = lv1) (kk : hv_V p l e R s m args below meth c w nL Q cells slots Y lv1 (pc + 1) rest) : hv_V p l e R s m args below meth c w nL Q cells slots Y lv pc (Value.null :: rest) := fun H locs ls hR hS hl => lv_astore_nN C.1 C.2.1 hdg hi hl hn rfl (fun ls1 hl1 => kk H locs ls1 hR hS (lv_sub hl1 ks hlv))
theorem hv_astoreN (C : hv_C own cc nL Ts w p s m args meth c) {i : Nat} {lv1 : List (Nat × Value)} (hdg : decode cc pc = .ok (.astore i, 2))  (hn : i < nL) (ks : List Nat) (hlv : lv_pick ((i, Value.null) :: lv.filter (fun q => !(q.1 == i) && !(q.1 + 1 == i && q.2.category == 2))) ks = lv1) (kk : hv_V p l e R s m args below meth c w nL Q cells slots Y lv1 (pc + 2) rest) : hv_V p l e R s m args below meth c w nL Q cells slots Y lv pc (Value.null :: rest) := fun H locs ls hR hS hl => lv_astoreN C.1 C.2.1 hdg hl hn rfl (fun ls1 hl1 => kk H locs ls1 hR hS (lv_sub hl1 ks hlv))
theorem hv_getf (C : hv_C own cc nL Ts w p s m args meth c) {ref Cn : String} {T : u_T} {N ci k index a : Nat} {fs : List Value} {v : Value} (hin : ∀ x ∈ u_ws Cn T N, x ∈ Ts) (hc : vwCl[ci]? = some (Cn, T, N)) (hY : Y a = some (.inl (.inr (ci, fs)))) (hk : k < N) (hlink : Cond.fieldLink own index ref (T k).2.1 (T k).2.2.1 ∈ Ts) (hsame : ∀ x, s.fieldFound? (T k).1 (T k).2.1 (T k).2.2.1 = some x → s.fieldFound? ref (T k).2.1 (T k).2.2.1 = some x) (hv : fs[k]? = some v) (hdg : decode cc pc = .ok (.getfield index, 3))
    (kk : hv_V p l e R s m args below meth c w nL Q cells slots Y lv (pc + 3) (v :: rest)) : hv_V p l e R s m args below meth c w nL Q cells slots Y lv pc (.ref a :: rest) := fun H locs ls hR hS hl =>
  va_get C.1 C.2.1 C.2.2.2.2.1 hin C.2.2.2.1 C.2.2.2.2.2.2.1.1 (hR.at hY) 0 rfl hc k hk (C.2.2.2.2.1 _ hlink) hsame hv hdg (kk H locs ls hR hS hl)
theorem hv_putf (C : hv_C own cc nL Ts w p s m args meth c) {ref Cn : String} {T : u_T} {N ci k index a : Nat} {fs : List Value} {v : Value} {ty : FieldType} (hin : ∀ x ∈ u_ws Cn T N, x ∈ Ts) (ty0 : Nat → FieldType) (hty : ∀ k, k < N → parseFieldDescriptor (T k).2.2.1 = some (ty0 k)) (hnm : ∀ a, a < N → ∀ b, b < N → a ≠ b → (T a).2.1 ≠ (T b).2.1) (hc : vwCl[ci]? = some (Cn, T, N)) (hY : Y a = some (.inl (.inr (ci, fs)))) (hk : k < N) (hlink : Cond.fieldLink own index ref (T k).2.1 (T k).2.2.1 ∈ Ts) (hsame : ∀ x, s.fieldFound? (T k).1 (T k).2.1 (T k).2.2.1 = some x → s.fieldFound? ref (T k).2.1 (T k).2.2.1 = some x) (hfin : (T k).2.2.2 = false) (hd : parseFieldDescriptor (T k).2.2.1 = some ty) (hn : narrow ty v = v) (hfit : fits ty v = true) (hl9 : k < fs.length) (hdg : decode cc pc = .ok (.putfield index, 3))
    (kk : hv_V p l e R s m args below meth c w nL Q cells slots (hv_up Y a (.inl (.inr (ci, fs.set k v)))) lv (pc + 3) rest) : hv_V p l e R s m args below meth c w nL Q cells slots Y lv pc (v :: .ref a :: rest) := by
  intro H locs ls hR hS hl
  have hts := C.2.2.2.2.1
  have hown := C.2.2.2.1
  have hK := C.2.2.2.2.2.2.1.1
  have hap := va_apart (own := own) hts hin ty0 hty hnm hK hc
  obtain ⟨r, h1, cell, q1, q2, q3, q4⟩ := hR.at hY 0 _ rfl
  have hr : r = (Cn, T, N) := Option.some.inj (h1.symm.trans hc)
  subst hr
  obtain ⟨hS9, hfc, kC, hkC, hkind⟩ := hK.1 ci _ hc
  obtain ⟨cf, kf, fi, f, hi, hsl⟩ := hS9 k hk
  have hlay := hts _ (hin _ (u_in_lay hk))
  unfold u_lay at hlay
  rw [if_neg (by rw [hfin]; decide)] at hlay
  have hst := (u_facts hfc hkC (u_lays hts hin hk) hi).1
  have h6 := u_store hfc hkC hkind hlay hi hd hn hfit
  refine W.putK C.1 C.2.1 (f := f) ⟨hown, hts _ hlink, ⟨_, _, _, hsame _ hi⟩, hst⟩ (by rw [q2]; exact h6) q1 q3 (by rw [hsl]; exact k2_hasslot (q4 k hk)) rfl rfl hdg fun H1 e1 e2 e3 => ?_
  rw [hsl] at e1 ⊢
  exact kk H1 _ ls (hR.put hY ⟨_, hc, t_OB.to (V := updV (vp_V fs) k v) ⟨_, e1, q2, q3, t_set q4 hap hk v⟩ (fun j _ => vp_updV_set hl9 v j)⟩ e2 e3) (hS.put e2 e3 (hR.own hY).1) hl
theorem hv_putfF (C : hv_C own cc nL Ts w p s m args meth c) {ref Cn : String} {T : u_T} {N ci k index a : Nat} {fs : List Value} {v : Value} {ty : FieldType} (hin : ∀ x ∈ u_ws Cn T N, x ∈ Ts) (ty0 : Nat → FieldType) (hty : ∀ k, k < N → parseFieldDescriptor (T k).2.2.1 = some (ty0 k)) (hnm : ∀ a, a < N → ∀ b, b < N → a ≠ b → (T a).2.1 ≠ (T b).2.1) (hc : vwCl[ci]? = some (Cn, T, N)) (hY : Y a = some (.inl (.inr (ci, fs)))) (hk : k < N) (hlink : Cond.fieldLink own index ref (T k).2.1 (T k).2.2.1 ∈ Ts) (hsame : ∀ x, s.fieldFound? (T k).1 (T k).2.1 (T k).2.2.1 = some x → s.fieldFound? ref (T k).2.1 (T k).2.2.1 = some x) (hfin : (T k).2.2.2 = true) (hin2 : meth.name = "<init>") (hdecl : (T k).1 = own) (hd : parseFieldDescriptor (T k).2.2.1 = some ty) (hn : narrow ty v = v) (hfit : fits ty v = true) (hl9 : k < fs.length) (hdg : decode cc pc = .ok (.putfield index, 3))
    (kk : hv_V p l e R s m args below meth c w nL Q cells slots (hv_up Y a (.inl (.inr (ci, fs.set k v)))) lv (pc + 3) rest) : hv_V p l e R s m args below meth c w nL Q cells slots Y lv pc (v :: .ref a :: rest) := by
  intro H locs ls hR hS hl
  have hts := C.2.2.2.2.1
  have hown := C.2.2.2.1
  have hK := C.2.2.2.2.2.2.1.1
  have hap := va_apart (own := own) hts hin ty0 hty hnm hK hc
  obtain ⟨r, h1, cell, q1, q2, q3, q4⟩ := hR.at hY 0 _ rfl
  have hr : r = (Cn, T, N) := Option.some.inj (h1.symm.trans hc)
  subst hr
  obtain ⟨hS9, hfc, kC, hkC, hkind⟩ := hK.1 ci _ hc
  obtain ⟨cf, kf, fi, f, hi, hsl⟩ := hS9 k hk
  have hlay := hts _ (hin _ (u_in_lay hk))
  unfold u_lay at hlay
  rw [if_pos hfin] at hlay
  have hst := (u_facts hfc hkC (u_lays hts hin hk) hi).1
  have hcf : m.cls = cf := by
    obtain ⟨_, _, c', _, _, _, -, -, hf', -, -, -, hown2, -⟩ := Cond.laysFinal_spec hlay
    have e1 : c' = cf := by have := hi.symm.trans hf'; simp at this; exact this.1.symm
    rw [hdecl] at hown2
    rw [← e1]; exact Option.some.inj (hown.symm.trans hown2)
  have h6 := u_fits hfc hkC hkind (Or.inr hlay) hi hd hn hfit
  refine W.putFinK C.1 C.2.1 hown (hts _ hlink) (hsame _ hi) hst hcf hin2 (by rw [q2]; exact h6) q1 q3 (by rw [hsl]; exact k2_hasslot (q4 k hk)) rfl rfl hdg fun H1 e1 e2 e3 => ?_
  rw [hsl] at e1 ⊢
  exact kk H1 _ ls (hR.put hY ⟨_, hc, t_OB.to (V := updV (vp_V fs) k v) ⟨_, e1, q2, q3, t_set q4 hap hk v⟩ (fun j _ => vp_updV_set hl9 v j)⟩ e2 e3) (hS.put e2 e3 (hR.own hY).1) hl
/-- a static that nobody writes -/
theorem hv_gets (C : hv_C own cc nL Ts w p s m args meth c) {index : Nat} (hlink : Cond.fieldLink own index "java/util/ArrayList" "DEFAULTCAPACITY_EMPTY_ELEMENTDATA" "[Ljava/lang/Object;" ∈ Ts) (hdg : decode cc pc = .ok (.getstatic index, 3)) (kk : hv_V p l e R s m args below meth c w nL Q cells slots Y lv (pc + 3) (.ref (hv_t w) :: rest)) : hv_V p l e R s m args below meth c w nL Q cells slots Y lv pc rest := fun H locs ls hR hS hl =>
  va_gets C.1 C.2.1 C.2.2.2.2.2.2.1.2.1 hS C.2.2.2.1 (C.2.2.2.2.1 _ hlink) (fun _ h => h) hdg (kk H locs ls hR hS hl)
/-! arrays -/
theorem hv_iald (C : hv_C own cc nL Ts w p s m args meth c) {a n : Nat} {f : Nat → Int32} {i : Int32} (hY : Y a = some (.inl (.inl (hv_c w 0, n, .inl f)))) (hin : vp_in i n) (hdg : decode cc pc = .ok (.iaload, 1)) (kk : hv_V p l e R s m args below meth c w nL Q cells slots Y lv (pc + 1) (.int (f i.toNatClampNeg) :: rest)) : hv_V p l e R s m args below meth c w nL Q cells slots Y lv pc (.int i :: .ref a :: rest) := fun H locs ls hR hS hl =>
  va_iald C.1 C.2.1 C.2.2.2.2.2.2.1.1 (hR.at hY) 0 0 rfl rfl hin hdg (kk H locs ls hR hS hl)
theorem hv_zald (C : hv_C own cc nL Ts w p s m args meth c) {a n : Nat} {f : Nat → Int32} {i : Int32} (hY : Y a = some (.inl (.inl (hv_c w 1, n, .inl f)))) (hin : vp_in i n) (hdg : decode cc pc = .ok (.baload, 1)) (kk : hv_V p l e R s m args below meth c w nL Q cells slots Y lv (pc + 1) (.int (f i.toNatClampNeg) :: rest)) : hv_V p l e R s m args below meth c w nL Q cells slots Y lv pc (.int i :: .ref a :: rest) := fun H locs ls hR hS hl =>
  va_zald C.1 C.2.1 C.2.2.2.2.2.2.1.1 (hR.at hY) 0 1 rfl rfl hin hdg (kk H locs ls hR hS hl)
theorem hv_lald (C : hv_C own cc nL Ts w p s m args meth c) {a n : Nat} {f : Nat → Int64} {i : Int32} (hY : Y a = some (.inl (.inl (hv_c w 2, n, .inr (.inl f))))) (hin : vp_in i n) (hdg : decode cc pc = .ok (.laload, 1)) (kk : hv_V p l e R s m args below meth c w nL Q cells slots Y lv (pc + 1) (.long (f i.toNatClampNeg) :: rest)) : hv_V p l e R s m args below meth c w nL Q cells slots Y lv pc (.int i :: .ref a :: rest) := fun H locs ls hR hS hl =>
  va_lald C.1 C.2.1 C.2.2.2.2.2.2.1.1 (hR.at hY) 0 2 rfl rfl hin hdg (kk H locs ls hR hS hl)
theorem hv_aald (C : hv_C own cc nL Ts w p s m args meth c) {a n : Nat} {f : Nat → Option Nat} {i : Int32} (t0 : Nat) {Cn : String} {cA : ClassId} (ht : (hv_T w)[t0]? = some (cA, .object Cn)) (hY : Y a = some (.inl (.inl (cA, n, hv_ref f)))) (hin : vp_in i n) (hdg : decode cc pc = .ok (.aaload, 1)) (kk : hv_V p l e R s m args below meth c w nL Q cells slots Y lv (pc + 1) (va_rf (f i.toNatClampNeg) :: rest)) : hv_V p l e R s m args below meth c w nL Q cells slots Y lv pc (.int i :: .ref a :: rest) := fun H locs ls hR hS hl =>
  va_aldq C.1 C.2.1 C.2.2.2.2.2.2.1.1 (hR.at hY) 0 t0 rfl ht hin hdg (kk H locs ls hR hS hl)
theorem hv_iast (C : hv_C own cc nL Ts w p s m args meth c) {a n : Nat} {f : Nat → Int32} {i x : Int32} (hY : Y a = some (.inl (.inl (hv_c w 0, n, .inl f)))) (hin : vp_in i n) (hdg : decode cc pc = .ok (.iastore, 1)) (kk : hv_V p l e R s m args below meth c w nL Q cells slots (hv_up Y a (.inl (.inl (hv_c w 0, n, .inl (upd f i.toNatClampNeg x))))) lv (pc + 1) rest) : hv_V p l e R s m args below meth c w nL Q cells slots Y lv pc (.int x :: .int i :: .ref a :: rest) := by
  intro H locs ls hR hS hl
  refine W.iast C.1 C.2.1 (hR.at hY 0 _ rfl) ((C.2.2.2.2.2.2.1.1.2 0 _ rfl).1 n (fun j => .int (f j))) (fun q => by cases q) (by show ¬ (i < 0 ∨ (arrV _ _ _).slots.size ≤ _); rw [arrV_size]; exact hin) rfl rfl hdg fun H1 e z oq => ?_
  refine kk H1 _ ls (hR.put hY ?_ z oq) (hS.put z oq (hR.own hY).1) hl
  show H1[a]? = some (vp_cell _ _)
  rw [e]
  rw [vp_cell_i, vp_cell_i, arrV_store]
  congr 2
  funext q
  by_cases hq : q = i.toNatClampNeg
  · subst hq
    simp [updV, upd]
  · simp [updV, upd, hq]
theorem hv_zast (C : hv_C own cc nL Ts w p s m args meth c) {a n : Nat} {f : Nat → Int32} {i x : Int32} (hY : Y a = some (.inl (.inl (hv_c w 1, n, .inl f)))) (hx : vp_nar .boolean x = x) (hin : vp_in i n) (hdg : decode cc pc = .ok (.bastore, 1)) (kk : hv_V p l e R s m args below meth c w nL Q cells slots (hv_up Y a (.inl (.inl (hv_c w 1, n, .inl (upd f i.toNatClampNeg x))))) lv (pc + 1) rest) : hv_V p l e R s m args below meth c w nL Q cells slots Y lv pc (.int x :: .int i :: .ref a :: rest) := by
  intro H locs ls hR hS hl
  refine W.zast C.1 C.2.1 (hR.at hY 0 _ rfl) ((C.2.2.2.2.2.2.1.1.2 1 _ rfl).1 n (fun j => .int (f j))) (fun q => by cases q) (by show ¬ (i < 0 ∨ (arrV _ _ _).slots.size ≤ _); rw [arrV_size]; exact hin) rfl rfl hdg fun H1 e z oq => ?_
  refine kk H1 _ ls (hR.put hY ?_ z oq) (hS.put z oq (hR.own hY).1) hl
  show H1[a]? = some (vp_cell _ _)
  rw [e]
  rw [vp_cell_i, vp_cell_i, arrV_store]
  congr 2
  funext q
  by_cases hq : q = i.toNatClampNeg
  · subst hq
    have e9 : narrow .boolean (.int x) = .int (vp_nar .boolean x) := by
      simp [vp_nar]
      try rfl
    simp [updV, upd, e9, hx]
    try (rw [e9, hx])
  · simp [updV, upd, hq]
theorem hv_last (C : hv_C own cc nL Ts w p s m args meth c) {a n : Nat} {f : Nat → Int64} {i : Int32} {x : Int64} (hY : Y a = some (.inl (.inl (hv_c w 2, n, .inr (.inl f))))) (hin : vp_in i n) (hdg : decode cc pc = .ok (.lastore, 1)) (kk : hv_V p l e R s m args below meth c w nL Q cells slots (hv_up Y a (.inl (.inl (hv_c w 2, n, .inr (.inl (vp_updL f i.toNatClampNeg x)))))) lv (pc + 1) rest) : hv_V p l e R s m args below meth c w nL Q cells slots Y lv pc (.long x :: .int i :: .ref a :: rest) := by
  intro H locs ls hR hS hl
  refine W.last C.1 C.2.1 (hR.at hY 0 _ rfl) ((C.2.2.2.2.2.2.1.1.2 2 _ rfl).1 n (fun j => .long (f j))) (fun q => by cases q) (by show ¬ (i < 0 ∨ (arrV _ _ _).slots.size ≤ _); rw [arrV_size]; exact hin) rfl rfl hdg fun H1 e z oq => ?_
  refine kk H1 _ ls (hR.put hY ?_ z oq) (hS.put z oq (hR.own hY).1) hl
  show H1[a]? = some (vp_cell _ _)
  rw [e]
  rw [vp_cell_l, vp_cell_l, arrV_store]
  congr 2
  funext q
  by_cases hq : q = i.toNatClampNeg
  · subst hq
    simp [updV, vp_updL]
  · simp [updV, vp_updL, hq]
theorem hv_aastN (C : hv_C own cc nL Ts w p s m args meth c) {a n : Nat} {f : Nat → Option Nat} {i : Int32} (t0 : Nat) {Cn : String} {cA : ClassId} (ht : (hv_T w)[t0]? = some (cA, .object Cn)) (hY : Y a = some (.inl (.inl (cA, n, hv_ref f)))) (hin : vp_in i n) (hdg : decode cc pc = .ok (.aastore, 1)) (kk : hv_V p l e R s m args below meth c w nL Q cells slots (hv_up Y a (.inl (.inl (cA, n, hv_ref (va_up f i.toNatClampNeg none))))) lv (pc + 1) rest) : hv_V p l e R s m args below meth c w nL Q cells slots Y lv pc (.null :: .int i :: .ref a :: rest) := by
  intro H locs ls hR hS hl
  refine va_WaastN (C := Cn) C.1 C.2.1 (hR.at hY 0 _ rfl) ((C.2.2.2.2.2.2.1.1.2 t0 _ ht).1 n (fun j => va_rf (f j))) (fun h => by cases h) (by show ¬ (i < 0 ∨ (arrV _ _ _).slots.size ≤ _); rw [arrV_size]; exact hin) rfl rfl hdg fun H1 e z oq => ?_
  refine kk H1 _ ls (hR.put hY ?_ z oq) (hS.put z oq (hR.own hY).1) hl
  show H1[a]? = some (vp_cell _ _)
  rw [e]
  unfold hv_ref
  rw [vp_cell_q, vp_cell_q, arrV_store]
  congr 2
  funext q
  by_cases hq : q = i.toNatClampNeg
  · subst hq
    simp [updV, va_up, va_rf]
  · simp [updV, va_up, hq]
theorem hv_aast (C : hv_C own cc nL Ts w p s m args meth c) {a n v ci N : Nat} {T : u_T} {vs : List Value} {f : Nat → Option Nat} {i : Int32} (t0 : Nat) {Cn Ev : String} {cA : ClassId} (ht : (hv_T w)[t0]? = some (cA, .object Cn)) (hca : (Cond.castable Ev Cn).before args s = true ∨ Ev = Cn) (hv : Y v = some (.inl (.inr (ci, vs)))) (hc : vwCl[ci]? = some (Ev, T, N)) (hY : Y a = some (.inl (.inl (cA, n, hv_ref f)))) (hin : vp_in i n) (hdg : decode cc pc = .ok (.aastore, 1)) (kk : hv_V p l e R s m args below meth c w nL Q cells slots (hv_up Y a (.inl (.inl (cA, n, hv_ref (va_up f i.toNatClampNeg (some v)))))) lv (pc + 1) rest) : hv_V p l e R s m args below meth c w nL Q cells slots Y lv pc (.ref v :: .int i :: .ref a :: rest) := by
  intro H locs ls hR hS hl
  have hK := C.2.2.2.2.2.2.1.1
  have hlt : i.toNatClampNeg < n := Nat.not_le.mp fun q => hin (Or.inr q)
  have h0 : ¬ i < 0 := fun q => hin (Or.inl q)
  obtain ⟨r', hr', cellV, g1, g2, g3, -⟩ := hR.at hv 0 _ rfl
  have hcls := (hK.1 ci _ hc).2
  obtain ⟨kA, comp, k1, k2, k3, -⟩ := (hK.2 t0 _ ht).2
  obtain ⟨kE, hkE, -⟩ := Vm.findClass_spec k3
  obtain ⟨kC, hkC, -⟩ := hcls.2
  have hass : s.vm.assignable ((hv_D w).1 ci) comp = true := by
    rcases hca with hca | hca
    · obtain ⟨c0, t1, f1, f2, f3⟩ := Cond.castable_spec hca
      cases hcls.1.symm.trans f1
      cases k3.symm.trans f2
      exact f3
    · subst hca
      have hcomp : comp = (hv_D w).1 ci := Option.some.inj (k3.symm.trans hcls.1)
      rw [hcomp]
      exact va_assign hcls
  refine W.aast C.1 C.2.1 (hR.at hY 0 _ rfl) (fun q h => by cases h) (fun h => by cases h) k1 k2 rfl hkE ⟨h0, by show _ < (arrV _ _ _).slots.size; rw [arrV_size]; exact hlt⟩ g1 (fun q h => by rw [g3] at h; cases h) (by rw [g2]; exact hkC) (by rw [g2]; exact hass) rfl rfl hdg fun H1 e z oq => ?_
  refine kk H1 _ ls (hR.put hY ?_ z oq) (hS.put z oq (hR.own hY).1) hl
  show H1[a]? = some (vp_cell _ _)
  rw [e]
  unfold hv_ref
  rw [vp_cell_q, vp_cell_q, arrV_store]
  congr 2
  funext q
  by_cases hq : q = i.toNatClampNeg
  · subst hq
    simp [updV, va_up, va_rf]
  · simp [updV, va_up, hq]
theorem hv_alen (C : hv_C own cc nL Ts w p s m args meth c) {a : Nat} {cA : ClassId} {x : vp_A} (t0 : Nat) {ty : FieldType} (ht : (hv_T w)[t0]? = some (cA, ty)) (hY : Y a = some (.inl (.inl (cA, x)))) {v : Int32} (hv : Int32.ofNat x.1 = v) (hdg : decode cc pc = .ok (.arraylength, 1)) (kk : hv_V p l e R s m args below meth c w nL Q cells slots Y lv (pc + 1) (.int v :: rest)) : hv_V p l e R s m args below meth c w nL Q cells slots Y lv pc (.ref a :: rest) := fun H locs ls hR hS hl =>
  va_alen C.1 C.2.1 C.2.2.2.2.2.2.1.1 (hR.at hY) 0 t0 rfl ht hv hdg (kk H locs ls hR hS hl)
theorem hv_tlen (C : hv_C own cc nL Ts w p s m args meth c) (hdg : decode cc pc = .ok (.arraylength, 1)) (kk : hv_V p l e R s m args below meth c w nL Q cells slots Y lv (pc + 1) (.int (nI 0) :: rest)) : hv_V p l e R s m args below meth c w nL Q cells slots Y lv pc (.ref (hv_t w) :: rest) := fun H locs ls hR hS hl =>
  va_tlen C.1 C.2.1 C.2.2.2.2.2.2.1.2.2.1 hS rfl hdg (kk H locs ls hR hS hl)
/-! what is made -/
theorem hv_new (C : hv_C own cc nL Ts w p s m args meth c) {Cn : String} {T : u_T} {N ci index : Nat} {fs : List Value} (hin : ∀ x ∈ u_ws Cn T N, x ∈ Ts) (ty : Nat → FieldType) (hty : ∀ k, k < N → parseFieldDescriptor (T k).2.2.1 = some (ty k)) (hcl : Cond.classLink own index Cn ∈ Ts) (hinst : Cond.instantiable Cn N ∈ Ts) (hini : Cond.initialized Cn ∈ Ts) (hc : vwCl[ci]? = some (Cn, T, N)) (hfs : ∀ j, j < N → defaultValue (ty j) = vp_V fs j) (hcells : cells + 1 ≤ R.cells) (hslots : slots + N ≤ R.slots) (hdg : decode cc pc = .ok (.new index, 3))
    (kk : ∀ q : Nat, Y q = none → hv_V p l e R s m args below meth c w nL Q (cells + 1) (slots + N) (hv_up Y q (.inl (.inr (ci, fs)))) lv (pc + 3) (.ref q :: rest)) : hv_V p l e R s m args below meth c w nL Q cells slots Y lv pc rest := by
  intro H locs ls hR hS hl
  have hts := C.2.2.2.2.1
  have hKn := C.2.2.2.2.2.2.1.1.1 ci _ hc
  refine W.newcK C.1 C.2.1 C.2.2.2.1 (hts _ hcl) (hts _ hinst) (hts _ hini) rfl hdg hcells hslots hKn.2.1 rfl fun H1 kC hkC e1 z1 o1 => ?_
  exact kk H.size hR.fresh H1 locs ls (hR.new ⟨_, hc, (u_born ty hts hin hKn hkC e1 hty).to hfs⟩ z1 o1) ⟨Nat.le_trans hS.1 (by omega), fun x h1 h2 => (o1 x (Nat.lt_of_lt_of_le h1 hS.1)).trans (hS.2.1 x h1 h2), hS.2.2⟩ hl
theorem hv_newi (C : hv_C own cc nL Ts w p s m args meth c) {n : Int32} {N : Nat} (harr : Cond.arrayClass .int ∈ Ts) (hn : ¬ n < 0) (hN : n.toNatClampNeg = N) (hbytes : N * componentBytes .int ≤ 536870912) (hcells : cells + 1 ≤ R.cells) (hslots : slots + N ≤ R.slots) (hdg : decode cc pc = .ok (.newarray .int, 2))
    (kk : ∀ q : Nat, Y q = none → hv_V p l e R s m args below meth c w nL Q (cells + 1) (slots + N) (hv_up Y q (.inl (.inl (hv_c w 0, N, .inl (fun _ => 0))))) lv (pc + 2) (.ref q :: rest)) : hv_V p l e R s m args below meth c w nL Q cells slots Y lv pc (.int n :: rest) := by
  intro H locs ls hR hS hl
  refine va_newaK (atype := .int) C.1 C.2.1 (C.2.2.2.2.1 _ harr) rfl hdg rfl hn hN hbytes hcells hslots rfl fun H1 cA e1 z1 o1 hAr hNm => ?_
  have hc0 : cA = hv_c w 0 := Option.some.inj (hNm.symm.trans (C.2.2.2.2.2.2.1.1.2 0 _ rfl).2)
  subst hc0
  exact kk H.size hR.fresh H1 locs ls (hR.new e1 z1 o1) ⟨Nat.le_trans hS.1 (by omega), fun x h1 h2 => (o1 x (Nat.lt_of_lt_of_le h1 hS.1)).trans (hS.2.1 x h1 h2), hS.2.2⟩ hl
theorem hv_newz (C : hv_C own cc nL Ts w p s m args meth c) {n : Int32} {N : Nat} (harr : Cond.arrayClass .boolean ∈ Ts) (hn : ¬ n < 0) (hN : n.toNatClampNeg = N) (hbytes : N * componentBytes .boolean ≤ 536870912) (hcells : cells + 1 ≤ R.cells) (hslots : slots + N ≤ R.slots) (hdg : decode cc pc = .ok (.newarray .boolean, 2))
    (kk : ∀ q : Nat, Y q = none → hv_V p l e R s m args below meth c w nL Q (cells + 1) (slots + N) (hv_up Y q (.inl (.inl (hv_c w 1, N, .inl (fun _ => 0))))) lv (pc + 2) (.ref q :: rest)) : hv_V p l e R s m args below meth c w nL Q cells slots Y lv pc (.int n :: rest) := by
  intro H locs ls hR hS hl
  refine va_newaK (atype := .boolean) C.1 C.2.1 (C.2.2.2.2.1 _ harr) rfl hdg rfl hn hN hbytes hcells hslots rfl fun H1 cA e1 z1 o1 hAr hNm => ?_
  have hc0 : cA = hv_c w 1 := Option.some.inj (hNm.symm.trans (C.2.2.2.2.2.2.1.1.2 1 _ rfl).2)
  subst hc0
  exact kk H.size hR.fresh H1 locs ls (hR.new e1 z1 o1) ⟨Nat.le_trans hS.1 (by omega), fun x h1 h2 => (o1 x (Nat.lt_of_lt_of_le h1 hS.1)).trans (hS.2.1 x h1 h2), hS.2.2⟩ hl
theorem hv_newl (C : hv_C own cc nL Ts w p s m args meth c) {n : Int32} {N : Nat} (harr : Cond.arrayClass .long ∈ Ts) (hn : ¬ n < 0) (hN : n.toNatClampNeg = N) (hbytes : N * componentBytes .long ≤ 536870912) (hcells : cells + 1 ≤ R.cells) (hslots : slots + N ≤ R.slots) (hdg : decode cc pc = .ok (.newarray .long, 2))
    (kk : ∀ q : Nat, Y q = none → hv_V p l e R s m args below meth c w nL Q (cells + 1) (slots + N) (hv_up Y q (.inl (.inl (hv_c w 2, N, .inr (.inl (fun _ => 0)))))) lv (pc + 2) (.ref q :: rest)) : hv_V p l e R s m args below meth c w nL Q cells slots Y lv pc (.int n :: rest) := by
  intro H locs ls hR hS hl
  refine va_newaK (atype := .long) C.1 C.2.1 (C.2.2.2.2.1 _ harr) rfl hdg rfl hn hN hbytes hcells hslots rfl fun H1 cA e1 z1 o1 hAr hNm => ?_
  have hc0 : cA = hv_c w 2 := Option.some.inj (hNm.symm.trans (C.2.2.2.2.2.2.1.1.2 2 _ rfl).2)
  subst hc0
  exact kk H.size hR.fresh H1 locs ls (hR.new e1 z1 o1) ⟨Nat.le_trans hS.1 (by omega), fun x h1 h2 => (o1 x (Nat.lt_of_lt_of_le h1 hS.1)).trans (hS.2.1 x h1 h2), hS.2.2⟩ hl
theorem hv_newq (C : hv_C own cc nL Ts w p s m args meth c) {index : Nat} {n : Int32} {N : Nat} (t0 : Nat) {Cn : String} {cA : ClassId} (ht : (hv_T w)[t0]? = some (cA, .object Cn)) (hover : va_AO Cn s) (hcl : Cond.classLink own index Cn ∈ Ts) (hn : ¬ n < 0) (hN : n.toNatClampNeg = N) (hbytes : N * 4 ≤ 536870912) (hcells : cells + 1 ≤ R.cells) (hslots : slots + N ≤ R.slots) (hdg : decode cc pc = .ok (.anewarray index, 3))
    (kk : ∀ q : Nat, Y q = none → hv_V p l e R s m args below meth c w nL Q (cells + 1) (slots + N) (hv_up Y q (.inl (.inl (cA, N, hv_ref (fun _ => none))))) lv (pc + 3) (.ref q :: rest)) : hv_V p l e R s m args below meth c w nL Q cells slots Y lv pc (.int n :: rest) := by
  intro H locs ls hR hS hl
  subst hN
  obtain ⟨kA9, comp9, -, -, -, hnm9⟩ := (C.2.2.2.2.2.2.1.1.2 t0 _ ht).2
  refine W.anew C.1 C.2.1 C.2.2.2.1 (C.2.2.2.2.1 _ hcl) (va_AO.use hover) rfl hdg rfl hn hbytes hcells hslots fun cB kA comp f1 f2 f3 f4 => ?_
  have hcc : cB = cA := Option.some.inj (f1.symm.trans hnm9)
  subst hcc
  generalize hH1 : H.push ({ cls := cB, slots := Array.replicate n.toNatClampNeg .null, vm := .none } : Cell) = H1
  have z1 : H1.size = H.size + 1 := by rw [← hH1, Array.size_push]
  have e1 : H1[H.size]? = some (arrV cB n.toNatClampNeg (fun _ => .null)) := by rw [← hH1, Array.getElem?_push_size, ← arrV_new]
  have o1 : ∀ q : Nat, q < H.size → H1[q]? = H[q]? := fun q hq => by rw [← hH1, Array.getElem?_push, if_neg (Nat.ne_of_lt hq)]
  exact kk H.size hR.fresh H1 locs ls (hR.new e1 z1 o1) ⟨Nat.le_trans hS.1 (by omega), fun x h1 h2 => (o1 x (Nat.lt_of_lt_of_le h1 hS.1)).trans (hS.2.1 x h1 h2), hS.2.2⟩ hl
theorem hv_widen {k n : Nat} {st : List Value} (h1 : cells ≤ k) (h2 : slots ≤ n) (kk : hv_V p l e R s m args below meth c w nL Q k n Y lv pc st) : hv_V p l e R s m args below meth c w nL Q cells slots Y lv pc st := fun H locs ls hR hS hl => W.widen h1 h2 (kk H locs ls hR hS hl)
theorem hv_eqY {Y1 : hv_H} {st : List Value} (h : Y = Y1) (kk : hv_V p l e R s m args below meth c w nL Q cells slots Y1 lv pc st) : hv_V p l e R s m args below meth c w nL Q cells slots Y lv pc st := by
  subst h
  exact kk
/-! checkcast to the object's own kind; max and min -/
theorem hv_cast (C : hv_C own cc nL Ts w p s m args meth c) {Cn : String} {T : u_T} {N ci index a : Nat} {fs : List Value} (hc : vwCl[ci]? = some (Cn, T, N)) (hY : Y a = some (.inl (.inr (ci, fs)))) (hcl : Cond.classLink own index Cn ∈ Ts) (hdg : decode cc pc = .ok (.checkcast index, 3)) (kk : hv_V p l e R s m args below meth c w nL Q cells slots Y lv (pc + 3) (.ref a :: rest)) : hv_V p l e R s m args below meth c w nL Q cells slots Y lv pc (.ref a :: rest) := fun H locs ls hR hS hl =>
  va_castS C.1 C.2.1 C.2.2.2.1 (C.2.2.2.2.1 _ hcl) (C.2.2.2.2.2.2.1.1.1 ci _ hc).2 (va_recv C.2.2.2.2.2.2.1.1 (hR.at hY) hc (q0 := 0) rfl) hdg (kk H locs ls hR hS hl)
theorem hv_max (C : hv_C own cc nL Ts w p s m args meth c) {index : Nat} {x y : Int32} (h1 : Cond.methodLink own index Lib.Math.max.name ∈ Ts) (h2 : Cond.static Lib.Math.max.name ∈ Ts) (h3 : Cond.initialized "java/lang/Math" ∈ Ts) (h4 : Cond.code Lib.Math.max.name Lib.Math.max.code 2 (some .int) ∈ Ts) (hfr : 1 ≤ R.frames) (hlo : (rest.map fun v => v.category).sum + 13 ≤ R.locals) (hce : cells ≤ R.cells) (hsl : slots ≤ R.slots) (hdg : decode cc pc = .ok (.invokestatic index, 3)) (kk : hv_V p l e R s m args below meth c w nL Q cells slots Y lv (pc + 3) (.int (if x < y then y else x) :: rest)) : hv_V p l e R s m args below meth c w nL Q cells slots Y lv pc (.int y :: .int x :: rest) := fun H locs ls hR hS hl =>
  va_mmax C.1 C.2.1 (C.2.2.1.trans hl.1.symm) C.2.2.2.1 (C.2.2.2.2.1 _ h1) (C.2.2.2.2.1 _ h2) (C.2.2.2.2.1 _ h3) (C.2.2.2.2.1 _ h4) hfr hlo hce hsl hdg (kk H locs ls hR hS hl)
theorem hv_min (C : hv_C own cc nL Ts w p s m args meth c) {index : Nat} {x y : Int32} (h1 : Cond.methodLink own index Lib.Math.min.name ∈ Ts) (h2 : Cond.static Lib.Math.min.name ∈ Ts) (h3 : Cond.initialized "java/lang/Math" ∈ Ts) (h4 : Cond.code Lib.Math.min.name Lib.Math.min.code 2 (some .int) ∈ Ts) (hfr : 1 ≤ R.frames) (hlo : (rest.map fun v => v.category).sum + 13 ≤ R.locals) (hce : cells ≤ R.cells) (hsl : slots ≤ R.slots) (hdg : decode cc pc = .ok (.invokestatic index, 3)) (kk : hv_V p l e R s m args below meth c w nL Q cells slots Y lv (pc + 3) (.int (if y < x then y else x) :: rest)) : hv_V p l e R s m args below meth c w nL Q cells slots Y lv pc (.int y :: .int x :: rest) := fun H locs ls hR hS hl =>
  va_mmin C.1 C.2.1 (C.2.2.1.trans hl.1.symm) C.2.2.2.1 (C.2.2.2.2.1 _ h1) (C.2.2.2.2.1 _ h2) (C.2.2.2.2.1 _ h3) (C.2.2.2.2.1 _ h4) hfr hlo hce hsl hdg (kk H locs ls hR hS hl)
theorem hv_objInit (C : hv_C own cc nL Ts w p s m args meth c) {index a : Nat} (h1 : Cond.methodLink own index objectInit ∈ Ts) (h2 : Cond.instanceMethod objectInit ∈ Ts) (h3 : Cond.code objectInit ⟨#[0xb1]⟩ 1 none ∈ Ts) (hfr : 1 ≤ R.frames) (hlo : (rest.map fun v => v.category).sum + 12 ≤ R.locals) (hdg : decode cc pc = .ok (.invokespecial index, 3)) (kk : hv_V p l e R s m args below meth c w nL Q cells slots Y lv (pc + 3) rest) : hv_V p l e R s m args below meth c w nL Q cells slots Y lv pc (.ref a :: rest) := fun H locs ls hR hS hl =>
  W.objInit C.1 C.2.1 C.2.2.2.1 (C.2.2.2.2.1 _ h1) (C.2.2.2.2.1 _ h2) (C.2.2.2.2.1 _ h3) rfl (by rw [C.2.2.1]; exact hl.1) rfl hdg hfr (by show 2 * 0 + _ + 12 ≤ _; omega) (W.eq (g2 := F0 m (pc + 3) ls rest) rfl (kk H locs ls hR hS hl))
/-! calls -/
theorem hv_pre (C : hv_C own cc nL Ts w p s m args meth c) {As : List Value} {H : Heap} {locs : List Loc} (hR : hv_R w Y H) (hS : va_S (hv_A w) s.heap H locs) : ∀ U : State, U.heap = H → s.WarmedH U.vm → hv_Pc w As Y As.toArray U := fun U hU hW =>
  ⟨rfl, C.2.2.2.2.2.2.1.go hW (fun a h1 h2 => by rw [hU]; exact hS.2.1 a h1 h2), by rw [hU]; exact hR⟩
/-- which kind of object a receiver is -/
def hv_rc (Y : hv_H) (a : Nat) (Cn : String) : Prop := (∃ (ci : Nat) (T : u_T) (N : Nat) (fs : List Value), Y a = some (.inl (.inr (ci, fs))) ∧ vwCl[ci]? = some (Cn, T, N)) ∨ ((∃ L : List Nat, Y a = some (.inr L)) ∧ Cn = RJx4a65c)
theorem hv_rcO {a ci N : Nat} {T : u_T} {Cn : String} {fs : List Value} (h : Y a = some (.inl (.inr (ci, fs)))) (hc : vwCl[ci]? = some (Cn, T, N)) : hv_rc Y a Cn := Or.inl ⟨ci, T, N, fs, h, hc⟩
theorem hv_rcL {a : Nat} {L : List Nat} (h : Y a = some (.inr L)) : hv_rc Y a RJx4a65c := Or.inr ⟨⟨L, h⟩, rfl⟩
theorem hv_recv (C : hv_C own cc nL Ts w p s m args meth c) {a : Nat} {Cn : String} {H : Heap} (h : hv_rc Y a Cn) (hR : hv_R w Y H) : ∃ cell : Cell, H[a]? = some cell ∧ cell.vm.isStatics = false ∧ s.vm.findClass Cn = some cell.cls := by
  have hK := C.2.2.2.2.2.2.1.1
  rcases h with ⟨ci, T, N, fs, h1, h2⟩ | ⟨⟨L, h1⟩, h2⟩
  · exact va_recv (q := (Cn, T, N)) hK (hR.at h1) h2 (q0 := 0) rfl
  · subst h2
    obtain ⟨-, X, ow, g1, g2, g3⟩ := hR
    obtain ⟨ed, mc, k1, -⟩ := g3 a L h1
    have hP : va_P (hv_D w) vwCl [(a, .inr (0, [.int mc, .ref ed, .int (nI L.length)]))] H := by
      intro k q hk
      have hz : k < 1 := (List.getElem?_eq_some_iff.mp hk).1
      rw [show k = 0 by omega] at hk
      cases hk
      exact (g1 _ _ k1).2
    exact va_recv (q := (RJx4a65c, TJx4a65c, 3)) hK hP (ci := 0) rfl (q0 := 0) rfl

theorem hv_callVr (C : hv_C own cc nL Ts w p s m args meth c) {y : MethodName} {bytes : ByteArray} {maxL n index : Nat} {ws ws1 : List Cond} {rm : Room} {As : List Value} {st : List Value} {ret : Option FieldType} {b : Nat} {Cn : String} {post : Value → hv_H → Prop}  (hM : hv_Mr l y ws rm w (.ref b :: As) Y post) (hG : GoodIn Ts (wsV own index Cn y ws)) (hw : ws = Cond.code y bytes maxL ret :: ws1) (hd : y.cls = Cn ∧ y.cls ≠ "java/lang/invoke/MethodHandle" ∧ y.cls ≠ "java/lang/invoke/VarHandle" ∧ (parseMethodDescriptor y.desc).map (fun d => d.parameters.length) = some n) (hRm : rm.frames + 1 ≤ R.frames ∧ 8 + (maxL + 11) + rm.locals ≤ R.locals) (hb : hv_rc Y b Cn) (hn : As.length = n) (hst : st = As.reverse ++ .ref b :: rest) (hcat : (rest.map fun v => v.category).sum ≤ 8) (hdg : decode cc pc = .ok (.invokevirtual index, 3)) (hf : cells + rm.cells ≤ R.cells ∧ slots + rm.slots ≤ R.slots) (kk : ∀ (r : Value) (Y1 : hv_H), post r Y1 → hv_V p l e R s m args below meth c w nL Q (cells + rm.cells) (slots + rm.slots) Y1 lv (pc + 3) (r :: rest)) : hv_V p l e R s m args below meth c w nL Q cells slots Y lv pc st := by
  subst hst
  intro H locs ls hR hS hl T hT X
  obtain ⟨v, st₀, t, T1, L, g0, X1, hL, e1, e2, ⟨⟨r, Y1, hv, hp, hb9⟩, hz, hk⟩, stp⟩ := va_runV (As := As) (rest := rest) (index := index) (g := F0 m pc ls _) ⟨C.1, C.2.1, C.2.2.1, C.2.2.2.1, C.2.2.2.2.1⟩ hM (cwV n C.2.2.2.2.1 hG hw rfl rfl hd hRm) ⟨hv_blind, hv_recv C hb hR, hv_pre C hR hS⟩ rfl hn hl.1 rfl (lv_room hcat) hdg hf T hT X
  cases hv
  rw [g0] at hz hk
  obtain ⟨t2, a1, b1⟩ := kk r Y1 hp T1.heap (locs ++ L) ls (by rw [e1]; exact hb9) ⟨Nat.le_trans hS.1 (by rw [e1]; exact hz), fun q h1 h2 => by rw [e1, hk q (Nat.lt_of_lt_of_le h1 hS.1) h2]; exact hS.2.1 q h1 h2, fun q hq => by
      rcases List.mem_append.mp hq with h | h
      · exact hS.2.2 q h
      · exact hL q h⟩ hl T1 rfl X1
  exact ⟨t2, stp t2 a1, b1⟩
theorem hv_callVrx (C : hv_C own cc nL Ts w p s m args meth c) {y : MethodName} {bytes : ByteArray} {maxL n index : Nat} {ws ws1 : List Cond} {rm : Room} {As : List Value} {st : List Value} {ret : Option FieldType} {b : Nat} {Cn : String} {post : Value → hv_H → Prop} {px : String → hv_H → Prop} {px1 : String → hv_H → Prop} {mc ms : Nat} {Qc : Array Value → State → Outcome → State → Prop} (hM : hv_Nr l y ws rm w (.ref b :: As) Y post px) (hG : GoodIn Ts (wsV own index Cn y ws)) (hw : ws = Cond.code y bytes maxL ret :: ws1) (hd : y.cls = Cn ∧ y.cls ≠ "java/lang/invoke/MethodHandle" ∧ y.cls ≠ "java/lang/invoke/VarHandle" ∧ (parseMethodDescriptor y.desc).map (fun d => d.parameters.length) = some n) (hRm : rm.frames + 1 ≤ R.frames ∧ 8 + (maxL + 11) + rm.locals ≤ R.locals) (hb : hv_rc Y b Cn) (hn : As.length = n) (hst : st = As.reverse ++ .ref b :: rest) (hcat : (rest.map fun v => v.category).sum ≤ 8) (hdg : decode cc pc = .ok (.invokevirtual index, 3)) (hf : cells + rm.cells ≤ R.cells ∧ slots + rm.slots ≤ R.slots) (hx9 : ∀ (E : String) (Y1 : hv_H), px E Y1 → px1 E Y1) (hout : ∀ x ∈ c.exceptionTable.toList, False) (hc9 : cells + rm.cells ≤ mc) (hs9 : slots + rm.slots ≤ ms) (kk : ∀ (r : Value) (Y1 : hv_H), post r Y1 → hv_V p l e R s m args below meth c w nL (vx_MQ below Qc (hv_Xc w px1) args s mc ms (hv_A w)) (cells + rm.cells) (slots + rm.slots) Y1 lv (pc + 3) (r :: rest)) : hv_V p l e R s m args below meth c w nL (vx_MQ below Qc (hv_Xc w px1) args s mc ms (hv_A w)) cells slots Y lv pc st := by
  subst hst
  intro H locs ls hR hS hl T hT X
  have hz9 : ∀ (st₀ t T1 : State) (L : List Loc), st₀.heap = H → T1.heap = t.heap → (∀ q ∈ L, hv_A w q.base) → va_F (hv_A w) st₀ t → va_S (hv_A w) s.heap T1.heap (locs ++ L) := by
    intro st₀ t T1 L g0 e1 hL hF
    obtain ⟨hz, hk⟩ := hF
    rw [g0] at hz hk
    exact ⟨Nat.le_trans hS.1 (by rw [e1]; exact hz), fun q h1 h2 => by rw [e1, hk q (Nat.lt_of_lt_of_le h1 hS.1) h2]; exact hS.2.1 q h1 h2, fun q hq => by
      rcases List.mem_append.mp hq with h | h
      · exact hS.2.2 q h
      · exact hL q h⟩
  rcases vx_runV (As := As) (rest := rest) (index := index) (g := F0 m pc ls _) ⟨C.1, C.2.1, C.2.2.1, C.2.2.2.1, C.2.2.2.2.1⟩ hM (cwV n C.2.2.2.2.1 hG hw rfl rfl hd hRm) ⟨hv_blind, hv_recv C hb hR, hv_pre C hR hS⟩ rfl hn hl.1 rfl (lv_room hcat) hdg hf T hT X with ⟨v, st₀, t, T1, L, g0, X1, hL, e1, e2, ⟨⟨r, Y1, hv, hp, hb9⟩, hF⟩, stp⟩ | ⟨q, st₀, t, T1, L, E, ce, g0, X1, hL, e1, e2, ⟨⟨Y1, hp, hb9⟩, hF⟩, hce, hcv, hcl, stp⟩
  · cases hv
    obtain ⟨t2, a1, b1⟩ := kk r Y1 hp T1.heap (locs ++ L) ls (by rw [e1]; exact hb9) (hz9 st₀ t T1 L g0 e1 hL hF) hl T1 rfl X1
    exact ⟨t2, stp t2 a1, b1⟩
  · have hS1 := hz9 st₀ t T1 L g0 e1 hL hF
    obtain ⟨t2, a1, b1⟩ := vx_out (XC := hv_Xc w px1) (Qc := Qc) (free := hv_A w) (pc := pc) (ls := ls) (rest := rest) (fun x hx => absurd (hout x hx) id) C.2.2.2.2.2.1 (H := T1.heap) (by rw [e1]; exact hce) hcv hcl (fun t9 h9 _ => ⟨⟨Y1, hx9 E Y1 hp, by rw [h9, e1]; exact hb9⟩, hS1.F h9⟩) hS1.2.2 hc9 hs9 T1 rfl X1
    exact ⟨t2, stp.trans a1, b1⟩
theorem hv_callVv (C : hv_C own cc nL Ts w p s m args meth c) {y : MethodName} {bytes : ByteArray} {maxL n index : Nat} {ws ws1 : List Cond} {rm : Room} {As : List Value} {st : List Value} {ret : Option FieldType} {b : Nat} {Cn : String} {post : hv_H → Prop}  (hM : hv_Mv l y ws rm w (.ref b :: As) Y post) (hG : GoodIn Ts (wsV own index Cn y ws)) (hw : ws = Cond.code y bytes maxL ret :: ws1) (hd : y.cls = Cn ∧ y.cls ≠ "java/lang/invoke/MethodHandle" ∧ y.cls ≠ "java/lang/invoke/VarHandle" ∧ (parseMethodDescriptor y.desc).map (fun d => d.parameters.length) = some n) (hRm : rm.frames + 1 ≤ R.frames ∧ 8 + (maxL + 11) + rm.locals ≤ R.locals) (hb : hv_rc Y b Cn) (hn : As.length = n) (hst : st = As.reverse ++ .ref b :: rest) (hcat : (rest.map fun v => v.category).sum ≤ 8) (hdg : decode cc pc = .ok (.invokevirtual index, 3)) (hf : cells + rm.cells ≤ R.cells ∧ slots + rm.slots ≤ R.slots) (kk : ∀ (Y1 : hv_H), post Y1 → hv_V p l e R s m args below meth c w nL Q (cells + rm.cells) (slots + rm.slots) Y1 lv (pc + 3) rest) : hv_V p l e R s m args below meth c w nL Q cells slots Y lv pc st := by
  subst hst
  intro H locs ls hR hS hl T hT X
  obtain ⟨v, st₀, t, T1, L, g0, X1, hL, e1, e2, ⟨⟨Y1, hv, hp, hb9⟩, hz, hk⟩, stp⟩ := va_runV (As := As) (rest := rest) (index := index) (g := F0 m pc ls _) ⟨C.1, C.2.1, C.2.2.1, C.2.2.2.1, C.2.2.2.2.1⟩ hM (cwV n C.2.2.2.2.1 hG hw rfl rfl hd hRm) ⟨hv_blind, hv_recv C hb hR, hv_pre C hR hS⟩ rfl hn hl.1 rfl (lv_room hcat) hdg hf T hT X
  cases hv
  rw [g0] at hz hk
  obtain ⟨t2, a1, b1⟩ := kk Y1 hp T1.heap (locs ++ L) ls (by rw [e1]; exact hb9) ⟨Nat.le_trans hS.1 (by rw [e1]; exact hz), fun q h1 h2 => by rw [e1, hk q (Nat.lt_of_lt_of_le h1 hS.1) h2]; exact hS.2.1 q h1 h2, fun q hq => by
      rcases List.mem_append.mp hq with h | h
      · exact hS.2.2 q h
      · exact hL q h⟩ hl T1 rfl X1
  exact ⟨t2, stp t2 a1, b1⟩
theorem hv_callVvx (C : hv_C own cc nL Ts w p s m args meth c) {y : MethodName} {bytes : ByteArray} {maxL n index : Nat} {ws ws1 : List Cond} {rm : Room} {As : List Value} {st : List Value} {ret : Option FieldType} {b : Nat} {Cn : String} {post : hv_H → Prop} {px : String → hv_H → Prop} {px1 : String → hv_H → Prop} {mc ms : Nat} {Qc : Array Value → State → Outcome → State → Prop} (hM : hv_Nv l y ws rm w (.ref b :: As) Y post px) (hG : GoodIn Ts (wsV own index Cn y ws)) (hw : ws = Cond.code y bytes maxL ret :: ws1) (hd : y.cls = Cn ∧ y.cls ≠ "java/lang/invoke/MethodHandle" ∧ y.cls ≠ "java/lang/invoke/VarHandle" ∧ (parseMethodDescriptor y.desc).map (fun d => d.parameters.length) = some n) (hRm : rm.frames + 1 ≤ R.frames ∧ 8 + (maxL + 11) + rm.locals ≤ R.locals) (hb : hv_rc Y b Cn) (hn : As.length = n) (hst : st = As.reverse ++ .ref b :: rest) (hcat : (rest.map fun v => v.category).sum ≤ 8) (hdg : decode cc pc = .ok (.invokevirtual index, 3)) (hf : cells + rm.cells ≤ R.cells ∧ slots + rm.slots ≤ R.slots) (hx9 : ∀ (E : String) (Y1 : hv_H), px E Y1 → px1 E Y1) (hout : ∀ x ∈ c.exceptionTable.toList, False) (hc9 : cells + rm.cells ≤ mc) (hs9 : slots + rm.slots ≤ ms) (kk : ∀ (Y1 : hv_H), post Y1 → hv_V p l e R s m args below meth c w nL (vx_MQ below Qc (hv_Xc w px1) args s mc ms (hv_A w)) (cells + rm.cells) (slots + rm.slots) Y1 lv (pc + 3) rest) : hv_V p l e R s m args below meth c w nL (vx_MQ below Qc (hv_Xc w px1) args s mc ms (hv_A w)) cells slots Y lv pc st := by
  subst hst
  intro H locs ls hR hS hl T hT X
  have hz9 : ∀ (st₀ t T1 : State) (L : List Loc), st₀.heap = H → T1.heap = t.heap → (∀ q ∈ L, hv_A w q.base) → va_F (hv_A w) st₀ t → va_S (hv_A w) s.heap T1.heap (locs ++ L) := by
    intro st₀ t T1 L g0 e1 hL hF
    obtain ⟨hz, hk⟩ := hF
    rw [g0] at hz hk
    exact ⟨Nat.le_trans hS.1 (by rw [e1]; exact hz), fun q h1 h2 => by rw [e1, hk q (Nat.lt_of_lt_of_le h1 hS.1) h2]; exact hS.2.1 q h1 h2, fun q hq => by
      rcases List.mem_append.mp hq with h | h
      · exact hS.2.2 q h
      · exact hL q h⟩
  rcases vx_runV (As := As) (rest := rest) (index := index) (g := F0 m pc ls _) ⟨C.1, C.2.1, C.2.2.1, C.2.2.2.1, C.2.2.2.2.1⟩ hM (cwV n C.2.2.2.2.1 hG hw rfl rfl hd hRm) ⟨hv_blind, hv_recv C hb hR, hv_pre C hR hS⟩ rfl hn hl.1 rfl (lv_room hcat) hdg hf T hT X with ⟨v, st₀, t, T1, L, g0, X1, hL, e1, e2, ⟨⟨Y1, hv, hp, hb9⟩, hF⟩, stp⟩ | ⟨q, st₀, t, T1, L, E, ce, g0, X1, hL, e1, e2, ⟨⟨Y1, hp, hb9⟩, hF⟩, hce, hcv, hcl, stp⟩
  · cases hv
    obtain ⟨t2, a1, b1⟩ := kk Y1 hp T1.heap (locs ++ L) ls (by rw [e1]; exact hb9) (hz9 st₀ t T1 L g0 e1 hL hF) hl T1 rfl X1
    exact ⟨t2, stp t2 a1, b1⟩
  · have hS1 := hz9 st₀ t T1 L g0 e1 hL hF
    obtain ⟨t2, a1, b1⟩ := vx_out (XC := hv_Xc w px1) (Qc := Qc) (free := hv_A w) (pc := pc) (ls := ls) (rest := rest) (fun x hx => absurd (hout x hx) id) C.2.2.2.2.2.1 (H := T1.heap) (by rw [e1]; exact hce) hcv hcl (fun t9 h9 _ => ⟨⟨Y1, hx9 E Y1 hp, by rw [h9, e1]; exact hb9⟩, hS1.F h9⟩) hS1.2.2 hc9 hs9 T1 rfl X1
    exact ⟨t2, stp.trans a1, b1⟩
theorem hv_callSr (C : hv_C own cc nL Ts w p s m args meth c) {y : MethodName} {bytes : ByteArray} {maxL n index : Nat} {ws ws1 : List Cond} {rm : Room} {As : List Value} {st : List Value} {ret : Option FieldType}  {post : Value → hv_H → Prop}  (hM : hv_Mr l y ws rm w As Y post) (hG : GoodIn Ts (va_wsS own index y ws)) (hw : ws = Cond.code y bytes maxL ret :: ws1) (hd : y.cls ≠ "java/lang/invoke/MethodHandle" ∧ y.cls ≠ "java/lang/invoke/VarHandle" ∧ (parseMethodDescriptor y.desc).map (fun d => d.parameters.length) = some n) (hRm : rm.frames + 1 ≤ R.frames ∧ 8 + (maxL + 11) + rm.locals ≤ R.locals)  (hn : As.length = n) (hst : st = As.reverse ++ rest) (hcat : (rest.map fun v => v.category).sum ≤ 8) (hdg : decode cc pc = .ok (.invokestatic index, 3)) (hf : cells + rm.cells ≤ R.cells ∧ slots + rm.slots ≤ R.slots) (kk : ∀ (r : Value) (Y1 : hv_H), post r Y1 → hv_V p l e R s m args below meth c w nL Q (cells + rm.cells) (slots + rm.slots) Y1 lv (pc + 3) (r :: rest)) : hv_V p l e R s m args below meth c w nL Q cells slots Y lv pc st := by
  subst hst
  intro H locs ls hR hS hl T hT X
  obtain ⟨v, st₀, t, T1, L, g0, X1, hL, e1, e2, ⟨⟨r, Y1, hv, hp, hb9⟩, hz, hk⟩, stp⟩ := va_runS (As := As) (rest := rest) (index := index) (g := F0 m pc ls _) ⟨C.1, C.2.1, C.2.2.1, C.2.2.2.1, C.2.2.2.2.1⟩ hM (va_cwS n C.2.2.2.2.1 hG hw rfl rfl hd hRm) ⟨hv_blind, hv_pre C hR hS⟩ rfl hn hl.1 rfl (lv_room hcat) hdg hf T hT X
  cases hv
  rw [g0] at hz hk
  obtain ⟨t2, a1, b1⟩ := kk r Y1 hp T1.heap (locs ++ L) ls (by rw [e1]; exact hb9) ⟨Nat.le_trans hS.1 (by rw [e1]; exact hz), fun q h1 h2 => by rw [e1, hk q (Nat.lt_of_lt_of_le h1 hS.1) h2]; exact hS.2.1 q h1 h2, fun q hq => by
      rcases List.mem_append.mp hq with h | h
      · exact hS.2.2 q h
      · exact hL q h⟩ hl T1 rfl X1
  exact ⟨t2, stp t2 a1, b1⟩
theorem hv_callSrx (C : hv_C own cc nL Ts w p s m args meth c) {y : MethodName} {bytes : ByteArray} {maxL n index : Nat} {ws ws1 : List Cond} {rm : Room} {As : List Value} {st : List Value} {ret : Option FieldType}  {post : Value → hv_H → Prop} {px : String → hv_H → Prop} {px1 : String → hv_H → Prop} {mc ms : Nat} {Qc : Array Value → State → Outcome → State → Prop} (hM : hv_Nr l y ws rm w As Y post px) (hG : GoodIn Ts (va_wsS own index y ws)) (hw : ws = Cond.code y bytes maxL ret :: ws1) (hd : y.cls ≠ "java/lang/invoke/MethodHandle" ∧ y.cls ≠ "java/lang/invoke/VarHandle" ∧ (parseMethodDescriptor y.desc).map (fun d => d.parameters.length) = some n) (hRm : rm.frames + 1 ≤ R.frames ∧ 8 + (maxL + 11) + rm.locals ≤ R.locals)  (hn : As.length = n) (hst : st = As.reverse ++ rest) (hcat : (rest.map fun v => v.category).sum ≤ 8) (hdg : decode cc pc = .ok (.invokestatic index, 3)) (hf : cells + rm.cells ≤ R.cells ∧ slots + rm.slots ≤ R.slots) (hx9 : ∀ (E : String) (Y1 : hv_H), px E Y1 → px1 E Y1) (hout : ∀ x ∈ c.exceptionTable.toList, False) (hc9 : cells + rm.cells ≤ mc) (hs9 : slots + rm.slots ≤ ms) (kk : ∀ (r : Value) (Y1 : hv_H), post r Y1 → hv_V p l e R s m args below meth c w nL (vx_MQ below Qc (hv_Xc w px1) args s mc ms (hv_A w)) (cells + rm.cells) (slots + rm.slots) Y1 lv (pc + 3) (r :: rest)) : hv_V p l e R s m args below meth c w nL (vx_MQ below Qc (hv_Xc w px1) args s mc ms (hv_A w)) cells slots Y lv pc st := by
  subst hst
  intro H locs ls hR hS hl T hT X
  have hz9 : ∀ (st₀ t T1 : State) (L : List Loc), st₀.heap = H → T1.heap = t.heap → (∀ q ∈ L, hv_A w q.base) → va_F (hv_A w) st₀ t → va_S (hv_A w) s.heap T1.heap (locs ++ L) := by
    intro st₀ t T1 L g0 e1 hL hF
    obtain ⟨hz, hk⟩ := hF
    rw [g0] at hz hk
    exact ⟨Nat.le_trans hS.1 (by rw [e1]; exact hz), fun q h1 h2 => by rw [e1, hk q (Nat.lt_of_lt_of_le h1 hS.1) h2]; exact hS.2.1 q h1 h2, fun q hq => by
      rcases List.mem_append.mp hq with h | h
      · exact hS.2.2 q h
      · exact hL q h⟩
  rcases vx_runS (As := As) (rest := rest) (index := index) (g := F0 m pc ls _) ⟨C.1, C.2.1, C.2.2.1, C.2.2.2.1, C.2.2.2.2.1⟩ hM (va_cwS n C.2.2.2.2.1 hG hw rfl rfl hd hRm) ⟨hv_blind, hv_pre C hR hS⟩ rfl hn hl.1 rfl (lv_room hcat) hdg hf T hT X with ⟨v, st₀, t, T1, L, g0, X1, hL, e1, e2, ⟨⟨r, Y1, hv, hp, hb9⟩, hF⟩, stp⟩ | ⟨q, st₀, t, T1, L, E, ce, g0, X1, hL, e1, e2, ⟨⟨Y1, hp, hb9⟩, hF⟩, hce, hcv, hcl, stp⟩
  · cases hv
    obtain ⟨t2, a1, b1⟩ := kk r Y1 hp T1.heap (locs ++ L) ls (by rw [e1]; exact hb9) (hz9 st₀ t T1 L g0 e1 hL hF) hl T1 rfl X1
    exact ⟨t2, stp t2 a1, b1⟩
  · have hS1 := hz9 st₀ t T1 L g0 e1 hL hF
    obtain ⟨t2, a1, b1⟩ := vx_out (XC := hv_Xc w px1) (Qc := Qc) (free := hv_A w) (pc := pc) (ls := ls) (rest := rest) (fun x hx => absurd (hout x hx) id) C.2.2.2.2.2.1 (H := T1.heap) (by rw [e1]; exact hce) hcv hcl (fun t9 h9 _ => ⟨⟨Y1, hx9 E Y1 hp, by rw [h9, e1]; exact hb9⟩, hS1.F h9⟩) hS1.2.2 hc9 hs9 T1 rfl X1
    exact ⟨t2, stp.trans a1, b1⟩
theorem hv_callSv (C : hv_C own cc nL Ts w p s m args meth c) {y : MethodName} {bytes : ByteArray} {maxL n index : Nat} {ws ws1 : List Cond} {rm : Room} {As : List Value} {st : List Value} {ret : Option FieldType}  {post : hv_H → Prop}  (hM : hv_Mv l y ws rm w As Y post) (hG : GoodIn Ts (va_wsS own index y ws)) (hw : ws = Cond.code y bytes maxL ret :: ws1) (hd : y.cls ≠ "java/lang/invoke/MethodHandle" ∧ y.cls ≠ "java/lang/invoke/VarHandle" ∧ (parseMethodDescriptor y.desc).map (fun d => d.parameters.length) = some n) (hRm : rm.frames + 1 ≤ R.frames ∧ 8 + (maxL + 11) + rm.locals ≤ R.locals)  (hn : As.length = n) (hst : st = As.reverse ++ rest) (hcat : (rest.map fun v => v.category).sum ≤ 8) (hdg : decode cc pc = .ok (.invokestatic index, 3)) (hf : cells + rm.cells ≤ R.cells ∧ slots + rm.slots ≤ R.slots) (kk : ∀ (Y1 : hv_H), post Y1 → hv_V p l e R s m args below meth c w nL Q (cells + rm.cells) (slots + rm.slots) Y1 lv (pc + 3) rest) : hv_V p l e R s m args below meth c w nL Q cells slots Y lv pc st := by
  subst hst
  intro H locs ls hR hS hl T hT X
  obtain ⟨v, st₀, t, T1, L, g0, X1, hL, e1, e2, ⟨⟨Y1, hv, hp, hb9⟩, hz, hk⟩, stp⟩ := va_runS (As := As) (rest := rest) (index := index) (g := F0 m pc ls _) ⟨C.1, C.2.1, C.2.2.1, C.2.2.2.1, C.2.2.2.2.1⟩ hM (va_cwS n C.2.2.2.2.1 hG hw rfl rfl hd hRm) ⟨hv_blind, hv_pre C hR hS⟩ rfl hn hl.1 rfl (lv_room hcat) hdg hf T hT X
  cases hv
  rw [g0] at hz hk
  obtain ⟨t2, a1, b1⟩ := kk Y1 hp T1.heap (locs ++ L) ls (by rw [e1]; exact hb9) ⟨Nat.le_trans hS.1 (by rw [e1]; exact hz), fun q h1 h2 => by rw [e1, hk q (Nat.lt_of_lt_of_le h1 hS.1) h2]; exact hS.2.1 q h1 h2, fun q hq => by
      rcases List.mem_append.mp hq with h | h
      · exact hS.2.2 q h
      · exact hL q h⟩ hl T1 rfl X1
  exact ⟨t2, stp t2 a1, b1⟩
theorem hv_callSvx (C : hv_C own cc nL Ts w p s m args meth c) {y : MethodName} {bytes : ByteArray} {maxL n index : Nat} {ws ws1 : List Cond} {rm : Room} {As : List Value} {st : List Value} {ret : Option FieldType}  {post : hv_H → Prop} {px : String → hv_H → Prop} {px1 : String → hv_H → Prop} {mc ms : Nat} {Qc : Array Value → State → Outcome → State → Prop} (hM : hv_Nv l y ws rm w As Y post px) (hG : GoodIn Ts (va_wsS own index y ws)) (hw : ws = Cond.code y bytes maxL ret :: ws1) (hd : y.cls ≠ "java/lang/invoke/MethodHandle" ∧ y.cls ≠ "java/lang/invoke/VarHandle" ∧ (parseMethodDescriptor y.desc).map (fun d => d.parameters.length) = some n) (hRm : rm.frames + 1 ≤ R.frames ∧ 8 + (maxL + 11) + rm.locals ≤ R.locals)  (hn : As.length = n) (hst : st = As.reverse ++ rest) (hcat : (rest.map fun v => v.category).sum ≤ 8) (hdg : decode cc pc = .ok (.invokestatic index, 3)) (hf : cells + rm.cells ≤ R.cells ∧ slots + rm.slots ≤ R.slots) (hx9 : ∀ (E : String) (Y1 : hv_H), px E Y1 → px1 E Y1) (hout : ∀ x ∈ c.exceptionTable.toList, False) (hc9 : cells + rm.cells ≤ mc) (hs9 : slots + rm.slots ≤ ms) (kk : ∀ (Y1 : hv_H), post Y1 → hv_V p l e R s m args below meth c w nL (vx_MQ below Qc (hv_Xc w px1) args s mc ms (hv_A w)) (cells + rm.cells) (slots + rm.slots) Y1 lv (pc + 3) rest) : hv_V p l e R s m args below meth c w nL (vx_MQ below Qc (hv_Xc w px1) args s mc ms (hv_A w)) cells slots Y lv pc st := by
  subst hst
  intro H locs ls hR hS hl T hT X
  have hz9 : ∀ (st₀ t T1 : State) (L : List Loc), st₀.heap = H → T1.heap = t.heap → (∀ q ∈ L, hv_A w q.base) → va_F (hv_A w) st₀ t → va_S (hv_A w) s.heap T1.heap (locs ++ L) := by
    intro st₀ t T1 L g0 e1 hL hF
    obtain ⟨hz, hk⟩ := hF
    rw [g0] at hz hk
    exact ⟨Nat.le_trans hS.1 (by rw [e1]; exact hz), fun q h1 h2 => by rw [e1, hk q (Nat.lt_of_lt_of_le h1 hS.1) h2]; exact hS.2.1 q h1 h2, fun q hq => by
      rcases List.mem_append.mp hq with h | h
      · exact hS.2.2 q h
      · exact hL q h⟩
  rcases vx_runS (As := As) (rest := rest) (index := index) (g := F0 m pc ls _) ⟨C.1, C.2.1, C.2.2.1, C.2.2.2.1, C.2.2.2.2.1⟩ hM (va_cwS n C.2.2.2.2.1 hG hw rfl rfl hd hRm) ⟨hv_blind, hv_pre C hR hS⟩ rfl hn hl.1 rfl (lv_room hcat) hdg hf T hT X with ⟨v, st₀, t, T1, L, g0, X1, hL, e1, e2, ⟨⟨Y1, hv, hp, hb9⟩, hF⟩, stp⟩ | ⟨q, st₀, t, T1, L, E, ce, g0, X1, hL, e1, e2, ⟨⟨Y1, hp, hb9⟩, hF⟩, hce, hcv, hcl, stp⟩
  · cases hv
    obtain ⟨t2, a1, b1⟩ := kk Y1 hp T1.heap (locs ++ L) ls (by rw [e1]; exact hb9) (hz9 st₀ t T1 L g0 e1 hL hF) hl T1 rfl X1
    exact ⟨t2, stp t2 a1, b1⟩
  · have hS1 := hz9 st₀ t T1 L g0 e1 hL hF
    obtain ⟨t2, a1, b1⟩ := vx_out (XC := hv_Xc w px1) (Qc := Qc) (free := hv_A w) (pc := pc) (ls := ls) (rest := rest) (fun x hx => absurd (hout x hx) id) C.2.2.2.2.2.1 (H := T1.heap) (by rw [e1]; exact hce) hcv hcl (fun t9 h9 _ => ⟨⟨Y1, hx9 E Y1 hp, by rw [h9, e1]; exact hb9⟩, hS1.F h9⟩) hS1.2.2 hc9 hs9 T1 rfl X1
    exact ⟨t2, stp.trans a1, b1⟩
theorem hv_callIv (C : hv_C own cc nL Ts w p s m args meth c) {y : MethodName} {bytes : ByteArray} {maxL n index : Nat} {ws ws1 : List Cond} {rm : Room} {As : List Value} {st : List Value}  {b : Nat} {post : hv_H → Prop}  (hM : hv_Mv l y ws rm w (.ref b :: As) Y post) (hG : GoodIn Ts ws) (hw : ws = Cond.code y bytes maxL none :: ws1) (hini : Cond.initialized y.cls ∈ Ts) (hlk : Cond.methodLink own index y ∈ Ts) (him : Cond.instanceMethod y ∈ Ts) (hy1 : y.name = "<init>") (hd : y.cls ≠ "java/lang/invoke/MethodHandle" ∧ y.cls ≠ "java/lang/invoke/VarHandle" ∧ (parseMethodDescriptor y.desc).map (fun d => d.parameters.length) = some n) (hRm : rm.frames + 1 ≤ R.frames ∧ 8 + (maxL + 11) + rm.locals ≤ R.locals)  (hn : As.length = n) (hst : st = As.reverse ++ .ref b :: rest) (hcat : (rest.map fun v => v.category).sum ≤ 8) (hdg : decode cc pc = .ok (.invokespecial index, 3)) (hf : cells + rm.cells ≤ R.cells ∧ slots + rm.slots ≤ R.slots) (kk : ∀ (Y1 : hv_H), post Y1 → hv_V p l e R s m args below meth c w nL Q (cells + rm.cells) (slots + rm.slots) Y1 lv (pc + 3) rest) : hv_V p l e R s m args below meth c w nL Q cells slots Y lv pc st := by
  subst hst
  intro H locs ls hR hS hl T hT X
  obtain ⟨v, st₀, t, T1, L, g0, X1, hL, e1, e2, ⟨⟨Y1, hv, hp, hb9⟩, hz, hk⟩, stp⟩ := va_runI (As := As) (rest := rest) (index := index) (g := F0 m pc ls _) ⟨C.1, C.2.1, C.2.2.1, C.2.2.2.1, C.2.2.2.2.1⟩ hM (cwI n C.2.2.2.2.1 hG hw rfl rfl (C.2.2.2.2.1 _ hini) (C.2.2.2.2.1 _ hlk) (C.2.2.2.2.1 _ him) hy1 hd hRm) ⟨hv_blind, hv_pre C hR hS⟩ rfl hn hl.1 rfl (lv_room hcat) hdg hf T hT X
  cases hv
  rw [g0] at hz hk
  obtain ⟨t2, a1, b1⟩ := kk Y1 hp T1.heap (locs ++ L) ls (by rw [e1]; exact hb9) ⟨Nat.le_trans hS.1 (by rw [e1]; exact hz), fun q h1 h2 => by rw [e1, hk q (Nat.lt_of_lt_of_le h1 hS.1) h2]; exact hS.2.1 q h1 h2, fun q hq => by
      rcases List.mem_append.mp hq with h | h
      · exact hS.2.2 q h
      · exact hL q h⟩ hl T1 rfl X1
  exact ⟨t2, stp t2 a1, b1⟩
theorem hv_iret (C : hv_C own cc nL Ts w p s m args meth c) {post : Value → hv_H → Prop} {mc ms : Nat} {v : Int32} (hr : meth.sig.returnType = some .int) (hdg : decode cc pc = .ok (.ireturn, 1)) (hc9 : cells ≤ mc) (hs9 : slots ≤ ms) (h : post (.int v) Y) : hv_V p l e R s m args below meth c w nL (MQ below (hv_Qr w post) args s mc ms (hv_A w)) cells slots Y lv pc [.int v] := fun H locs ls hR hS hl => W.widen hc9 hs9 (W.iret C.1 C.2.1 hr (fun t ht hW => ⟨⟨_, Y, rfl, h, by rw [ht]; exact hR⟩, hS.F ht⟩) hS.2.2 hdg C.2.2.2.2.2.1)
theorem hv_zret (C : hv_C own cc nL Ts w p s m args meth c) {post : Value → hv_H → Prop} {mc ms : Nat} {v : Int32} (hr : meth.sig.returnType = some .boolean) (hv9 : narrow .boolean (.int v) = .int v) (hdg : decode cc pc = .ok (.ireturn, 1)) (hc9 : cells ≤ mc) (hs9 : slots ≤ ms) (h : post (.int v) Y) : hv_V p l e R s m args below meth c w nL (MQ below (hv_Qr w post) args s mc ms (hv_A w)) cells slots Y lv pc [.int v] := fun H locs ls hR hS hl => W.widen hc9 hs9 (W.zret C.1 C.2.1 hr hv9 (fun t ht hW => ⟨⟨_, Y, rfl, h, by rw [ht]; exact hR⟩, hS.F ht⟩) hS.2.2 hdg C.2.2.2.2.2.1)
theorem hv_aret (C : hv_C own cc nL Ts w p s m args meth c) {post : Value → hv_H → Prop} {mc ms : Nat} {v : Value} {rt : FieldType} (hr : meth.sig.returnType = some rt) (hrt : (∃ n, rt = .object n) ∨ ∃ t, rt = .array t) (hv9 : v = .null ∨ ∃ a, v = .ref a) (hdg : decode cc pc = .ok (.areturn, 1)) (hc9 : cells ≤ mc) (hs9 : slots ≤ ms) (h : post v Y) : hv_V p l e R s m args below meth c w nL (MQ below (hv_Qr w post) args s mc ms (hv_A w)) cells slots Y lv pc [v] := fun H locs ls hR hS hl => W.widen hc9 hs9 (W.aret C.1 C.2.1 hr hrt hv9 (fun t ht hW => ⟨⟨_, Y, rfl, h, by rw [ht]; exact hR⟩, hS.F ht⟩) hS.2.2 hdg C.2.2.2.2.2.1)
theorem hv_vret (C : hv_C own cc nL Ts w p s m args meth c) {post : hv_H → Prop} {mc ms : Nat} (hr : meth.sig.returnType = none) (hdg : decode cc pc = .ok (.return_, 1)) (hc9 : cells ≤ mc) (hs9 : slots ≤ ms) (h : post  Y) : hv_V p l e R s m args below meth c w nL (MQ below (hv_Qv w post) args s mc ms (hv_A w)) cells slots Y lv pc [] := fun H locs ls hR hS hl => W.widen hc9 hs9 (W.vret C.1 C.2.1 hr (fun t ht hW => ⟨⟨Y, rfl, h, by rw [ht]; exact hR⟩, hS.F ht⟩) hS.2.2 hdg C.2.2.2.2.2.1)
theorem hv_iretx (C : hv_C own cc nL Ts w p s m args meth c) {post : Value → hv_H → Prop} {px : String → hv_H → Prop} {mc ms : Nat} {v : Int32} (hr : meth.sig.returnType = some .int) (hdg : decode cc pc = .ok (.ireturn, 1)) (hc9 : cells ≤ mc) (hs9 : slots ≤ ms) (h : post (.int v) Y) : hv_V p l e R s m args below meth c w nL (vx_MQ below (hv_Qr w post) (hv_Xc w px) args s mc ms (hv_A w)) cells slots Y lv pc [.int v] := fun H locs ls hR hS hl => vx_ret (W.widen hc9 hs9 (W.iret C.1 C.2.1 hr (fun t ht hW => ⟨⟨_, Y, rfl, h, by rw [ht]; exact hR⟩, hS.F ht⟩) hS.2.2 hdg C.2.2.2.2.2.1))
theorem hv_zretx (C : hv_C own cc nL Ts w p s m args meth c) {post : Value → hv_H → Prop} {px : String → hv_H → Prop} {mc ms : Nat} {v : Int32} (hr : meth.sig.returnType = some .boolean) (hv9 : narrow .boolean (.int v) = .int v) (hdg : decode cc pc = .ok (.ireturn, 1)) (hc9 : cells ≤ mc) (hs9 : slots ≤ ms) (h : post (.int v) Y) : hv_V p l e R s m args below meth c w nL (vx_MQ below (hv_Qr w post) (hv_Xc w px) args s mc ms (hv_A w)) cells slots Y lv pc [.int v] := fun H locs ls hR hS hl => vx_ret (W.widen hc9 hs9 (W.zret C.1 C.2.1 hr hv9 (fun t ht hW => ⟨⟨_, Y, rfl, h, by rw [ht]; exact hR⟩, hS.F ht⟩) hS.2.2 hdg C.2.2.2.2.2.1))
theorem hv_aretx (C : hv_C own cc nL Ts w p s m args meth c) {post : Value → hv_H → Prop} {px : String → hv_H → Prop} {mc ms : Nat} {v : Value} {rt : FieldType} (hr : meth.sig.returnType = some rt) (hrt : (∃ n, rt = .object n) ∨ ∃ t, rt = .array t) (hv9 : v = .null ∨ ∃ a, v = .ref a) (hdg : decode cc pc = .ok (.areturn, 1)) (hc9 : cells ≤ mc) (hs9 : slots ≤ ms) (h : post v Y) : hv_V p l e R s m args below meth c w nL (vx_MQ below (hv_Qr w post) (hv_Xc w px) args s mc ms (hv_A w)) cells slots Y lv pc [v] := fun H locs ls hR hS hl => vx_ret (W.widen hc9 hs9 (W.aret C.1 C.2.1 hr hrt hv9 (fun t ht hW => ⟨⟨_, Y, rfl, h, by rw [ht]; exact hR⟩, hS.F ht⟩) hS.2.2 hdg C.2.2.2.2.2.1))
theorem hv_vretx (C : hv_C own cc nL Ts w p s m args meth c) {post : hv_H → Prop} {px : String → hv_H → Prop} {mc ms : Nat} (hr : meth.sig.returnType = none) (hdg : decode cc pc = .ok (.return_, 1)) (hc9 : cells ≤ mc) (hs9 : slots ≤ ms) (h : post  Y) : hv_V p l e R s m args below meth c w nL (vx_MQ below (hv_Qv w post) (hv_Xc w px) args s mc ms (hv_A w)) cells slots Y lv pc [] := fun H locs ls hR hS hl => vx_ret (W.widen hc9 hs9 (W.vret C.1 C.2.1 hr (fun t ht hW => ⟨⟨Y, rfl, h, by rw [ht]; exact hR⟩, hS.F ht⟩) hS.2.2 hdg C.2.2.2.2.2.1))
/-- a throw of an exception of the library with a written text -/
theorem hv_throw (C : hv_C own cc nL Ts w p s m args meth c) {Qc : Array Value → State → Outcome → State → Prop} {px : String → hv_H → Prop} {mc ms ik is ic : Nat} {cls text : String} {names : List String} (hlt : l.stackTraces = false) (hcls : Bundle.fit cls = true) (hnames : ∀ n ∈ names, Bundle.fit n = true) (hk : Cond.classLink own ik cls ∈ Ts) (hini : Cond.initialized cls ∈ Ts) (hown4 : own = RX4) (hstr : (is, text) ∈ hv_St) (hat1 : ∀ x ∈ (vx_atS own ic cls names).filter goodWord, x ∈ Ts) (hat2 : ∀ x ∈ (vx_atS own ic cls names).filter (fun x => !goodWord x), x ∈ hv_N)
    (hgood : ∀ x ∈ Cond.classLink own ik cls :: Cond.initialized cls :: vx_atS own ic cls names, vx_ot x = true)
    (d0 : decode cc pc = .ok (.new ik, 3)) (d3 : decode cc (pc + 3) = .ok (.dup, 1)) (d4 : decode cc (pc + 4) = .ok (.ldc is, 2)) (d6 : decode cc (pc + 6) = .ok (.invokespecial ic, 3)) (d9 : decode cc (pc + 9) = .ok (.athrow, 1))
    (hout : ∀ x ∈ c.exceptionTable.toList, False) (hRframes : names.length + 3 < R.frames) (hRlocals : (rest.map fun v => v.category).sum + (13 * (names.length + 1) + 43) ≤ R.locals) (hRcells : cells + 1 ≤ R.cells) (hRslots : slots + 6 ≤ R.slots) (hc9 : cells + 1 ≤ mc) (hs9 : slots + 6 ≤ ms) (hx : px cls Y) : hv_V p l e R s m args below meth c w nL (vx_MQ below Qc (hv_Xc w px) args s mc ms (hv_A w)) cells slots Y lv pc rest := by
  intro H locs ls hR hS hl
  have hts := C.2.2.2.2.1
  have hWD := C.2.2.2.2.2.2.1
  obtain ⟨sa, hsa⟩ := hWD.2.2.2.2.2.2.2.2.1 (is, text) hstr
  subst hown4
  refine vx_throwS C.1 C.2.1 hlt C.2.2.2.1 hcls hnames (hts _ hk) (hts _ hini) hsa (vx_hat (fun x hx => hts _ (hat1 x hx)) hat2 (fun x hx => ?_)) hgood hWD.2.2.2.1.1 hWD.2.2.2.1.2 hS (hl.1.trans C.2.2.1.symm) d0 d3 d4 d6 d9 (fun x hx => absurd (hout x hx) id) hRframes hRlocals hRcells hRslots C.2.2.2.2.2.1 (fun t hal hz ho => ⟨⟨Y, hx, ?_⟩, ?_⟩) hS.2.2 hc9 hs9
  · exact hv_face (hv_N_face x hx) (State.WarmedH.refl s) (hWD.2.2.2.2.2.2.2.1 x hx)
  · exact hR.mono hz ho
  · exact ⟨Nat.le_trans hS.1 hz, fun q h1 h2 => (ho q (Nat.lt_of_lt_of_le h1 hS.1)).trans (hS.2.1 q h1 h2)⟩
/-! a body's beginning -/
theorem hv_ofV {y : MethodName} {ws ws1 : List Cond} {rm : Room} {Qc : Array Value → State → Outcome → State → Prop} {maxL : Nat} {ret : Option FieldType} {As : List Value} {lv0 : List (Nat × Value)} (hy : plainName y.cls = true) (hw : ws = Cond.code y cc maxL ret :: ws1) (hown : y.cls = own) (hlen : (lg_sl As).length ≤ maxL) (hlv : lv_args 0 As = lv0)
    (body : ∀ (p : Program) (e : Env) (s : State) (m : MethodId) (below : List Frame) (meth : Method) (c : Code), hv_C own cc maxL ws w p s m As.toArray meth c → meth.sig.returnType = ret → meth.name = y.name → hv_V p l e rm s m As.toArray below meth c w maxL (MQ below Qc As.toArray s rm.cells rm.slots (hv_A w)) 0 0 Y lv0 0 []) : Met l y ws rm (hv_Pc w As Y) Qc rm.cells rm.slots (hv_A w) := by
  refine Met.ofW (cc := cc) (maxL := maxL) (ret := ret) hy hw ?_
  intro p e s m args below meth c s₁ B hml hv
  obtain ⟨rfl, hWD, hR⟩ := hv
  have hts := atoms_spec (ws := ws) B.pre
  have hown9 : s.vm.findClass own = some m.cls := by rw [← hown]; exact findClass_of_methodNamed B.named
  have hin : meth.name = y.name := (name_of_methodNamed B.named B.method).1
  have hl := lv_entry As (n := maxL) hlen
  rw [hlv] at hl
  rw [lg_entry_eq]
  exact body p e s m below meth c ⟨B.exec, B.bytes, hml, hown9, hts, B.notSynchronized, hWD, hR.1.2⟩ B.returns hin s.heap [] _ hR va_S.rf hl
theorem hv_ofVx {y : MethodName} {ws ws1 : List Cond} {rm : Room} {Qc : Array Value → State → Outcome → State → Prop} {XC : String → State → State → Prop} {maxL : Nat} {ret : Option FieldType} {As : List Value} {lv0 : List (Nat × Value)} (hy : plainName y.cls = true) (hw : ws = Cond.code y cc maxL ret :: ws1) (hown : y.cls = own) (hlen : (lg_sl As).length ≤ maxL) (hlv : lv_args 0 As = lv0)
    (body : ∀ (p : Program) (e : Env) (s : State) (m : MethodId) (below : List Frame) (meth : Method) (c : Code), hv_C own cc maxL ws w p s m As.toArray meth c → meth.sig.returnType = ret → (∀ x ∈ c.exceptionTable.toList, False) → hv_V p l e rm s m As.toArray below meth c w maxL (vx_MQ below Qc XC As.toArray s rm.cells rm.slots (hv_A w)) 0 0 Y lv0 0 []) : vx_Met l y ws rm (hv_Pc w As Y) Qc XC rm.cells rm.slots (hv_A w) := by
  refine vx_ofW (cc := cc) (maxL := maxL) (ret := ret) hy hw ?_
  intro p e s m args below meth c s₁ B hml hex hv
  obtain ⟨rfl, hWD, hR⟩ := hv
  have hts := atoms_spec (ws := ws) B.pre
  have hown9 : s.vm.findClass own = some m.cls := by rw [← hown]; exact findClass_of_methodNamed B.named
  have hl := lv_entry As (n := maxL) hlen
  rw [hlv] at hl
  rw [lg_entry_eq]
  exact body p e s m below meth c ⟨B.exec, B.bytes, hml, hown9, hts, B.notSynchronized, hWD, hR.1.2⟩ B.returns hex s.heap [] _ hR va_S.rf hl
end HV
end
