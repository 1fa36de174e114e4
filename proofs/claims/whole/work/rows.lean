section
-- ===== PART A: goes FIRST, ahead of the names: the tables' words, and 'selects' of the private methods out of them =====
/-- a private method of a class that the tables say can be made, by its rows of tables_1 -/
def lw_okq (q : MethodName × Nat) : Prop := (q.1.cls ≠ "java/lang/invoke/MethodHandle" ∧ q.1.cls ≠ "java/lang/invoke/VarHandle") ∧ Cond.instantiable q.1.cls q.2 ∈ tables_1 ∧ Cond.privateMethod q.1 ∈ tables_1 ∧ Cond.instanceMethod q.1 ∈ tables_1
theorem lw_p0 : lw_okq (⟨"FetchHouse$History", "findFilesOf", "(I)V"⟩, 6) := ⟨⟨by decide +kernel, by decide +kernel⟩, List.mem_of_getElem? (i := 22) (by decide +kernel), List.mem_of_getElem? (i := 114) (by decide +kernel), List.mem_of_getElem? (i := 115) (by decide +kernel)⟩
theorem lw_p1 : lw_okq (⟨"FetchHouse", "firstRefusal", "()I"⟩, 9) := ⟨⟨by decide +kernel, by decide +kernel⟩, List.mem_of_getElem? (i := 14) (by decide +kernel), List.mem_of_getElem? (i := 140) (by decide +kernel), List.mem_of_getElem? (i := 141) (by decide +kernel)⟩
theorem lw_p2 : lw_okq (⟨"FetchHouse", "refusalOf", "(III)I"⟩, 9) := ⟨⟨by decide +kernel, by decide +kernel⟩, List.mem_of_getElem? (i := 14) (by decide +kernel), List.mem_of_getElem? (i := 144) (by decide +kernel), List.mem_of_getElem? (i := 145) (by decide +kernel)⟩
theorem lw_p3 : lw_okq (⟨"FetchHouse$History", "parentsOf", "(I)J"⟩, 6) := ⟨⟨by decide +kernel, by decide +kernel⟩, List.mem_of_getElem? (i := 22) (by decide +kernel), List.mem_of_getElem? (i := 163) (by decide +kernel), List.mem_of_getElem? (i := 164) (by decide +kernel)⟩
theorem lw_p4 : lw_okq (⟨"FetchHouse", "isProtectedRef", "(I)Z"⟩, 9) := ⟨⟨by decide +kernel, by decide +kernel⟩, List.mem_of_getElem? (i := 14) (by decide +kernel), List.mem_of_getElem? (i := 169) (by decide +kernel), List.mem_of_getElem? (i := 170) (by decide +kernel)⟩
theorem lw_p5 : lw_okq (⟨"FetchHouse", "endsBeyondServer", "(J)Z"⟩, 9) := ⟨⟨by decide +kernel, by decide +kernel⟩, List.mem_of_getElem? (i := 14) (by decide +kernel), List.mem_of_getElem? (i := 175) (by decide +kernel), List.mem_of_getElem? (i := 176) (by decide +kernel)⟩
theorem lw_p6 : lw_okq (⟨"FetchHouse", "doMoves", "()I"⟩, 9) := ⟨⟨by decide +kernel, by decide +kernel⟩, List.mem_of_getElem? (i := 14) (by decide +kernel), List.mem_of_getElem? (i := 181) (by decide +kernel), List.mem_of_getElem? (i := 182) (by decide +kernel)⟩
theorem lw_p7 : lw_okq (⟨"FetchHouse", "storeOf", "(I)LFetchHouse$Store;"⟩, 9) := ⟨⟨by decide +kernel, by decide +kernel⟩, List.mem_of_getElem? (i := 14) (by decide +kernel), List.mem_of_getElem? (i := 222) (by decide +kernel), List.mem_of_getElem? (i := 223) (by decide +kernel)⟩
theorem lw_p8 : lw_okq (⟨"java/lang/Throwable", "fillInStackTrace", "(I)Ljava/lang/Throwable;"⟩, 6) := ⟨⟨by decide +kernel, by decide +kernel⟩, List.mem_of_getElem? (i := 264) (by decide +kernel), List.mem_of_getElem? (i := 262) (by decide +kernel), List.mem_of_getElem? (i := 263) (by decide +kernel)⟩
theorem lw_p9 : lw_okq (⟨"FetchHouse", "checkCommit", "(I)V"⟩, 9) := ⟨⟨by decide +kernel, by decide +kernel⟩, List.mem_of_getElem? (i := 14) (by decide +kernel), List.mem_of_getElem? (i := 378) (by decide +kernel), List.mem_of_getElem? (i := 379) (by decide +kernel)⟩
theorem lw_p10 : lw_okq (⟨"FetchHouse", "commitToFetch", "(II)I"⟩, 9) := ⟨⟨by decide +kernel, by decide +kernel⟩, List.mem_of_getElem? (i := 14) (by decide +kernel), List.mem_of_getElem? (i := 392) (by decide +kernel), List.mem_of_getElem? (i := 393) (by decide +kernel)⟩
theorem lw_p11 : lw_okq (⟨"FetchHouse", "talk", "()J"⟩, 9) := ⟨⟨by decide +kernel, by decide +kernel⟩, List.mem_of_getElem? (i := 14) (by decide +kernel), List.mem_of_getElem? (i := 398) (by decide +kernel), List.mem_of_getElem? (i := 399) (by decide +kernel)⟩
theorem lw_p12 : lw_okq (⟨"FetchHouse$History", "comeTo", "(II)V"⟩, 6) := ⟨⟨by decide +kernel, by decide +kernel⟩, List.mem_of_getElem? (i := 22) (by decide +kernel), List.mem_of_getElem? (i := 410) (by decide +kernel), List.mem_of_getElem? (i := 411) (by decide +kernel)⟩
theorem lw_p13 : lw_okq (⟨"FetchHouse", "checkCommitOrNone", "(I)V"⟩, 9) := ⟨⟨by decide +kernel, by decide +kernel⟩, List.mem_of_getElem? (i := 14) (by decide +kernel), List.mem_of_getElem? (i := 444) (by decide +kernel), List.mem_of_getElem? (i := 445) (by decide +kernel)⟩
theorem lw_p14 : lw_okq (⟨"FetchHouseModel", "isInOrNone", "(II)Z"⟩, 18) := ⟨⟨by decide +kernel, by decide +kernel⟩, List.mem_of_getElem? (i := 493) (by decide +kernel), List.mem_of_getElem? (i := 568) (by decide +kernel), List.mem_of_getElem? (i := 569) (by decide +kernel)⟩
theorem lw_p15 : lw_okq (⟨"FetchHouseModel", "isIn", "(II)Z"⟩, 18) := ⟨⟨by decide +kernel, by decide +kernel⟩, List.mem_of_getElem? (i := 493) (by decide +kernel), List.mem_of_getElem? (i := 572) (by decide +kernel), List.mem_of_getElem? (i := 573) (by decide +kernel)⟩
def lw_privs_1 : List (MethodName × Nat) := [(⟨"FetchHouse$History", "findFilesOf", "(I)V"⟩, 6), (⟨"FetchHouse", "firstRefusal", "()I"⟩, 9), (⟨"FetchHouse", "refusalOf", "(III)I"⟩, 9), (⟨"FetchHouse$History", "parentsOf", "(I)J"⟩, 6), (⟨"FetchHouse", "isProtectedRef", "(I)Z"⟩, 9), (⟨"FetchHouse", "endsBeyondServer", "(J)Z"⟩, 9), (⟨"FetchHouse", "doMoves", "()I"⟩, 9), (⟨"FetchHouse", "storeOf", "(I)LFetchHouse$Store;"⟩, 9), (⟨"java/lang/Throwable", "fillInStackTrace", "(I)Ljava/lang/Throwable;"⟩, 6), (⟨"FetchHouse", "checkCommit", "(I)V"⟩, 9), (⟨"FetchHouse", "commitToFetch", "(II)I"⟩, 9), (⟨"FetchHouse", "talk", "()J"⟩, 9), (⟨"FetchHouse$History", "comeTo", "(II)V"⟩, 6), (⟨"FetchHouse", "checkCommitOrNone", "(I)V"⟩, 9), (⟨"FetchHouseModel", "isInOrNone", "(II)Z"⟩, 18), (⟨"FetchHouseModel", "isIn", "(II)Z"⟩, 18)]
theorem lw_r1 : ∀ q ∈ lw_privs_1, lw_okq q := List.forall_mem_cons.mpr ⟨lw_p0, List.forall_mem_cons.mpr ⟨lw_p1, List.forall_mem_cons.mpr ⟨lw_p2, List.forall_mem_cons.mpr ⟨lw_p3, List.forall_mem_cons.mpr ⟨lw_p4, List.forall_mem_cons.mpr ⟨lw_p5, List.forall_mem_cons.mpr ⟨lw_p6, List.forall_mem_cons.mpr ⟨lw_p7, List.forall_mem_cons.mpr ⟨lw_p8, List.forall_mem_cons.mpr ⟨lw_p9, List.forall_mem_cons.mpr ⟨lw_p10, List.forall_mem_cons.mpr ⟨lw_p11, List.forall_mem_cons.mpr ⟨lw_p12, List.forall_mem_cons.mpr ⟨lw_p13, List.forall_mem_cons.mpr ⟨lw_p14, List.forall_mem_cons.mpr ⟨lw_p15, fun _ h => absurd h List.not_mem_nil⟩⟩⟩⟩⟩⟩⟩⟩⟩⟩⟩⟩⟩⟩⟩⟩
theorem lw_p16 : lw_okq (⟨"FetchHouseModel", "isCommit", "(I)Z"⟩, 18) := ⟨⟨by decide +kernel, by decide +kernel⟩, List.mem_of_getElem? (i := 493) (by decide +kernel), List.mem_of_getElem? (i := 576) (by decide +kernel), List.mem_of_getElem? (i := 577) (by decide +kernel)⟩
theorem lw_p17 : lw_okq (⟨"FetchHouseModel", "refused", "(I)Z"⟩, 18) := ⟨⟨by decide +kernel, by decide +kernel⟩, List.mem_of_getElem? (i := 493) (by decide +kernel), List.mem_of_getElem? (i := 580) (by decide +kernel), List.mem_of_getElem? (i := 581) (by decide +kernel)⟩
theorem lw_p18 : lw_okq (⟨"FetchHouseModel", "noFetch", "(II)Z"⟩, 18) := ⟨⟨by decide +kernel, by decide +kernel⟩, List.mem_of_getElem? (i := 493) (by decide +kernel), List.mem_of_getElem? (i := 603) (by decide +kernel), List.mem_of_getElem? (i := 604) (by decide +kernel)⟩
theorem lw_p19 : lw_okq (⟨"FetchHouseModel", "talk", "()V"⟩, 18) := ⟨⟨by decide +kernel, by decide +kernel⟩, List.mem_of_getElem? (i := 493) (by decide +kernel), List.mem_of_getElem? (i := 607) (by decide +kernel), List.mem_of_getElem? (i := 608) (by decide +kernel)⟩
theorem lw_p20 : lw_okq (⟨"FetchHouseModel", "tell", "()I"⟩, 18) := ⟨⟨by decide +kernel, by decide +kernel⟩, List.mem_of_getElem? (i := 493) (by decide +kernel), List.mem_of_getElem? (i := 611) (by decide +kernel), List.mem_of_getElem? (i := 612) (by decide +kernel)⟩
theorem lw_p21 : lw_okq (⟨"FetchHouseModel", "clear", "()V"⟩, 18) := ⟨⟨by decide +kernel, by decide +kernel⟩, List.mem_of_getElem? (i := 493) (by decide +kernel), List.mem_of_getElem? (i := 615) (by decide +kernel), List.mem_of_getElem? (i := 616) (by decide +kernel)⟩
theorem lw_p22 : lw_okq (⟨"FetchHouseModel", "markOn", "(I)V"⟩, 18) := ⟨⟨by decide +kernel, by decide +kernel⟩, List.mem_of_getElem? (i := 493) (by decide +kernel), List.mem_of_getElem? (i := 619) (by decide +kernel), List.mem_of_getElem? (i := 620) (by decide +kernel)⟩
theorem lw_p23 : lw_okq (⟨"FetchHouseModel", "shallow", "(I)Z"⟩, 18) := ⟨⟨by decide +kernel, by decide +kernel⟩, List.mem_of_getElem? (i := 493) (by decide +kernel), List.mem_of_getElem? (i := 623) (by decide +kernel), List.mem_of_getElem? (i := 624) (by decide +kernel)⟩
theorem lw_p24 : lw_okq (⟨"FetchHouseModel", "lacksParent", "(II)Z"⟩, 18) := ⟨⟨by decide +kernel, by decide +kernel⟩, List.mem_of_getElem? (i := 493) (by decide +kernel), List.mem_of_getElem? (i := 627) (by decide +kernel), List.mem_of_getElem? (i := 628) (by decide +kernel)⟩
theorem lw_p25 : lw_okq (⟨"FetchHouseModel", "mark", "(II)V"⟩, 18) := ⟨⟨by decide +kernel, by decide +kernel⟩, List.mem_of_getElem? (i := 493) (by decide +kernel), List.mem_of_getElem? (i := 631) (by decide +kernel), List.mem_of_getElem? (i := 632) (by decide +kernel)⟩
theorem lw_p26 : lw_okq (⟨"FetchHouseModel", "reach", "(II)V"⟩, 18) := ⟨⟨by decide +kernel, by decide +kernel⟩, List.mem_of_getElem? (i := 493) (by decide +kernel), List.mem_of_getElem? (i := 635) (by decide +kernel), List.mem_of_getElem? (i := 636) (by decide +kernel)⟩
theorem lw_p27 : lw_okq (⟨"FetchHouseModel", "markFrom", "(II)V"⟩, 18) := ⟨⟨by decide +kernel, by decide +kernel⟩, List.mem_of_getElem? (i := 493) (by decide +kernel), List.mem_of_getElem? (i := 639) (by decide +kernel), List.mem_of_getElem? (i := 640) (by decide +kernel)⟩
theorem lw_p28 : lw_okq (⟨"FetchHouseModel", "near", "(II)V"⟩, 18) := ⟨⟨by decide +kernel, by decide +kernel⟩, List.mem_of_getElem? (i := 493) (by decide +kernel), List.mem_of_getElem? (i := 643) (by decide +kernel), List.mem_of_getElem? (i := 644) (by decide +kernel)⟩
theorem lw_p29 : lw_okq (⟨"FetchHouseModel", "bring", "(IIIZ)V"⟩, 18) := ⟨⟨by decide +kernel, by decide +kernel⟩, List.mem_of_getElem? (i := 493) (by decide +kernel), List.mem_of_getElem? (i := 647) (by decide +kernel), List.mem_of_getElem? (i := 648) (by decide +kernel)⟩
theorem lw_p30 : lw_okq (⟨"FetchHouseModel", "fine", "(I)I"⟩, 18) := ⟨⟨by decide +kernel, by decide +kernel⟩, List.mem_of_getElem? (i := 493) (by decide +kernel), List.mem_of_getElem? (i := 659) (by decide +kernel), List.mem_of_getElem? (i := 660) (by decide +kernel)⟩
theorem lw_p31 : lw_okq (⟨"FetchHouseModel", "isNeeded", "(II)Z"⟩, 18) := ⟨⟨by decide +kernel, by decide +kernel⟩, List.mem_of_getElem? (i := 493) (by decide +kernel), List.mem_of_getElem? (i := 671) (by decide +kernel), List.mem_of_getElem? (i := 672) (by decide +kernel)⟩
def lw_privs_2 : List (MethodName × Nat) := [(⟨"FetchHouseModel", "isCommit", "(I)Z"⟩, 18), (⟨"FetchHouseModel", "refused", "(I)Z"⟩, 18), (⟨"FetchHouseModel", "noFetch", "(II)Z"⟩, 18), (⟨"FetchHouseModel", "talk", "()V"⟩, 18), (⟨"FetchHouseModel", "tell", "()I"⟩, 18), (⟨"FetchHouseModel", "clear", "()V"⟩, 18), (⟨"FetchHouseModel", "markOn", "(I)V"⟩, 18), (⟨"FetchHouseModel", "shallow", "(I)Z"⟩, 18), (⟨"FetchHouseModel", "lacksParent", "(II)Z"⟩, 18), (⟨"FetchHouseModel", "mark", "(II)V"⟩, 18), (⟨"FetchHouseModel", "reach", "(II)V"⟩, 18), (⟨"FetchHouseModel", "markFrom", "(II)V"⟩, 18), (⟨"FetchHouseModel", "near", "(II)V"⟩, 18), (⟨"FetchHouseModel", "bring", "(IIIZ)V"⟩, 18), (⟨"FetchHouseModel", "fine", "(I)I"⟩, 18), (⟨"FetchHouseModel", "isNeeded", "(II)Z"⟩, 18)]
theorem lw_r2 : ∀ q ∈ lw_privs_2, lw_okq q := List.forall_mem_cons.mpr ⟨lw_p16, List.forall_mem_cons.mpr ⟨lw_p17, List.forall_mem_cons.mpr ⟨lw_p18, List.forall_mem_cons.mpr ⟨lw_p19, List.forall_mem_cons.mpr ⟨lw_p20, List.forall_mem_cons.mpr ⟨lw_p21, List.forall_mem_cons.mpr ⟨lw_p22, List.forall_mem_cons.mpr ⟨lw_p23, List.forall_mem_cons.mpr ⟨lw_p24, List.forall_mem_cons.mpr ⟨lw_p25, List.forall_mem_cons.mpr ⟨lw_p26, List.forall_mem_cons.mpr ⟨lw_p27, List.forall_mem_cons.mpr ⟨lw_p28, List.forall_mem_cons.mpr ⟨lw_p29, List.forall_mem_cons.mpr ⟨lw_p30, List.forall_mem_cons.mpr ⟨lw_p31, fun _ h => absurd h List.not_mem_nil⟩⟩⟩⟩⟩⟩⟩⟩⟩⟩⟩⟩⟩⟩⟩⟩
theorem lw_p32 : lw_okq (⟨"FetchHouseModel", "isCommitOrNone", "(I)Z"⟩, 18) := ⟨⟨by decide +kernel, by decide +kernel⟩, List.mem_of_getElem? (i := 493) (by decide +kernel), List.mem_of_getElem? (i := 683) (by decide +kernel), List.mem_of_getElem? (i := 684) (by decide +kernel)⟩
theorem lw_p33 : lw_okq (⟨"FetchHouseModel", "barred", "(I)I"⟩, 18) := ⟨⟨by decide +kernel, by decide +kernel⟩, List.mem_of_getElem? (i := 493) (by decide +kernel), List.mem_of_getElem? (i := 691) (by decide +kernel), List.mem_of_getElem? (i := 692) (by decide +kernel)⟩
def lw_privs_3 : List (MethodName × Nat) := [(⟨"FetchHouseModel", "isCommitOrNone", "(I)Z"⟩, 18), (⟨"FetchHouseModel", "barred", "(I)I"⟩, 18)]
theorem lw_r3 : ∀ q ∈ lw_privs_3, lw_okq q := List.forall_mem_cons.mpr ⟨lw_p32, List.forall_mem_cons.mpr ⟨lw_p33, fun _ h => absurd h List.not_mem_nil⟩⟩
def lw_privs : List (MethodName × Nat) := lw_privs_1 ++ (lw_privs_2 ++ (lw_privs_3))
def lw_tbl : List Cond := k2_sels lw_privs ++ tables_1
theorem lw_privs_ok : ∀ q ∈ lw_privs, lw_okq q := by
  show ∀ q ∈ lw_privs_1 ++ (lw_privs_2 ++ (lw_privs_3)), lw_okq q
  exact List.forall_mem_append.mpr ⟨lw_r1, List.forall_mem_append.mpr ⟨lw_r2, lw_r3⟩⟩
/-! ===== BEGIN words of one list among another's, by their places ===== -/
theorem goodIn_r {big : List Cond} (ws : List Cond) (ps : List Nat) (hp : ws = ps.filterMap (fun i => big[i]?)) (h : ws.all goodWord = true) : GoodIn big ws := by
  intro w hw
  have h1 := List.all_eq_true.mp h w hw
  rw [hp] at hw
  obtain ⟨i, -, hi⟩ := List.mem_filterMap.mp hw
  have hm : w ∈ big := by first | exact List.mem_of_getElem? hi | exact List.getElem?_mem hi
  exact ⟨hm, good_of_word h1⟩
theorem goodIn_app {big a b : List Cond} (ha : GoodIn big a) (hb : GoodIn big b) : GoodIn big (a ++ b) := fun w h => (List.mem_append.mp h).elim (ha w) (hb w)
theorem goodIn_ca {big a b : List Cond} {c : Cond} (ha : GoodIn big (c :: a)) (hb : GoodIn big b) : GoodIn big (c :: (a ++ b)) := fun w h => (List.mem_cons.mp h).elim (fun e => ha w (List.mem_cons.mpr (Or.inl e))) (fun h => (List.mem_append.mp h).elim (fun h => ha w (List.mem_cons.mpr (Or.inr h))) (hb w))
theorem goodIn_sub {big ws : List Cond} (hm : ∀ w ∈ ws, w ∈ big) (h : ws.all goodWord = true) : GoodIn big ws := fun w hw => ⟨hm w hw, good_of_word (List.all_eq_true.mp h w hw)⟩
/-! ===== END ===== -/

/-! ===== BEGIN exceptions that leave a method, and their catching by the caller (launches without stack traces) ===== -/
section VXA
/-! The laws vx_back, vx_callV, vx_callS, vx_callSW, vx_throw0, vx_throwS follow proofs of the library, with one case more: JvmDerived/Free/Laws.lean (Back.of_free), Shelf42/LK1.lean (callV, callS), Shelf/KitTraced.lean (throwNew0V, throwNewS). -/
/-- where a method has thrown q: the class by its name, the cell, what was written, the world -/
def vx_T (XC : String → State → State → Prop) (st : State) (q : Addr) (t : State) (mc ms : Nat) (free : Addr → Prop) : Prop :=
  ∃ (E : String) (ce : Cell) (L : List Loc), XC E st t ∧ t.heap[q]? = some ce ∧ ce.vm = .none ∧ st.vm.findClass E = some ce.cls ∧ st.WarmedH t.vm ∧ st.sameButNew ({ t with vm := st.vm } : State) L mc ms ∧ ∀ z ∈ L, free z.base
def vx_Q (Qc : Array Value → State → Outcome → State → Prop) (XC : String → State → State → Prop) (mc ms : Nat) (free : Addr → Prop) : Array Value → State → Outcome → State → Prop := fun a st o t =>
  (Qc a st o t ∧ ∃ L, FrameEnd st o t L mc ms ∧ ∀ q ∈ L, free q.base) ∨ ∃ q, o = .threw q ∧ vx_T XC st q t mc ms free
/-- a callee that returns or throws -/
def vx_Met (l : Launch) (y : MethodName) (ws : List Cond) (rm : Room) (Pc : Array Value → State → Prop) (Qc : Array Value → State → Outcome → State → Prop) (XC : String → State → State → Prop) (mc ms : Nat) (free : Addr → Prop) : Prop :=
  MetFree l y (headSpec ws rm) Pc (fun _ _ _ _ _ => True) (vx_Q Qc XC mc ms free)
def vx_Post (XC : String → State → State → Prop) (mc ms : Nat) (free : Addr → Prop) : Pt → Array Value → Addr → Pt → Prop := fun A a q B =>
  ∃ (g : JFrame) (mk : MethodId) (t : State) (L : List Loc) (E : String) (ce : Cell), B.U.heap = t.heap ∧ B.U.vm = t.vm ∧ XC E (A.U.calling g mk a) t ∧ t.heap[q]? = some ce ∧ ce.vm = .none ∧ A.U.vm.findClass E = some ce.cls ∧ B.locs = A.locs ++ L ∧ (∀ z ∈ L, free z.base) ∧ B.cells = A.cells + mc ∧ B.slots = A.slots + ms
def vx_Back (l : Launch) (R : Room) (p : Program) (e : Env) (below : List Frame) (s : State) (sargs : Array Value) (y : MethodName) (len W9 : Nat)
    (Pre : Pt → Array Value → Prop) (Post : Pt → Array Value → Option Value → Pt → Prop) (PostX : Pt → Array Value → Addr → Pt → Prop) : Prop :=
  ∀ (m : MethodId) (meth : Method) (c : Code) (A : Pt) (g : JFrame) (ig : Instr) (mk : MethodId) (a : Array Value),
    Stand p l e R s m sargs below meth c A.U A.locs A.cells A.slots → g.method = m → g.locals.size = c.maxLocals → decode c.code g.pc = .ok (ig, len) →
    2 * g.monitorRoom + (g.stack.map fun v => v.category).sum ≤ W9 → A.U.methodNamed? y = some mk → Pre A a →
    (∃ (v : Option Value) (B : Pt), Stand p l e R s m sargs below meth c B.U B.locs B.cells B.slots ∧ Post A a v B ∧
      Steps p.tables e below (doInvoke e (A.U.setTop g) [] mk a).1 (B.U.setTop { g with pc := g.pc + len, stack := v.toList ++ g.stack })) ∨
    (∃ (q : Addr) (B : Pt), Stand p l e R s m sargs below meth c B.U B.locs B.cells B.slots ∧ PostX A a q B ∧
      Steps p.tables e below (doInvoke e (A.U.setTop g) [] mk a).1 ((B.U.setTop g).pushFrame (.throwing q)))
section Payer
variable {l : Launch} {R : Room} {p : Program} {e : Env} {below : List Frame} {s : State} {sargs : Array Value} {y : MethodName} {len W9 : Nat}
theorem vx_back {ws : List Cond} {rm : Room} {Pc : Array Value → State → Prop} {Qc : Array Value → State → Outcome → State → Prop} {XC : String → State → State → Prop} {mc ms : Nat} {free : Addr → Prop} {bytes : ByteArray} {maxL : Nat} {ret : Option FieldType}
    (hM : vx_Met l y ws rm Pc Qc XC mc ms free) (hblind : FrameBlind Pc) (hrc : rm.cells = mc) (hrs : rm.slots = ms)
    (hframes : rm.frames + 1 ≤ R.frames) (hlocals : W9 + (maxL + 11) + rm.locals ≤ R.locals)
    (hws : ∀ w ∈ ws, ∀ a' U, s.WarmedH U.vm → w.before a' U = true) (hcode : Cond.code y bytes maxL ret ∈ ws) (hinit : ∀ a' U, s.WarmedH U.vm → (Cond.initialized y.cls).before a' U = true) :
    vx_Back l R p e below s sargs y len W9 (PreOf R mc ms Pc) (PostOf Qc mc ms free) (vx_Post XC mc ms free) := by
  intro m meth c A g ig mk a X hg hsize hdg hW hn hp
  have h1 : (headSpec ws rm).pre.before a A.U = true := atoms_intro fun w hw => hws w hw _ _ X.warmed
  have h2 : (Cond.code y bytes maxL ret).before a A.U = true := hws _ hcode _ _ X.warmed
  have h3 : (Cond.initialized y.cls).before a A.U = true := hinit _ _ X.warmed
  have h4 : A.cells + (headSpec ws rm).room.cells ≤ R.cells := by rw [show (headSpec ws rm).room.cells = mc from hrc]; exact hp.1
  have h5 : A.slots + (headSpec ws rm).room.slots ≤ R.slots := by rw [show (headSpec ws rm).room.slots = ms from hrs]; exact hp.2.1
  have hPc : Pc a (A.U.calling g mk a) := hblind _ _ _ _ hp.2.2
  obtain ⟨U, Ls, c0, s0⟩ := A
  dsimp only [Pt.U, Pt.locs, Pt.cells, Pt.slots] at h1 h2 h3 h4 h5 X hn hPc ⊢
  obtain ⟨methY, cY, hmY, hcY, -, hlY, -, -, -, -⟩ := Cond.code_spec hn h2
  obtain ⟨kY, hkY, -⟩ := className_of_methodNamed hn
  have hinitY : kY.init = .initialized := Cond.initialized_spec (findClass_of_methodNamed hn) hkY h3
  have h : At U g.method c below := by rw [hg]; exact X.here
  have hlocals9 : W9 + (maxL + 11) + (headSpec ws rm).room.locals ≤ R.locals := hlocals
  have happ : (headSpec ws rm).appliesLoose y e.platform (U.calling g mk a) = true :=
    Spec.appliesLoose_calling (g := g) h hdg hn hkY hinitY
      (X.room_calling (g := g) (R' := (headSpec ws rm).room) hsize hmY hcY hframes (by rw [hlY]; omega) h4 h5) h1
  obtain ⟨mid, hmid⟩ := h.above
  have hfr : (U.setTop g).frames = (.java g :: mid) ++ below := by rw [State.frames_setTop' g h.top, hmid]; rfl
  obtain ⟨o, s₂, hsteps, -, hend, hq⟩ := Steps.callFree hM p X.admits X.cas X.clock (acts := []) hfr happ hPc trivial
  have hq' : vx_Q Qc XC mc ms free a (U.calling g mk a) o s₂ := hq
  rw [State.frames_setTop' g h.top] at hend
  obtain ⟨g₀, hg0⟩ := Option.isSome_iff_exists.mp h.top
  obtain ⟨r, hr⟩ := State.topJava?_eq_some.mp hg0
  have hr' : (({ U with heap := s₂.heap, slotsUsed := s₂.slotsUsed } : State).setVm s₂.vm).frames = .java g₀ :: r := hr
  rcases hq' with ⟨hqc, L, hfe, hL⟩ | ⟨q, rfl, E, ce, L, hx, hce, hcv, hcl, hW₂, hsm, hL⟩
  · obtain ⟨⟨v, rfl⟩, hW₂, e2, q2, q3, q4, q5, q6⟩ := id hfe
    have e3 : s₂ = ({ (U.calling g mk a).setFrames s₂.frames with heap := s₂.heap, slotsUsed := s₂.slotsUsed } : State).setVm s₂.vm := by
      have : s₂ = ({ s₂ with vm := (U.calling g mk a).vm } : State).setVm s₂.vm := rfl
      rw [e2] at this
      exact this
    obtain ⟨c₂, i₂, len₂, hc₂, hd₂, hf₂⟩ := hend
    have hW' : U.WarmedH s₂.vm := hW₂
    have hcc : c₂ = c := by
      have h1 : s₂.code? g.method = U.code? g.method := by
        rw [State.code?_eq, State.code?_eq, hW'.alike.method?]
      exact Option.some.inj (hc₂.symm.trans (h1.trans h.code))
    subst hcc
    have hlen : len₂ = len := by rw [hdg] at hd₂; cases hd₂; rfl
    subst hlen
    have hs₂ : s₂ = (({ U with heap := s₂.heap, slotsUsed := s₂.slotsUsed } : State).setVm s₂.vm).setTop { g with pc := g.pc + len₂, stack := v.toList ++ g.stack } := by
      refine e3.trans ?_
      rw [hf₂, State.calling_eq h.top, State.setFrames_setFrames, State.setTop_of_frames _ hr', hr]
      rfl
    have hsame : U.sameButNew ({ U with heap := s₂.heap, slotsUsed := s₂.slotsUsed } : State) L mc ms := by
      refine ⟨?_, q2, q3, q4, q5, q6⟩
      obtain ⟨t, ht, -⟩ := State.frames_cons hr
      show ({ U with heap := s₂.heap, slotsUsed := s₂.slotsUsed } : State) = { U.setFrames U.frames with heap := s₂.heap, slotsUsed := s₂.slotsUsed }
      rw [State.setFrames_self ht]
    subst hg
    refine Or.inl ⟨v, ⟨(({ U with heap := s₂.heap, slotsUsed := s₂.slotsUsed } : State).setVm s₂.vm), Ls ++ L, c0 + mc, s0 + ms⟩,
      ⟨X.admits, X.cas, X.clock, X.frames, X.room, X.hears, X.method, X.code, (X.here.setHeapUsed s₂.heap s₂.slotsUsed).setVm hW'.alike, X.tail, State.WarmedH.trans X.warmed hW', X.limits, X.bytes, X.same.trans (hsame.setVm s.vm)⟩,
      ⟨g, mk, s₂, L, rfl, rfl, hqc, rfl, hL, rfl, rfl⟩, ?_⟩
    show Steps p.tables e below _ ((({ U with heap := s₂.heap, slotsUsed := s₂.slotsUsed } : State).setVm s₂.vm).setTop { g with pc := g.pc + len₂, stack := v.toList ++ g.stack })
    rw [← hs₂]
    exact hsteps
  · obtain ⟨e2, q2, q3, q4, q5, q6⟩ := id hsm
    have e3 : s₂ = ({ (U.calling g mk a).setFrames s₂.frames with heap := s₂.heap, slotsUsed := s₂.slotsUsed } : State).setVm s₂.vm := by
      have : s₂ = ({ s₂ with vm := (U.calling g mk a).vm } : State).setVm s₂.vm := rfl
      rw [e2] at this
      exact this
    have hf₂ : s₂.frames = .throwing q :: .java g :: U.frames.tail := hend
    have hW' : U.WarmedH s₂.vm := hW₂
    have hs₂ : s₂ = ((({ U with heap := s₂.heap, slotsUsed := s₂.slotsUsed } : State).setVm s₂.vm).setTop g).pushFrame (.throwing q) := by
      refine e3.trans ?_
      rw [hf₂, State.calling_eq h.top, State.setFrames_setFrames, State.pushFrame, State.frames_setTop _ hr', State.setTop_of_frames _ hr', State.setFrames_setFrames, hr]
      rfl
    have hsame : U.sameButNew ({ U with heap := s₂.heap, slotsUsed := s₂.slotsUsed } : State) L mc ms := by
      refine ⟨?_, q2, q3, q4, q5, q6⟩
      obtain ⟨t, ht, -⟩ := State.frames_cons hr
      show ({ U with heap := s₂.heap, slotsUsed := s₂.slotsUsed } : State) = { U.setFrames U.frames with heap := s₂.heap, slotsUsed := s₂.slotsUsed }
      rw [State.setFrames_self ht]
    subst hg
    refine Or.inr ⟨q, ⟨(({ U with heap := s₂.heap, slotsUsed := s₂.slotsUsed } : State).setVm s₂.vm), Ls ++ L, c0 + mc, s0 + ms⟩,
      ⟨X.admits, X.cas, X.clock, X.frames, X.room, X.hears, X.method, X.code, (X.here.setHeapUsed s₂.heap s₂.slotsUsed).setVm hW'.alike, X.tail, State.WarmedH.trans X.warmed hW', X.limits, X.bytes, X.same.trans (hsame.setVm s.vm)⟩,
      ⟨g, mk, s₂, L, E, ce, rfl, rfl, hx, hce, hcv, hcl, rfl, hL, rfl, rfl⟩, ?_⟩
    show Steps p.tables e below _ (((({ U with heap := s₂.heap, slotsUsed := s₂.slotsUsed } : State).setVm s₂.vm).setTop g).pushFrame (.throwing q))
    rw [← hs₂]
    exact hsteps
end Payer
section Calls
variable {p : Program} {l : Launch} {e : Env} {R : Room} {s : State} {m : MethodId} {args : Array Value} {below : List Frame} {meth : Method} {c : Code} {T : State} {locs : List Loc} {cells slots : Nat}
theorem vx_callV (X : Stand p l e R s m args below meth c T locs cells slots) (hexec : p.tables.exec = Jvm.exec) {own C : String} {index : Nat} {y : MethodName} {bytes : ByteArray} {maxL : Nat} {ret : Option FieldType}
    (hown : s.vm.findClass own = some m.cls) (hlink : (Cond.methodLink own index y).before args s = true) (hinst : (Cond.instanceMethod y).before args s = true) (hsel : (Cond.selects C y y).before args s = true)
    (hcode : (Cond.code y bytes maxL ret).before args s = true) (hy : y.cls ≠ "java/lang/invoke/MethodHandle" ∧ y.cls ≠ "java/lang/invoke/VarHandle")
    {W9 : Nat} {Pre : Pt → Array Value → Prop} {Post : Pt → Array Value → Option Value → Pt → Prop} {PostX : Pt → Array Value → Addr → Pt → Prop} (hK : vx_Back l R p e below s args y 3 W9 Pre Post PostX)
    {b : Addr} {cellB : Cell} (hcell : T.heap[b]? = some cellB) (hobj : cellB.vm.isStatics = false) (hcls : s.vm.findClass C = some cellB.cls)
    {g : JFrame} (hg : g.method = m) (hsize : g.locals.size = c.maxLocals) {argsL rest : List Value} (hlen : ∀ sig, parseMethodDescriptor y.desc = some sig → argsL.length = sig.parameters.length)
    (hstack : g.stack = argsL.reverse ++ .ref b :: rest) (hW : 2 * g.monitorRoom + (rest.map fun v => v.category).sum ≤ W9) (hdg : decode c.code g.pc = .ok (.invokevirtual index, 3))
    (hpre : ∀ vm₁, s.WarmedH vm₁ → Pre ⟨T.setVm vm₁, locs, cells, slots⟩ (Value.ref b :: argsL).toArray) :
    (∃ (v : Option Value) (vm₁ : Vm) (B : Pt), s.WarmedH vm₁ ∧ Stand p l e R s m args below meth c B.U B.locs B.cells B.slots ∧ Post ⟨T.setVm vm₁, locs, cells, slots⟩ (Value.ref b :: argsL).toArray v B ∧
      ∀ target, Steps p.tables e below (B.U.setTop { g with pc := g.pc + 3, stack := v.toList ++ rest }) target → Steps p.tables e below (T.setTop g) target) ∨
    (∃ (q : Addr) (vm₁ : Vm) (B : Pt), s.WarmedH vm₁ ∧ Stand p l e R s m args below meth c B.U B.locs B.cells B.slots ∧ PostX ⟨T.setVm vm₁, locs, cells, slots⟩ (Value.ref b :: argsL).toArray q B ∧
      Steps p.tables e below (T.setTop g) ((B.U.setTop { g with stack := rest }).pushFrame (.throwing q))) := by
  obtain ⟨mk, methM, hnamed, hmethM, hstM, habM⟩ := Cond.instanceMethod_spec hinst
  obtain ⟨methM', cM, hmethM', -, -, -, -, -, -, hsigM⟩ := Cond.code_spec hnamed hcode
  cases hmethM.symm.trans hmethM'
  obtain ⟨c2, r2, m2, q1, q2, q3, q4, kP, hkP, hkPi⟩ := Cond.selects_spec hsel
  cases hcls.symm.trans q1
  cases (State.methodFound?_of_named hnamed hy).symm.trans q2
  cases hnamed.symm.trans q3
  have hselP : selectMethod e.platform s.vm cellB.cls mk = .method mk := by rw [Launch.admits_selectMethod X.admits]; exact q4
  obtain ⟨vm₁, X₁, hstep₁⟩ := X.invokevirtual hexec hown hlink hnamed hmethM hstM hkP hkPi hy (a := b) (cell := cellB) hcell
    (fun z h => by rw [h] at hobj; cases hobj) hselP hmethM habM hkP hkPi (g := g) hg (argsL := argsL) (rest := rest) (hlen _ hsigM) hstack hdg
  rcases hK m meth c ⟨T.setVm vm₁, locs, cells, slots⟩ { g with stack := rest } (.invokevirtual index) mk (Value.ref b :: argsL).toArray X₁ hg hsize hdg hW (X₁.named hnamed) (hpre vm₁ X₁.warmed) with ⟨v, B, X', hpost, hsteps⟩ | ⟨q, B, X', hpost, hsteps⟩
  · exact Or.inl ⟨v, vm₁, B, X₁.warmed, X', hpost, fun target h => hstep₁ _ fun acts => by rw [doInvoke_state]; exact hsteps.trans h⟩
  · exact Or.inr ⟨q, vm₁, B, X₁.warmed, X', hpost, hstep₁ _ fun acts => by rw [doInvoke_state]; exact hsteps⟩
theorem vx_callS (X : Stand p l e R s m args below meth c T locs cells slots) (hexec : p.tables.exec = Jvm.exec) {own : String} {index : Nat} {y : MethodName} {bytes : ByteArray} {maxL : Nat} {ret : Option FieldType}
    (hown : s.vm.findClass own = some m.cls) (hlink : (Cond.methodLink own index y).before args s = true) (hstat : (Cond.static y).before args s = true) (hinit : (Cond.initialized y.cls).before args s = true)
    (hcode : (Cond.code y bytes maxL ret).before args s = true) (hy : y.cls ≠ "java/lang/invoke/MethodHandle" ∧ y.cls ≠ "java/lang/invoke/VarHandle")
    {W9 : Nat} {Pre : Pt → Array Value → Prop} {Post : Pt → Array Value → Option Value → Pt → Prop} {PostX : Pt → Array Value → Addr → Pt → Prop} (hK : vx_Back l R p e below s args y 3 W9 Pre Post PostX)
    {g : JFrame} (hg : g.method = m) (hsize : g.locals.size = c.maxLocals) {argsL rest : List Value} (hlen : ∀ sig, parseMethodDescriptor y.desc = some sig → argsL.length = sig.parameters.length)
    (hstack : g.stack = argsL.reverse ++ rest) (hW : 2 * g.monitorRoom + (rest.map fun v => v.category).sum ≤ W9) (hdg : decode c.code g.pc = .ok (.invokestatic index, 3))
    (hpre : ∀ vm₁, s.WarmedH vm₁ → Pre ⟨T.setVm vm₁, locs, cells, slots⟩ argsL.toArray) :
    (∃ (v : Option Value) (vm₁ : Vm) (B : Pt), s.WarmedH vm₁ ∧ Stand p l e R s m args below meth c B.U B.locs B.cells B.slots ∧ Post ⟨T.setVm vm₁, locs, cells, slots⟩ argsL.toArray v B ∧
      ∀ target, Steps p.tables e below (B.U.setTop { g with pc := g.pc + 3, stack := v.toList ++ rest }) target → Steps p.tables e below (T.setTop g) target) ∨
    (∃ (q : Addr) (vm₁ : Vm) (B : Pt), s.WarmedH vm₁ ∧ Stand p l e R s m args below meth c B.U B.locs B.cells B.slots ∧ PostX ⟨T.setVm vm₁, locs, cells, slots⟩ argsL.toArray q B ∧
      Steps p.tables e below (T.setTop g) ((B.U.setTop { g with stack := rest }).pushFrame (.throwing q))) := by
  obtain ⟨mk, hnamed⟩ := Cond.code_named hcode
  obtain ⟨methM, cM, hmethM, -, -, -, -, -, -, hsigM⟩ := Cond.code_spec hnamed hcode
  have hstatic : methM.isStatic = true := Cond.static_spec hnamed hmethM hstat
  obtain ⟨kP, hkP, -⟩ := className_of_methodNamed hnamed
  have hinitP : kP.init = .initialized := Cond.initialized_spec (findClass_of_methodNamed hnamed) hkP hinit
  obtain ⟨vm₁, X₁, hstep₁⟩ := X.invokestatic hexec hown hlink hnamed hmethM hstatic hkP hinitP hy (g := g) hg (argsL := argsL) (rest := rest) (hlen _ hsigM) hstack hdg
  rcases hK m meth c ⟨T.setVm vm₁, locs, cells, slots⟩ { g with stack := rest } (.invokestatic index) mk argsL.toArray X₁ hg hsize hdg hW (X₁.named hnamed) (hpre vm₁ X₁.warmed) with ⟨v, B, X', hpost, hsteps⟩ | ⟨q, B, X', hpost, hsteps⟩
  · exact Or.inl ⟨v, vm₁, B, X₁.warmed, X', hpost, fun target h => hstep₁ _ fun acts => by rw [doInvoke_state]; exact hsteps.trans h⟩
  · exact Or.inr ⟨q, vm₁, B, X₁.warmed, X', hpost, hstep₁ _ fun acts => by rw [doInvoke_state]; exact hsteps⟩
end Calls
theorem vx_cls {s : State} {T : State} {vm₁ : Vm} {E : String} {k : ClassId} (hW : s.WarmedH vm₁) (h : (T.setVm vm₁).vm.findClass E = some k) : s.vm.findClass E = some k := by
  have h1 : vm₁.findClass E = some k := h
  rw [hW.alike.findClass] at h1
  exact h1
/-- the method's frame g, with q thrown over it -/
def vx_W (p : Program) (l : Launch) (e : Env) (R : Room) (s : State) (m : MethodId) (args : Array Value) (below : List Frame) (meth : Method) (c : Code) (H : Heap) (locs : List Loc) (cells slots : Nat) (Q : State → Prop) (g : JFrame) (q : Addr) : Prop :=
  ∀ T : State, T.heap = H → Stand p l e R s m args below meth c T locs cells slots → ∃ t, Steps p.tables e below ((T.setTop g).pushFrame (.throwing q)) t ∧ Q t
def vx_Run (p : Program) (l : Launch) (e : Env) (R : Room) (s : State) (m : MethodId) (args : Array Value) (below : List Frame) (meth : Method) (c : Code) (H : Heap) (locs : List Loc) (cells slots mc ms : Nat) (g : JFrame) (rest : List Value) (Qa : State → Outcome → State → Prop) (XC : String → State → State → Prop) (free : Addr → Prop) : Prop :=
  ∀ T : State, T.heap = H → Stand p l e R s m args below meth c T locs cells slots →
    (∃ (v : Option Value) (st₀ t T' : State) (L : List Loc), st₀.heap = H ∧ Stand p l e R s m args below meth c T' (locs ++ L) (cells + mc) (slots + ms) ∧ (∀ q ∈ L, free q.base) ∧ T'.heap = t.heap ∧ T'.vm = t.vm ∧ Qa st₀ (.returned v) t ∧
      Goes p e below T g T' { g with pc := g.pc + 3, stack := v.toList ++ rest }) ∨
    (∃ (q : Addr) (st₀ t T' : State) (L : List Loc) (E : String) (ce : Cell), st₀.heap = H ∧ Stand p l e R s m args below meth c T' (locs ++ L) (cells + mc) (slots + ms) ∧ (∀ z ∈ L, free z.base) ∧ T'.heap = t.heap ∧ T'.vm = t.vm ∧ XC E st₀ t ∧ t.heap[q]? = some ce ∧ ce.vm = .none ∧ s.vm.findClass E = some ce.cls ∧
      Steps p.tables e below (T.setTop g) ((T'.setTop { g with stack := rest }).pushFrame (.throwing q)))
def vx_X {S : Type} (px : S → Prop) (B : String → S → State → Prop) (A : Nat → Prop) : String → State → State → Prop := fun E st t => ∃ u : S, px u ∧ B E u t ∧ va_F A st t
section Runs
variable {p : Program} {l : Launch} {e : Env} {R : Room} {s : State} {m : MethodId} {args : Array Value} {below : List Frame} {meth : Method} {c : Code} {H : Heap} {locs : List Loc} {cells slots : Nat}
variable {y : MethodName} {bytes cc : ByteArray} {maxL nL mc ms n index : Nat} {ret : Option FieldType} {ws : List Cond} {rm : Room} {Pc : Array Value → State → Prop} {Qc : Array Value → State → Outcome → State → Prop} {XC : String → State → State → Prop} {free : Addr → Prop} {Ts : List Cond} {own C : String} {b : Addr} {As rest : List Value} {g : JFrame}
theorem vx_callBack (cb : CallB R s args own index y bytes maxL ret ws rm mc ms n) (hM : vx_Met l y ws rm Pc Qc XC mc ms free) (hbl : FrameBlind Pc) : vx_Back l R p e below s args y 3 8 (PreOf R mc ms Pc) (PostOf Qc mc ms free) (vx_Post XC mc ms free) := by
  obtain ⟨hrc, hrs, hfr, hlo, hws, hcw, -, hini, -⟩ := cb
  exact vx_back (bytes := bytes) (maxL := maxL) (ret := ret) hM hbl hrc hrs hfr hlo hws hcw (fun a' U hW => word_at hW (Or.inl (by first | rfl | simp [Cond.onTables, Cond.keeps, Cond.steady])) hini)
theorem vx_runV (S : CallFix p m c cc nL s args Ts own) (hM : vx_Met l y ws rm Pc Qc XC mc ms free) (cw : CallW R s args own C index y bytes maxL ret ws rm mc ms n) (hp : PreV s H C b Pc As)
    (hg : g.method = m) (hn : As.length = n) (hsize : g.locals.size = nL) (hstack : g.stack = As.reverse ++ .ref b :: rest) (hW : 2 * g.monitorRoom + (rest.map fun v => v.category).sum ≤ 8) (hdg : decode cc g.pc = .ok (.invokevirtual index, 3)) (hf : cells + mc ≤ R.cells ∧ slots + ms ≤ R.slots) :
    vx_Run p l e R s m args below meth c H locs cells slots mc ms g rest (Qc (Value.ref b :: As).toArray) XC free := by
  have hK : vx_Back l R p e below s args y 3 8 (PreOf R mc ms Pc) (PostOf Qc mc ms free) (vx_Post XC mc ms free) := vx_callBack cw.1 hM hp.1
  obtain ⟨⟨-, -, -, -, -, -, hcode, -, hy, hlen, hl⟩, hin, hse⟩ := cw
  obtain ⟨hx, hb, hml, ho, -⟩ := S
  obtain ⟨-, ⟨cellB, hcB, hoB, hclB⟩, hPc⟩ := hp
  intro T hT X
  rcases vx_callV X hx (C := C) (bytes := bytes) (maxL := maxL) (ret := ret) ho hl hin hse hcode hy hK (by rw [hT]; exact hcB) hoB hclB hg (hsize.trans hml.symm) (argsL := As) (rest := rest) (fun sig h => hn.trans (hlen sig h)) hstack hW (by rw [hb]; exact hdg)
    (fun vm₁ hW₁ => ⟨hf.1, hf.2, hPc (T.setVm vm₁) hT hW₁⟩) with ⟨v, vm₁, ⟨U', l2, c2, s2⟩, hW₁, X', ⟨g', mk, t, L, e1, e2, hq, h1, hL, h2, h3⟩, st⟩ | ⟨q, vm₁, ⟨U', l2, c2, s2⟩, hW₁, X', ⟨g', mk, t, L, E, ce, e1, e2, hq, hce, hcv, hcl, h1, hL, h2, h3⟩, st⟩
  · dsimp only [Pt.U, Pt.locs, Pt.cells, Pt.slots] at X' e1 e2 h1 h2 h3 st
    subst h1; subst h2; subst h3
    exact Or.inl ⟨v, (T.setVm vm₁).calling g' mk (Value.ref b :: As).toArray, t, U', L, hT, X', hL, e1, e2, hq, st⟩
  · dsimp only [Pt.U, Pt.locs, Pt.cells, Pt.slots] at X' e1 e2 h1 h2 h3 st hcl
    subst h1; subst h2; subst h3
    exact Or.inr ⟨q, (T.setVm vm₁).calling g' mk (Value.ref b :: As).toArray, t, U', L, E, ce, hT, X', hL, e1, e2, hq, hce, hcv, vx_cls hW₁ hcl, st⟩
theorem vx_runS (S : CallFix p m c cc nL s args Ts own) (hM : vx_Met l y ws rm Pc Qc XC mc ms free) (cw : CallB R s args own index y bytes maxL ret ws rm mc ms n ∧ (Cond.static y).before args s = true) (hp : PreS s H Pc As)
    (hg : g.method = m) (hn : As.length = n) (hsize : g.locals.size = nL) (hstack : g.stack = As.reverse ++ rest) (hW : 2 * g.monitorRoom + (rest.map fun v => v.category).sum ≤ 8) (hdg : decode cc g.pc = .ok (.invokestatic index, 3)) (hf : cells + mc ≤ R.cells ∧ slots + ms ≤ R.slots) :
    vx_Run p l e R s m args below meth c H locs cells slots mc ms g rest (Qc As.toArray) XC free := by
  have hK : vx_Back l R p e below s args y 3 8 (PreOf R mc ms Pc) (PostOf Qc mc ms free) (vx_Post XC mc ms free) := vx_callBack cw.1 hM hp.1
  obtain ⟨⟨-, -, -, -, -, -, hcode, hini, hy, hlen, hl⟩, hstt⟩ := cw
  obtain ⟨hx, hb, hml, ho, -⟩ := S
  intro T hT X
  rcases vx_callS X hx (bytes := bytes) (maxL := maxL) (ret := ret) ho hl hstt hini hcode hy hK hg (hsize.trans hml.symm) (argsL := As) (rest := rest) (fun sig h => hn.trans (hlen sig h)) hstack hW (by rw [hb]; exact hdg)
    (fun vm₁ hW₁ => ⟨hf.1, hf.2, hp.2 (T.setVm vm₁) hT hW₁⟩) with ⟨v, vm₁, ⟨U', l2, c2, s2⟩, hW₁, X', ⟨g', mk, t, L, e1, e2, hq, h1, hL, h2, h3⟩, st⟩ | ⟨q, vm₁, ⟨U', l2, c2, s2⟩, hW₁, X', ⟨g', mk, t, L, E, ce, e1, e2, hq, hce, hcv, hcl, h1, hL, h2, h3⟩, st⟩
  · dsimp only [Pt.U, Pt.locs, Pt.cells, Pt.slots] at X' e1 e2 h1 h2 h3 st
    subst h1; subst h2; subst h3
    exact Or.inl ⟨v, (T.setVm vm₁).calling g' mk As.toArray, t, U', L, hT, X', hL, e1, e2, hq, st⟩
  · dsimp only [Pt.U, Pt.locs, Pt.cells, Pt.slots] at X' e1 e2 h1 h2 h3 st hcl
    subst h1; subst h2; subst h3
    exact Or.inr ⟨q, (T.setVm vm₁).calling g' mk As.toArray, t, U', L, E, ce, hT, X', hL, e1, e2, hq, hce, hcv, vx_cls hW₁ hcl, st⟩
end Runs
section Rows
variable {p : Program} {l : Launch} {e : Env} {R : Room} {s : State} {m : MethodId} {args : Array Value} {below : List Frame} {meth : Method} {c : Code} {H : Heap} {locs : List Loc} {cells slots : Nat} {Q : State → Prop}
variable {mc ms : Nat} {free : Addr → Prop} {A0 A1 : Nat → Prop} {H0 : Heap} {a : Array Value} {pc : Nat} {ls : Array Slot} {st0 rest : List Value}
theorem vx_keep {st₀ t T' : State} {L : List Loc} (h0 : st₀.heap = H) (e1 : T'.heap = t.heap) (hS : va_S A0 H0 H locs) (hA : ∀ q, q < H.size → A1 q → A0 q) (hf : ∀ q, free q → A0 q) (hL : ∀ q ∈ L, free q.base) (hF : va_F A1 st₀ t) :
    H.size ≤ T'.heap.size ∧ (∀ q : Nat, q < H.size → ¬ A1 q → T'.heap[q]? = H[q]?) ∧ va_S A0 H0 T'.heap (locs ++ L) := by
  obtain ⟨hz, hk⟩ := hF
  rw [h0] at hz hk
  exact ⟨by rw [e1]; exact hz, fun q h1 h2 => by rw [e1]; exact hk q h1 h2,
    ⟨Nat.le_trans hS.1 (by rw [e1]; exact hz), fun q h1 h2 => by rw [e1, hk q (Nat.lt_of_lt_of_le h1 hS.1) (fun z => h2 (hA q (Nat.lt_of_lt_of_le h1 hS.1) z))]; exact hS.2.1 q h1 h2, fun q hq => by
      rcases List.mem_append.mp hq with h | h
      · exact hS.2.2 q h
      · exact hf _ (hL q h)⟩⟩
theorem vx_calli {S SX : Type} {post : Int32 → S → Prop} {px : SX → Prop} {B : S → State → Prop} {BX : String → SX → State → Prop} {AX : Nat → Prop} (hr : vx_Run p l e R s m args below meth c H locs cells slots mc ms (F0 m pc ls st0) rest (va_Qi post B A1 a) (vx_X px BX AX) free) (hS : va_S A0 H0 H locs) (hA : ∀ q, q < H.size → A1 q → A0 q) (hf : ∀ q, free q → A0 q) (hAX : ∀ q, q < H.size → AX q → A0 q)
    (kx : ∀ (E : String) (ce : Cell) (q9 : Addr) (u : SX) (t : State) (H1 : Heap) (locs1 : List Loc), t.heap = H1 → s.vm.Alike t.vm → px u → BX E u t → H.size ≤ H1.size → (∀ q : Nat, q < H.size → ¬ AX q → H1[q]? = H[q]?) → va_S A0 H0 H1 locs1 → H1[q9]? = some ce → ce.vm = .none → s.vm.findClass E = some ce.cls → vx_W p l e R s m args below meth c H1 locs1 (cells + mc) (slots + ms) Q (F0 m pc ls rest) q9)
    (kk : ∀ (r : Int32) (u : S) (t : State) (H1 : Heap) (locs1 : List Loc), t.heap = H1 → s.vm.Alike t.vm → post r u → B u t → H.size ≤ H1.size → (∀ q : Nat, q < H.size → ¬ A1 q → H1[q]? = H[q]?) → va_S A0 H0 H1 locs1 → W p l e R s m args below meth c H1 locs1 (cells + mc) (slots + ms) Q (F0 m (pc + 3) ls (.int r :: rest))) : W p l e R s m args below meth c H locs cells slots Q (F0 m pc ls st0) := by
  intro T hT X
  rcases hr T hT X with ⟨v, st₀, t, T', L, h0, X', hL, e1, e2, ⟨⟨r, u, hv, hp, hb⟩, hF⟩, st⟩ | ⟨q, st₀, t, T', L, E, ce, h0, X', hL, e1, e2, ⟨u, hp, hb, hF⟩, hce, hcv, hcl, st⟩
  · cases hv
    obtain ⟨k1, k2, k3⟩ := vx_keep h0 e1 hS hA hf hL hF
    obtain ⟨t2, a1, b1⟩ := kk r u t T'.heap (locs ++ L) e1.symm (by rw [← e2]; exact X'.warmed.alike) hp hb k1 k2 k3 T' rfl X'
    exact ⟨t2, st t2 a1, b1⟩
  · obtain ⟨k1, k2, k3⟩ := vx_keep h0 e1 hS hAX hf hL hF
    obtain ⟨t2, a1, b1⟩ := kx E ce q u t T'.heap (locs ++ L) e1.symm (by rw [← e2]; exact X'.warmed.alike) hp hb k1 k2 k3 (by rw [e1]; exact hce) hcv hcl T' rfl X'
    exact ⟨t2, st.trans a1, b1⟩
theorem vx_calll {S SX : Type} {post : Int64 → S → Prop} {px : SX → Prop} {B : S → State → Prop} {BX : String → SX → State → Prop} {AX : Nat → Prop} (hr : vx_Run p l e R s m args below meth c H locs cells slots mc ms (F0 m pc ls st0) rest (va_Ql post B A1 a) (vx_X px BX AX) free) (hS : va_S A0 H0 H locs) (hA : ∀ q, q < H.size → A1 q → A0 q) (hf : ∀ q, free q → A0 q) (hAX : ∀ q, q < H.size → AX q → A0 q)
    (kx : ∀ (E : String) (ce : Cell) (q9 : Addr) (u : SX) (t : State) (H1 : Heap) (locs1 : List Loc), t.heap = H1 → s.vm.Alike t.vm → px u → BX E u t → H.size ≤ H1.size → (∀ q : Nat, q < H.size → ¬ AX q → H1[q]? = H[q]?) → va_S A0 H0 H1 locs1 → H1[q9]? = some ce → ce.vm = .none → s.vm.findClass E = some ce.cls → vx_W p l e R s m args below meth c H1 locs1 (cells + mc) (slots + ms) Q (F0 m pc ls rest) q9)
    (kk : ∀ (r : Int64) (u : S) (t : State) (H1 : Heap) (locs1 : List Loc), t.heap = H1 → s.vm.Alike t.vm → post r u → B u t → H.size ≤ H1.size → (∀ q : Nat, q < H.size → ¬ A1 q → H1[q]? = H[q]?) → va_S A0 H0 H1 locs1 → W p l e R s m args below meth c H1 locs1 (cells + mc) (slots + ms) Q (F0 m (pc + 3) ls (.long r :: rest))) : W p l e R s m args below meth c H locs cells slots Q (F0 m pc ls st0) := by
  intro T hT X
  rcases hr T hT X with ⟨v, st₀, t, T', L, h0, X', hL, e1, e2, ⟨⟨r, u, hv, hp, hb⟩, hF⟩, st⟩ | ⟨q, st₀, t, T', L, E, ce, h0, X', hL, e1, e2, ⟨u, hp, hb, hF⟩, hce, hcv, hcl, st⟩
  · cases hv
    obtain ⟨k1, k2, k3⟩ := vx_keep h0 e1 hS hA hf hL hF
    obtain ⟨t2, a1, b1⟩ := kk r u t T'.heap (locs ++ L) e1.symm (by rw [← e2]; exact X'.warmed.alike) hp hb k1 k2 k3 T' rfl X'
    exact ⟨t2, st t2 a1, b1⟩
  · obtain ⟨k1, k2, k3⟩ := vx_keep h0 e1 hS hAX hf hL hF
    obtain ⟨t2, a1, b1⟩ := kx E ce q u t T'.heap (locs ++ L) e1.symm (by rw [← e2]; exact X'.warmed.alike) hp hb k1 k2 k3 (by rw [e1]; exact hce) hcv hcl T' rfl X'
    exact ⟨t2, st.trans a1, b1⟩
theorem vx_callf {S SX : Type} {post : UInt32 → S → Prop} {px : SX → Prop} {B : S → State → Prop} {BX : String → SX → State → Prop} {AX : Nat → Prop} (hr : vx_Run p l e R s m args below meth c H locs cells slots mc ms (F0 m pc ls st0) rest (va_Qf post B A1 a) (vx_X px BX AX) free) (hS : va_S A0 H0 H locs) (hA : ∀ q, q < H.size → A1 q → A0 q) (hf : ∀ q, free q → A0 q) (hAX : ∀ q, q < H.size → AX q → A0 q)
    (kx : ∀ (E : String) (ce : Cell) (q9 : Addr) (u : SX) (t : State) (H1 : Heap) (locs1 : List Loc), t.heap = H1 → s.vm.Alike t.vm → px u → BX E u t → H.size ≤ H1.size → (∀ q : Nat, q < H.size → ¬ AX q → H1[q]? = H[q]?) → va_S A0 H0 H1 locs1 → H1[q9]? = some ce → ce.vm = .none → s.vm.findClass E = some ce.cls → vx_W p l e R s m args below meth c H1 locs1 (cells + mc) (slots + ms) Q (F0 m pc ls rest) q9)
    (kk : ∀ (r : UInt32) (u : S) (t : State) (H1 : Heap) (locs1 : List Loc), t.heap = H1 → s.vm.Alike t.vm → post r u → B u t → H.size ≤ H1.size → (∀ q : Nat, q < H.size → ¬ A1 q → H1[q]? = H[q]?) → va_S A0 H0 H1 locs1 → W p l e R s m args below meth c H1 locs1 (cells + mc) (slots + ms) Q (F0 m (pc + 3) ls (.float r :: rest))) : W p l e R s m args below meth c H locs cells slots Q (F0 m pc ls st0) := by
  intro T hT X
  rcases hr T hT X with ⟨v, st₀, t, T', L, h0, X', hL, e1, e2, ⟨⟨r, u, hv, hp, hb⟩, hF⟩, st⟩ | ⟨q, st₀, t, T', L, E, ce, h0, X', hL, e1, e2, ⟨u, hp, hb, hF⟩, hce, hcv, hcl, st⟩
  · cases hv
    obtain ⟨k1, k2, k3⟩ := vx_keep h0 e1 hS hA hf hL hF
    obtain ⟨t2, a1, b1⟩ := kk r u t T'.heap (locs ++ L) e1.symm (by rw [← e2]; exact X'.warmed.alike) hp hb k1 k2 k3 T' rfl X'
    exact ⟨t2, st t2 a1, b1⟩
  · obtain ⟨k1, k2, k3⟩ := vx_keep h0 e1 hS hAX hf hL hF
    obtain ⟨t2, a1, b1⟩ := kx E ce q u t T'.heap (locs ++ L) e1.symm (by rw [← e2]; exact X'.warmed.alike) hp hb k1 k2 k3 (by rw [e1]; exact hce) hcv hcl T' rfl X'
    exact ⟨t2, st.trans a1, b1⟩
theorem vx_calld {S SX : Type} {post : UInt64 → S → Prop} {px : SX → Prop} {B : S → State → Prop} {BX : String → SX → State → Prop} {AX : Nat → Prop} (hr : vx_Run p l e R s m args below meth c H locs cells slots mc ms (F0 m pc ls st0) rest (va_Qd post B A1 a) (vx_X px BX AX) free) (hS : va_S A0 H0 H locs) (hA : ∀ q, q < H.size → A1 q → A0 q) (hf : ∀ q, free q → A0 q) (hAX : ∀ q, q < H.size → AX q → A0 q)
    (kx : ∀ (E : String) (ce : Cell) (q9 : Addr) (u : SX) (t : State) (H1 : Heap) (locs1 : List Loc), t.heap = H1 → s.vm.Alike t.vm → px u → BX E u t → H.size ≤ H1.size → (∀ q : Nat, q < H.size → ¬ AX q → H1[q]? = H[q]?) → va_S A0 H0 H1 locs1 → H1[q9]? = some ce → ce.vm = .none → s.vm.findClass E = some ce.cls → vx_W p l e R s m args below meth c H1 locs1 (cells + mc) (slots + ms) Q (F0 m pc ls rest) q9)
    (kk : ∀ (r : UInt64) (u : S) (t : State) (H1 : Heap) (locs1 : List Loc), t.heap = H1 → s.vm.Alike t.vm → post r u → B u t → H.size ≤ H1.size → (∀ q : Nat, q < H.size → ¬ A1 q → H1[q]? = H[q]?) → va_S A0 H0 H1 locs1 → W p l e R s m args below meth c H1 locs1 (cells + mc) (slots + ms) Q (F0 m (pc + 3) ls (.double r :: rest))) : W p l e R s m args below meth c H locs cells slots Q (F0 m pc ls st0) := by
  intro T hT X
  rcases hr T hT X with ⟨v, st₀, t, T', L, h0, X', hL, e1, e2, ⟨⟨r, u, hv, hp, hb⟩, hF⟩, st⟩ | ⟨q, st₀, t, T', L, E, ce, h0, X', hL, e1, e2, ⟨u, hp, hb, hF⟩, hce, hcv, hcl, st⟩
  · cases hv
    obtain ⟨k1, k2, k3⟩ := vx_keep h0 e1 hS hA hf hL hF
    obtain ⟨t2, a1, b1⟩ := kk r u t T'.heap (locs ++ L) e1.symm (by rw [← e2]; exact X'.warmed.alike) hp hb k1 k2 k3 T' rfl X'
    exact ⟨t2, st t2 a1, b1⟩
  · obtain ⟨k1, k2, k3⟩ := vx_keep h0 e1 hS hAX hf hL hF
    obtain ⟨t2, a1, b1⟩ := kx E ce q u t T'.heap (locs ++ L) e1.symm (by rw [← e2]; exact X'.warmed.alike) hp hb k1 k2 k3 (by rw [e1]; exact hce) hcv hcl T' rfl X'
    exact ⟨t2, st.trans a1, b1⟩
theorem vx_callv {S SX : Type} {post : S → Prop} {px : SX → Prop} {B : S → State → Prop} {BX : String → SX → State → Prop} {AX : Nat → Prop} (hr : vx_Run p l e R s m args below meth c H locs cells slots mc ms (F0 m pc ls st0) rest (va_Qv post B A1 a) (vx_X px BX AX) free) (hS : va_S A0 H0 H locs) (hA : ∀ q, q < H.size → A1 q → A0 q) (hf : ∀ q, free q → A0 q) (hAX : ∀ q, q < H.size → AX q → A0 q)
    (kx : ∀ (E : String) (ce : Cell) (q9 : Addr) (u : SX) (t : State) (H1 : Heap) (locs1 : List Loc), t.heap = H1 → s.vm.Alike t.vm → px u → BX E u t → H.size ≤ H1.size → (∀ q : Nat, q < H.size → ¬ AX q → H1[q]? = H[q]?) → va_S A0 H0 H1 locs1 → H1[q9]? = some ce → ce.vm = .none → s.vm.findClass E = some ce.cls → vx_W p l e R s m args below meth c H1 locs1 (cells + mc) (slots + ms) Q (F0 m pc ls rest) q9)
    (kk : ∀ (u : S) (t : State) (H1 : Heap) (locs1 : List Loc), t.heap = H1 → s.vm.Alike t.vm → post u → B u t → H.size ≤ H1.size → (∀ q : Nat, q < H.size → ¬ A1 q → H1[q]? = H[q]?) → va_S A0 H0 H1 locs1 → W p l e R s m args below meth c H1 locs1 (cells + mc) (slots + ms) Q (F0 m (pc + 3) ls (rest))) : W p l e R s m args below meth c H locs cells slots Q (F0 m pc ls st0) := by
  intro T hT X
  rcases hr T hT X with ⟨v, st₀, t, T', L, h0, X', hL, e1, e2, ⟨⟨u, hv, hp, hb⟩, hF⟩, st⟩ | ⟨q, st₀, t, T', L, E, ce, h0, X', hL, e1, e2, ⟨u, hp, hb, hF⟩, hce, hcv, hcl, st⟩
  · cases hv
    obtain ⟨k1, k2, k3⟩ := vx_keep h0 e1 hS hA hf hL hF
    obtain ⟨t2, a1, b1⟩ := kk u t T'.heap (locs ++ L) e1.symm (by rw [← e2]; exact X'.warmed.alike) hp hb k1 k2 k3 T' rfl X'
    exact ⟨t2, st t2 a1, b1⟩
  · obtain ⟨k1, k2, k3⟩ := vx_keep h0 e1 hS hAX hf hL hF
    obtain ⟨t2, a1, b1⟩ := kx E ce q u t T'.heap (locs ++ L) e1.symm (by rw [← e2]; exact X'.warmed.alike) hp hb k1 k2 k3 (by rw [e1]; exact hce) hcv hcl T' rfl X'
    exact ⟨t2, st.trans a1, b1⟩
/-- caught by the row x of this method's table; the rows ahead don't take it -/
theorem vx_catch {own name : String} {E : String} {ce : Cell} {q : Addr} (hown : s.vm.findClass own = some m.cls) (pre : List ExceptionTableEntry) (x : ExceptionTableEntry) (suf : List ExceptionTableEntry) (hsplit : c.exceptionTable.toList = pre ++ x :: suf)
    (hpass : ∀ z ∈ pre, covers z pc = false ∨ (z.catchType ≠ 0 ∧ ∃ nm : String, (Cond.classLink own z.catchType nm).before args s = true ∧ va_Nc E nm s)) (hx : covers x pc = true) (h0 : x.catchType ≠ 0)
    (hlink : (Cond.classLink own x.catchType name).before args s = true) (hcast : (Cond.castable E name).before args s = true) (hcell : H[q]? = some ce) (hv : ce.vm = .none) (hcl : s.vm.findClass E = some ce.cls)
    (kk : W p l e R s m args below meth c H locs cells slots Q (F0 m x.handlerPc ls [.ref q])) : vx_W p l e R s m args below meth c H locs cells slots Q (F0 m pc ls rest) q := by
  intro T hT X
  have hpl : e.platform.magicAccessors = ({} : Platform).magicAccessors := by rw [X.admits.platform]
  obtain ⟨c3, c4, hc3, hc4, hasg⟩ := Cond.castable_spec hcast
  cases Option.some.inj (hc3.symm.trans hcl)
  obtain ⟨c5, hc5, hcl5⟩ := Cond.classLink_spec hown hlink e.platform hpl
  cases Option.some.inj (hc4.symm.trans hc5)
  obtain ⟨vm', X', st⟩ := X.thenCaughtThrough q (g := F0 m pc ls rest) rfl (Steps.refl _) (by rw [hT]; exact hcell) (by rw [hv]; rfl) (by obtain ⟨k9, h9, -⟩ := Vm.findClass_spec hcl; exact ⟨k9, h9⟩) pre x suf hsplit
    (fun z hz => by
      rcases hpass z hz with h | ⟨hz0, nm, hl1, hn1⟩
      · exact Or.inl h
      · obtain ⟨c6, hc6, hcl6⟩ := Cond.classLink_spec hown hl1 e.platform hpl
        obtain ⟨a8, b8, h1, h2, h3⟩ := hn1
        cases Option.some.inj (h1.symm.trans hcl)
        cases Option.some.inj (h2.symm.trans hc6)
        exact Or.inr ⟨hz0, _, hcl6, h3⟩) hx (Or.inr ⟨h0, c4, hcl5, hasg⟩)
  obtain ⟨t, a1, b1⟩ := kk (T.setVm vm') hT X'
  exact ⟨t, st.trans a1, b1⟩
end Rows
section Ends
variable {p : Program} {l : Launch} {e : Env} {R : Room} {s : State} {m : MethodId} {args : Array Value} {below : List Frame} {meth : Method} {c : Code} {H : Heap} {locs : List Loc} {cells slots : Nat} {Q : State → Prop}
variable {mc ms : Nat} {free : Addr → Prop} {A0 A1 : Nat → Prop} {H0 : Heap} {a : Array Value} {ls : Array Slot} {st0 rest : List Value}
variable {Qc : Array Value → State → Outcome → State → Prop} {XC : String → State → State → Prop}
/-- what a body that may throw owes at its end -/
def vx_MQ (below : List Frame) (Qc : Array Value → State → Outcome → State → Prop) (XC : String → State → State → Prop) (a : Array Value) (s : State) (mc ms : Nat) (free : Addr → Prop) : State → Prop := fun t =>
  ∃ o, t.status = .running ∧ Ended t below o ∧ vx_Q Qc XC mc ms free a s o t
theorem vx_ret {g : JFrame} {mc ms : Nat} (k : W p l e R s m args below meth c H locs cells slots (MQ below Qc args s mc ms free) g) : W p l e R s m args below meth c H locs cells slots (vx_MQ below Qc XC args s mc ms free) g := by
  intro T hT X
  obtain ⟨t, a1, o, b1, b2, b3, b4⟩ := k T hT X
  exact ⟨t, a1, o, b1, b2, Or.inl ⟨b3, b4⟩⟩
/-- not caught here: it goes on to the caller -/
theorem vx_widen {g : JFrame} {q : Addr} {k n : Nat} (h1 : cells ≤ k) (h2 : slots ≤ n) (kk : vx_W p l e R s m args below meth c H locs k n Q g q) : vx_W p l e R s m args below meth c H locs cells slots Q g q := fun T hT X => kk T hT (stand_widen X h1 h2)
theorem vx_out {pc : Nat} {E : String} {ce : Cell} {q : Addr} {mc ms : Nat} (hout : ∀ x ∈ c.exceptionTable.toList, covers x pc = false) (hlocks : meth.locks = false) (hcell : H[q]? = some ce) (hv : ce.vm = .none) (hcl : s.vm.findClass E = some ce.cls)
    (hx : ∀ t : State, t.heap = H → s.vm.Alike t.vm → XC E s t) (hf : ∀ z ∈ locs, free z.base) (hc : cells ≤ mc) (hs : slots ≤ ms) :
    vx_W p l e R s m args below meth c H locs cells slots (vx_MQ below Qc XC args s mc ms free) (F0 m pc ls rest) q := by
  intro T hT X
  obtain ⟨st1, hrun, hend, hW, hsm⟩ := X.leaveThrown q (g := F0 m pc ls rest) rfl rfl rfl hout hlocks
  have hcell9 : (T.setFrames (.throwing q :: below)).heap[q]? = some ce := by
    show T.heap[q]? = some ce
    rw [hT]; exact hcell
  exact ⟨_, st1, .threw q, hrun, hend, Or.inr ⟨q, rfl, E, ce, locs, hx _ hT hW.alike, hcell9, hv, hcl, hW, hsm.mono hc hs, hf⟩⟩
theorem vx_frame {U : State} {k n : Nat} (h : s.sameButNew ({ U with vm := s.vm } : State) locs k n) : s.heap.size ≤ U.heap.size ∧ ∀ q : Nat, q < s.heap.size → (∀ z ∈ locs, z.base ≠ q) → U.heap[q]? = s.heap[q]? := by
  obtain ⟨-, h2, -, -, -, h6⟩ := h
  refine ⟨h2, fun q hq hz => ?_⟩
  obtain ⟨c9, e1, e2, e3, e4⟩ := h6 q _ (Array.getElem?_eq_getElem hq)
  have hs : c9.slots = (s.heap[q]).slots := Array.ext_getElem? fun i => e4 i fun hm => hz _ hm rfl
  have h9 : c9 = s.heap[q] := by
    rw [hs] at e2
    exact e2
  have e5 : U.heap[q]? = some c9 := e1
  rw [e5, h9, Array.getElem?_eq_getElem hq]
/-- the words of a throw but the four that speak of the heap -/
def vx_no (w : Cond) : Bool := decide (w ≠ .isRef (.static Bundle.tN "UNASSIGNED_STACK" Bundle.steD)) && decide (w ≠ .isRef (.static Bundle.tN "SUPPRESSED_SENTINEL" Bundle.listD)) && decide (w ≠ .laysStatic Bundle.tN "UNASSIGNED_STACK" Bundle.steD) && decide (w ≠ .laysStatic Bundle.tN "SUPPRESSED_SENTINEL" Bundle.listD)
def vx_at0 (own : String) (ic : Nat) (X : String) (names : List String) : List Cond := (Bundle.ownAtoms0 own ic X names).filter vx_no
def vx_atS (own : String) (ic : Nat) (X : String) (names : List String) : List Cond := (Bundle.ownAtoms own ic X names).filter vx_no
/-- a word that the tables alone decide, or a good one -/
def vx_ot (w : Cond) : Bool := w.onTables || goodWord w
theorem vx_ot_at {args a' : Array Value} {s U : State} {w : Cond} (hW : s.WarmedH U.vm) (hvm : s.vm = U.vm) (hg : vx_ot w = true) (h : w.before args s = true) : w.before a' U = true := by
  simp only [vx_ot, Bool.or_eq_true] at hg
  rcases hg with hg | hg
  · exact va_tabs hg hvm h
  · exact word_at hW (good_of_word hg) h
/-- a list's words: the good ones out of the method's own list, the others by premises of their own -/
theorem vx_hat {args : Array Value} {s : State} {L B : List Cond} (h1 : ∀ w ∈ L.filter goodWord, w.before args s = true) (h2 : ∀ w ∈ L.filter (fun w => !goodWord w), w ∈ B) (h3 : ∀ w ∈ B, w.before args s = true) : ∀ w ∈ L, w.before args s = true := by
  intro w hw
  by_cases g : goodWord w = true
  · exact h1 w (List.mem_filter.mpr ⟨hw, g⟩)
  · refine h3 w (h2 w (List.mem_filter.mpr ⟨hw, ?_⟩))
    show (!goodWord w) = true
    cases hgw : goodWord w
    · rfl
    · exact absurd hgw g
theorem vx_c {args : Array Value} {s : State} {w : Cond} {B : List Cond} (h : w.before args s = true) (t : ∀ w ∈ B, w.before args s = true) : ∀ w' ∈ w :: B, w'.before args s = true := fun w' h' => (List.mem_cons.mp h').elim (fun e => by rw [e]; exact h) (t w')
theorem vx_n {args : Array Value} {s : State} : ∀ w ∈ ([] : List Cond), w.before args s = true := fun _ h => nomatch h
theorem vx_own {args : Array Value} {s : State} {L : List Cond} (h1 : ∀ w ∈ L.filter vx_no, w.before args s = true)
    (hU : (Cond.isRef (.static Bundle.tN "UNASSIGNED_STACK" Bundle.steD)).before args s = true) (hN : (Cond.isRef (.static Bundle.tN "SUPPRESSED_SENTINEL" Bundle.listD)).before args s = true)
    (lU : (Cond.laysStatic Bundle.tN "UNASSIGNED_STACK" Bundle.steD).before args s = true) (lN : (Cond.laysStatic Bundle.tN "SUPPRESSED_SENTINEL" Bundle.listD).before args s = true) : ∀ w ∈ L, w.before args s = true := by
  intro w hw
  by_cases e1 : w = .isRef (.static Bundle.tN "UNASSIGNED_STACK" Bundle.steD)
  · rw [e1]; exact hU
  · by_cases e2 : w = .isRef (.static Bundle.tN "SUPPRESSED_SENTINEL" Bundle.listD)
    · rw [e2]; exact hN
    · by_cases e3 : w = .laysStatic Bundle.tN "UNASSIGNED_STACK" Bundle.steD
      · rw [e3]; exact lU
      · by_cases e4 : w = .laysStatic Bundle.tN "SUPPRESSED_SENTINEL" Bundle.listD
        · rw [e4]; exact lN
        · exact h1 w (List.mem_filter.mpr ⟨hw, by unfold vx_no; rw [decide_eq_true e1, decide_eq_true e2, decide_eq_true e3, decide_eq_true e4]; rfl⟩)
/-- where a static field lies, its class's statics cell in H -/
def vx_L (C n d : String) (A : Nat → Prop) (U : State) (H : Heap) : Prop := ∃ (c : ClassId) (k : Class) (i : Nat) (f : Field) (a : Nat) (cell : Cell), U.vm.findClass C = some c ∧ U.fieldFound? C n d = some (c, k, i, f) ∧ f.isStatic = true ∧ k.statics = some a ∧ H[a]? = some cell ∧ cell.vm.isStatics = true ∧ cell.cls = c ∧ f.slot < cell.slots.size ∧ k.staticTypes[f.slot]? = some f.type ∧ ¬ A a
theorem vx_L.moved {C n d : String} {A : Nat → Prop} {u U : State} {H : Heap} (hvm : u.vm.Alike U.vm) (h : vx_L C n d A u H) : vx_L C n d A U H := by
  obtain ⟨c, k, i, f, a, cell, h1, h2, h3, h4, h5, h6, h7, h8, h9, h10⟩ := h
  obtain ⟨k', hi', he⟩ := State.fieldFound?_setVm hvm h2
  exact ⟨c, k', i, f, a, cell, by rw [hvm.findClass]; exact h1, hi', h3, by rw [he]; exact h4, h5, h6, h7, h8, by rw [he]; exact h9, h10⟩
theorem vx_L.kept {C n d : String} {A : Nat → Prop} {U : State} {H H1 : Heap} (h : vx_L C n d A U H) (hq : ∀ a : Nat, a < H.size → ¬ A a → H1[a]? = H[a]?) : vx_L C n d A U H1 := by
  obtain ⟨c, k, i, f, a, cell, h1, h2, h3, h4, h5, h6, h7, h8, h9, h10⟩ := h
  exact ⟨c, k, i, f, a, cell, h1, h2, h3, h4, by rw [hq a (Array.getElem?_eq_some_iff.mp h5).1 h10]; exact h5, h6, h7, h8, h9, h10⟩
theorem vx_L.narrow {C n d : String} {A B : Nat → Prop} {U : State} {H : Heap} (h : vx_L C n d A U H) (hAB : ∀ q, B q → A q) : vx_L C n d B U H := by
  obtain ⟨c, k, i, f, a, cell, h1, h2, h3, h4, h5, h6, h7, h8, h9, h10⟩ := h
  exact ⟨c, k, i, f, a, cell, h1, h2, h3, h4, h5, h6, h7, h8, h9, fun z => h10 (hAB _ z)⟩
theorem vx_L.word {C n d : String} {A : Nat → Prop} {s : State} {args : Array Value} (h : vx_L C n d A s s.heap) : (Cond.laysStatic C n d).before args s = true := by
  obtain ⟨c, k, i, f, a, cell, h1, h2, h3, h4, h5, h6, h7, h8, h9, -⟩ := h
  show (Cond.laysStatic C n d).holds args s none s [] = true
  exact Cond.laysStatic_of h1 h2 h3 h4 h5 h6 h7 h8 h9
/-- .. and what it holds: null or some reference -/
def vx_Zq (C n d : String) (A : Nat → Prop) (U : State) (H : Heap) : Prop := va_Zq C n d A U H ∧ vx_L C n d A U H
theorem vx_Zq.moved {C n d : String} {A : Nat → Prop} {u U : State} {H : Heap} (hvm : u.vm.Alike U.vm) (h : vx_Zq C n d A u H) : vx_Zq C n d A U H := ⟨va_Zq.moved hvm h.1, vx_L.moved hvm h.2⟩
theorem vx_Zq.kept {C n d : String} {A : Nat → Prop} {U : State} {H H1 : Heap} (h : vx_Zq C n d A U H) (hq : ∀ a : Nat, a < H.size → ¬ A a → H1[a]? = H[a]?) : vx_Zq C n d A U H1 := ⟨va_Zq.kept h.1 hq, vx_L.kept h.2 hq⟩
theorem vx_Zq.narrow {C n d : String} {A B : Nat → Prop} {U : State} {H : Heap} (h : vx_Zq C n d A U H) (hAB : ∀ q, B q → A q) : vx_Zq C n d B U H := ⟨va_Zq.narrow h.1 hAB, vx_L.narrow h.2 hAB⟩
theorem vx_Zqof {args : Array Value} {s : State} {C n d : String} {A : Nat → Prop} (hl : (Cond.laysStatic C n d).before args s = true) (hini : (Cond.initialized C).before args s = true) (h : (Cond.isRef (.static C n d)).before args s = true) (hA : ∀ a : Nat, a < s.heap.size → ¬ A a) : vx_Zq C n d A s s.heap := by
  refine ⟨va_Zqof hl hini h hA, ?_⟩
  obtain ⟨c, k, i, f, a, cell, h1, h2, h3, h4, h5, h6, h7, h8, h9⟩ := Cond.laysStatic_spec hl
  exact ⟨c, k, i, f, a, cell, h1, h2, h3, h4, h5, h6, h7, h8, h9, hA a (Array.getElem?_eq_some_iff.mp h5).1⟩
theorem vx_isRef {C n d : String} {v : Value} {A : Nat → Prop} {s : State} {args : Array Value} (h : va_Z C n d v A s s.heap) (hv : v.isRef = true) : (Cond.isRef (.static C n d)).before args s = true := by
  obtain ⟨cf, kf, fi, f, a, cell, h1, h2, h3, h4, h5, h6, h7, -⟩ := h
  have he : (Term.static C n d).eval args s none [] s = some v := by
    simp [Term.eval, State.fieldNamed?, h1, h2, h4, h5, h6, h7]
  simp only [Cond.before, Cond.holds, Cond.value, he]
  cases v <;> simp_all [Value.isRef]
theorem vx_isRefq {C n d : String} {A : Nat → Prop} {s : State} {args : Array Value} (h : va_Zq C n d A s s.heap) : (Cond.isRef (.static C n d)).before args s = true := by
  rcases h with h | ⟨t, h⟩
  · exact vx_isRef h rfl
  · exact vx_isRef h rfl
/-- the same frame, seen from here: as if the method were called anew in this heap -/
theorem vx_rebase {T : State} (X : Stand p l e R s m args below meth c T locs cells slots) {R' : Room} (hf : R'.frames ≤ R.frames) (hl : R'.locals ≤ R.locals) (hc : cells + R'.cells ≤ R.cells) (hs : slots + R'.slots ≤ R.slots) :
    Stand p l e R' ((T.setVm s.vm).setFrames (.invoking m args :: below)) m args below meth c T [] 0 0 := by
  have htop : (T.setVm s.vm).topJava?.isSome := X.here.top
  have hF : ((T.setVm s.vm).setFrames (.invoking m args :: below)).frames = .invoking m args :: below := State.frames_setFrames _ (State.cur_lt_of_top htop)
  obtain ⟨g₀, hg0⟩ := Option.isSome_iff_exists.mp htop
  obtain ⟨r, hr⟩ := State.topJava?_eq_some.mp hg0
  have hl9 : e.platform.stackLimits (T.setVm s.vm).me = e.platform.stackLimits s.me := X.limits
  have hb9 : (T.setVm s.vm).me.stackBytes = s.me.stackBytes := X.bytes
  refine ⟨X.admits, X.cas, X.clock, hF, ?_, X.hears, X.method, X.code, X.here, X.tail, X.warmed, ?_, ?_, ?_⟩
  · have h := X.room
    have hU : ((T.setVm s.vm).setFrames (.invoking m args :: below)).localsInUse = s.localsInUse := by
      rw [State.localsInUse_invoking hF (meth := meth) (c := c) X.method X.code, State.localsInUse_invoking X.frames X.method X.code]
    simp only [State.hasRoom, Bool.and_eq_true, decide_eq_true_eq] at h ⊢
    obtain ⟨⟨⟨⟨h1, h2, h3, h4, h5, h6⟩, h7⟩, h8⟩, h9⟩ := h
    rw [X.frames, List.length_cons] at h2 h3
    have q1 := X.heapSize
    have q2 := X.used
    simp only [hF, hU, List.length_cons, State.stackLimits_setFrames, State.stackBytes_setFrames, hl9, hb9]
    refine ⟨⟨⟨⟨by omega, by omega, by omega, by omega, by omega, h6⟩, ?_⟩, ?_⟩, X.book⟩
    · show T.heap.size + R'.cells ≤ e.platform.maxCells
      omega
    · show T.slotsUsed + R'.slots ≤ e.platform.maxSlots
      omega
  · rw [State.stackLimits_setFrames]; rfl
  · rw [State.stackBytes_setFrames]; rfl
  · refine ⟨?_, Nat.le_refl _, Nat.le_refl _, ?_, ?_, fun a c9 h9 => ⟨c9, h9, rfl, rfl, fun _ _ => rfl⟩⟩
    · obtain ⟨t, ht, -⟩ := State.frames_cons hr
      show T.setVm s.vm = { ((T.setVm s.vm).setFrames (.invoking m args :: below)).setFrames (T.setVm s.vm).frames with heap := T.heap, slotsUsed := T.slotsUsed }
      rw [State.setFrames_setFrames, State.setFrames_self ht]
      rfl
    · show T.slotsUsed = T.slotsUsed + ((T.heap.toList.drop T.heap.size).map (·.slots.size)).sum
      rw [List.drop_eq_nil_of_le (Nat.le_of_eq Array.length_toList)]
      rfl
    · show ((T.heap.toList.drop T.heap.size).map (·.slots.size)).sum ≤ 0
      rw [List.drop_eq_nil_of_le (Nat.le_of_eq Array.length_toList)]
      exact Nat.le_refl _
/-- 'throw new E()': new; dup; invokespecial; athrow -/
theorem vx_throw0 {cc : ByteArray} {pc : Nat} (hexec : p.tables.exec = Jvm.exec) (hb : c.code = cc) (hl : l.stackTraces = false) {own cls : String} {names : List String} {ik ic mc ms : Nat} {A : Nat → Prop}
    (hown : s.vm.findClass own = some m.cls) (hcls : Bundle.fit cls = true) (hnames : ∀ n ∈ names, Bundle.fit n = true)
    (hk : (Cond.classLink own ik cls).before args s = true) (hini : (Cond.initialized cls).before args s = true) (hat : ∀ w ∈ vx_at0 own ic cls names, w.before args s = true)
    (hgood : ∀ w ∈ Cond.classLink own ik cls :: Cond.initialized cls :: vx_at0 own ic cls names, vx_ot w = true)
    (hU : vx_Zq Bundle.tN "UNASSIGNED_STACK" Bundle.steD A s s.heap) (hN : vx_Zq Bundle.tN "SUPPRESSED_SENTINEL" Bundle.listD A s s.heap) (hS : va_S A s.heap H locs) (hsize : ls.size = c.maxLocals)
    (d0 : decode cc pc = .ok (.new ik, 3)) (d3 : decode cc (pc + 3) = .ok (.dup, 1)) (d4 : decode cc (pc + 4) = .ok (.invokespecial ic, 3)) (d7 : decode cc (pc + 7) = .ok (.athrow, 1))
    (hout : ∀ x ∈ c.exceptionTable.toList, covers x (pc + 7) = false)
    (hRframes : names.length + 3 < R.frames) (hRlocals : (rest.map fun v => v.category).sum + (13 * (names.length + 1) + 42) ≤ R.locals) (hRcells : cells + 1 ≤ R.cells) (hRslots : slots + 6 ≤ R.slots) (hlocks : meth.locks = false)
    (hx : ∀ t : State, s.vm.Alike t.vm → H.size ≤ t.heap.size → (∀ q : Nat, q < H.size → t.heap[q]? = H[q]?) → XC cls s t)
    (hf : ∀ z ∈ locs, free z.base) (hc : cells + 1 ≤ mc) (hs : slots + 6 ≤ ms) :
    W p l e R s m args below meth c H locs cells slots (vx_MQ below Qc XC args s mc ms free) (F0 m pc ls rest) := by
  intro T hT X
  have htr : e.platform.stackTraces = false := (show e.platform.stackTraces = l.stackTraces by rw [X.admits.platform]).trans hl
  have Y := vx_rebase X (R' := { frames := R.frames, locals := R.locals, cells := 1, slots := 6 }) (Nat.le_refl _) (Nat.le_refl _) hRcells hRslots
  obtain ⟨s', hA⟩ : ∃ z, z = (T.setVm s.vm).setFrames (.invoking m args :: below) := ⟨_, rfl⟩
  rw [← hA] at Y
  have hvm : s'.vm = s.vm := by rw [hA]; rfl
  have hhp : s'.heap = H := by rw [hA]; exact hT
  have hW0 : s.WarmedH s'.vm := by rw [hvm]; exact State.WarmedH.refl s
  have hat' : ∀ w ∈ vx_at0 own ic cls names, w.before args s' = true := fun w hw => vx_ot_at hW0 hvm.symm (hgood w (List.mem_cons_of_mem _ (List.mem_cons_of_mem _ hw))) (hat w hw)
  have hk' : (Cond.classLink own ik cls).before args s' = true := vx_ot_at hW0 hvm.symm (hgood _ List.mem_cons_self) hk
  have hini' : (Cond.initialized cls).before args s' = true := vx_ot_at hW0 hvm.symm (hgood _ (List.mem_cons_of_mem _ List.mem_cons_self)) hini
  have hU' : vx_Zq Bundle.tN "UNASSIGNED_STACK" Bundle.steD A s' s'.heap := by rw [hhp]; exact vx_Zq.moved hW0.alike (hU.kept hS.2.1)
  have hN' : vx_Zq Bundle.tN "SUPPRESSED_SENTINEL" Bundle.listD A s' s'.heap := by rw [hhp]; exact vx_Zq.moved hW0.alike (hN.kept hS.2.1)
  have h : ∀ w ∈ Bundle.ownAtoms0 own ic cls names, w.before args s' = true := vx_own hat' (vx_isRefq hU'.1) (vx_isRefq hN'.1) hU'.2.word hN'.2.word
  have hown' : s'.vm.findClass own = some m.cls := by rw [hvm]; exact hown
  have hins : (Cond.instantiable cls 6).before args s' = true := h _ (by simp [Bundle.ownAtoms0])
  obtain ⟨vm₁, cX, kX, hfX, hkX, -, -, X₁, st1⟩ := Y.newCold hexec (own := own) (C := cls) (index := ik) (n := 6) hown' hk' hins hini'
    (g := F0 m pc ls rest) rfl (by rw [hb]; exact d0) (Nat.le_refl _) (Nat.le_refl _)
  generalize hT1 : (T.setVm vm₁).pushCell { cls := cX, slots := kX.instanceTypes.map defaultValue, vm := .none } = T1 at X₁ st1
  have hcat : (Value.ref T.heap.size).category = 1 := rfl
  have hcellA : T1.heap[T.heap.size]? = some (freshCell cX kX) := by rw [← hT1]; exact State.heap_pushCell_size _ _
  have d3' : decode c.code (pc + 3) = .ok (.dup, 1) := by rw [hb]; exact d3
  obtain ⟨U, hsteps, hrun, hend, hW, hsame, ce, hce, hO⟩ := X₁.ctorThrow0 hexec htr (own := own) (cls := cls) (names := names) (ic := ic) hown' hcls hnames h (fun x hx => nomatch hx) hfX hkX hcellA (by rw [hhp, hT]; exact Nat.le_refl _)
    (g := { method := m, pc := pc + 4, locals := ls, stack := .ref T.heap.size :: .ref T.heap.size :: rest, locked := none }) rfl hsize rfl rfl (rest := rest) rfl
    (by rw [hb]; exact d4) (by rw [hb]; exact d7) hout hRframes (by simp only [List.map_cons, List.sum_cons, hcat]; omega) hlocks
  obtain ⟨f1, f2⟩ := vx_frame hsame
  rw [hhp] at f1 f2
  have hWs : s.WarmedH U.vm := State.WarmedH.trans hW0 hW
  have hcl : s.vm.findClass cls = some ce.cls := by
    have h9 := hO.cls
    rw [hvm] at h9
    exact h9
  have hall : s.sameButNew ({ U with vm := s.vm } : State) locs mc ms := by
    subst hA
    obtain ⟨e1, e2⟩ := hsame
    rw [State.setFrames_setFrames] at e1
    have h2 : (T.setVm s.vm).sameButNew ({ U with vm := s.vm } : State) [] (0 + 1) (0 + 6) := ⟨e1, e2⟩
    have h3 := X.same.trans h2
    rw [List.append_nil] at h3
    exact h3.mono hc hs
  refine ⟨U, ?_, .threw T.heap.size, hrun, hend, Or.inr ⟨T.heap.size, rfl, cls, ce, locs, hx U hWs.alike f1 (fun q hq => f2 q hq (fun z hz => nomatch hz)), hce, hO.vm, hcl, hWs, hall, hf⟩⟩
  refine st1 _ ?_
  show Steps p.tables e below (T1.setTop { method := m, pc := pc + 3, locals := ls, stack := .ref T.heap.size :: rest, locked := none }) _
  jvm_step X₁.here [X₁.here.top, hexec, d3', Value.category]
  exact hsteps
/-- 'throw new E("text")': new; dup; ldc; invokespecial; athrow -/
theorem vx_throwS {cc : ByteArray} {pc : Nat} (hexec : p.tables.exec = Jvm.exec) (hb : c.code = cc) (hl : l.stackTraces = false) {own cls text : String} {names : List String} {ik is ic mc ms sa : Nat} {A : Nat → Prop}
    (hown : s.vm.findClass own = some m.cls) (hcls : Bundle.fit cls = true) (hnames : ∀ n ∈ names, Bundle.fit n = true)
    (hk : (Cond.classLink own ik cls).before args s = true) (hini : (Cond.initialized cls).before args s = true) (hstr : vk_R own is text sa s) (hat : ∀ w ∈ vx_atS own ic cls names, w.before args s = true)
    (hgood : ∀ w ∈ Cond.classLink own ik cls :: Cond.initialized cls :: vx_atS own ic cls names, vx_ot w = true)
    (hU : vx_Zq Bundle.tN "UNASSIGNED_STACK" Bundle.steD A s s.heap) (hN : vx_Zq Bundle.tN "SUPPRESSED_SENTINEL" Bundle.listD A s s.heap) (hS : va_S A s.heap H locs) (hsize : ls.size = c.maxLocals)
    (d0 : decode cc pc = .ok (.new ik, 3)) (d3 : decode cc (pc + 3) = .ok (.dup, 1)) (d4 : decode cc (pc + 4) = .ok (.ldc is, 2)) (d6 : decode cc (pc + 6) = .ok (.invokespecial ic, 3)) (d9 : decode cc (pc + 9) = .ok (.athrow, 1))
    (hout : ∀ x ∈ c.exceptionTable.toList, covers x (pc + 9) = false)
    (hRframes : names.length + 3 < R.frames) (hRlocals : (rest.map fun v => v.category).sum + (13 * (names.length + 1) + 43) ≤ R.locals) (hRcells : cells + 1 ≤ R.cells) (hRslots : slots + 6 ≤ R.slots) (hlocks : meth.locks = false)
    (hx : ∀ t : State, s.vm.Alike t.vm → H.size ≤ t.heap.size → (∀ q : Nat, q < H.size → t.heap[q]? = H[q]?) → XC cls s t)
    (hf : ∀ z ∈ locs, free z.base) (hc : cells + 1 ≤ mc) (hs : slots + 6 ≤ ms) :
    W p l e R s m args below meth c H locs cells slots (vx_MQ below Qc XC args s mc ms free) (F0 m pc ls rest) := by
  intro T hT X
  have htr : e.platform.stackTraces = false := (show e.platform.stackTraces = l.stackTraces by rw [X.admits.platform]).trans hl
  have Y := vx_rebase X (R' := { frames := R.frames, locals := R.locals, cells := 1, slots := 6 }) (Nat.le_refl _) (Nat.le_refl _) hRcells hRslots
  obtain ⟨s', hA⟩ : ∃ z, z = (T.setVm s.vm).setFrames (.invoking m args :: below) := ⟨_, rfl⟩
  rw [← hA] at Y
  have hvm : s'.vm = s.vm := by rw [hA]; rfl
  have hhp : s'.heap = H := by rw [hA]; exact hT
  have hW0 : s.WarmedH s'.vm := by rw [hvm]; exact State.WarmedH.refl s
  have hat' : ∀ w ∈ vx_atS own ic cls names, w.before args s' = true := fun w hw => vx_ot_at hW0 hvm.symm (hgood w (List.mem_cons_of_mem _ (List.mem_cons_of_mem _ hw))) (hat w hw)
  have hk' : (Cond.classLink own ik cls).before args s' = true := vx_ot_at hW0 hvm.symm (hgood _ List.mem_cons_self) hk
  have hini' : (Cond.initialized cls).before args s' = true := vx_ot_at hW0 hvm.symm (hgood _ (List.mem_cons_of_mem _ List.mem_cons_self)) hini
  have hU' : vx_Zq Bundle.tN "UNASSIGNED_STACK" Bundle.steD A s' s'.heap := by rw [hhp]; exact vx_Zq.moved hW0.alike (hU.kept hS.2.1)
  have hN' : vx_Zq Bundle.tN "SUPPRESSED_SENTINEL" Bundle.listD A s' s'.heap := by rw [hhp]; exact vx_Zq.moved hW0.alike (hN.kept hS.2.1)
  have h : ∀ w ∈ Bundle.ownAtoms own ic cls names, w.before args s' = true := vx_own hat' (vx_isRefq hU'.1) (vx_isRefq hN'.1) hU'.2.word hN'.2.word
  have hown' : s'.vm.findClass own = some m.cls := by rw [hvm]; exact hown
  have hins : (Cond.instantiable cls 6).before args s' = true := h _ (by simp [Bundle.ownAtoms])
  obtain ⟨vm₁, cX, kX, hfX, hkX, -, -, X₁, st1⟩ := Y.newCold hexec (own := own) (C := cls) (index := ik) (n := 6) hown' hk' hins hini'
    (g := F0 m pc ls rest) rfl (by rw [hb]; exact d0) (Nat.le_refl _) (Nat.le_refl _)
  generalize hT1 : (T.setVm vm₁).pushCell { cls := cX, slots := kX.instanceTypes.map defaultValue, vm := .none } = T1 at X₁ st1
  have hcat : (Value.ref T.heap.size).category = 1 := rfl
  have hcellA : T1.heap[T.heap.size]? = some (freshCell cX kX) := by rw [← hT1]; exact State.heap_pushCell_size _ _
  have d3' : decode c.code (pc + 3) = .ok (.dup, 1) := by rw [hb]; exact d3
  have d4' : decode c.code (pc + 4) = .ok (.ldc is, 2) := by rw [hb]; exact d4
  have hstr' : vk_R own is text sa s' := vk_R.warm hW0 hstr
  obtain ⟨U, hsteps, hrun, hend, hW, hsame, ce, hce, hO⟩ := X₁.ctorThrowS hexec htr (own := own) (cls := cls) (names := names) (ic := ic) hown' hcls hnames h (fun x hx => nomatch hx) hfX hkX hcellA (by rw [hhp, hT]; exact Nat.le_refl _) (msg := .ref sa) rfl
    (g := { method := m, pc := pc + 6, locals := ls, stack := .ref sa :: .ref T.heap.size :: .ref T.heap.size :: rest, locked := none }) rfl hsize rfl rfl (rest := rest) rfl
    (by rw [hb]; exact d6) (by rw [hb]; exact d9) hout hRframes (by simp only [List.map_cons, List.sum_cons, hcat]; omega) hlocks
  obtain ⟨f1, f2⟩ := vx_frame hsame
  rw [hhp] at f1 f2
  have hWs : s.WarmedH U.vm := State.WarmedH.trans hW0 hW
  have hcl : s.vm.findClass cls = some ce.cls := by
    have h9 := hO.cls
    rw [hvm] at h9
    exact h9
  have hall : s.sameButNew ({ U with vm := s.vm } : State) locs mc ms := by
    subst hA
    obtain ⟨e1, e2⟩ := hsame
    rw [State.setFrames_setFrames] at e1
    have h2 : (T.setVm s.vm).sameButNew ({ U with vm := s.vm } : State) [] (0 + 1) (0 + 6) := ⟨e1, e2⟩
    have h3 := X.same.trans h2
    rw [List.append_nil] at h3
    exact h3.mono hc hs
  refine ⟨U, ?_, .threw T.heap.size, hrun, hend, Or.inr ⟨T.heap.size, rfl, cls, ce, locs, hx U hWs.alike f1 (fun q hq => f2 q hq (fun z hz => nomatch hz)), hce, hO.vm, hcl, hWs, hall, hf⟩⟩
  refine st1 _ ?_
  show Steps p.tables e below (T1.setTop { method := m, pc := pc + 3, locals := ls, stack := .ref T.heap.size :: rest, locked := none }) _
  jvm_step X₁.here [X₁.here.top, hexec, d3', Value.category]
  exact X₁.ldcString hexec (own := own) (text := text) (index := is) (a := sa) hown' hstr'.1 hstr'.2
    (g := { method := m, pc := pc + 4, locals := ls, stack := .ref T.heap.size :: .ref T.heap.size :: rest, locked := none }) rfl d4' _ hsteps
/-- 'throw new E("text")', the text by a wide index -/
theorem vx_throwSW {cc : ByteArray} {pc : Nat} (hexec : p.tables.exec = Jvm.exec) (hb : c.code = cc) (hl : l.stackTraces = false) {own cls text : String} {names : List String} {ik is ic mc ms sa : Nat} {A : Nat → Prop}
    (hown : s.vm.findClass own = some m.cls) (hcls : Bundle.fit cls = true) (hnames : ∀ n ∈ names, Bundle.fit n = true)
    (hk : (Cond.classLink own ik cls).before args s = true) (hini : (Cond.initialized cls).before args s = true) (hstr : vk_R own is text sa s) (hat : ∀ w ∈ vx_atS own ic cls names, w.before args s = true)
    (hgood : ∀ w ∈ Cond.classLink own ik cls :: Cond.initialized cls :: vx_atS own ic cls names, vx_ot w = true)
    (hU : vx_Zq Bundle.tN "UNASSIGNED_STACK" Bundle.steD A s s.heap) (hN : vx_Zq Bundle.tN "SUPPRESSED_SENTINEL" Bundle.listD A s s.heap) (hS : va_S A s.heap H locs) (hsize : ls.size = c.maxLocals)
    (d0 : decode cc pc = .ok (.new ik, 3)) (d3 : decode cc (pc + 3) = .ok (.dup, 1)) (d4 : decode cc (pc + 4) = .ok (.ldc_w is, 3)) (d7 : decode cc (pc + 7) = .ok (.invokespecial ic, 3)) (d10 : decode cc (pc + 10) = .ok (.athrow, 1))
    (hout : ∀ x ∈ c.exceptionTable.toList, covers x (pc + 10) = false)
    (hRframes : names.length + 3 < R.frames) (hRlocals : (rest.map fun v => v.category).sum + (13 * (names.length + 1) + 43) ≤ R.locals) (hRcells : cells + 1 ≤ R.cells) (hRslots : slots + 6 ≤ R.slots) (hlocks : meth.locks = false)
    (hx : ∀ t : State, s.vm.Alike t.vm → H.size ≤ t.heap.size → (∀ q : Nat, q < H.size → t.heap[q]? = H[q]?) → XC cls s t)
    (hf : ∀ z ∈ locs, free z.base) (hc : cells + 1 ≤ mc) (hs : slots + 6 ≤ ms) :
    W p l e R s m args below meth c H locs cells slots (vx_MQ below Qc XC args s mc ms free) (F0 m pc ls rest) := by
  intro T hT X
  have htr : e.platform.stackTraces = false := (show e.platform.stackTraces = l.stackTraces by rw [X.admits.platform]).trans hl
  have Y := vx_rebase X (R' := { frames := R.frames, locals := R.locals, cells := 1, slots := 6 }) (Nat.le_refl _) (Nat.le_refl _) hRcells hRslots
  obtain ⟨s', hA⟩ : ∃ z, z = (T.setVm s.vm).setFrames (.invoking m args :: below) := ⟨_, rfl⟩
  rw [← hA] at Y
  have hvm : s'.vm = s.vm := by rw [hA]; rfl
  have hhp : s'.heap = H := by rw [hA]; exact hT
  have hW0 : s.WarmedH s'.vm := by rw [hvm]; exact State.WarmedH.refl s
  have hat' : ∀ w ∈ vx_atS own ic cls names, w.before args s' = true := fun w hw => vx_ot_at hW0 hvm.symm (hgood w (List.mem_cons_of_mem _ (List.mem_cons_of_mem _ hw))) (hat w hw)
  have hk' : (Cond.classLink own ik cls).before args s' = true := vx_ot_at hW0 hvm.symm (hgood _ List.mem_cons_self) hk
  have hini' : (Cond.initialized cls).before args s' = true := vx_ot_at hW0 hvm.symm (hgood _ (List.mem_cons_of_mem _ List.mem_cons_self)) hini
  have hU' : vx_Zq Bundle.tN "UNASSIGNED_STACK" Bundle.steD A s' s'.heap := by rw [hhp]; exact vx_Zq.moved hW0.alike (hU.kept hS.2.1)
  have hN' : vx_Zq Bundle.tN "SUPPRESSED_SENTINEL" Bundle.listD A s' s'.heap := by rw [hhp]; exact vx_Zq.moved hW0.alike (hN.kept hS.2.1)
  have h : ∀ w ∈ Bundle.ownAtoms own ic cls names, w.before args s' = true := vx_own hat' (vx_isRefq hU'.1) (vx_isRefq hN'.1) hU'.2.word hN'.2.word
  have hown' : s'.vm.findClass own = some m.cls := by rw [hvm]; exact hown
  have hins : (Cond.instantiable cls 6).before args s' = true := h _ (by simp [Bundle.ownAtoms])
  obtain ⟨vm₁, cX, kX, hfX, hkX, -, -, X₁, st1⟩ := Y.newCold hexec (own := own) (C := cls) (index := ik) (n := 6) hown' hk' hins hini'
    (g := F0 m pc ls rest) rfl (by rw [hb]; exact d0) (Nat.le_refl _) (Nat.le_refl _)
  generalize hT1 : (T.setVm vm₁).pushCell { cls := cX, slots := kX.instanceTypes.map defaultValue, vm := .none } = T1 at X₁ st1
  have hcat : (Value.ref T.heap.size).category = 1 := rfl
  have hcellA : T1.heap[T.heap.size]? = some (freshCell cX kX) := by rw [← hT1]; exact State.heap_pushCell_size _ _
  have d3' : decode c.code (pc + 3) = .ok (.dup, 1) := by rw [hb]; exact d3
  have d4' : decode c.code (pc + 4) = .ok (.ldc_w is, 3) := by rw [hb]; exact d4
  have hstr' : vk_R own is text sa s' := vk_R.warm hW0 hstr
  obtain ⟨U, hsteps, hrun, hend, hW, hsame, ce, hce, hO⟩ := X₁.ctorThrowS hexec htr (own := own) (cls := cls) (names := names) (ic := ic) hown' hcls hnames h (fun x hx => nomatch hx) hfX hkX hcellA (by rw [hhp, hT]; exact Nat.le_refl _) (msg := .ref sa) rfl
    (g := { method := m, pc := pc + 7, locals := ls, stack := .ref sa :: .ref T.heap.size :: .ref T.heap.size :: rest, locked := none }) rfl hsize rfl rfl (rest := rest) rfl
    (by rw [hb]; exact d7) (by rw [hb]; exact d10) hout hRframes (by simp only [List.map_cons, List.sum_cons, hcat]; omega) hlocks
  obtain ⟨f1, f2⟩ := vx_frame hsame
  rw [hhp] at f1 f2
  have hWs : s.WarmedH U.vm := State.WarmedH.trans hW0 hW
  have hcl : s.vm.findClass cls = some ce.cls := by
    have h9 := hO.cls
    rw [hvm] at h9
    exact h9
  have hall : s.sameButNew ({ U with vm := s.vm } : State) locs mc ms := by
    subst hA
    obtain ⟨e1, e2⟩ := hsame
    rw [State.setFrames_setFrames] at e1
    have h2 : (T.setVm s.vm).sameButNew ({ U with vm := s.vm } : State) [] (0 + 1) (0 + 6) := ⟨e1, e2⟩
    have h3 := X.same.trans h2
    rw [List.append_nil] at h3
    exact h3.mono hc hs
  refine ⟨U, ?_, .threw T.heap.size, hrun, hend, Or.inr ⟨T.heap.size, rfl, cls, ce, locs, hx U hWs.alike f1 (fun q hq => f2 q hq (fun z hz => nomatch hz)), hce, hO.vm, hcl, hWs, hall, hf⟩⟩
  refine st1 _ ?_
  show Steps p.tables e below (T1.setTop { method := m, pc := pc + 3, locals := ls, stack := .ref T.heap.size :: rest, locked := none }) _
  jvm_step X₁.here [X₁.here.top, hexec, d3', Value.category]
  exact X₁.ldcStringW hexec (own := own) (text := text) (index := is) (a := sa) hown' hstr'.1 hstr'.2
    (g := { method := m, pc := pc + 4, locals := ls, stack := .ref T.heap.size :: .ref T.heap.size :: rest, locked := none }) rfl d4' _ hsteps
end Ends
section Bodies
variable {l : Launch}
theorem vx_ofW {y : MethodName} {ws ws' : List Cond} {rm : Room} {Pc : Array Value → State → Prop} {Qc : Array Value → State → Outcome → State → Prop} {XC : String → State → State → Prop} {mc ms : Nat} {free : Addr → Prop} {cc : ByteArray} {maxL : Nat} {ret : Option FieldType}
    (hy : plainName y.cls = true) (hw : ws = Cond.code y cc maxL ret :: ws')
    (body : ∀ p e s m args below meth c s₁, BodyLoose p l y (headSpec ws rm) cc maxL ret e s m args below meth c s₁ → c.maxLocals = maxL → (∀ x ∈ c.exceptionTable.toList, False) → Pc args s →
      W p l e (headSpec ws rm).room s m args below meth c s.heap [] 0 0 (vx_MQ below Qc XC args s mc ms free) (entryFrame m args maxL)) : vx_Met l y ws rm Pc Qc XC mc ms free := by
  refine MetFree.of_bodyS (code := cc) (maxLocals := maxL) (ret := ret) hy ?_ ?_
  · intro args s m h hn
    obtain ⟨meth, c, h1, h2, h3, h4, h5, h6, -, -⟩ := Cond.code_spec hn (atoms_spec (ws := ws) h _ (by rw [hw]; exact List.mem_cons_self))
    exact ⟨meth, c, h1, h2, h3, h4, h5, h6⟩
  · intro p e s m args below meth c s₁ B hml hP _
    have hh0 : s₁.heap = s.heap := by rw [B.state]; rfl
    have ht : ∀ x ∈ c.exceptionTable.toList, False := by
      obtain ⟨meth9, c9, h1, h2, -, -, -, -, h7, -⟩ := Cond.code_spec B.named (atoms_spec (ws := ws) B.pre _ (by rw [hw]; exact List.mem_cons_self))
      cases Option.some.inj (h1.symm.trans B.method)
      cases Option.some.inj (h2.symm.trans (Stand.of_body B).code)
      intro x hx
      rw [Array.isEmpty_iff.mp h7] at hx
      cases hx
    obtain ⟨t, a1, o, b1, b2, b3⟩ := body p e s m args below meth c s₁ B hml ht hP s₁ hh0 (Stand.of_body B)
    exact ⟨t, o, a1, b1, b2, b3⟩
/-- the table of a body with handlers -/
theorem vx_table {p : Program} {x y : MethodName} {S : Spec} {cc bytes : ByteArray} {maxL maxL' : Nat} {ret ret' : Option FieldType} {e : Env} {s s₁ : State} {m : MethodId} {args : Array Value} {below : List Frame} {meth : Method} {c : Code} {hh : List (Nat × Nat × Nat × Nat)}
    (B : BodyLoose p l y S cc maxL ret e s m args below meth c s₁) (h : (Cond.codeWith y bytes maxL' ret' hh).before args s = true) : c.exceptionTable.toList = tableOf hh := by
  obtain ⟨m9, meth9, c9, hn9, h1, h2, -, -, h6, -⟩ := Cond.codeWith_spec h
  cases Option.some.inj (hn9.symm.trans B.named)
  cases Option.some.inj (h1.symm.trans B.method)
  cases Option.some.inj (h2.symm.trans (Stand.of_body B).code)
  rw [← h6, table_eq]
end Bodies
end VXA
/-! ===== END ===== -/
/-! ===== BEGIN a static call of a method with an exception table ===== -/
section VXS
variable {p : Program} {l : Launch} {e : Env} {R : Room} {s : State} {m : MethodId} {args : Array Value} {below : List Frame} {meth : Method} {c : Code} {T : State} {H : Heap} {locs : List Loc} {cells slots : Nat}
abbrev vx_CSW (R : Room) (s : State) (args : Array Value) (own : String) (index : Nat) (y : MethodName) (bytes : ByteArray) (maxL : Nat) (ret : Option FieldType) (hh : List (Nat × Nat × Nat × Nat)) (ws : List Cond) (rm : Room) (mc ms n : Nat) : Prop :=
  (rm.cells = mc ∧ rm.slots = ms ∧ rm.frames + 1 ≤ R.frames ∧ 8 + (maxL + 11) + rm.locals ≤ R.locals ∧ (∀ w ∈ ws, ∀ (a' : Array Value) (U : State), s.WarmedH U.vm → w.before a' U = true) ∧ Cond.codeWith y bytes maxL ret hh ∈ ws) ∧
  (Cond.codeWith y bytes maxL ret hh).before args s = true ∧ (Cond.initialized y.cls).before args s = true ∧ (y.cls ≠ "java/lang/invoke/MethodHandle" ∧ y.cls ≠ "java/lang/invoke/VarHandle") ∧
  (∀ sig, parseMethodDescriptor y.desc = some sig → n = sig.parameters.length) ∧ (Cond.methodLink own index y).before args s = true ∧ (Cond.static y).before args s = true
theorem vx_cwSW {own : String} {index maxL mc ms : Nat} {y : MethodName} {bytes : ByteArray} {ret : Option FieldType} {hh : List (Nat × Nat × Nat × Nat)} {Ts ws ws' : List Cond} {rm : Room} (n : Nat) (ht : ∀ w ∈ Ts, w.before args s = true) (hT : GoodIn Ts (va_wsS own index y ws)) (hw : ws = Cond.codeWith y bytes maxL ret hh :: ws') (hrc : rm.cells = mc) (hrs : rm.slots = ms)
    (hd : y.cls ≠ "java/lang/invoke/MethodHandle" ∧ y.cls ≠ "java/lang/invoke/VarHandle" ∧ (parseMethodDescriptor y.desc).map (fun d => d.parameters.length) = some n) (hR : rm.frames + 1 ≤ R.frames ∧ 8 + (maxL + 11) + rm.locals ≤ R.locals) :
    vx_CSW R s args own index y bytes maxL ret hh ws rm mc ms n := by
  have ok : ∀ w ∈ va_wsS own index y ws, w.before args s = true := fun w h => ht w (hT w h).1
  have hG : GoodIn Ts ws := fun w h => hT w (by unfold va_wsS; exact List.mem_append_right _ h)
  have hc : Cond.codeWith y bytes maxL ret hh ∈ ws := by rw [hw]; exact List.mem_cons_self
  refine ⟨⟨hrc, hrs, hR.1, hR.2, pay_in ht hG, hc⟩, ht _ (hG _ hc).1, ok _ (by simp [va_wsS]), ⟨hd.1, hd.2.1⟩, fun sig h => ?_, ok _ (by simp [va_wsS]), ok _ (by simp [va_wsS])⟩
  have h2 := hd.2.2
  rw [h] at h2
  exact (Option.some.inj h2).symm
theorem vx_callSW (X : Stand p l e R s m args below meth c T locs cells slots) (hexec : p.tables.exec = Jvm.exec) {own : String} {index : Nat} {y : MethodName} {bytes : ByteArray} {maxL : Nat} {ret : Option FieldType} {hh : List (Nat × Nat × Nat × Nat)}
    (hown : s.vm.findClass own = some m.cls) (hlink : (Cond.methodLink own index y).before args s = true) (hstat : (Cond.static y).before args s = true) (hinit : (Cond.initialized y.cls).before args s = true)
    (hcode : (Cond.codeWith y bytes maxL ret hh).before args s = true) (hy : y.cls ≠ "java/lang/invoke/MethodHandle" ∧ y.cls ≠ "java/lang/invoke/VarHandle")
    {W9 : Nat} {Pre : Pt → Array Value → Prop} {Post : Pt → Array Value → Option Value → Pt → Prop} (hK : Back l R p e below s args y 3 W9 Pre Post)
    {g : JFrame} (hg : g.method = m) (hsize : g.locals.size = c.maxLocals) {argsL rest : List Value} (hlen : ∀ sig, parseMethodDescriptor y.desc = some sig → argsL.length = sig.parameters.length)
    (hstack : g.stack = argsL.reverse ++ rest) (hW : 2 * g.monitorRoom + (rest.map fun v => v.category).sum ≤ W9) (hdg : decode c.code g.pc = .ok (.invokestatic index, 3))
    (hpre : ∀ vm₁, s.WarmedH vm₁ → Pre ⟨T.setVm vm₁, locs, cells, slots⟩ argsL.toArray) :
    ∃ (v : Option Value) (vm₁ : Vm) (B : Pt), s.WarmedH vm₁ ∧ Stand p l e R s m args below meth c B.U B.locs B.cells B.slots ∧ Post ⟨T.setVm vm₁, locs, cells, slots⟩ argsL.toArray v B ∧
      ∀ target, Steps p.tables e below (B.U.setTop { g with pc := g.pc + 3, stack := v.toList ++ rest }) target → Steps p.tables e below (T.setTop g) target := by
  obtain ⟨mk, methM, cM, hnamed, hmethM, -, -, -, -, -, -, hsigM⟩ := Cond.codeWith_spec hcode
  have hstatic : methM.isStatic = true := Cond.static_spec hnamed hmethM hstat
  obtain ⟨kP, hkP, -⟩ := className_of_methodNamed hnamed
  have hinitP : kP.init = .initialized := Cond.initialized_spec (findClass_of_methodNamed hnamed) hkP hinit
  obtain ⟨vm₁, X₁, hstep₁⟩ := X.invokestatic hexec hown hlink hnamed hmethM hstatic hkP hinitP hy (g := g) hg (argsL := argsL) (rest := rest) (hlen _ hsigM) hstack hdg
  obtain ⟨v, B, X', hpost, hsteps⟩ := hK m meth c ⟨T.setVm vm₁, locs, cells, slots⟩ { g with stack := rest } (.invokestatic index) mk argsL.toArray X₁ hg hsize hdg hW (X₁.named hnamed) (hpre vm₁ X₁.warmed)
  exact ⟨v, vm₁, B, X₁.warmed, X', hpost, fun target h => hstep₁ _ fun acts => by rw [doInvoke_state]; exact hsteps.trans h⟩
theorem vx_runSW {y : MethodName} {bytes cc : ByteArray} {maxL nL mc ms n index : Nat} {ret : Option FieldType} {hh : List (Nat × Nat × Nat × Nat)} {ws : List Cond} {rm : Room} {Pc : Array Value → State → Prop} {Qc : Array Value → State → Outcome → State → Prop} {free : Addr → Prop} {Ts : List Cond} {own : String} {As rest : List Value} {g : JFrame}
    (S : CallFix p m c cc nL s args Ts own) (hM : Met l y ws rm Pc Qc mc ms free) (cw : vx_CSW R s args own index y bytes maxL ret hh ws rm mc ms n) (hp : PreS s H Pc As)
    (hg : g.method = m) (hn : As.length = n) (hsize : g.locals.size = nL) (hstack : g.stack = As.reverse ++ rest) (hW : 2 * g.monitorRoom + (rest.map fun v => v.category).sum ≤ 8) (hdg : decode cc g.pc = .ok (.invokestatic index, 3)) (hf : cells + mc ≤ R.cells ∧ slots + ms ≤ R.slots) :
    va_Run p l e R s m args below meth c H locs cells slots mc ms g rest (Qc As.toArray) (free) := by
  obtain ⟨⟨hrc, hrs, hfr, hlo, hws, hcw⟩, hcode, hini, hy, hlen, hl, hstt⟩ := cw
  have hK : Back l R p e below s args y 3 8 (PreOf R mc ms Pc) (PostOf Qc mc ms free) := va_backW (hh := hh) (bytes := bytes) (maxL := maxL) (ret := ret) hM hp.1 hrc hrs hfr hlo hws hcw (fun a' U hW => word_at hW (Or.inl (by first | rfl | simp [Cond.onTables, Cond.keeps, Cond.steady])) hini)
  obtain ⟨hx, hb, hml, ho, -⟩ := S
  intro T hT X
  obtain ⟨v, vm₁, ⟨U', l2, c2, s2⟩, hW₁, X', ⟨g', mk, t, L, e1, e2, hq, h1, hL, h2, h3⟩, st⟩ := vx_callSW X hx (hh := hh) (bytes := bytes) (maxL := maxL) (ret := ret) ho hl hstt hini hcode hy hK hg (hsize.trans hml.symm) (argsL := As) (rest := rest) (fun sig h => hn.trans (hlen sig h)) hstack hW (by rw [hb]; exact hdg)
    (fun vm₁ hW₁ => ⟨hf.1, hf.2, hp.2 (T.setVm vm₁) hT hW₁⟩)
  dsimp only [Pt.U, Pt.locs, Pt.cells, Pt.slots] at X' e1 e2 h1 h2 h3 st
  subst h1; subst h2; subst h3
  exact ⟨v, (T.setVm vm₁).calling g' mk As.toArray, t, U', L, hT, X', hL, e1, e2, hq, st⟩
/-- not caught here, past rows that name other classes: it goes on to the caller -/
theorem vx_outP {p : Program} {l : Launch} {e : Env} {R : Room} {s : State} {m : MethodId} {args : Array Value} {below : List Frame} {meth : Method} {c : Code} {H : Heap} {locs : List Loc} {cells slots : Nat} {free : Addr → Prop} {ls : Array Slot} {rest : List Value} {Qc : Array Value → State → Outcome → State → Prop} {XC : String → State → State → Prop}
    {pc : Nat} {own E : String} {ce : Cell} {q : Addr} {mc ms : Nat} (hown : s.vm.findClass own = some m.cls) (hlocks : meth.locks = false)
    (hpass : ∀ z ∈ c.exceptionTable.toList, covers z pc = false ∨ (z.catchType ≠ 0 ∧ ∃ nm : String, (Cond.classLink own z.catchType nm).before args s = true ∧ va_Nc E nm s)) (hcell : H[q]? = some ce) (hv : ce.vm = .none) (hcl : s.vm.findClass E = some ce.cls)
    (hx : ∀ t : State, t.heap = H → s.vm.Alike t.vm → XC E s t) (hf : ∀ z ∈ locs, free z.base) (hc : cells ≤ mc) (hs : slots ≤ ms) :
    vx_W p l e R s m args below meth c H locs cells slots (vx_MQ below Qc XC args s mc ms free) (F0 m pc ls rest) q := by
  intro T hT X
  have hpl : e.platform.magicAccessors = ({} : Platform).magicAccessors := by rw [X.admits.platform]
  obtain ⟨vm', hW', X', st⟩ := X.outThrough hlocks q (g := F0 m pc ls rest) rfl rfl rfl (cell := ce) (by rw [hT]; exact hcell) (by rw [hv]; rfl)
    (by obtain ⟨k9, h9, -⟩ := Vm.findClass_spec hcl; exact ⟨k9, h9⟩) (fun z hz => by
      rcases hpass z hz with h | ⟨hz0, nm, hl1, hn1⟩
      · exact Or.inl h
      · obtain ⟨c6, hc6, hcl6⟩ := Cond.classLink_spec hown hl1 e.platform hpl
        obtain ⟨a8, b8, h1, h2, h3⟩ := hn1
        cases Option.some.inj (h1.symm.trans hcl)
        cases Option.some.inj (h2.symm.trans hc6)
        exact Or.inr ⟨hz0, _, hcl6, h3⟩)
  obtain ⟨g₀, hfr⟩ := X'.frames_eq
  have hcell9 : ((T.setVm vm').setFrames (.throwing q :: below)).heap[q]? = some ce := by
    show T.heap[q]? = some ce
    rw [hT]; exact hcell
  have hend : Ended ((T.setVm vm').setFrames (.throwing q :: below)) below (.threw q) := State.frames_setFrames _ (State.cur_lt_of_frames hfr)
  refine ⟨(T.setVm vm').setFrames (.throwing q :: below), ?_, .threw q, X'.here.running, hend, Or.inr ⟨q, rfl, E, ce, locs, hx _ hT (X'.ends _).1.alike, hcell9, hv, hcl, (X'.ends _).1, (X'.ends _).2.mono hc hs, hf⟩⟩
  rw [X.pushThrowing_eq]
  exact st
/-- a thing of a world lies in the heap -/
theorem vx_lt {D : va_G} {cl : List vw_C} {ws : va_W} {H1 : Heap} (h : va_P D cl ws H1) {k : Nat} {q : Nat × va_E} (hk : ws[k]? = some q) : q.1 < H1.size := (h k q hk).lt
end VXS
/-! ===== END ===== -/
/-! ===== BEGIN methods with a table of their own: called by a name, returning or throwing ===== -/
section VXH
/-! vx_backW, vx_callVX, vx_callSX, vx_callVW, vx_runVW, vx_runVX, vx_runSX, vx_ofWH follow the same proofs as their sisters above (Free/Laws.lean, Shelf42/LK1.lean); vx_outP calls Shelf42/NT130.lean (outThrough). -/
section
variable {l : Launch} {R : Room} {p : Program} {e : Env} {below : List Frame} {s : State} {sargs : Array Value} {y : MethodName} {len W9 : Nat}
theorem vx_backW {ws : List Cond} {rm : Room} {Pc : Array Value → State → Prop} {Qc : Array Value → State → Outcome → State → Prop} {XC : String → State → State → Prop} {mc ms : Nat} {free : Addr → Prop} {bytes : ByteArray} {maxL : Nat} {ret : Option FieldType} {hh : List (Nat × Nat × Nat × Nat)}
    (hM : vx_Met l y ws rm Pc Qc XC mc ms free) (hblind : FrameBlind Pc) (hrc : rm.cells = mc) (hrs : rm.slots = ms)
    (hframes : rm.frames + 1 ≤ R.frames) (hlocals : W9 + (maxL + 11) + rm.locals ≤ R.locals)
    (hws : ∀ w ∈ ws, ∀ a' U, s.WarmedH U.vm → w.before a' U = true) (hcode : Cond.codeWith y bytes maxL ret hh ∈ ws) (hinit : ∀ a' U, s.WarmedH U.vm → (Cond.initialized y.cls).before a' U = true) :
    vx_Back l R p e below s sargs y len W9 (PreOf R mc ms Pc) (PostOf Qc mc ms free) (vx_Post XC mc ms free) := by
  intro m meth c A g ig mk a X hg hsize hdg hW hn hp
  have h1 : (headSpec ws rm).pre.before a A.U = true := atoms_intro fun w hw => hws w hw _ _ X.warmed
  have h2 : (Cond.codeWith y bytes maxL ret hh).before a A.U = true := hws _ hcode _ _ X.warmed
  have h3 : (Cond.initialized y.cls).before a A.U = true := hinit _ _ X.warmed
  have h4 : A.cells + (headSpec ws rm).room.cells ≤ R.cells := by rw [show (headSpec ws rm).room.cells = mc from hrc]; exact hp.1
  have h5 : A.slots + (headSpec ws rm).room.slots ≤ R.slots := by rw [show (headSpec ws rm).room.slots = ms from hrs]; exact hp.2.1
  have hPc : Pc a (A.U.calling g mk a) := hblind _ _ _ _ hp.2.2
  obtain ⟨U, Ls, c0, s0⟩ := A
  dsimp only [Pt.U, Pt.locs, Pt.cells, Pt.slots] at h1 h2 h3 h4 h5 X hn hPc ⊢
  obtain ⟨m9, methY, cY, hn9, hmY, hcY, -, hlY, -⟩ := Cond.codeWith_spec h2
  cases Option.some.inj (hn9.symm.trans hn)
  obtain ⟨kY, hkY, -⟩ := className_of_methodNamed hn
  have hinitY : kY.init = .initialized := Cond.initialized_spec (findClass_of_methodNamed hn) hkY h3
  have h : At U g.method c below := by rw [hg]; exact X.here
  have hlocals9 : W9 + (maxL + 11) + (headSpec ws rm).room.locals ≤ R.locals := hlocals
  have happ : (headSpec ws rm).appliesLoose y e.platform (U.calling g mk a) = true :=
    Spec.appliesLoose_calling (g := g) h hdg hn hkY hinitY
      (X.room_calling (g := g) (R' := (headSpec ws rm).room) hsize hmY hcY hframes (by rw [hlY]; omega) h4 h5) h1
  obtain ⟨mid, hmid⟩ := h.above
  have hfr : (U.setTop g).frames = (.java g :: mid) ++ below := by rw [State.frames_setTop' g h.top, hmid]; rfl
  obtain ⟨o, s₂, hsteps, -, hend, hq⟩ := Steps.callFree hM p X.admits X.cas X.clock (acts := []) hfr happ hPc trivial
  have hq' : vx_Q Qc XC mc ms free a (U.calling g mk a) o s₂ := hq
  rw [State.frames_setTop' g h.top] at hend
  obtain ⟨g₀, hg0⟩ := Option.isSome_iff_exists.mp h.top
  obtain ⟨r, hr⟩ := State.topJava?_eq_some.mp hg0
  have hr' : (({ U with heap := s₂.heap, slotsUsed := s₂.slotsUsed } : State).setVm s₂.vm).frames = .java g₀ :: r := hr
  rcases hq' with ⟨hqc, L, hfe, hL⟩ | ⟨q, rfl, E, ce, L, hx, hce, hcv, hcl, hW₂, hsm, hL⟩
  · obtain ⟨⟨v, rfl⟩, hW₂, e2, q2, q3, q4, q5, q6⟩ := id hfe
    have e3 : s₂ = ({ (U.calling g mk a).setFrames s₂.frames with heap := s₂.heap, slotsUsed := s₂.slotsUsed } : State).setVm s₂.vm := by
      have : s₂ = ({ s₂ with vm := (U.calling g mk a).vm } : State).setVm s₂.vm := rfl
      rw [e2] at this
      exact this
    obtain ⟨c₂, i₂, len₂, hc₂, hd₂, hf₂⟩ := hend
    have hW' : U.WarmedH s₂.vm := hW₂
    have hcc : c₂ = c := by
      have h1 : s₂.code? g.method = U.code? g.method := by
        rw [State.code?_eq, State.code?_eq, hW'.alike.method?]
      exact Option.some.inj (hc₂.symm.trans (h1.trans h.code))
    subst hcc
    have hlen : len₂ = len := by rw [hdg] at hd₂; cases hd₂; rfl
    subst hlen
    have hs₂ : s₂ = (({ U with heap := s₂.heap, slotsUsed := s₂.slotsUsed } : State).setVm s₂.vm).setTop { g with pc := g.pc + len₂, stack := v.toList ++ g.stack } := by
      refine e3.trans ?_
      rw [hf₂, State.calling_eq h.top, State.setFrames_setFrames, State.setTop_of_frames _ hr', hr]
      rfl
    have hsame : U.sameButNew ({ U with heap := s₂.heap, slotsUsed := s₂.slotsUsed } : State) L mc ms := by
      refine ⟨?_, q2, q3, q4, q5, q6⟩
      obtain ⟨t, ht, -⟩ := State.frames_cons hr
      show ({ U with heap := s₂.heap, slotsUsed := s₂.slotsUsed } : State) = { U.setFrames U.frames with heap := s₂.heap, slotsUsed := s₂.slotsUsed }
      rw [State.setFrames_self ht]
    subst hg
    refine Or.inl ⟨v, ⟨(({ U with heap := s₂.heap, slotsUsed := s₂.slotsUsed } : State).setVm s₂.vm), Ls ++ L, c0 + mc, s0 + ms⟩,
      ⟨X.admits, X.cas, X.clock, X.frames, X.room, X.hears, X.method, X.code, (X.here.setHeapUsed s₂.heap s₂.slotsUsed).setVm hW'.alike, X.tail, State.WarmedH.trans X.warmed hW', X.limits, X.bytes, X.same.trans (hsame.setVm s.vm)⟩,
      ⟨g, mk, s₂, L, rfl, rfl, hqc, rfl, hL, rfl, rfl⟩, ?_⟩
    show Steps p.tables e below _ ((({ U with heap := s₂.heap, slotsUsed := s₂.slotsUsed } : State).setVm s₂.vm).setTop { g with pc := g.pc + len₂, stack := v.toList ++ g.stack })
    rw [← hs₂]
    exact hsteps
  · obtain ⟨e2, q2, q3, q4, q5, q6⟩ := id hsm
    have e3 : s₂ = ({ (U.calling g mk a).setFrames s₂.frames with heap := s₂.heap, slotsUsed := s₂.slotsUsed } : State).setVm s₂.vm := by
      have : s₂ = ({ s₂ with vm := (U.calling g mk a).vm } : State).setVm s₂.vm := rfl
      rw [e2] at this
      exact this
    have hf₂ : s₂.frames = .throwing q :: .java g :: U.frames.tail := hend
    have hW' : U.WarmedH s₂.vm := hW₂
    have hs₂ : s₂ = ((({ U with heap := s₂.heap, slotsUsed := s₂.slotsUsed } : State).setVm s₂.vm).setTop g).pushFrame (.throwing q) := by
      refine e3.trans ?_
      rw [hf₂, State.calling_eq h.top, State.setFrames_setFrames, State.pushFrame, State.frames_setTop _ hr', State.setTop_of_frames _ hr', State.setFrames_setFrames, hr]
      rfl
    have hsame : U.sameButNew ({ U with heap := s₂.heap, slotsUsed := s₂.slotsUsed } : State) L mc ms := by
      refine ⟨?_, q2, q3, q4, q5, q6⟩
      obtain ⟨t, ht, -⟩ := State.frames_cons hr
      show ({ U with heap := s₂.heap, slotsUsed := s₂.slotsUsed } : State) = { U.setFrames U.frames with heap := s₂.heap, slotsUsed := s₂.slotsUsed }
      rw [State.setFrames_self ht]
    subst hg
    refine Or.inr ⟨q, ⟨(({ U with heap := s₂.heap, slotsUsed := s₂.slotsUsed } : State).setVm s₂.vm), Ls ++ L, c0 + mc, s0 + ms⟩,
      ⟨X.admits, X.cas, X.clock, X.frames, X.room, X.hears, X.method, X.code, (X.here.setHeapUsed s₂.heap s₂.slotsUsed).setVm hW'.alike, X.tail, State.WarmedH.trans X.warmed hW', X.limits, X.bytes, X.same.trans (hsame.setVm s.vm)⟩,
      ⟨g, mk, s₂, L, E, ce, rfl, rfl, hx, hce, hcv, hcl, rfl, hL, rfl, rfl⟩, ?_⟩
    show Steps p.tables e below _ (((({ U with heap := s₂.heap, slotsUsed := s₂.slotsUsed } : State).setVm s₂.vm).setTop g).pushFrame (.throwing q))
    rw [← hs₂]
    exact hsteps
end
variable {p : Program} {l : Launch} {e : Env} {R : Room} {s : State} {m : MethodId} {args : Array Value} {below : List Frame} {meth : Method} {c : Code} {T : State} {H : Heap} {locs : List Loc} {cells slots : Nat}
theorem vx_callVX (X : Stand p l e R s m args below meth c T locs cells slots) (hexec : p.tables.exec = Jvm.exec) {own C : String} {index : Nat} {y : MethodName} {bytes : ByteArray} {maxL : Nat} {ret : Option FieldType} {hh : List (Nat × Nat × Nat × Nat)}
    (hown : s.vm.findClass own = some m.cls) (hlink : (Cond.methodLink own index y).before args s = true) (hinst : (Cond.instanceMethod y).before args s = true) (hsel : (Cond.selects C y y).before args s = true)
    (hcode : (Cond.codeWith y bytes maxL ret hh).before args s = true) (hy : y.cls ≠ "java/lang/invoke/MethodHandle" ∧ y.cls ≠ "java/lang/invoke/VarHandle")
    {W9 : Nat} {Pre : Pt → Array Value → Prop} {Post : Pt → Array Value → Option Value → Pt → Prop} {PostX : Pt → Array Value → Addr → Pt → Prop} (hK : vx_Back l R p e below s args y 3 W9 Pre Post PostX)
    {b : Addr} {cellB : Cell} (hcell : T.heap[b]? = some cellB) (hobj : cellB.vm.isStatics = false) (hcls : s.vm.findClass C = some cellB.cls)
    {g : JFrame} (hg : g.method = m) (hsize : g.locals.size = c.maxLocals) {argsL rest : List Value} (hlen : ∀ sig, parseMethodDescriptor y.desc = some sig → argsL.length = sig.parameters.length)
    (hstack : g.stack = argsL.reverse ++ .ref b :: rest) (hW : 2 * g.monitorRoom + (rest.map fun v => v.category).sum ≤ W9) (hdg : decode c.code g.pc = .ok (.invokevirtual index, 3))
    (hpre : ∀ vm₁, s.WarmedH vm₁ → Pre ⟨T.setVm vm₁, locs, cells, slots⟩ (Value.ref b :: argsL).toArray) :
    (∃ (v : Option Value) (vm₁ : Vm) (B : Pt), s.WarmedH vm₁ ∧ Stand p l e R s m args below meth c B.U B.locs B.cells B.slots ∧ Post ⟨T.setVm vm₁, locs, cells, slots⟩ (Value.ref b :: argsL).toArray v B ∧
      ∀ target, Steps p.tables e below (B.U.setTop { g with pc := g.pc + 3, stack := v.toList ++ rest }) target → Steps p.tables e below (T.setTop g) target) ∨
    (∃ (q : Addr) (vm₁ : Vm) (B : Pt), s.WarmedH vm₁ ∧ Stand p l e R s m args below meth c B.U B.locs B.cells B.slots ∧ PostX ⟨T.setVm vm₁, locs, cells, slots⟩ (Value.ref b :: argsL).toArray q B ∧
      Steps p.tables e below (T.setTop g) ((B.U.setTop { g with stack := rest }).pushFrame (.throwing q))) := by
  obtain ⟨mk, methM, hnamed, hmethM, hstM, habM⟩ := Cond.instanceMethod_spec hinst
  obtain ⟨m8, methM', cM, hn8, hmethM', -, -, -, -, -, -, hsigM⟩ := Cond.codeWith_spec hcode
  cases Option.some.inj (hn8.symm.trans hnamed)
  cases hmethM.symm.trans hmethM'
  obtain ⟨c2, r2, m2, q1, q2, q3, q4, kP, hkP, hkPi⟩ := Cond.selects_spec hsel
  cases hcls.symm.trans q1
  cases (State.methodFound?_of_named hnamed hy).symm.trans q2
  cases hnamed.symm.trans q3
  have hselP : selectMethod e.platform s.vm cellB.cls mk = .method mk := by rw [Launch.admits_selectMethod X.admits]; exact q4
  obtain ⟨vm₁, X₁, hstep₁⟩ := X.invokevirtual hexec hown hlink hnamed hmethM hstM hkP hkPi hy (a := b) (cell := cellB) hcell
    (fun z h => by rw [h] at hobj; cases hobj) hselP hmethM habM hkP hkPi (g := g) hg (argsL := argsL) (rest := rest) (hlen _ hsigM) hstack hdg
  rcases hK m meth c ⟨T.setVm vm₁, locs, cells, slots⟩ { g with stack := rest } (.invokevirtual index) mk (Value.ref b :: argsL).toArray X₁ hg hsize hdg hW (X₁.named hnamed) (hpre vm₁ X₁.warmed) with ⟨v, B, X', hpost, hsteps⟩ | ⟨q, B, X', hpost, hsteps⟩
  · exact Or.inl ⟨v, vm₁, B, X₁.warmed, X', hpost, fun target h => hstep₁ _ fun acts => by rw [doInvoke_state]; exact hsteps.trans h⟩
  · exact Or.inr ⟨q, vm₁, B, X₁.warmed, X', hpost, hstep₁ _ fun acts => by rw [doInvoke_state]; exact hsteps⟩
theorem vx_callSX (X : Stand p l e R s m args below meth c T locs cells slots) (hexec : p.tables.exec = Jvm.exec) {own : String} {index : Nat} {y : MethodName} {bytes : ByteArray} {maxL : Nat} {ret : Option FieldType} {hh : List (Nat × Nat × Nat × Nat)}
    (hown : s.vm.findClass own = some m.cls) (hlink : (Cond.methodLink own index y).before args s = true) (hstat : (Cond.static y).before args s = true) (hinit : (Cond.initialized y.cls).before args s = true)
    (hcode : (Cond.codeWith y bytes maxL ret hh).before args s = true) (hy : y.cls ≠ "java/lang/invoke/MethodHandle" ∧ y.cls ≠ "java/lang/invoke/VarHandle")
    {W9 : Nat} {Pre : Pt → Array Value → Prop} {Post : Pt → Array Value → Option Value → Pt → Prop} {PostX : Pt → Array Value → Addr → Pt → Prop} (hK : vx_Back l R p e below s args y 3 W9 Pre Post PostX)
    {g : JFrame} (hg : g.method = m) (hsize : g.locals.size = c.maxLocals) {argsL rest : List Value} (hlen : ∀ sig, parseMethodDescriptor y.desc = some sig → argsL.length = sig.parameters.length)
    (hstack : g.stack = argsL.reverse ++ rest) (hW : 2 * g.monitorRoom + (rest.map fun v => v.category).sum ≤ W9) (hdg : decode c.code g.pc = .ok (.invokestatic index, 3))
    (hpre : ∀ vm₁, s.WarmedH vm₁ → Pre ⟨T.setVm vm₁, locs, cells, slots⟩ argsL.toArray) :
    (∃ (v : Option Value) (vm₁ : Vm) (B : Pt), s.WarmedH vm₁ ∧ Stand p l e R s m args below meth c B.U B.locs B.cells B.slots ∧ Post ⟨T.setVm vm₁, locs, cells, slots⟩ argsL.toArray v B ∧
      ∀ target, Steps p.tables e below (B.U.setTop { g with pc := g.pc + 3, stack := v.toList ++ rest }) target → Steps p.tables e below (T.setTop g) target) ∨
    (∃ (q : Addr) (vm₁ : Vm) (B : Pt), s.WarmedH vm₁ ∧ Stand p l e R s m args below meth c B.U B.locs B.cells B.slots ∧ PostX ⟨T.setVm vm₁, locs, cells, slots⟩ argsL.toArray q B ∧
      Steps p.tables e below (T.setTop g) ((B.U.setTop { g with stack := rest }).pushFrame (.throwing q))) := by
  obtain ⟨mk, methM, cM, hnamed, hmethM, -, -, -, -, -, -, hsigM⟩ := Cond.codeWith_spec hcode
  have hstatic : methM.isStatic = true := Cond.static_spec hnamed hmethM hstat
  obtain ⟨kP, hkP, -⟩ := className_of_methodNamed hnamed
  have hinitP : kP.init = .initialized := Cond.initialized_spec (findClass_of_methodNamed hnamed) hkP hinit
  obtain ⟨vm₁, X₁, hstep₁⟩ := X.invokestatic hexec hown hlink hnamed hmethM hstatic hkP hinitP hy (g := g) hg (argsL := argsL) (rest := rest) (hlen _ hsigM) hstack hdg
  rcases hK m meth c ⟨T.setVm vm₁, locs, cells, slots⟩ { g with stack := rest } (.invokestatic index) mk argsL.toArray X₁ hg hsize hdg hW (X₁.named hnamed) (hpre vm₁ X₁.warmed) with ⟨v, B, X', hpost, hsteps⟩ | ⟨q, B, X', hpost, hsteps⟩
  · exact Or.inl ⟨v, vm₁, B, X₁.warmed, X', hpost, fun target h => hstep₁ _ fun acts => by rw [doInvoke_state]; exact hsteps.trans h⟩
  · exact Or.inr ⟨q, vm₁, B, X₁.warmed, X', hpost, hstep₁ _ fun acts => by rw [doInvoke_state]; exact hsteps⟩
theorem vx_callVW (X : Stand p l e R s m args below meth c T locs cells slots) (hexec : p.tables.exec = Jvm.exec) {own C : String} {index : Nat} {y : MethodName} {bytes : ByteArray} {maxL : Nat} {ret : Option FieldType} {hh : List (Nat × Nat × Nat × Nat)}
    (hown : s.vm.findClass own = some m.cls) (hlink : (Cond.methodLink own index y).before args s = true) (hinst : (Cond.instanceMethod y).before args s = true) (hsel : (Cond.selects C y y).before args s = true)
    (hcode : (Cond.codeWith y bytes maxL ret hh).before args s = true) (hy : y.cls ≠ "java/lang/invoke/MethodHandle" ∧ y.cls ≠ "java/lang/invoke/VarHandle")
    {W9 : Nat} {Pre : Pt → Array Value → Prop} {Post : Pt → Array Value → Option Value → Pt → Prop} (hK : Back l R p e below s args y 3 W9 Pre Post)
    {b : Addr} {cellB : Cell} (hcell : T.heap[b]? = some cellB) (hobj : cellB.vm.isStatics = false) (hcls : s.vm.findClass C = some cellB.cls)
    {g : JFrame} (hg : g.method = m) (hsize : g.locals.size = c.maxLocals) {argsL rest : List Value} (hlen : ∀ sig, parseMethodDescriptor y.desc = some sig → argsL.length = sig.parameters.length)
    (hstack : g.stack = argsL.reverse ++ .ref b :: rest) (hW : 2 * g.monitorRoom + (rest.map fun v => v.category).sum ≤ W9) (hdg : decode c.code g.pc = .ok (.invokevirtual index, 3))
    (hpre : ∀ vm₁, s.WarmedH vm₁ → Pre ⟨T.setVm vm₁, locs, cells, slots⟩ (Value.ref b :: argsL).toArray) :
    ∃ (v : Option Value) (vm₁ : Vm) (B : Pt), s.WarmedH vm₁ ∧ Stand p l e R s m args below meth c B.U B.locs B.cells B.slots ∧ Post ⟨T.setVm vm₁, locs, cells, slots⟩ (Value.ref b :: argsL).toArray v B ∧
      ∀ target, Steps p.tables e below (B.U.setTop { g with pc := g.pc + 3, stack := v.toList ++ rest }) target → Steps p.tables e below (T.setTop g) target := by
  obtain ⟨mk, methM, hnamed, hmethM, hstM, habM⟩ := Cond.instanceMethod_spec hinst
  obtain ⟨m8, methM', cM, hn8, hmethM', -, -, -, -, -, -, hsigM⟩ := Cond.codeWith_spec hcode
  cases Option.some.inj (hn8.symm.trans hnamed)
  cases hmethM.symm.trans hmethM'
  obtain ⟨c2, r2, m2, q1, q2, q3, q4, kP, hkP, hkPi⟩ := Cond.selects_spec hsel
  cases hcls.symm.trans q1
  cases (State.methodFound?_of_named hnamed hy).symm.trans q2
  cases hnamed.symm.trans q3
  have hselP : selectMethod e.platform s.vm cellB.cls mk = .method mk := by rw [Launch.admits_selectMethod X.admits]; exact q4
  obtain ⟨vm₁, X₁, hstep₁⟩ := X.invokevirtual hexec hown hlink hnamed hmethM hstM hkP hkPi hy (a := b) (cell := cellB) hcell
    (fun z h => by rw [h] at hobj; cases hobj) hselP hmethM habM hkP hkPi (g := g) hg (argsL := argsL) (rest := rest) (hlen _ hsigM) hstack hdg
  obtain ⟨v, B, X', hpost, hsteps⟩ := hK m meth c ⟨T.setVm vm₁, locs, cells, slots⟩ { g with stack := rest } (.invokevirtual index) mk (Value.ref b :: argsL).toArray X₁ hg hsize hdg hW (X₁.named hnamed) (hpre vm₁ X₁.warmed)
  exact ⟨v, vm₁, B, X₁.warmed, X', hpost, fun target h => hstep₁ _ fun acts => by rw [doInvoke_state]; exact hsteps.trans h⟩
abbrev vx_CVW (R : Room) (s : State) (args : Array Value) (own C : String) (index : Nat) (y : MethodName) (bytes : ByteArray) (maxL : Nat) (ret : Option FieldType) (hh : List (Nat × Nat × Nat × Nat)) (ws : List Cond) (rm : Room) (mc ms n : Nat) : Prop :=
  (rm.cells = mc ∧ rm.slots = ms ∧ rm.frames + 1 ≤ R.frames ∧ 8 + (maxL + 11) + rm.locals ≤ R.locals ∧ (∀ w ∈ ws, ∀ (a' : Array Value) (U : State), s.WarmedH U.vm → w.before a' U = true) ∧ Cond.codeWith y bytes maxL ret hh ∈ ws) ∧
  (Cond.codeWith y bytes maxL ret hh).before args s = true ∧ (Cond.initialized y.cls).before args s = true ∧ (y.cls ≠ "java/lang/invoke/MethodHandle" ∧ y.cls ≠ "java/lang/invoke/VarHandle") ∧
  (∀ sig, parseMethodDescriptor y.desc = some sig → n = sig.parameters.length) ∧ (Cond.methodLink own index y).before args s = true ∧ (Cond.instanceMethod y).before args s = true ∧ (Cond.selects C y y).before args s = true
theorem vx_cwVW {own C : String} {index maxL mc ms : Nat} {y : MethodName} {bytes : ByteArray} {ret : Option FieldType} {hh : List (Nat × Nat × Nat × Nat)} {Ts ws ws' : List Cond} {rm : Room} (n : Nat) (ht : ∀ w ∈ Ts, w.before args s = true) (hT : GoodIn Ts (wsV own index C y ws)) (hw : ws = Cond.codeWith y bytes maxL ret hh :: ws') (hrc : rm.cells = mc) (hrs : rm.slots = ms)
    (hd : y.cls = C ∧ y.cls ≠ "java/lang/invoke/MethodHandle" ∧ y.cls ≠ "java/lang/invoke/VarHandle" ∧ (parseMethodDescriptor y.desc).map (fun d => d.parameters.length) = some n) (hR : rm.frames + 1 ≤ R.frames ∧ 8 + (maxL + 11) + rm.locals ≤ R.locals) :
    vx_CVW R s args own C index y bytes maxL ret hh ws rm mc ms n := by
  obtain ⟨hC, hd⟩ := hd
  subst hC
  have ok : ∀ w ∈ wsV own index y.cls y ws, w.before args s = true := fun w h => ht w (hT w h).1
  have hG : GoodIn Ts ws := fun w h => hT w (by unfold wsV; exact List.mem_append_right _ h)
  have hc : Cond.codeWith y bytes maxL ret hh ∈ ws := by rw [hw]; exact List.mem_cons_self
  refine ⟨⟨hrc, hrs, hR.1, hR.2, pay_in ht hG, hc⟩, ht _ (hG _ hc).1, ok _ (by simp [wsV]), ⟨hd.1, hd.2.1⟩, fun sig h => ?_, ok _ (by simp [wsV]), ok _ (by simp [wsV]), ok _ (by simp [wsV])⟩
  have h2 := hd.2.2
  rw [h] at h2
  exact (Option.some.inj h2).symm
theorem vx_runVW {y : MethodName} {bytes cc : ByteArray} {maxL nL mc ms n index : Nat} {ret : Option FieldType} {hh : List (Nat × Nat × Nat × Nat)} {ws : List Cond} {rm : Room} {Pc : Array Value → State → Prop} {Qc : Array Value → State → Outcome → State → Prop} {free : Addr → Prop} {Ts : List Cond} {own C : String} {b : Addr} {As rest : List Value} {g : JFrame}
    (S : CallFix p m c cc nL s args Ts own) (hM : Met l y ws rm Pc Qc mc ms free) (cw : vx_CVW R s args own C index y bytes maxL ret hh ws rm mc ms n) (hp : PreV s H C b Pc As)
    (hg : g.method = m) (hn : As.length = n) (hsize : g.locals.size = nL) (hstack : g.stack = As.reverse ++ .ref b :: rest) (hW : 2 * g.monitorRoom + (rest.map fun v => v.category).sum ≤ 8) (hdg : decode cc g.pc = .ok (.invokevirtual index, 3)) (hf : cells + mc ≤ R.cells ∧ slots + ms ≤ R.slots) :
    va_Run p l e R s m args below meth c H locs cells slots mc ms g rest (Qc (Value.ref b :: As).toArray) free := by
  obtain ⟨⟨hrc, hrs, hfr, hlo, hws, hcw⟩, hcode, hini, hy, hlen, hl, hin, hse⟩ := cw
  have hK : Back l R p e below s args y 3 8 (PreOf R mc ms Pc) (PostOf Qc mc ms free) := va_backW (hh := hh) (bytes := bytes) (maxL := maxL) (ret := ret) hM hp.1 hrc hrs hfr hlo hws hcw (fun a' U hW => word_at hW (Or.inl (by first | rfl | simp [Cond.onTables, Cond.keeps, Cond.steady])) hini)
  obtain ⟨hx, hb, hml, ho, -⟩ := S
  obtain ⟨-, ⟨cellB, hcB, hoB, hclB⟩, hPc⟩ := hp
  intro T hT X
  obtain ⟨v, vm₁, ⟨U', l2, c2, s2⟩, hW₁, X', ⟨g', mk, t, L, e1, e2, hq, h1, hL, h2, h3⟩, st⟩ := vx_callVW X hx (C := C) (hh := hh) (bytes := bytes) (maxL := maxL) (ret := ret) ho hl hin hse hcode hy hK (by rw [hT]; exact hcB) hoB hclB hg (hsize.trans hml.symm) (argsL := As) (rest := rest) (fun sig h => hn.trans (hlen sig h)) hstack hW (by rw [hb]; exact hdg)
    (fun vm₁ hW₁ => ⟨hf.1, hf.2, hPc (T.setVm vm₁) hT hW₁⟩)
  dsimp only [Pt.U, Pt.locs, Pt.cells, Pt.slots] at X' e1 e2 h1 h2 h3 st
  subst h1; subst h2; subst h3
  exact ⟨v, (T.setVm vm₁).calling g' mk (Value.ref b :: As).toArray, t, U', L, hT, X', hL, e1, e2, hq, st⟩
section
variable {y : MethodName} {bytes cc : ByteArray} {maxL nL mc ms n index : Nat} {ret : Option FieldType} {ws : List Cond} {rm : Room} {Pc : Array Value → State → Prop} {Qc : Array Value → State → Outcome → State → Prop} {XC : String → State → State → Prop} {free : Addr → Prop} {Ts : List Cond} {own C : String} {b : Addr} {As rest : List Value} {g : JFrame}
theorem vx_runVX {hh : List (Nat × Nat × Nat × Nat)} (S : CallFix p m c cc nL s args Ts own) (hM : vx_Met l y ws rm Pc Qc XC mc ms free) (cw : vx_CVW R s args own C index y bytes maxL ret hh ws rm mc ms n) (hp : PreV s H C b Pc As)
    (hg : g.method = m) (hn : As.length = n) (hsize : g.locals.size = nL) (hstack : g.stack = As.reverse ++ .ref b :: rest) (hW : 2 * g.monitorRoom + (rest.map fun v => v.category).sum ≤ 8) (hdg : decode cc g.pc = .ok (.invokevirtual index, 3)) (hf : cells + mc ≤ R.cells ∧ slots + ms ≤ R.slots) :
    vx_Run p l e R s m args below meth c H locs cells slots mc ms g rest (Qc (Value.ref b :: As).toArray) XC free := by
  obtain ⟨⟨hrc, hrs, hfr, hlo, hws, hcw⟩, hcode, hini, hy, hlen, hl, hin, hse⟩ := cw
  have hK : vx_Back l R p e below s args y 3 8 (PreOf R mc ms Pc) (PostOf Qc mc ms free) (vx_Post XC mc ms free) := vx_backW (hh := hh) (bytes := bytes) (maxL := maxL) (ret := ret) hM hp.1 hrc hrs hfr hlo hws hcw (fun a' U hW => word_at hW (Or.inl (by first | rfl | simp [Cond.onTables, Cond.keeps, Cond.steady])) hini)
  obtain ⟨hx, hb, hml, ho, -⟩ := S
  obtain ⟨-, ⟨cellB, hcB, hoB, hclB⟩, hPc⟩ := hp
  intro T hT X
  rcases vx_callVX X hx (C := C) (hh := hh) (bytes := bytes) (maxL := maxL) (ret := ret) ho hl hin hse hcode hy hK (by rw [hT]; exact hcB) hoB hclB hg (hsize.trans hml.symm) (argsL := As) (rest := rest) (fun sig h => hn.trans (hlen sig h)) hstack hW (by rw [hb]; exact hdg)
    (fun vm₁ hW₁ => ⟨hf.1, hf.2, hPc (T.setVm vm₁) hT hW₁⟩) with ⟨v, vm₁, ⟨U', l2, c2, s2⟩, hW₁, X', ⟨g', mk, t, L, e1, e2, hq, h1, hL, h2, h3⟩, st⟩ | ⟨q, vm₁, ⟨U', l2, c2, s2⟩, hW₁, X', ⟨g', mk, t, L, E, ce, e1, e2, hq, hce, hcv, hcl, h1, hL, h2, h3⟩, st⟩
  · dsimp only [Pt.U, Pt.locs, Pt.cells, Pt.slots] at X' e1 e2 h1 h2 h3 st
    subst h1; subst h2; subst h3
    exact Or.inl ⟨v, (T.setVm vm₁).calling g' mk (Value.ref b :: As).toArray, t, U', L, hT, X', hL, e1, e2, hq, st⟩
  · dsimp only [Pt.U, Pt.locs, Pt.cells, Pt.slots] at X' e1 e2 h1 h2 h3 st hcl
    subst h1; subst h2; subst h3
    exact Or.inr ⟨q, (T.setVm vm₁).calling g' mk (Value.ref b :: As).toArray, t, U', L, E, ce, hT, X', hL, e1, e2, hq, hce, hcv, vx_cls hW₁ hcl, st⟩
theorem vx_runSX {hh : List (Nat × Nat × Nat × Nat)} (S : CallFix p m c cc nL s args Ts own) (hM : vx_Met l y ws rm Pc Qc XC mc ms free) (cw : vx_CSW R s args own index y bytes maxL ret hh ws rm mc ms n) (hp : PreS s H Pc As)
    (hg : g.method = m) (hn : As.length = n) (hsize : g.locals.size = nL) (hstack : g.stack = As.reverse ++ rest) (hW : 2 * g.monitorRoom + (rest.map fun v => v.category).sum ≤ 8) (hdg : decode cc g.pc = .ok (.invokestatic index, 3)) (hf : cells + mc ≤ R.cells ∧ slots + ms ≤ R.slots) :
    vx_Run p l e R s m args below meth c H locs cells slots mc ms g rest (Qc As.toArray) XC free := by
  obtain ⟨⟨hrc, hrs, hfr, hlo, hws, hcw⟩, hcode, hini, hy, hlen, hl, hstt⟩ := cw
  have hK : vx_Back l R p e below s args y 3 8 (PreOf R mc ms Pc) (PostOf Qc mc ms free) (vx_Post XC mc ms free) := vx_backW (hh := hh) (bytes := bytes) (maxL := maxL) (ret := ret) hM hp.1 hrc hrs hfr hlo hws hcw (fun a' U hW => word_at hW (Or.inl (by first | rfl | simp [Cond.onTables, Cond.keeps, Cond.steady])) hini)
  obtain ⟨hx, hb, hml, ho, -⟩ := S
  intro T hT X
  rcases vx_callSX X hx (hh := hh) (bytes := bytes) (maxL := maxL) (ret := ret) ho hl hstt hini hcode hy hK hg (hsize.trans hml.symm) (argsL := As) (rest := rest) (fun sig h => hn.trans (hlen sig h)) hstack hW (by rw [hb]; exact hdg)
    (fun vm₁ hW₁ => ⟨hf.1, hf.2, hp.2 (T.setVm vm₁) hT hW₁⟩) with ⟨v, vm₁, ⟨U', l2, c2, s2⟩, hW₁, X', ⟨g', mk, t, L, e1, e2, hq, h1, hL, h2, h3⟩, st⟩ | ⟨q, vm₁, ⟨U', l2, c2, s2⟩, hW₁, X', ⟨g', mk, t, L, E, ce, e1, e2, hq, hce, hcv, hcl, h1, hL, h2, h3⟩, st⟩
  · dsimp only [Pt.U, Pt.locs, Pt.cells, Pt.slots] at X' e1 e2 h1 h2 h3 st
    subst h1; subst h2; subst h3
    exact Or.inl ⟨v, (T.setVm vm₁).calling g' mk As.toArray, t, U', L, hT, X', hL, e1, e2, hq, st⟩
  · dsimp only [Pt.U, Pt.locs, Pt.cells, Pt.slots] at X' e1 e2 h1 h2 h3 st hcl
    subst h1; subst h2; subst h3
    exact Or.inr ⟨q, (T.setVm vm₁).calling g' mk As.toArray, t, U', L, E, ce, hT, X', hL, e1, e2, hq, hce, hcv, vx_cls hW₁ hcl, st⟩
end
end VXH
theorem vx_ofWH {l : Launch} {y : MethodName} {ws ws' : List Cond} {rm : Room} {Pc : Array Value → State → Prop} {Qc : Array Value → State → Outcome → State → Prop} {XC : String → State → State → Prop} {mc ms : Nat} {free : Addr → Prop} {cc : ByteArray} {maxL : Nat} {ret : Option FieldType} {hh : List (Nat × Nat × Nat × Nat)}
    (hy : plainName y.cls = true) (hw : ws = Cond.codeWith y cc maxL ret hh :: ws')
    (body : ∀ p e s m args below meth c s₁, BodyLoose p l y (headSpec ws rm) cc maxL ret e s m args below meth c s₁ → c.maxLocals = maxL → Pc args s →
      W p l e (headSpec ws rm).room s m args below meth c s.heap [] 0 0 (vx_MQ below Qc XC args s mc ms free) (entryFrame m args maxL)) : vx_Met l y ws rm Pc Qc XC mc ms free := by
  refine MetFree.of_bodyS (code := cc) (maxLocals := maxL) (ret := ret) hy ?_ ?_
  · intro args s m h hn
    obtain ⟨m9, meth, c, hn9, h1, h2, h3, h4, -, h5, h6, -⟩ := Cond.codeWith_spec (atoms_spec (ws := ws) h _ (by rw [hw]; exact List.mem_cons_self))
    cases hn.symm.trans hn9
    exact ⟨meth, c, h1, h2, h3, h4, h5, h6⟩
  · intro p e s m args below meth c s₁ B hml hP _
    have hh0 : s₁.heap = s.heap := by rw [B.state]; rfl
    obtain ⟨t, a1, o, b1, b2, b3⟩ := body p e s m args below meth c s₁ B hml hP s₁ hh0 (Stand.of_body B)
    exact ⟨t, o, a1, b1, b2, b3⟩
/-! ===== END ===== -/
end
section
/-! ===== BEGIN printed: names, fields, word lists, decode rows ===== -/
def RX0 : String := "FetchHouse$History"
def TX0 : u_T := fun k => match k with
  | 0 => ("FetchHouse$History", "firstParents", "[I", true)
  | 1 => ("FetchHouse$History", "secondParents", "[I", true)
  | 2 => ("FetchHouse$History", "slotFiles", "[I", true)
  | 3 => ("FetchHouse$History", "fewestSteps", "[I", true)
  | 4 => ("FetchHouse$History", "foundFiles", "[Z", true)
  | _ => ("FetchHouse$History", "made", "I", false)
def tyX0 : Nat → FieldType := fun k => match k with
  | 0 => .array .int
  | 1 => .array .int
  | 2 => .array .int
  | 3 => .array .int
  | 4 => .array .boolean
  | _ => .int
abbrev wsX00 : List Cond := u_ws RX0 TX0 6
theorem nmX0 : ∀ a, a < 6 → ∀ b, b < 6 → a ≠ b → (TX0 a).2.1 ≠ (TX0 b).2.1 := by decide +kernel
theorem tyX0_ok : ∀ k, k < 6 → parseFieldDescriptor (TX0 k).2.2.1 = some (tyX0 k) := by decide +kernel
abbrev cX0_init : ByteArray := prog_2_method_1_code
def yX0_init : MethodName := ⟨RX0, "<init>", "()V"⟩
abbrev cX0_size : ByteArray := prog_2_method_2_code
def yX0_size : MethodName := ⟨RX0, "size", "()I"⟩
abbrev cX0_isFull : ByteArray := prog_2_method_3_code
def yX0_isFull : MethodName := ⟨RX0, "isFull", "()Z"⟩
abbrev cX0_isCommit : ByteArray := prog_2_method_4_code
def yX0_isCommit : MethodName := ⟨RX0, "isCommit", "(I)Z"⟩
abbrev cX0_append : ByteArray := prog_2_method_5_code
def yX0_append : MethodName := ⟨RX0, "append", "(IIII)I"⟩
abbrev cX0_fileIn : ByteArray := prog_2_method_6_code
def yX0_fileIn : MethodName := ⟨RX0, "fileIn", "(II)I"⟩
abbrev cX0_filesOf : ByteArray := prog_2_method_7_code
def yX0_filesOf : MethodName := ⟨RX0, "filesOf", "(J)[Z"⟩
abbrev cX0_findFilesOf : ByteArray := prog_2_method_8_code
def yX0_findFilesOf : MethodName := ⟨RX0, "findFilesOf", "(I)V"⟩
abbrev cX0_parentsOf : ByteArray := prog_2_method_9_code
def yX0_parentsOf : MethodName := ⟨RX0, "parentsOf", "(I)J"⟩
abbrev cX0_shallowOf : ByteArray := prog_2_method_10_code
def yX0_shallowOf : MethodName := ⟨RX0, "shallowOf", "(J)J"⟩
abbrev cX0_ancestorsOf : ByteArray := prog_2_method_11_code
def yX0_ancestorsOf : MethodName := ⟨RX0, "ancestorsOf", "(JJ)J"⟩
abbrev cX0_reachOf : ByteArray := prog_2_method_12_code
def yX0_reachOf : MethodName := ⟨RX0, "reachOf", "(II)J"⟩
abbrev cX0_comeTo : ByteArray := prog_2_method_13_code
def yX0_comeTo : MethodName := ⟨RX0, "comeTo", "(II)V"⟩
def RX1 : String := "FetchHouse$Store"
def TX1 : u_T := fun k => match k with
  | 0 => ("FetchHouse$Store", "heldCommits", "J", false)
  | 1 => ("FetchHouse$Store", "heldFiles", "[Z", true)
  | _ => ("FetchHouse$Store", "refCommits", "[I", true)
def tyX1 : Nat → FieldType := fun k => match k with
  | 0 => .long
  | 1 => .array .boolean
  | _ => .array .int
abbrev wsX10 : List Cond := u_ws RX1 TX1 3
theorem nmX1 : ∀ a, a < 3 → ∀ b, b < 3 → a ≠ b → (TX1 a).2.1 ≠ (TX1 b).2.1 := by decide +kernel
theorem tyX1_ok : ∀ k, k < 3 → parseFieldDescriptor (TX1 k).2.2.1 = some (tyX1 k) := by decide +kernel
abbrev cX1_init : ByteArray := prog_3_method_1_code
def yX1_init : MethodName := ⟨RX1, "<init>", "()V"⟩
abbrev cX1_commitOfRef : ByteArray := prog_3_method_2_code
def yX1_commitOfRef : MethodName := ⟨RX1, "commitOfRef", "(I)I"⟩
abbrev cX1_pointRef : ByteArray := prog_3_method_3_code
def yX1_pointRef : MethodName := ⟨RX1, "pointRef", "(II)V"⟩
abbrev cX1_commitsOfRefs : ByteArray := prog_3_method_4_code
def yX1_commitsOfRefs : MethodName := ⟨RX1, "commitsOfRefs", "()J"⟩
abbrev cX1_holdsFile : ByteArray := prog_3_method_5_code
def yX1_holdsFile : MethodName := ⟨RX1, "holdsFile", "(I)Z"⟩
abbrev cX1_addFile : ByteArray := prog_3_method_6_code
def yX1_addFile : MethodName := ⟨RX1, "addFile", "(I)V"⟩
abbrev cX1_addFiles : ByteArray := prog_3_method_7_code
def yX1_addFiles : MethodName := ⟨RX1, "addFiles", "([ZLFetchHouse$Store;)V"⟩
abbrev cX1_keepOnlyFiles : ByteArray := prog_3_method_8_code
def yX1_keepOnlyFiles : MethodName := ⟨RX1, "keepOnlyFiles", "([Z)V"⟩
abbrev cX1_countLacking : ByteArray := prog_3_method_9_code
def yX1_countLacking : MethodName := ⟨RX1, "countLacking", "([Z)I"⟩
def RX2 : String := "FetchHouse"
def TX2 : u_T := fun k => match k with
  | 0 => ("FetchHouse", "history", "LFetchHouse$History;", true)
  | 1 => ("FetchHouse", "server", "LFetchHouse$Store;", true)
  | 2 => ("FetchHouse", "client", "LFetchHouse$Store;", true)
  | 3 => ("FetchHouse", "protectedRefs", "[Z", true)
  | 4 => ("FetchHouse", "movedRefs", "[I", true)
  | 5 => ("FetchHouse", "oldCommits", "[I", true)
  | 6 => ("FetchHouse", "newCommits", "[I", true)
  | 7 => ("FetchHouse", "waitingMoves", "I", false)
  | _ => ("FetchHouse", "latestRounds", "I", false)
def tyX2 : Nat → FieldType := fun k => match k with
  | 0 => .object "FetchHouse$History"
  | 1 => .object "FetchHouse$Store"
  | 2 => .object "FetchHouse$Store"
  | 3 => .array .boolean
  | 4 => .array .int
  | 5 => .array .int
  | 6 => .array .int
  | 7 => .int
  | _ => .int
abbrev wsX20 : List Cond := u_ws RX2 TX2 9
theorem nmX2 : ∀ a, a < 9 → ∀ b, b < 9 → a ≠ b → (TX2 a).2.1 ≠ (TX2 b).2.1 := by decide +kernel
theorem tyX2_ok : ∀ k, k < 9 → parseFieldDescriptor (TX2 k).2.2.1 = some (tyX2 k) := by decide +kernel
abbrev cX2_init : ByteArray := prog_1_method_1_code
def yX2_init : MethodName := ⟨RX2, "<init>", "()V"⟩
abbrev cX2_make : ByteArray := prog_1_method_2_code
def yX2_make : MethodName := ⟨RX2, "make", "(IIIII)I"⟩
abbrev cX2_setRef : ByteArray := prog_1_method_3_code
def yX2_setRef : MethodName := ⟨RX2, "setRef", "(III)I"⟩
abbrev cX2_ref : ByteArray := prog_1_method_4_code
def yX2_ref : MethodName := ⟨RX2, "ref", "(II)I"⟩
abbrev cX2_fileAt : ByteArray := prog_1_method_5_code
def yX2_fileAt : MethodName := ⟨RX2, "fileAt", "(II)I"⟩
abbrev cX2_fetch : ByteArray := prog_1_method_6_code
def yX2_fetch : MethodName := ⟨RX2, "fetch", "(IIZ)I"⟩
abbrev cX2_wouldFetch : ByteArray := prog_1_method_7_code
def yX2_wouldFetch : MethodName := ⟨RX2, "wouldFetch", "(II)I"⟩
abbrev cX2_rounds : ByteArray := prog_1_method_8_code
def yX2_rounds : MethodName := ⟨RX2, "rounds", "()I"⟩
abbrev cX2_load : ByteArray := prog_1_method_9_code
def yX2_load : MethodName := ⟨RX2, "load", "(I)Z"⟩
abbrev cX2_missing : ByteArray := prog_1_method_10_code
def yX2_missing : MethodName := ⟨RX2, "missing", "()I"⟩
abbrev cX2_protect : ByteArray := prog_1_method_11_code
def yX2_protect : MethodName := ⟨RX2, "protect", "(IZ)Z"⟩
abbrev cX2_move : ByteArray := prog_1_method_12_code
def yX2_move : MethodName := ⟨RX2, "move", "(III)I"⟩
abbrev cX2_push : ByteArray := prog_1_method_13_code
def yX2_push : MethodName := ⟨RX2, "push", "()I"⟩
abbrev cX2_collect : ByteArray := prog_1_method_14_code
def yX2_collect : MethodName := ⟨RX2, "collect", "(I)I"⟩
abbrev cX2_commits : ByteArray := prog_1_method_15_code
def yX2_commits : MethodName := ⟨RX2, "commits", "()I"⟩
abbrev cX2_has : ByteArray := prog_1_method_16_code
def yX2_has : MethodName := ⟨RX2, "has", "(II)Z"⟩
abbrev cX2_hasFile : ByteArray := prog_1_method_17_code
def yX2_hasFile : MethodName := ⟨RX2, "hasFile", "(II)Z"⟩
abbrev cX2_isShallow : ByteArray := prog_1_method_18_code
def yX2_isShallow : MethodName := ⟨RX2, "isShallow", "(I)Z"⟩
abbrev cX2_isAncestor : ByteArray := prog_1_method_19_code
def yX2_isAncestor : MethodName := ⟨RX2, "isAncestor", "(III)Z"⟩
abbrev cX2_commitToFetch : ByteArray := prog_1_method_20_code
def yX2_commitToFetch : MethodName := ⟨RX2, "commitToFetch", "(II)I"⟩
abbrev cX2_talk : ByteArray := prog_1_method_21_code
def yX2_talk : MethodName := ⟨RX2, "talk", "()J"⟩
abbrev cX2_firstRefusal : ByteArray := prog_1_method_22_code
def yX2_firstRefusal : MethodName := ⟨RX2, "firstRefusal", "()I"⟩
abbrev cX2_refusalOf : ByteArray := prog_1_method_23_code
def yX2_refusalOf : MethodName := ⟨RX2, "refusalOf", "(III)I"⟩
abbrev cX2_endsBeyondServer : ByteArray := prog_1_method_24_code
def yX2_endsBeyondServer : MethodName := ⟨RX2, "endsBeyondServer", "(J)Z"⟩
abbrev cX2_doMoves : ByteArray := prog_1_method_25_code
def yX2_doMoves : MethodName := ⟨RX2, "doMoves", "()I"⟩
abbrev cX2_storeOf : ByteArray := prog_1_method_26_code
def yX2_storeOf : MethodName := ⟨RX2, "storeOf", "(I)LFetchHouse$Store;"⟩
abbrev cX2_checkCommit : ByteArray := prog_1_method_27_code
def yX2_checkCommit : MethodName := ⟨RX2, "checkCommit", "(I)V"⟩
abbrev cX2_checkCommitOrNone : ByteArray := prog_1_method_28_code
def yX2_checkCommitOrNone : MethodName := ⟨RX2, "checkCommitOrNone", "(I)V"⟩
abbrev cX2_checkHeldOrNone : ByteArray := prog_1_method_29_code
def yX2_checkHeldOrNone : MethodName := ⟨RX2, "checkHeldOrNone", "(LFetchHouse$Store;I)V"⟩
abbrev cX2_checkSlot : ByteArray := prog_1_method_30_code
def yX2_checkSlot : MethodName := ⟨RX2, "checkSlot", "(I)V"⟩
abbrev cX2_checkRef : ByteArray := prog_1_method_31_code
def yX2_checkRef : MethodName := ⟨RX2, "checkRef", "(I)V"⟩
abbrev cX2_checkFile : ByteArray := prog_1_method_32_code
def yX2_checkFile : MethodName := ⟨RX2, "checkFile", "(I)V"⟩
abbrev cX2_isSlot : ByteArray := prog_1_method_33_code
def yX2_isSlot : MethodName := ⟨RX2, "isSlot", "(I)Z"⟩
abbrev cX2_isRef : ByteArray := prog_1_method_34_code
def yX2_isRef : MethodName := ⟨RX2, "isRef", "(I)Z"⟩
abbrev cX2_isFile : ByteArray := prog_1_method_35_code
def yX2_isFile : MethodName := ⟨RX2, "isFile", "(I)Z"⟩
abbrev cX2_isProtectedRef : ByteArray := prog_1_method_36_code
def yX2_isProtectedRef : MethodName := ⟨RX2, "isProtectedRef", "(I)Z"⟩
abbrev cX2_setOf : ByteArray := prog_1_method_37_code
def yX2_setOf : MethodName := ⟨RX2, "setOf", "(I)J"⟩
abbrev cX2_contains : ByteArray := prog_1_method_38_code
def yX2_contains : MethodName := ⟨RX2, "contains", "(JI)Z"⟩
abbrev cX2_highestOf : ByteArray := prog_1_method_39_code
def yX2_highestOf : MethodName := ⟨RX2, "highestOf", "(JI)J"⟩
def RX3 : String := "FetchHouseModel"
def TX3 : u_T := fun k => match k with
  | 0 => ("FetchHouseModel", "refusal", "I", false)
  | 1 => ("FetchHouseModel", "made", "I", false)
  | 2 => ("FetchHouseModel", "firsts", "[I", true)
  | 3 => ("FetchHouseModel", "seconds", "[I", true)
  | 4 => ("FetchHouseModel", "slots", "[I", true)
  | 5 => ("FetchHouseModel", "hasCommit", "[Z", true)
  | 6 => ("FetchHouseModel", "hasFile", "[Z", true)
  | 7 => ("FetchHouseModel", "refs", "[I", true)
  | 8 => ("FetchHouseModel", "isProtected", "[Z", true)
  | 9 => ("FetchHouseModel", "waiting", "I", false)
  | 10 => ("FetchHouseModel", "moveRefs", "[I", true)
  | 11 => ("FetchHouseModel", "moveOlds", "[I", true)
  | 12 => ("FetchHouseModel", "moveNews", "[I", true)
  | 13 => ("FetchHouseModel", "rounds", "I", false)
  | 14 => ("FetchHouseModel", "marks", "[Z", true)
  | 15 => ("FetchHouseModel", "isCommon", "[Z", true)
  | 16 => ("FetchHouseModel", "wasTold", "[Z", true)
  | _ => ("FetchHouseModel", "steps", "[I", true)
def tyX3 : Nat → FieldType := fun k => match k with
  | 0 => .int
  | 1 => .int
  | 2 => .array .int
  | 3 => .array .int
  | 4 => .array .int
  | 5 => .array .boolean
  | 6 => .array .boolean
  | 7 => .array .int
  | 8 => .array .boolean
  | 9 => .int
  | 10 => .array .int
  | 11 => .array .int
  | 12 => .array .int
  | 13 => .int
  | 14 => .array .boolean
  | 15 => .array .boolean
  | 16 => .array .boolean
  | _ => .array .int
abbrev wsX30 : List Cond := u_ws RX3 TX3 18
theorem nmX3 : ∀ a, a < 18 → ∀ b, b < 18 → a ≠ b → (TX3 a).2.1 ≠ (TX3 b).2.1 := by decide +kernel
theorem tyX3_ok : ∀ k, k < 18 → parseFieldDescriptor (TX3 k).2.2.1 = some (tyX3 k) := by decide +kernel
abbrev cX3_init : ByteArray := prog_5_method_1_code
def yX3_init : MethodName := ⟨RX3, "<init>", "()V"⟩
abbrev cX3_thrown : ByteArray := prog_5_method_2_code
def yX3_thrown : MethodName := ⟨RX3, "thrown", "()I"⟩
abbrev cX3_refused : ByteArray := prog_5_method_3_code
def yX3_refused : MethodName := ⟨RX3, "refused", "(I)Z"⟩
abbrev cX3_fine : ByteArray := prog_5_method_4_code
def yX3_fine : MethodName := ⟨RX3, "fine", "(I)I"⟩
abbrev cX3_in : ByteArray := prog_5_method_5_code
def yX3_in : MethodName := ⟨RX3, "in", "(III)Z"⟩
abbrev cX3_isStore : ByteArray := prog_5_method_6_code
def yX3_isStore : MethodName := ⟨RX3, "isStore", "(I)Z"⟩
abbrev cX3_isRef : ByteArray := prog_5_method_7_code
def yX3_isRef : MethodName := ⟨RX3, "isRef", "(I)Z"⟩
abbrev cX3_isCommit : ByteArray := prog_5_method_8_code
def yX3_isCommit : MethodName := ⟨RX3, "isCommit", "(I)Z"⟩
abbrev cX3_isIn : ByteArray := prog_5_method_9_code
def yX3_isIn : MethodName := ⟨RX3, "isIn", "(II)Z"⟩
abbrev cX3_isInOrNone : ByteArray := prog_5_method_10_code
def yX3_isInOrNone : MethodName := ⟨RX3, "isInOrNone", "(II)Z"⟩
abbrev cX3_isCommitOrNone : ByteArray := prog_5_method_11_code
def yX3_isCommitOrNone : MethodName := ⟨RX3, "isCommitOrNone", "(I)Z"⟩
abbrev cX3_make : ByteArray := prog_5_method_12_code
def yX3_make : MethodName := ⟨RX3, "make", "(IIIII)I"⟩
abbrev cX3_setRef : ByteArray := prog_5_method_13_code
def yX3_setRef : MethodName := ⟨RX3, "setRef", "(III)I"⟩
abbrev cX3_ref : ByteArray := prog_5_method_14_code
def yX3_ref : MethodName := ⟨RX3, "ref", "(II)I"⟩
abbrev cX3_fileAt : ByteArray := prog_5_method_15_code
def yX3_fileAt : MethodName := ⟨RX3, "fileAt", "(II)I"⟩
abbrev cX3_lacksParent : ByteArray := prog_5_method_16_code
def yX3_lacksParent : MethodName := ⟨RX3, "lacksParent", "(II)Z"⟩
abbrev cX3_shallow : ByteArray := prog_5_method_17_code
def yX3_shallow : MethodName := ⟨RX3, "shallow", "(I)Z"⟩
abbrev cX3_markOn : ByteArray := prog_5_method_18_code
def yX3_markOn : MethodName := ⟨RX3, "markOn", "(I)V"⟩
abbrev cX3_mark : ByteArray := prog_5_method_19_code
def yX3_mark : MethodName := ⟨RX3, "mark", "(II)V"⟩
abbrev cX3_clear : ByteArray := prog_5_method_20_code
def yX3_clear : MethodName := ⟨RX3, "clear", "()V"⟩
abbrev cX3_markFrom : ByteArray := prog_5_method_21_code
def yX3_markFrom : MethodName := ⟨RX3, "markFrom", "(II)V"⟩
abbrev cX3_talk : ByteArray := prog_5_method_22_code
def yX3_talk : MethodName := ⟨RX3, "talk", "()V"⟩
abbrev cX3_tell : ByteArray := prog_5_method_23_code
def yX3_tell : MethodName := ⟨RX3, "tell", "()I"⟩
abbrev cX3_reach : ByteArray := prog_5_method_24_code
def yX3_reach : MethodName := ⟨RX3, "reach", "(II)V"⟩
abbrev cX3_near : ByteArray := prog_5_method_25_code
def yX3_near : MethodName := ⟨RX3, "near", "(II)V"⟩
abbrev cX3_noFetch : ByteArray := prog_5_method_26_code
def yX3_noFetch : MethodName := ⟨RX3, "noFetch", "(II)Z"⟩
abbrev cX3_fetch : ByteArray := prog_5_method_27_code
def yX3_fetch : MethodName := ⟨RX3, "fetch", "(IIZ)I"⟩
abbrev cX3_bring : ByteArray := prog_5_method_28_code
def yX3_bring : MethodName := ⟨RX3, "bring", "(IIIZ)V"⟩
abbrev cX3_wouldFetch : ByteArray := prog_5_method_29_code
def yX3_wouldFetch : MethodName := ⟨RX3, "wouldFetch", "(II)I"⟩
abbrev cX3_rounds : ByteArray := prog_5_method_30_code
def yX3_rounds : MethodName := ⟨RX3, "rounds", "()I"⟩
abbrev cX3_load : ByteArray := prog_5_method_31_code
def yX3_load : MethodName := ⟨RX3, "load", "(I)Z"⟩
abbrev cX3_isNeeded : ByteArray := prog_5_method_32_code
def yX3_isNeeded : MethodName := ⟨RX3, "isNeeded", "(II)Z"⟩
abbrev cX3_missing : ByteArray := prog_5_method_33_code
def yX3_missing : MethodName := ⟨RX3, "missing", "()I"⟩
abbrev cX3_protect : ByteArray := prog_5_method_34_code
def yX3_protect : MethodName := ⟨RX3, "protect", "(IZ)Z"⟩
abbrev cX3_move : ByteArray := prog_5_method_35_code
def yX3_move : MethodName := ⟨RX3, "move", "(III)I"⟩
abbrev cX3_barred : ByteArray := prog_5_method_36_code
def yX3_barred : MethodName := ⟨RX3, "barred", "(I)I"⟩
abbrev cX3_push : ByteArray := prog_5_method_37_code
def yX3_push : MethodName := ⟨RX3, "push", "()I"⟩
abbrev cX3_collect : ByteArray := prog_5_method_38_code
def yX3_collect : MethodName := ⟨RX3, "collect", "(I)I"⟩
abbrev cX3_commits : ByteArray := prog_5_method_39_code
def yX3_commits : MethodName := ⟨RX3, "commits", "()I"⟩
abbrev cX3_has : ByteArray := prog_5_method_40_code
def yX3_has : MethodName := ⟨RX3, "has", "(II)Z"⟩
abbrev cX3_hasFile : ByteArray := prog_5_method_41_code
def yX3_hasFile : MethodName := ⟨RX3, "hasFile", "(II)Z"⟩
abbrev cX3_isShallow : ByteArray := prog_5_method_42_code
def yX3_isShallow : MethodName := ⟨RX3, "isShallow", "(I)Z"⟩
abbrev cX3_isAncestor : ByteArray := prog_5_method_43_code
def yX3_isAncestor : MethodName := ⟨RX3, "isAncestor", "(III)Z"⟩
def RJx145de : String := "java/io/Serializable"
def TJx145de : u_T := fun k => match k with
  | _ => ("", "", "", false)
def tyJx145de : Nat → FieldType := fun k => match k with
  | _ => .int
abbrev wsJx145de0 : List Cond := u_ws RJx145de TJx145de 0
theorem nmJx145de : ∀ a, a < 0 → ∀ b, b < 0 → a ≠ b → (TJx145de a).2.1 ≠ (TJx145de b).2.1 := by decide +kernel
theorem tyJx145de_ok : ∀ k, k < 0 → parseFieldDescriptor (TJx145de k).2.2.1 = some (tyJx145de k) := by decide +kernel
def RJ13 : String := "java/lang/Long"
def TJ13 : u_T := fun k => match k with
  | _ => ("", "", "", false)
def tyJ13 : Nat → FieldType := fun k => match k with
  | _ => .int
abbrev wsJ130 : List Cond := u_ws RJ13 TJ13 0
theorem nmJ13 : ∀ a, a < 0 → ∀ b, b < 0 → a ≠ b → (TJ13 a).2.1 ≠ (TJ13 b).2.1 := by decide +kernel
theorem tyJ13_ok : ∀ k, k < 0 → parseFieldDescriptor (TJ13 k).2.2.1 = some (tyJ13 k) := by decide +kernel
abbrev cJ13_bitCount_95d88 : ByteArray := prog_10_method_50_code
def yJ13_bitCount_95d88 : MethodName := ⟨RJ13, "bitCount", "(J)I"⟩
def RJ0 : String := "java/lang/String"
def TJ0 : u_T := fun k => match k with
  | _ => ("", "", "", false)
def tyJ0 : Nat → FieldType := fun k => match k with
  | _ => .int
abbrev wsJ00 : List Cond := u_ws RJ0 TJ0 0
theorem nmJ0 : ∀ a, a < 0 → ∀ b, b < 0 → a ≠ b → (TJ0 a).2.1 ≠ (TJ0 b).2.1 := by decide +kernel
theorem tyJ0_ok : ∀ k, k < 0 → parseFieldDescriptor (TJ0 k).2.2.1 = some (tyJ0 k) := by decide +kernel
def RJ7 : String := "java/util/Arrays"
def TJ7 : u_T := fun k => match k with
  | _ => ("", "", "", false)
def tyJ7 : Nat → FieldType := fun k => match k with
  | _ => .int
abbrev wsJ70 : List Cond := u_ws RJ7 TJ7 0
theorem nmJ7 : ∀ a, a < 0 → ∀ b, b < 0 → a ≠ b → (TJ7 a).2.1 ≠ (TJ7 b).2.1 := by decide +kernel
theorem tyJ7_ok : ∀ k, k < 0 → parseFieldDescriptor (TJ7 k).2.2.1 = some (tyJ7 k) := by decide +kernel
abbrev cJ7_fill_53178 : ByteArray := prog_14_method_103_code
def yJ7_fill_53178 : MethodName := ⟨RJ7, "fill", "([II)V"⟩
def RL : String := "FetchHouseLaw"
abbrev cL_make : ByteArray := method_3_code
def yL_make : MethodName := ⟨RL, "make", "(LFetchHouse;IIIII[J)I"⟩
abbrev cL_setRef : ByteArray := method_4_code
def yL_setRef : MethodName := ⟨RL, "setRef", "(LFetchHouse;III[J)I"⟩
abbrev cL_ref : ByteArray := method_5_code
def yL_ref : MethodName := ⟨RL, "ref", "(LFetchHouse;II[J)I"⟩
abbrev cL_fileAt : ByteArray := method_6_code
def yL_fileAt : MethodName := ⟨RL, "fileAt", "(LFetchHouse;II[J)I"⟩
abbrev cL_fetch : ByteArray := method_7_code
def yL_fetch : MethodName := ⟨RL, "fetch", "(LFetchHouse;IIZ[J)I"⟩
abbrev cL_wouldFetch : ByteArray := method_8_code
def yL_wouldFetch : MethodName := ⟨RL, "wouldFetch", "(LFetchHouse;II[J)I"⟩
abbrev cL_load : ByteArray := method_9_code
def yL_load : MethodName := ⟨RL, "load", "(LFetchHouse;I[J)I"⟩
abbrev cL_protect : ByteArray := method_10_code
def yL_protect : MethodName := ⟨RL, "protect", "(LFetchHouse;IZ[J)I"⟩
abbrev cL_move : ByteArray := method_11_code
def yL_move : MethodName := ⟨RL, "move", "(LFetchHouse;III[J)I"⟩
abbrev cL_collect : ByteArray := method_12_code
def yL_collect : MethodName := ⟨RL, "collect", "(LFetchHouse;I[J)I"⟩
abbrev cL_has : ByteArray := method_13_code
def yL_has : MethodName := ⟨RL, "has", "(LFetchHouse;II[J)I"⟩
abbrev cL_hasFile : ByteArray := method_14_code
def yL_hasFile : MethodName := ⟨RL, "hasFile", "(LFetchHouse;II[J)I"⟩
abbrev cL_isShallow : ByteArray := method_15_code
def yL_isShallow : MethodName := ⟨RL, "isShallow", "(LFetchHouse;I[J)I"⟩
abbrev cL_isAncestor : ByteArray := method_16_code
def yL_isAncestor : MethodName := ⟨RL, "isAncestor", "(LFetchHouse;III[J)I"⟩
abbrev cL_law : ByteArray := code
def yL_law : MethodName := ⟨RL, "law", "([I)Z"⟩
def wsX0_init : List Cond := .code yX0_init cX0_init 1 none :: ([.methodLink RX0 3 objectInit, .instanceMethod objectInit, .code objectInit ⟨#[0xb1]⟩ 1 none, .arrayClass .int, .fieldLink RX0 9 "FetchHouse$History" "firstParents" "[I", .fieldLink RX0 15 "FetchHouse$History" "secondParents" "[I", .fieldLink RX0 18 "FetchHouse$History" "slotFiles" "[I", .fieldLink RX0 21 "FetchHouse$History" "fewestSteps" "[I", .arrayClass .boolean, .fieldLink RX0 24 "FetchHouse$History" "foundFiles" "[Z"] ++ wsX00)
def wsX0_size : List Cond := .code yX0_size cX0_size 1 (some .int) :: ([.fieldLink RX0 28 "FetchHouse$History" "made" "I"] ++ wsX00)
def wsX0_isFull : List Cond := .code yX0_isFull cX0_isFull 1 (some .boolean) :: ([.fieldLink RX0 28 "FetchHouse$History" "made" "I"] ++ wsX00)
def wsX0_isCommit : List Cond := .code yX0_isCommit cX0_isCommit 2 (some .boolean) :: ([.fieldLink RX0 28 "FetchHouse$History" "made" "I"] ++ wsX00)
def wsX2_isSlot : List Cond := .code yX2_isSlot cX2_isSlot 1 (some .boolean) :: ([])
def wsX0_fileIn : List Cond := .code yX0_fileIn cX0_fileIn 3 (some .int) :: ([.fieldLink RX0 18 "FetchHouse$History" "slotFiles" "[I", .methodLink RX0 40 yX0_isCommit, .instanceMethod yX0_isCommit, .selects RX0 yX0_isCommit yX0_isCommit, .initialized RX0, .code yX0_isCommit cX0_isCommit 2 (some .boolean), .fieldLink RX0 28 "FetchHouse$History" "made" "I", .static yX2_isSlot, .initialized RX2, .code yX2_isSlot cX2_isSlot 1 (some .boolean)] ++ wsX00)
def wsX0_append : List Cond := .code yX0_append cX0_append 7 (some .int) :: ([.fieldLink RX0 28 "FetchHouse$History" "made" "I", .fieldLink RX0 9 "FetchHouse$History" "firstParents" "[I", .fieldLink RX0 15 "FetchHouse$History" "secondParents" "[I", .fieldLink RX0 18 "FetchHouse$History" "slotFiles" "[I", .methodLink RX0 32 yX0_isFull, .instanceMethod yX0_isFull, .selects RX0 yX0_isFull yX0_isFull, .initialized RX0, .code yX0_isFull cX0_isFull 1 (some .boolean), .methodLink RX0 36 yX0_fileIn, .instanceMethod yX0_fileIn, .selects RX0 yX0_fileIn yX0_fileIn, .code yX0_fileIn cX0_fileIn 3 (some .int), .methodLink RX0 40 yX0_isCommit, .instanceMethod yX0_isCommit, .selects RX0 yX0_isCommit yX0_isCommit, .code yX0_isCommit cX0_isCommit 2 (some .boolean), .static yX2_isSlot, .initialized RX2, .code yX2_isSlot cX2_isSlot 1 (some .boolean)] ++ wsX00)
def wsX2_setOf : List Cond := .code yX2_setOf cX2_setOf 1 (some .long) :: ([])
def wsX2_contains : List Cond := .code yX2_contains cX2_contains 3 (some .boolean) :: ([.methodLink RX2 79 yX2_setOf, .static yX2_setOf, .initialized RX2, .code yX2_setOf cX2_setOf 1 (some .long)])
def wsX2_isFile : List Cond := .code yX2_isFile cX2_isFile 1 (some .boolean) :: ([])
def wsX0_findFilesOf : List Cond := .code yX0_findFilesOf cX0_findFilesOf 4 none :: ([.fieldLink RX0 24 "FetchHouse$History" "foundFiles" "[Z", .methodLink RX0 36 yX0_fileIn, .instanceMethod yX0_fileIn, .selects RX0 yX0_fileIn yX0_fileIn, .initialized RX0, .code yX0_fileIn cX0_fileIn 3 (some .int), .fieldLink RX0 18 "FetchHouse$History" "slotFiles" "[I", .methodLink RX0 40 yX0_isCommit, .instanceMethod yX0_isCommit, .selects RX0 yX0_isCommit yX0_isCommit, .code yX0_isCommit cX0_isCommit 2 (some .boolean), .fieldLink RX0 28 "FetchHouse$History" "made" "I", .static yX2_isSlot, .initialized RX2, .code yX2_isSlot cX2_isSlot 1 (some .boolean), .static yX2_isFile, .code yX2_isFile cX2_isFile 1 (some .boolean)] ++ wsX00)
def wsX0_filesOf_r1 : List Cond := [Cond.fieldLink RX0 24 "FetchHouse$History" "foundFiles" "[Z", Cond.fieldLink RX0 28 "FetchHouse$History" "made" "I", Cond.static yX2_contains, Cond.initialized RX2, Cond.code yX2_contains cX2_contains 3 (some .boolean), Cond.methodLink RX2 79 yX2_setOf, Cond.static yX2_setOf, Cond.code yX2_setOf cX2_setOf 1 (some .long), Cond.methodLink RX0 51 yX0_findFilesOf, Cond.instanceMethod yX0_findFilesOf, Cond.selects RX0 yX0_findFilesOf yX0_findFilesOf, Cond.initialized RX0, Cond.code yX0_findFilesOf cX0_findFilesOf 4 none, Cond.methodLink RX0 36 yX0_fileIn, Cond.instanceMethod yX0_fileIn, Cond.selects RX0 yX0_fileIn yX0_fileIn, Cond.code yX0_fileIn cX0_fileIn 3 (some .int), Cond.fieldLink RX0 18 "FetchHouse$History" "slotFiles" "[I", Cond.methodLink RX0 40 yX0_isCommit, Cond.instanceMethod yX0_isCommit, Cond.selects RX0 yX0_isCommit yX0_isCommit, Cond.code yX0_isCommit cX0_isCommit 2 (some .boolean), Cond.static yX2_isSlot, Cond.code yX2_isSlot cX2_isSlot 1 (some .boolean)]
def wsX0_filesOf_r2 : List Cond := [Cond.static yX2_isFile, Cond.code yX2_isFile cX2_isFile 1 (some .boolean)]
def wsX0_filesOf : List Cond := .code yX0_filesOf cX0_filesOf 4 (some (.array .boolean)) :: ((wsX0_filesOf_r1 ++ wsX0_filesOf_r2) ++ wsX00)
def wsX0_parentsOf : List Cond := .code yX0_parentsOf cX0_parentsOf 2 (some .long) :: ([.fieldLink RX0 9 "FetchHouse$History" "firstParents" "[I", .fieldLink RX0 15 "FetchHouse$History" "secondParents" "[I", .methodLink RX0 40 yX0_isCommit, .instanceMethod yX0_isCommit, .selects RX0 yX0_isCommit yX0_isCommit, .initialized RX0, .code yX0_isCommit cX0_isCommit 2 (some .boolean), .fieldLink RX0 28 "FetchHouse$History" "made" "I", .static yX2_setOf, .initialized RX2, .code yX2_setOf cX2_setOf 1 (some .long)] ++ wsX00)
def wsX0_shallowOf : List Cond := .code yX0_shallowOf cX0_shallowOf 6 (some .long) :: ([.fieldLink RX0 28 "FetchHouse$History" "made" "I", .constantLong RX0 65 (-1), .static yX2_contains, .initialized RX2, .code yX2_contains cX2_contains 3 (some .boolean), .methodLink RX2 79 yX2_setOf, .static yX2_setOf, .code yX2_setOf cX2_setOf 1 (some .long), .methodLink RX0 62 yX0_parentsOf, .instanceMethod yX0_parentsOf, .selects RX0 yX0_parentsOf yX0_parentsOf, .initialized RX0, .code yX0_parentsOf cX0_parentsOf 2 (some .long), .fieldLink RX0 9 "FetchHouse$History" "firstParents" "[I", .fieldLink RX0 15 "FetchHouse$History" "secondParents" "[I", .methodLink RX0 40 yX0_isCommit, .instanceMethod yX0_isCommit, .selects RX0 yX0_isCommit yX0_isCommit, .code yX0_isCommit cX0_isCommit 2 (some .boolean)] ++ wsX00)
def wsX0_ancestorsOf : List Cond := .code yX0_ancestorsOf cX0_ancestorsOf 10 (some .long) :: ([.fieldLink RX0 28 "FetchHouse$History" "made" "I", .constantLong RX0 65 (-1), .methodLink RX0 67 yX0_shallowOf, .instanceMethod yX0_shallowOf, .selects RX0 yX0_shallowOf yX0_shallowOf, .initialized RX0, .code yX0_shallowOf cX0_shallowOf 6 (some .long), .static yX2_contains, .initialized RX2, .code yX2_contains cX2_contains 3 (some .boolean), .methodLink RX2 79 yX2_setOf, .static yX2_setOf, .code yX2_setOf cX2_setOf 1 (some .long), .methodLink RX0 62 yX0_parentsOf, .instanceMethod yX0_parentsOf, .selects RX0 yX0_parentsOf yX0_parentsOf, .code yX0_parentsOf cX0_parentsOf 2 (some .long), .fieldLink RX0 9 "FetchHouse$History" "firstParents" "[I", .fieldLink RX0 15 "FetchHouse$History" "secondParents" "[I", .methodLink RX0 40 yX0_isCommit, .instanceMethod yX0_isCommit, .selects RX0 yX0_isCommit yX0_isCommit, .code yX0_isCommit cX0_isCommit 2 (some .boolean)] ++ wsX00)
def wsJ7_fill_53178 : List Cond := .code yJ7_fill_53178 cJ7_fill_53178 4 none :: ([])
def wsX0_comeTo : List Cond := .code yX0_comeTo cX0_comeTo 3 none :: ([.fieldLink RX0 21 "FetchHouse$History" "fewestSteps" "[I", .methodLink RX0 40 yX0_isCommit, .instanceMethod yX0_isCommit, .selects RX0 yX0_isCommit yX0_isCommit, .initialized RX0, .code yX0_isCommit cX0_isCommit 2 (some .boolean), .fieldLink RX0 28 "FetchHouse$History" "made" "I"] ++ wsX00)
def wsX0_reachOf : List Cond := .code yX0_reachOf cX0_reachOf 8 (some .long) :: ([.fieldLink RX0 21 "FetchHouse$History" "fewestSteps" "[I", .fieldLink RX0 9 "FetchHouse$History" "firstParents" "[I", .fieldLink RX0 15 "FetchHouse$History" "secondParents" "[I", .methodLink RX0 40 yX0_isCommit, .instanceMethod yX0_isCommit, .selects RX0 yX0_isCommit yX0_isCommit, .initialized RX0, .code yX0_isCommit cX0_isCommit 2 (some .boolean), .fieldLink RX0 28 "FetchHouse$History" "made" "I", .methodLink RX0 71 yJ7_fill_53178, .static yJ7_fill_53178, .initialized RJ7, .code yJ7_fill_53178 cJ7_fill_53178 4 none, .static yX2_setOf, .initialized RX2, .code yX2_setOf cX2_setOf 1 (some .long), .methodLink RX0 77 yX0_comeTo, .instanceMethod yX0_comeTo, .selects RX0 yX0_comeTo yX0_comeTo, .code yX0_comeTo cX0_comeTo 3 none] ++ wsX00)
def wsX1_init : List Cond := .code yX1_init cX1_init 1 none :: ([.methodLink RX1 3 objectInit, .instanceMethod objectInit, .code objectInit ⟨#[0xb1]⟩ 1 none, .arrayClass .boolean, .fieldLink RX1 9 "FetchHouse$Store" "heldFiles" "[Z", .arrayClass .int, .fieldLink RX1 15 "FetchHouse$Store" "refCommits" "[I", .methodLink RX1 19 yJ7_fill_53178, .static yJ7_fill_53178, .initialized RJ7, .code yJ7_fill_53178 cJ7_fill_53178 4 none] ++ wsX10)
def wsX2_isRef : List Cond := .code yX2_isRef cX2_isRef 1 (some .boolean) :: ([])
def wsX1_commitOfRef : List Cond := .code yX1_commitOfRef cX1_commitOfRef 2 (some .int) :: ([.fieldLink RX1 15 "FetchHouse$Store" "refCommits" "[I", .static yX2_isRef, .initialized RX2, .code yX2_isRef cX2_isRef 1 (some .boolean)] ++ wsX10)
def wsX1_pointRef : List Cond := .code yX1_pointRef cX1_pointRef 3 none :: ([.fieldLink RX1 15 "FetchHouse$Store" "refCommits" "[I", .static yX2_isRef, .initialized RX2, .code yX2_isRef cX2_isRef 1 (some .boolean)] ++ wsX10)
def wsX1_commitsOfRefs : List Cond := .code yX1_commitsOfRefs cX1_commitsOfRefs 4 (some .long) :: ([.fieldLink RX1 15 "FetchHouse$Store" "refCommits" "[I", .static yX2_setOf, .initialized RX2, .code yX2_setOf cX2_setOf 1 (some .long)] ++ wsX10)
def wsX1_holdsFile : List Cond := .code yX1_holdsFile cX1_holdsFile 2 (some .boolean) :: ([.fieldLink RX1 9 "FetchHouse$Store" "heldFiles" "[Z", .static yX2_isFile, .initialized RX2, .code yX2_isFile cX2_isFile 1 (some .boolean)] ++ wsX10)
def wsX1_addFile : List Cond := .code yX1_addFile cX1_addFile 2 none :: ([.fieldLink RX1 9 "FetchHouse$Store" "heldFiles" "[Z", .static yX2_isFile, .initialized RX2, .code yX2_isFile cX2_isFile 1 (some .boolean)] ++ wsX10)
def wsX1_addFiles : List Cond := .code yX1_addFiles cX1_addFiles 4 none :: ([.fieldLink RX1 9 "FetchHouse$Store" "heldFiles" "[Z", .methodLink RX1 36 yX1_holdsFile, .instanceMethod yX1_holdsFile, .selects RX1 yX1_holdsFile yX1_holdsFile, .initialized RX1, .code yX1_holdsFile cX1_holdsFile 2 (some .boolean), .static yX2_isFile, .initialized RX2, .code yX2_isFile cX2_isFile 1 (some .boolean)] ++ wsX10)
def wsX1_keepOnlyFiles : List Cond := .code yX1_keepOnlyFiles cX1_keepOnlyFiles 3 none :: ([.fieldLink RX1 9 "FetchHouse$Store" "heldFiles" "[Z"] ++ wsX10)
def wsX1_countLacking : List Cond := .code yX1_countLacking cX1_countLacking 4 (some .int) :: ([.fieldLink RX1 9 "FetchHouse$Store" "heldFiles" "[Z"] ++ wsX10)
def wsX2_init_r1 : List Cond := [Cond.methodLink RX2 1 objectInit, Cond.instanceMethod objectInit, Cond.code objectInit ⟨#[0xb1]⟩ 1 none, Cond.classLink RX2 7 RX0, Cond.instantiable RX0 6, Cond.initialized RX0, Cond.fieldLink RX2 10 "FetchHouse" "history" "LFetchHouse$History;", Cond.classLink RX2 16 RX1, Cond.instantiable RX1 3, Cond.initialized RX1, Cond.fieldLink RX2 19 "FetchHouse" "server" "LFetchHouse$Store;", Cond.fieldLink RX2 23 "FetchHouse" "client" "LFetchHouse$Store;", Cond.arrayClass .boolean, Cond.fieldLink RX2 26 "FetchHouse" "protectedRefs" "[Z", Cond.arrayClass .int, Cond.fieldLink RX2 30 "FetchHouse" "movedRefs" "[I", Cond.fieldLink RX2 34 "FetchHouse" "oldCommits" "[I", Cond.fieldLink RX2 37 "FetchHouse" "newCommits" "[I", Cond.instanceMethod yX0_init, Cond.code yX0_init cX0_init 1 none, Cond.methodLink RX0 3 objectInit, Cond.fieldLink RX0 9 "FetchHouse$History" "firstParents" "[I", Cond.fieldLink RX0 15 "FetchHouse$History" "secondParents" "[I", Cond.fieldLink RX0 18 "FetchHouse$History" "slotFiles" "[I"]
def wsX2_init_r2 : List Cond := [Cond.fieldLink RX0 21 "FetchHouse$History" "fewestSteps" "[I", Cond.fieldLink RX0 24 "FetchHouse$History" "foundFiles" "[Z", Cond.methodLink RX2 18 yX1_init, Cond.instanceMethod yX1_init, Cond.code yX1_init cX1_init 1 none, Cond.methodLink RX1 3 objectInit, Cond.fieldLink RX1 9 "FetchHouse$Store" "heldFiles" "[Z", Cond.fieldLink RX1 15 "FetchHouse$Store" "refCommits" "[I", Cond.methodLink RX1 19 yJ7_fill_53178, Cond.static yJ7_fill_53178, Cond.initialized RJ7, Cond.code yJ7_fill_53178 cJ7_fill_53178 4 none]
def wsX2_init : List Cond := .code yX2_init cX2_init 1 none :: ((wsX2_init_r1 ++ wsX2_init_r2) ++ wsX00 ++ wsX20 ++ wsX10)
def wsX2_storeOf : List Cond := .code yX2_storeOf cX2_storeOf 2 (some (.object "FetchHouse$Store")) :: ([.classLink RX2 201 "java/lang/IndexOutOfBoundsException", .initialized "java/lang/IndexOutOfBoundsException", .fieldLink RX2 19 "FetchHouse" "server" "LFetchHouse$Store;", .fieldLink RX2 23 "FetchHouse" "client" "LFetchHouse$Store;"] ++ wsX20 ++ (vx_atS RX2 205 "java/lang/IndexOutOfBoundsException" ["java/lang/RuntimeException", "java/lang/Exception"]).filter goodWord)
def wsX2_checkSlot : List Cond := .code yX2_checkSlot cX2_checkSlot 1 none :: ([.classLink RX2 201 "java/lang/IndexOutOfBoundsException", .initialized "java/lang/IndexOutOfBoundsException", .methodLink RX2 213 yX2_isSlot, .static yX2_isSlot, .initialized RX2, .code yX2_isSlot cX2_isSlot 1 (some .boolean)] ++ (vx_atS RX2 205 "java/lang/IndexOutOfBoundsException" ["java/lang/RuntimeException", "java/lang/Exception"]).filter goodWord)
def wsX2_checkHeldOrNone : List Cond := .code yX2_checkHeldOrNone cX2_checkHeldOrNone 2 none :: ([.classLink RX2 201 "java/lang/IndexOutOfBoundsException", .initialized "java/lang/IndexOutOfBoundsException", .methodLink RX2 174 yX2_contains, .static yX2_contains, .initialized RX2, .code yX2_contains cX2_contains 3 (some .boolean), .methodLink RX2 79 yX2_setOf, .static yX2_setOf, .code yX2_setOf cX2_setOf 1 (some .long)] ++ wsX10 ++ (vx_atS RX2 205 "java/lang/IndexOutOfBoundsException" ["java/lang/RuntimeException", "java/lang/Exception"]).filter goodWord)
def wsX2_checkFile : List Cond := .code yX2_checkFile cX2_checkFile 1 none :: ([.classLink RX2 55 "java/lang/IllegalArgumentException", .initialized "java/lang/IllegalArgumentException", .methodLink RX2 223 yX2_isFile, .static yX2_isFile, .initialized RX2, .code yX2_isFile cX2_isFile 1 (some .boolean)] ++ (vx_atS RX2 59 "java/lang/IllegalArgumentException" ["java/lang/RuntimeException", "java/lang/Exception"]).filter goodWord)
def wsX2_make_r1 : List Cond := [Cond.classLink RX2 55 "java/lang/IllegalArgumentException", Cond.initialized "java/lang/IllegalArgumentException", Cond.classLink RX2 66 "java/lang/IllegalStateException", Cond.initialized "java/lang/IllegalStateException", Cond.fieldLink RX2 10 "FetchHouse" "history" "LFetchHouse$History;", Cond.methodLink RX2 40 yX2_storeOf, Cond.instanceMethod yX2_storeOf, Cond.selects RX2 yX2_storeOf yX2_storeOf, Cond.initialized RX2, Cond.code yX2_storeOf cX2_storeOf 2 (some (.object "FetchHouse$Store")), Cond.classLink RX2 201 "java/lang/IndexOutOfBoundsException", Cond.initialized "java/lang/IndexOutOfBoundsException", Cond.fieldLink RX2 19 "FetchHouse" "server" "LFetchHouse$Store;", Cond.fieldLink RX2 23 "FetchHouse" "client" "LFetchHouse$Store;", Cond.methodLink RX2 44 yX2_checkSlot, Cond.static yX2_checkSlot, Cond.code yX2_checkSlot cX2_checkSlot 1 none, Cond.methodLink RX2 213 yX2_isSlot, Cond.static yX2_isSlot, Cond.code yX2_isSlot cX2_isSlot 1 (some .boolean), Cond.methodLink RX2 48 yX2_checkHeldOrNone, Cond.static yX2_checkHeldOrNone, Cond.code yX2_checkHeldOrNone cX2_checkHeldOrNone 2 none, Cond.methodLink RX2 174 yX2_contains]
def wsX2_make_r2 : List Cond := [Cond.static yX2_contains, Cond.code yX2_contains cX2_contains 3 (some .boolean), Cond.methodLink RX2 79 yX2_setOf, Cond.static yX2_setOf, Cond.code yX2_setOf cX2_setOf 1 (some .long), Cond.methodLink RX2 52 yX2_checkFile, Cond.static yX2_checkFile, Cond.code yX2_checkFile cX2_checkFile 1 none, Cond.methodLink RX2 223 yX2_isFile, Cond.static yX2_isFile, Cond.code yX2_isFile cX2_isFile 1 (some .boolean), Cond.methodLink RX2 62 yX0_isFull, Cond.instanceMethod yX0_isFull, Cond.selects RX0 yX0_isFull yX0_isFull, Cond.initialized RX0, Cond.code yX0_isFull cX0_isFull 1 (some .boolean), Cond.fieldLink RX0 28 "FetchHouse$History" "made" "I", Cond.methodLink RX2 71 yX0_append, Cond.instanceMethod yX0_append, Cond.selects RX0 yX0_append yX0_append, Cond.code yX0_append cX0_append 7 (some .int), Cond.fieldLink RX0 9 "FetchHouse$History" "firstParents" "[I", Cond.fieldLink RX0 15 "FetchHouse$History" "secondParents" "[I", Cond.fieldLink RX0 18 "FetchHouse$History" "slotFiles" "[I"]
def wsX2_make_r3 : List Cond := [Cond.methodLink RX0 32 yX0_isFull, Cond.methodLink RX0 36 yX0_fileIn, Cond.instanceMethod yX0_fileIn, Cond.selects RX0 yX0_fileIn yX0_fileIn, Cond.code yX0_fileIn cX0_fileIn 3 (some .int), Cond.methodLink RX0 40 yX0_isCommit, Cond.instanceMethod yX0_isCommit, Cond.selects RX0 yX0_isCommit yX0_isCommit, Cond.code yX0_isCommit cX0_isCommit 2 (some .boolean), Cond.methodLink RX2 83 yX1_addFile, Cond.instanceMethod yX1_addFile, Cond.selects RX1 yX1_addFile yX1_addFile, Cond.initialized RX1, Cond.code yX1_addFile cX1_addFile 2 none, Cond.fieldLink RX1 9 "FetchHouse$Store" "heldFiles" "[Z"]
def wsX2_make : List Cond := .code yX2_make cX2_make 8 (some .int) :: ((wsX2_make_r1 ++ (wsX2_make_r2 ++ wsX2_make_r3)) ++ wsX20 ++ wsX10 ++ wsX00 ++ (vx_atS RX2 59 "java/lang/IllegalArgumentException" ["java/lang/RuntimeException", "java/lang/Exception"]).filter goodWord ++ (vx_atS RX2 70 "java/lang/IllegalStateException" ["java/lang/RuntimeException", "java/lang/Exception"]).filter goodWord ++ (vx_atS RX2 205 "java/lang/IndexOutOfBoundsException" ["java/lang/RuntimeException", "java/lang/Exception"]).filter goodWord)
def wsX2_checkRef : List Cond := .code yX2_checkRef cX2_checkRef 1 none :: ([.classLink RX2 201 "java/lang/IndexOutOfBoundsException", .initialized "java/lang/IndexOutOfBoundsException", .methodLink RX2 218 yX2_isRef, .static yX2_isRef, .initialized RX2, .code yX2_isRef cX2_isRef 1 (some .boolean)] ++ (vx_atS RX2 205 "java/lang/IndexOutOfBoundsException" ["java/lang/RuntimeException", "java/lang/Exception"]).filter goodWord)
def wsX2_setRef_r1 : List Cond := [Cond.methodLink RX2 40 yX2_storeOf, Cond.instanceMethod yX2_storeOf, Cond.selects RX2 yX2_storeOf yX2_storeOf, Cond.initialized RX2, Cond.code yX2_storeOf cX2_storeOf 2 (some (.object "FetchHouse$Store")), Cond.classLink RX2 201 "java/lang/IndexOutOfBoundsException", Cond.initialized "java/lang/IndexOutOfBoundsException", Cond.fieldLink RX2 19 "FetchHouse" "server" "LFetchHouse$Store;", Cond.fieldLink RX2 23 "FetchHouse" "client" "LFetchHouse$Store;", Cond.methodLink RX2 86 yX2_checkRef, Cond.static yX2_checkRef, Cond.code yX2_checkRef cX2_checkRef 1 none, Cond.methodLink RX2 218 yX2_isRef, Cond.static yX2_isRef, Cond.code yX2_isRef cX2_isRef 1 (some .boolean), Cond.methodLink RX2 48 yX2_checkHeldOrNone, Cond.static yX2_checkHeldOrNone, Cond.code yX2_checkHeldOrNone cX2_checkHeldOrNone 2 none, Cond.methodLink RX2 174 yX2_contains, Cond.static yX2_contains, Cond.code yX2_contains cX2_contains 3 (some .boolean), Cond.methodLink RX2 79 yX2_setOf, Cond.static yX2_setOf, Cond.code yX2_setOf cX2_setOf 1 (some .long)]
def wsX2_setRef_r2 : List Cond := [Cond.methodLink RX2 89 yX1_commitOfRef, Cond.instanceMethod yX1_commitOfRef, Cond.selects RX1 yX1_commitOfRef yX1_commitOfRef, Cond.initialized RX1, Cond.code yX1_commitOfRef cX1_commitOfRef 2 (some .int), Cond.fieldLink RX1 15 "FetchHouse$Store" "refCommits" "[I", Cond.methodLink RX2 93 yX1_pointRef, Cond.instanceMethod yX1_pointRef, Cond.selects RX1 yX1_pointRef yX1_pointRef, Cond.code yX1_pointRef cX1_pointRef 3 none]
def wsX2_setRef : List Cond := .code yX2_setRef cX2_setRef 6 (some .int) :: ((wsX2_setRef_r1 ++ wsX2_setRef_r2) ++ wsX20 ++ wsX10 ++ (vx_atS RX2 205 "java/lang/IndexOutOfBoundsException" ["java/lang/RuntimeException", "java/lang/Exception"]).filter goodWord)
def wsX2_ref : List Cond := .code yX2_ref cX2_ref 4 (some .int) :: ([.methodLink RX2 40 yX2_storeOf, .instanceMethod yX2_storeOf, .selects RX2 yX2_storeOf yX2_storeOf, .initialized RX2, .code yX2_storeOf cX2_storeOf 2 (some (.object "FetchHouse$Store")), .classLink RX2 201 "java/lang/IndexOutOfBoundsException", .initialized "java/lang/IndexOutOfBoundsException", .fieldLink RX2 19 "FetchHouse" "server" "LFetchHouse$Store;", .fieldLink RX2 23 "FetchHouse" "client" "LFetchHouse$Store;", .methodLink RX2 86 yX2_checkRef, .static yX2_checkRef, .code yX2_checkRef cX2_checkRef 1 none, .methodLink RX2 218 yX2_isRef, .static yX2_isRef, .code yX2_isRef cX2_isRef 1 (some .boolean), .methodLink RX2 89 yX1_commitOfRef, .instanceMethod yX1_commitOfRef, .selects RX1 yX1_commitOfRef yX1_commitOfRef, .initialized RX1, .code yX1_commitOfRef cX1_commitOfRef 2 (some .int), .fieldLink RX1 15 "FetchHouse$Store" "refCommits" "[I"] ++ wsX20 ++ wsX10 ++ (vx_atS RX2 205 "java/lang/IndexOutOfBoundsException" ["java/lang/RuntimeException", "java/lang/Exception"]).filter goodWord)
def wsX2_checkCommit : List Cond := .code yX2_checkCommit cX2_checkCommit 2 none :: ([.classLink RX2 201 "java/lang/IndexOutOfBoundsException", .initialized "java/lang/IndexOutOfBoundsException", .fieldLink RX2 10 "FetchHouse" "history" "LFetchHouse$History;", .methodLink RX2 206 yX0_isCommit, .instanceMethod yX0_isCommit, .selects RX0 yX0_isCommit yX0_isCommit, .initialized RX0, .code yX0_isCommit cX0_isCommit 2 (some .boolean), .fieldLink RX0 28 "FetchHouse$History" "made" "I"] ++ wsX20 ++ wsX00 ++ (vx_atS RX2 205 "java/lang/IndexOutOfBoundsException" ["java/lang/RuntimeException", "java/lang/Exception"]).filter goodWord)
def wsX2_fileAt_r1 : List Cond := [Cond.fieldLink RX2 10 "FetchHouse" "history" "LFetchHouse$History;", Cond.methodLink RX2 97 yX2_checkCommit, Cond.instanceMethod yX2_checkCommit, Cond.selects RX2 yX2_checkCommit yX2_checkCommit, Cond.initialized RX2, Cond.code yX2_checkCommit cX2_checkCommit 2 none, Cond.classLink RX2 201 "java/lang/IndexOutOfBoundsException", Cond.initialized "java/lang/IndexOutOfBoundsException", Cond.methodLink RX2 206 yX0_isCommit, Cond.instanceMethod yX0_isCommit, Cond.selects RX0 yX0_isCommit yX0_isCommit, Cond.initialized RX0, Cond.code yX0_isCommit cX0_isCommit 2 (some .boolean), Cond.fieldLink RX0 28 "FetchHouse$History" "made" "I", Cond.methodLink RX2 44 yX2_checkSlot, Cond.static yX2_checkSlot, Cond.code yX2_checkSlot cX2_checkSlot 1 none, Cond.methodLink RX2 213 yX2_isSlot, Cond.static yX2_isSlot, Cond.code yX2_isSlot cX2_isSlot 1 (some .boolean), Cond.methodLink RX2 100 yX0_fileIn, Cond.instanceMethod yX0_fileIn, Cond.selects RX0 yX0_fileIn yX0_fileIn, Cond.code yX0_fileIn cX0_fileIn 3 (some .int)]
def wsX2_fileAt_r2 : List Cond := [Cond.fieldLink RX0 18 "FetchHouse$History" "slotFiles" "[I", Cond.methodLink RX0 40 yX0_isCommit]
def wsX2_fileAt : List Cond := .code yX2_fileAt cX2_fileAt 3 (some .int) :: ((wsX2_fileAt_r1 ++ wsX2_fileAt_r2) ++ wsX20 ++ wsX00 ++ (vx_atS RX2 205 "java/lang/IndexOutOfBoundsException" ["java/lang/RuntimeException", "java/lang/Exception"]).filter goodWord)
def wsX2_commitToFetch : List Cond := .code yX2_commitToFetch cX2_commitToFetch 4 (some .int) :: ([.classLink RX2 55 "java/lang/IllegalArgumentException", .initialized "java/lang/IllegalArgumentException", .classLink RX2 66 "java/lang/IllegalStateException", .initialized "java/lang/IllegalStateException", .fieldLink RX2 19 "FetchHouse" "server" "LFetchHouse$Store;", .methodLink RX2 86 yX2_checkRef, .static yX2_checkRef, .initialized RX2, .code yX2_checkRef cX2_checkRef 1 none, .classLink RX2 201 "java/lang/IndexOutOfBoundsException", .initialized "java/lang/IndexOutOfBoundsException", .methodLink RX2 218 yX2_isRef, .static yX2_isRef, .code yX2_isRef cX2_isRef 1 (some .boolean), .methodLink RX2 89 yX1_commitOfRef, .instanceMethod yX1_commitOfRef, .selects RX1 yX1_commitOfRef yX1_commitOfRef, .initialized RX1, .code yX1_commitOfRef cX1_commitOfRef 2 (some .int), .fieldLink RX1 15 "FetchHouse$Store" "refCommits" "[I"] ++ wsX20 ++ wsX10 ++ (vx_atS RX2 59 "java/lang/IllegalArgumentException" ["java/lang/RuntimeException", "java/lang/Exception"]).filter goodWord ++ (vx_atS RX2 70 "java/lang/IllegalStateException" ["java/lang/RuntimeException", "java/lang/Exception"]).filter goodWord ++ (vx_atS RX2 205 "java/lang/IndexOutOfBoundsException" ["java/lang/RuntimeException", "java/lang/Exception"]).filter goodWord)
def wsX2_highestOf : List Cond := .code yX2_highestOf cX2_highestOf 7 (some .long) :: ([.methodLink RX2 174 yX2_contains, .static yX2_contains, .initialized RX2, .code yX2_contains cX2_contains 3 (some .boolean), .methodLink RX2 79 yX2_setOf, .static yX2_setOf, .code yX2_setOf cX2_setOf 1 (some .long)])
def wsX2_talk_r1 : List Cond := [Cond.fieldLink RX2 23 "FetchHouse" "client" "LFetchHouse$Store;", Cond.fieldLink RX2 10 "FetchHouse" "history" "LFetchHouse$History;", Cond.fieldLink RX2 19 "FetchHouse" "server" "LFetchHouse$Store;", Cond.constantLong RX2 115 (-1), Cond.fieldLink RX2 131 "FetchHouse" "latestRounds" "I", Cond.methodLink RX2 186 yX2_highestOf, Cond.static yX2_highestOf, Cond.initialized RX2, Cond.code yX2_highestOf cX2_highestOf 7 (some .long), Cond.methodLink RX2 174 yX2_contains, Cond.static yX2_contains, Cond.code yX2_contains cX2_contains 3 (some .boolean), Cond.methodLink RX2 79 yX2_setOf, Cond.static yX2_setOf, Cond.code yX2_setOf cX2_setOf 1 (some .long), Cond.methodLink RX2 163 yX0_ancestorsOf, Cond.instanceMethod yX0_ancestorsOf, Cond.selects RX0 yX0_ancestorsOf yX0_ancestorsOf, Cond.initialized RX0, Cond.code yX0_ancestorsOf cX0_ancestorsOf 10 (some .long), Cond.fieldLink RX0 28 "FetchHouse$History" "made" "I", Cond.constantLong RX0 65 (-1), Cond.methodLink RX0 67 yX0_shallowOf, Cond.instanceMethod yX0_shallowOf]
def wsX2_talk_r2 : List Cond := [Cond.selects RX0 yX0_shallowOf yX0_shallowOf, Cond.code yX0_shallowOf cX0_shallowOf 6 (some .long), Cond.methodLink RX0 62 yX0_parentsOf, Cond.instanceMethod yX0_parentsOf, Cond.selects RX0 yX0_parentsOf yX0_parentsOf, Cond.code yX0_parentsOf cX0_parentsOf 2 (some .long), Cond.fieldLink RX0 9 "FetchHouse$History" "firstParents" "[I", Cond.fieldLink RX0 15 "FetchHouse$History" "secondParents" "[I", Cond.methodLink RX0 40 yX0_isCommit, Cond.instanceMethod yX0_isCommit, Cond.selects RX0 yX0_isCommit yX0_isCommit, Cond.code yX0_isCommit cX0_isCommit 2 (some .boolean)]
def wsX2_talk : List Cond := .code yX2_talk cX2_talk 8 (some .long) :: ((wsX2_talk_r1 ++ wsX2_talk_r2) ++ wsX20 ++ wsX10 ++ wsX00)
def wsJ13_bitCount_95d88 : List Cond := .code yJ13_bitCount_95d88 cJ13_bitCount_95d88 2 (some .int) :: ([.constantLong RJ13 314 (6148914691236517205), .constantLong RJ13 316 (3689348814741910323), .constantLong RJ13 318 (1085102592571150095)])
def wsX2_fetch_r1 : List Cond := [Cond.fieldLink RX2 10 "FetchHouse" "history" "LFetchHouse$History;", Cond.constantLong RX2 115 (-1), Cond.fieldLink RX2 23 "FetchHouse" "client" "LFetchHouse$Store;", Cond.fieldLink RX2 19 "FetchHouse" "server" "LFetchHouse$Store;", Cond.methodLink RX2 104 yX2_commitToFetch, Cond.instanceMethod yX2_commitToFetch, Cond.selects RX2 yX2_commitToFetch yX2_commitToFetch, Cond.initialized RX2, Cond.code yX2_commitToFetch cX2_commitToFetch 4 (some .int), Cond.classLink RX2 55 "java/lang/IllegalArgumentException", Cond.initialized "java/lang/IllegalArgumentException", Cond.classLink RX2 66 "java/lang/IllegalStateException", Cond.initialized "java/lang/IllegalStateException", Cond.methodLink RX2 86 yX2_checkRef, Cond.static yX2_checkRef, Cond.code yX2_checkRef cX2_checkRef 1 none, Cond.classLink RX2 201 "java/lang/IndexOutOfBoundsException", Cond.initialized "java/lang/IndexOutOfBoundsException", Cond.methodLink RX2 218 yX2_isRef, Cond.static yX2_isRef, Cond.code yX2_isRef cX2_isRef 1 (some .boolean), Cond.methodLink RX2 89 yX1_commitOfRef, Cond.instanceMethod yX1_commitOfRef, Cond.selects RX1 yX1_commitOfRef yX1_commitOfRef]
def wsX2_fetch_r2 : List Cond := [Cond.initialized RX1, Cond.code yX1_commitOfRef cX1_commitOfRef 2 (some .int), Cond.fieldLink RX1 15 "FetchHouse$Store" "refCommits" "[I", Cond.methodLink RX2 107 yX2_talk, Cond.instanceMethod yX2_talk, Cond.selects RX2 yX2_talk yX2_talk, Cond.code yX2_talk cX2_talk 8 (some .long), Cond.fieldLink RX2 131 "FetchHouse" "latestRounds" "I", Cond.methodLink RX2 186 yX2_highestOf, Cond.static yX2_highestOf, Cond.code yX2_highestOf cX2_highestOf 7 (some .long), Cond.methodLink RX2 174 yX2_contains, Cond.static yX2_contains, Cond.code yX2_contains cX2_contains 3 (some .boolean), Cond.methodLink RX2 79 yX2_setOf, Cond.static yX2_setOf, Cond.code yX2_setOf cX2_setOf 1 (some .long), Cond.methodLink RX2 163 yX0_ancestorsOf, Cond.instanceMethod yX0_ancestorsOf, Cond.selects RX0 yX0_ancestorsOf yX0_ancestorsOf, Cond.initialized RX0, Cond.code yX0_ancestorsOf cX0_ancestorsOf 10 (some .long), Cond.fieldLink RX0 28 "FetchHouse$History" "made" "I", Cond.constantLong RX0 65 (-1)]
def wsX2_fetch_r3 : List Cond := [Cond.methodLink RX0 67 yX0_shallowOf, Cond.instanceMethod yX0_shallowOf, Cond.selects RX0 yX0_shallowOf yX0_shallowOf, Cond.code yX0_shallowOf cX0_shallowOf 6 (some .long), Cond.methodLink RX0 62 yX0_parentsOf, Cond.instanceMethod yX0_parentsOf, Cond.selects RX0 yX0_parentsOf yX0_parentsOf, Cond.code yX0_parentsOf cX0_parentsOf 2 (some .long), Cond.fieldLink RX0 9 "FetchHouse$History" "firstParents" "[I", Cond.fieldLink RX0 15 "FetchHouse$History" "secondParents" "[I", Cond.methodLink RX0 40 yX0_isCommit, Cond.instanceMethod yX0_isCommit, Cond.selects RX0 yX0_isCommit yX0_isCommit, Cond.code yX0_isCommit cX0_isCommit 2 (some .boolean), Cond.methodLink RX2 111 yX0_reachOf, Cond.instanceMethod yX0_reachOf, Cond.selects RX0 yX0_reachOf yX0_reachOf, Cond.code yX0_reachOf cX0_reachOf 8 (some .long), Cond.fieldLink RX0 21 "FetchHouse$History" "fewestSteps" "[I", Cond.methodLink RX0 71 yJ7_fill_53178, Cond.static yJ7_fill_53178, Cond.initialized RJ7, Cond.code yJ7_fill_53178 cJ7_fill_53178 4 none, Cond.methodLink RX0 77 yX0_comeTo]
def wsX2_fetch_r4 : List Cond := [Cond.instanceMethod yX0_comeTo, Cond.selects RX0 yX0_comeTo yX0_comeTo, Cond.code yX0_comeTo cX0_comeTo 3 none, Cond.methodLink RX2 117 yX0_filesOf, Cond.instanceMethod yX0_filesOf, Cond.selects RX0 yX0_filesOf yX0_filesOf, Cond.code yX0_filesOf cX0_filesOf 4 (some (.array .boolean)), Cond.fieldLink RX0 24 "FetchHouse$History" "foundFiles" "[Z", Cond.methodLink RX0 51 yX0_findFilesOf, Cond.instanceMethod yX0_findFilesOf, Cond.selects RX0 yX0_findFilesOf yX0_findFilesOf, Cond.code yX0_findFilesOf cX0_findFilesOf 4 none, Cond.methodLink RX0 36 yX0_fileIn, Cond.instanceMethod yX0_fileIn, Cond.selects RX0 yX0_fileIn yX0_fileIn, Cond.code yX0_fileIn cX0_fileIn 3 (some .int), Cond.fieldLink RX0 18 "FetchHouse$History" "slotFiles" "[I", Cond.static yX2_isSlot, Cond.code yX2_isSlot cX2_isSlot 1 (some .boolean), Cond.static yX2_isFile, Cond.code yX2_isFile cX2_isFile 1 (some .boolean), Cond.methodLink RX2 121 yX1_addFiles, Cond.instanceMethod yX1_addFiles, Cond.selects RX1 yX1_addFiles yX1_addFiles]
def wsX2_fetch_r5 : List Cond := [Cond.code yX1_addFiles cX1_addFiles 4 none, Cond.fieldLink RX1 9 "FetchHouse$Store" "heldFiles" "[Z", Cond.methodLink RX1 36 yX1_holdsFile, Cond.instanceMethod yX1_holdsFile, Cond.selects RX1 yX1_holdsFile yX1_holdsFile, Cond.code yX1_holdsFile cX1_holdsFile 2 (some .boolean), Cond.methodLink RX2 93 yX1_pointRef, Cond.instanceMethod yX1_pointRef, Cond.selects RX1 yX1_pointRef yX1_pointRef, Cond.code yX1_pointRef cX1_pointRef 3 none, Cond.methodLink RX2 125 yJ13_bitCount_95d88, Cond.static yJ13_bitCount_95d88, Cond.initialized RJ13, Cond.code yJ13_bitCount_95d88 cJ13_bitCount_95d88 2 (some .int), Cond.constantLong RJ13 314 (6148914691236517205), Cond.constantLong RJ13 316 (3689348814741910323), Cond.constantLong RJ13 318 (1085102592571150095)]
def wsX2_fetch : List Cond := .code yX2_fetch cX2_fetch 9 (some .int) :: ((wsX2_fetch_r1 ++ (wsX2_fetch_r2 ++ (wsX2_fetch_r3 ++ (wsX2_fetch_r4 ++ wsX2_fetch_r5)))) ++ wsX20 ++ wsX10 ++ wsX00 ++ (vx_atS RX2 59 "java/lang/IllegalArgumentException" ["java/lang/RuntimeException", "java/lang/Exception"]).filter goodWord ++ (vx_atS RX2 70 "java/lang/IllegalStateException" ["java/lang/RuntimeException", "java/lang/Exception"]).filter goodWord ++ (vx_atS RX2 205 "java/lang/IndexOutOfBoundsException" ["java/lang/RuntimeException", "java/lang/Exception"]).filter goodWord)
def wsX2_wouldFetch_r1 : List Cond := [Cond.fieldLink RX2 10 "FetchHouse" "history" "LFetchHouse$History;", Cond.fieldLink RX2 23 "FetchHouse" "client" "LFetchHouse$Store;", Cond.constantLong RX2 115 (-1), Cond.methodLink RX2 104 yX2_commitToFetch, Cond.instanceMethod yX2_commitToFetch, Cond.selects RX2 yX2_commitToFetch yX2_commitToFetch, Cond.initialized RX2, Cond.code yX2_commitToFetch cX2_commitToFetch 4 (some .int), Cond.classLink RX2 55 "java/lang/IllegalArgumentException", Cond.initialized "java/lang/IllegalArgumentException", Cond.classLink RX2 66 "java/lang/IllegalStateException", Cond.initialized "java/lang/IllegalStateException", Cond.fieldLink RX2 19 "FetchHouse" "server" "LFetchHouse$Store;", Cond.methodLink RX2 86 yX2_checkRef, Cond.static yX2_checkRef, Cond.code yX2_checkRef cX2_checkRef 1 none, Cond.classLink RX2 201 "java/lang/IndexOutOfBoundsException", Cond.initialized "java/lang/IndexOutOfBoundsException", Cond.methodLink RX2 218 yX2_isRef, Cond.static yX2_isRef, Cond.code yX2_isRef cX2_isRef 1 (some .boolean), Cond.methodLink RX2 89 yX1_commitOfRef, Cond.instanceMethod yX1_commitOfRef, Cond.selects RX1 yX1_commitOfRef yX1_commitOfRef]
def wsX2_wouldFetch_r2 : List Cond := [Cond.initialized RX1, Cond.code yX1_commitOfRef cX1_commitOfRef 2 (some .int), Cond.fieldLink RX1 15 "FetchHouse$Store" "refCommits" "[I", Cond.methodLink RX2 111 yX0_reachOf, Cond.instanceMethod yX0_reachOf, Cond.selects RX0 yX0_reachOf yX0_reachOf, Cond.initialized RX0, Cond.code yX0_reachOf cX0_reachOf 8 (some .long), Cond.fieldLink RX0 21 "FetchHouse$History" "fewestSteps" "[I", Cond.fieldLink RX0 9 "FetchHouse$History" "firstParents" "[I", Cond.fieldLink RX0 15 "FetchHouse$History" "secondParents" "[I", Cond.methodLink RX0 40 yX0_isCommit, Cond.instanceMethod yX0_isCommit, Cond.selects RX0 yX0_isCommit yX0_isCommit, Cond.code yX0_isCommit cX0_isCommit 2 (some .boolean), Cond.fieldLink RX0 28 "FetchHouse$History" "made" "I", Cond.methodLink RX0 71 yJ7_fill_53178, Cond.static yJ7_fill_53178, Cond.initialized RJ7, Cond.code yJ7_fill_53178 cJ7_fill_53178 4 none, Cond.static yX2_setOf, Cond.code yX2_setOf cX2_setOf 1 (some .long), Cond.methodLink RX0 77 yX0_comeTo, Cond.instanceMethod yX0_comeTo]
def wsX2_wouldFetch_r3 : List Cond := [Cond.selects RX0 yX0_comeTo yX0_comeTo, Cond.code yX0_comeTo cX0_comeTo 3 none, Cond.methodLink RX2 125 yJ13_bitCount_95d88, Cond.static yJ13_bitCount_95d88, Cond.initialized RJ13, Cond.code yJ13_bitCount_95d88 cJ13_bitCount_95d88 2 (some .int), Cond.constantLong RJ13 314 (6148914691236517205), Cond.constantLong RJ13 316 (3689348814741910323), Cond.constantLong RJ13 318 (1085102592571150095)]
def wsX2_wouldFetch : List Cond := .code yX2_wouldFetch cX2_wouldFetch 4 (some .int) :: ((wsX2_wouldFetch_r1 ++ (wsX2_wouldFetch_r2 ++ wsX2_wouldFetch_r3)) ++ wsX20 ++ wsX10 ++ wsX00 ++ (vx_atS RX2 59 "java/lang/IllegalArgumentException" ["java/lang/RuntimeException", "java/lang/Exception"]).filter goodWord ++ (vx_atS RX2 70 "java/lang/IllegalStateException" ["java/lang/RuntimeException", "java/lang/Exception"]).filter goodWord ++ (vx_atS RX2 205 "java/lang/IndexOutOfBoundsException" ["java/lang/RuntimeException", "java/lang/Exception"]).filter goodWord)
def wsX2_rounds : List Cond := .code yX2_rounds cX2_rounds 1 (some .int) :: ([.fieldLink RX2 131 "FetchHouse" "latestRounds" "I"] ++ wsX20)
def wsX2_load : List Cond := .code yX2_load cX2_load 3 (some .boolean) :: ([.classLink RX2 66 "java/lang/IllegalStateException", .initialized "java/lang/IllegalStateException", .fieldLink RX2 19 "FetchHouse" "server" "LFetchHouse$Store;", .fieldLink RX2 23 "FetchHouse" "client" "LFetchHouse$Store;", .methodLink RX2 52 yX2_checkFile, .static yX2_checkFile, .initialized RX2, .code yX2_checkFile cX2_checkFile 1 none, .classLink RX2 55 "java/lang/IllegalArgumentException", .initialized "java/lang/IllegalArgumentException", .methodLink RX2 223 yX2_isFile, .static yX2_isFile, .code yX2_isFile cX2_isFile 1 (some .boolean), .methodLink RX2 135 yX1_holdsFile, .instanceMethod yX1_holdsFile, .selects RX1 yX1_holdsFile yX1_holdsFile, .initialized RX1, .code yX1_holdsFile cX1_holdsFile 2 (some .boolean), .fieldLink RX1 9 "FetchHouse$Store" "heldFiles" "[Z", .methodLink RX2 83 yX1_addFile, .instanceMethod yX1_addFile, .selects RX1 yX1_addFile yX1_addFile, .code yX1_addFile cX1_addFile 2 none] ++ wsX20 ++ wsX10 ++ (vx_atS RX2 70 "java/lang/IllegalStateException" ["java/lang/RuntimeException", "java/lang/Exception"]).filter goodWord ++ (vx_atS RX2 59 "java/lang/IllegalArgumentException" ["java/lang/RuntimeException", "java/lang/Exception"]).filter goodWord)
def wsX2_missing_r1 : List Cond := [Cond.fieldLink RX2 23 "FetchHouse" "client" "LFetchHouse$Store;", Cond.fieldLink RX2 10 "FetchHouse" "history" "LFetchHouse$History;", Cond.methodLink RX2 117 yX0_filesOf, Cond.instanceMethod yX0_filesOf, Cond.selects RX0 yX0_filesOf yX0_filesOf, Cond.initialized RX0, Cond.code yX0_filesOf cX0_filesOf 4 (some (.array .boolean)), Cond.fieldLink RX0 24 "FetchHouse$History" "foundFiles" "[Z", Cond.fieldLink RX0 28 "FetchHouse$History" "made" "I", Cond.static yX2_contains, Cond.initialized RX2, Cond.code yX2_contains cX2_contains 3 (some .boolean), Cond.methodLink RX2 79 yX2_setOf, Cond.static yX2_setOf, Cond.code yX2_setOf cX2_setOf 1 (some .long), Cond.methodLink RX0 51 yX0_findFilesOf, Cond.instanceMethod yX0_findFilesOf, Cond.selects RX0 yX0_findFilesOf yX0_findFilesOf, Cond.code yX0_findFilesOf cX0_findFilesOf 4 none, Cond.methodLink RX0 36 yX0_fileIn, Cond.instanceMethod yX0_fileIn, Cond.selects RX0 yX0_fileIn yX0_fileIn, Cond.code yX0_fileIn cX0_fileIn 3 (some .int), Cond.fieldLink RX0 18 "FetchHouse$History" "slotFiles" "[I"]
def wsX2_missing_r2 : List Cond := [Cond.methodLink RX0 40 yX0_isCommit, Cond.instanceMethod yX0_isCommit, Cond.selects RX0 yX0_isCommit yX0_isCommit, Cond.code yX0_isCommit cX0_isCommit 2 (some .boolean), Cond.static yX2_isSlot, Cond.code yX2_isSlot cX2_isSlot 1 (some .boolean), Cond.static yX2_isFile, Cond.code yX2_isFile cX2_isFile 1 (some .boolean), Cond.methodLink RX2 141 yX1_countLacking, Cond.instanceMethod yX1_countLacking, Cond.selects RX1 yX1_countLacking yX1_countLacking, Cond.initialized RX1, Cond.code yX1_countLacking cX1_countLacking 4 (some .int), Cond.fieldLink RX1 9 "FetchHouse$Store" "heldFiles" "[Z"]
def wsX2_missing : List Cond := .code yX2_missing cX2_missing 1 (some .int) :: ((wsX2_missing_r1 ++ wsX2_missing_r2) ++ wsX20 ++ wsX10 ++ wsX00)
def wsX2_protect : List Cond := .code yX2_protect cX2_protect 4 (some .boolean) :: ([.fieldLink RX2 26 "FetchHouse" "protectedRefs" "[Z", .methodLink RX2 86 yX2_checkRef, .static yX2_checkRef, .initialized RX2, .code yX2_checkRef cX2_checkRef 1 none, .classLink RX2 201 "java/lang/IndexOutOfBoundsException", .initialized "java/lang/IndexOutOfBoundsException", .methodLink RX2 218 yX2_isRef, .static yX2_isRef, .code yX2_isRef cX2_isRef 1 (some .boolean)] ++ wsX20 ++ (vx_atS RX2 205 "java/lang/IndexOutOfBoundsException" ["java/lang/RuntimeException", "java/lang/Exception"]).filter goodWord)
def wsX2_checkCommitOrNone : List Cond := .code yX2_checkCommitOrNone cX2_checkCommitOrNone 2 none :: ([.methodLink RX2 97 yX2_checkCommit, .instanceMethod yX2_checkCommit, .selects RX2 yX2_checkCommit yX2_checkCommit, .initialized RX2, .code yX2_checkCommit cX2_checkCommit 2 none, .classLink RX2 201 "java/lang/IndexOutOfBoundsException", .initialized "java/lang/IndexOutOfBoundsException", .fieldLink RX2 10 "FetchHouse" "history" "LFetchHouse$History;", .methodLink RX2 206 yX0_isCommit, .instanceMethod yX0_isCommit, .selects RX0 yX0_isCommit yX0_isCommit, .initialized RX0, .code yX0_isCommit cX0_isCommit 2 (some .boolean), .fieldLink RX0 28 "FetchHouse$History" "made" "I"] ++ wsX20 ++ wsX00 ++ (vx_atS RX2 205 "java/lang/IndexOutOfBoundsException" ["java/lang/RuntimeException", "java/lang/Exception"]).filter goodWord)
def wsX2_move_r1 : List Cond := [Cond.classLink RX2 66 "java/lang/IllegalStateException", Cond.initialized "java/lang/IllegalStateException", Cond.fieldLink RX2 148 "FetchHouse" "waitingMoves" "I", Cond.fieldLink RX2 30 "FetchHouse" "movedRefs" "[I", Cond.fieldLink RX2 34 "FetchHouse" "oldCommits" "[I", Cond.fieldLink RX2 37 "FetchHouse" "newCommits" "[I", Cond.methodLink RX2 86 yX2_checkRef, Cond.static yX2_checkRef, Cond.initialized RX2, Cond.code yX2_checkRef cX2_checkRef 1 none, Cond.classLink RX2 201 "java/lang/IndexOutOfBoundsException", Cond.initialized "java/lang/IndexOutOfBoundsException", Cond.methodLink RX2 218 yX2_isRef, Cond.static yX2_isRef, Cond.code yX2_isRef cX2_isRef 1 (some .boolean), Cond.methodLink RX2 145 yX2_checkCommitOrNone, Cond.instanceMethod yX2_checkCommitOrNone, Cond.selects RX2 yX2_checkCommitOrNone yX2_checkCommitOrNone, Cond.code yX2_checkCommitOrNone cX2_checkCommitOrNone 2 none, Cond.methodLink RX2 97 yX2_checkCommit, Cond.instanceMethod yX2_checkCommit, Cond.selects RX2 yX2_checkCommit yX2_checkCommit, Cond.code yX2_checkCommit cX2_checkCommit 2 none, Cond.fieldLink RX2 10 "FetchHouse" "history" "LFetchHouse$History;"]
def wsX2_move_r2 : List Cond := [Cond.methodLink RX2 206 yX0_isCommit, Cond.instanceMethod yX0_isCommit, Cond.selects RX0 yX0_isCommit yX0_isCommit, Cond.initialized RX0, Cond.code yX0_isCommit cX0_isCommit 2 (some .boolean), Cond.fieldLink RX0 28 "FetchHouse$History" "made" "I"]
def wsX2_move : List Cond := .code yX2_move cX2_move 4 (some .int) :: ((wsX2_move_r1 ++ wsX2_move_r2) ++ wsX20 ++ wsX00 ++ (vx_atS RX2 70 "java/lang/IllegalStateException" ["java/lang/RuntimeException", "java/lang/Exception"]).filter goodWord ++ (vx_atS RX2 205 "java/lang/IndexOutOfBoundsException" ["java/lang/RuntimeException", "java/lang/Exception"]).filter goodWord)
def wsX2_isProtectedRef : List Cond := .code yX2_isProtectedRef cX2_isProtectedRef 2 (some .boolean) :: ([.fieldLink RX2 26 "FetchHouse" "protectedRefs" "[Z", .methodLink RX2 218 yX2_isRef, .static yX2_isRef, .initialized RX2, .code yX2_isRef cX2_isRef 1 (some .boolean)] ++ wsX20)
def wsX2_endsBeyondServer_r1 : List Cond := [Cond.fieldLink RX2 10 "FetchHouse" "history" "LFetchHouse$History;", Cond.fieldLink RX2 23 "FetchHouse" "client" "LFetchHouse$Store;", Cond.fieldLink RX2 19 "FetchHouse" "server" "LFetchHouse$Store;", Cond.constantLong RX2 115 (-1), Cond.methodLink RX2 178 yX0_shallowOf, Cond.instanceMethod yX0_shallowOf, Cond.selects RX0 yX0_shallowOf yX0_shallowOf, Cond.initialized RX0, Cond.code yX0_shallowOf cX0_shallowOf 6 (some .long), Cond.fieldLink RX0 28 "FetchHouse$History" "made" "I", Cond.constantLong RX0 65 (-1), Cond.static yX2_contains, Cond.initialized RX2, Cond.code yX2_contains cX2_contains 3 (some .boolean), Cond.methodLink RX2 79 yX2_setOf, Cond.static yX2_setOf, Cond.code yX2_setOf cX2_setOf 1 (some .long), Cond.methodLink RX0 62 yX0_parentsOf, Cond.instanceMethod yX0_parentsOf, Cond.selects RX0 yX0_parentsOf yX0_parentsOf, Cond.code yX0_parentsOf cX0_parentsOf 2 (some .long), Cond.fieldLink RX0 9 "FetchHouse$History" "firstParents" "[I", Cond.fieldLink RX0 15 "FetchHouse$History" "secondParents" "[I", Cond.methodLink RX0 40 yX0_isCommit]
def wsX2_endsBeyondServer_r2 : List Cond := [Cond.instanceMethod yX0_isCommit, Cond.selects RX0 yX0_isCommit yX0_isCommit, Cond.code yX0_isCommit cX0_isCommit 2 (some .boolean)]
def wsX2_endsBeyondServer : List Cond := .code yX2_endsBeyondServer cX2_endsBeyondServer 3 (some .boolean) :: ((wsX2_endsBeyondServer_r1 ++ wsX2_endsBeyondServer_r2) ++ wsX20 ++ wsX10 ++ wsX00)
def wsX2_refusalOf_r1 : List Cond := [Cond.fieldLink RX2 19 "FetchHouse" "server" "LFetchHouse$Store;", Cond.fieldLink RX2 10 "FetchHouse" "history" "LFetchHouse$History;", Cond.fieldLink RX2 23 "FetchHouse" "client" "LFetchHouse$Store;", Cond.methodLink RX2 89 yX1_commitOfRef, Cond.instanceMethod yX1_commitOfRef, Cond.selects RX1 yX1_commitOfRef yX1_commitOfRef, Cond.initialized RX1, Cond.code yX1_commitOfRef cX1_commitOfRef 2 (some .int), Cond.fieldLink RX1 15 "FetchHouse$Store" "refCommits" "[I", Cond.static yX2_isRef, Cond.initialized RX2, Cond.code yX2_isRef cX2_isRef 1 (some .boolean), Cond.methodLink RX2 79 yX2_setOf, Cond.static yX2_setOf, Cond.code yX2_setOf cX2_setOf 1 (some .long), Cond.methodLink RX2 163 yX0_ancestorsOf, Cond.instanceMethod yX0_ancestorsOf, Cond.selects RX0 yX0_ancestorsOf yX0_ancestorsOf, Cond.initialized RX0, Cond.code yX0_ancestorsOf cX0_ancestorsOf 10 (some .long), Cond.fieldLink RX0 28 "FetchHouse$History" "made" "I", Cond.constantLong RX0 65 (-1), Cond.methodLink RX0 67 yX0_shallowOf, Cond.instanceMethod yX0_shallowOf]
def wsX2_refusalOf_r2 : List Cond := [Cond.selects RX0 yX0_shallowOf yX0_shallowOf, Cond.code yX0_shallowOf cX0_shallowOf 6 (some .long), Cond.static yX2_contains, Cond.code yX2_contains cX2_contains 3 (some .boolean), Cond.methodLink RX0 62 yX0_parentsOf, Cond.instanceMethod yX0_parentsOf, Cond.selects RX0 yX0_parentsOf yX0_parentsOf, Cond.code yX0_parentsOf cX0_parentsOf 2 (some .long), Cond.fieldLink RX0 9 "FetchHouse$History" "firstParents" "[I", Cond.fieldLink RX0 15 "FetchHouse$History" "secondParents" "[I", Cond.methodLink RX0 40 yX0_isCommit, Cond.instanceMethod yX0_isCommit, Cond.selects RX0 yX0_isCommit yX0_isCommit, Cond.code yX0_isCommit cX0_isCommit 2 (some .boolean), Cond.methodLink RX2 194 yX2_isProtectedRef, Cond.instanceMethod yX2_isProtectedRef, Cond.selects RX2 yX2_isProtectedRef yX2_isProtectedRef, Cond.code yX2_isProtectedRef cX2_isProtectedRef 2 (some .boolean), Cond.fieldLink RX2 26 "FetchHouse" "protectedRefs" "[Z", Cond.methodLink RX2 218 yX2_isRef, Cond.methodLink RX2 174 yX2_contains, Cond.methodLink RX2 197 yX2_endsBeyondServer, Cond.instanceMethod yX2_endsBeyondServer, Cond.selects RX2 yX2_endsBeyondServer yX2_endsBeyondServer]
def wsX2_refusalOf_r3 : List Cond := [Cond.code yX2_endsBeyondServer cX2_endsBeyondServer 3 (some .boolean), Cond.constantLong RX2 115 (-1), Cond.methodLink RX2 178 yX0_shallowOf]
def wsX2_refusalOf : List Cond := .code yX2_refusalOf cX2_refusalOf 6 (some .int) :: ((wsX2_refusalOf_r1 ++ (wsX2_refusalOf_r2 ++ wsX2_refusalOf_r3)) ++ wsX20 ++ wsX10 ++ wsX00)
def wsX2_firstRefusal_r1 : List Cond := [Cond.fieldLink RX2 148 "FetchHouse" "waitingMoves" "I", Cond.fieldLink RX2 30 "FetchHouse" "movedRefs" "[I", Cond.fieldLink RX2 34 "FetchHouse" "oldCommits" "[I", Cond.fieldLink RX2 37 "FetchHouse" "newCommits" "[I", Cond.methodLink RX2 190 yX2_refusalOf, Cond.instanceMethod yX2_refusalOf, Cond.selects RX2 yX2_refusalOf yX2_refusalOf, Cond.initialized RX2, Cond.code yX2_refusalOf cX2_refusalOf 6 (some .int), Cond.fieldLink RX2 19 "FetchHouse" "server" "LFetchHouse$Store;", Cond.fieldLink RX2 10 "FetchHouse" "history" "LFetchHouse$History;", Cond.fieldLink RX2 23 "FetchHouse" "client" "LFetchHouse$Store;", Cond.methodLink RX2 89 yX1_commitOfRef, Cond.instanceMethod yX1_commitOfRef, Cond.selects RX1 yX1_commitOfRef yX1_commitOfRef, Cond.initialized RX1, Cond.code yX1_commitOfRef cX1_commitOfRef 2 (some .int), Cond.fieldLink RX1 15 "FetchHouse$Store" "refCommits" "[I", Cond.static yX2_isRef, Cond.code yX2_isRef cX2_isRef 1 (some .boolean), Cond.methodLink RX2 79 yX2_setOf, Cond.static yX2_setOf, Cond.code yX2_setOf cX2_setOf 1 (some .long), Cond.methodLink RX2 163 yX0_ancestorsOf]
def wsX2_firstRefusal_r2 : List Cond := [Cond.instanceMethod yX0_ancestorsOf, Cond.selects RX0 yX0_ancestorsOf yX0_ancestorsOf, Cond.initialized RX0, Cond.code yX0_ancestorsOf cX0_ancestorsOf 10 (some .long), Cond.fieldLink RX0 28 "FetchHouse$History" "made" "I", Cond.constantLong RX0 65 (-1), Cond.methodLink RX0 67 yX0_shallowOf, Cond.instanceMethod yX0_shallowOf, Cond.selects RX0 yX0_shallowOf yX0_shallowOf, Cond.code yX0_shallowOf cX0_shallowOf 6 (some .long), Cond.static yX2_contains, Cond.code yX2_contains cX2_contains 3 (some .boolean), Cond.methodLink RX0 62 yX0_parentsOf, Cond.instanceMethod yX0_parentsOf, Cond.selects RX0 yX0_parentsOf yX0_parentsOf, Cond.code yX0_parentsOf cX0_parentsOf 2 (some .long), Cond.fieldLink RX0 9 "FetchHouse$History" "firstParents" "[I", Cond.fieldLink RX0 15 "FetchHouse$History" "secondParents" "[I", Cond.methodLink RX0 40 yX0_isCommit, Cond.instanceMethod yX0_isCommit, Cond.selects RX0 yX0_isCommit yX0_isCommit, Cond.code yX0_isCommit cX0_isCommit 2 (some .boolean), Cond.methodLink RX2 194 yX2_isProtectedRef, Cond.instanceMethod yX2_isProtectedRef]
def wsX2_firstRefusal_r3 : List Cond := [Cond.selects RX2 yX2_isProtectedRef yX2_isProtectedRef, Cond.code yX2_isProtectedRef cX2_isProtectedRef 2 (some .boolean), Cond.fieldLink RX2 26 "FetchHouse" "protectedRefs" "[Z", Cond.methodLink RX2 218 yX2_isRef, Cond.methodLink RX2 174 yX2_contains, Cond.methodLink RX2 197 yX2_endsBeyondServer, Cond.instanceMethod yX2_endsBeyondServer, Cond.selects RX2 yX2_endsBeyondServer yX2_endsBeyondServer, Cond.code yX2_endsBeyondServer cX2_endsBeyondServer 3 (some .boolean), Cond.constantLong RX2 115 (-1), Cond.methodLink RX2 178 yX0_shallowOf]
def wsX2_firstRefusal : List Cond := .code yX2_firstRefusal cX2_firstRefusal 3 (some .int) :: ((wsX2_firstRefusal_r1 ++ (wsX2_firstRefusal_r2 ++ wsX2_firstRefusal_r3)) ++ wsX20 ++ wsX10 ++ wsX00)
def wsX2_doMoves_r1 : List Cond := [Cond.fieldLink RX2 148 "FetchHouse" "waitingMoves" "I", Cond.fieldLink RX2 19 "FetchHouse" "server" "LFetchHouse$Store;", Cond.fieldLink RX2 30 "FetchHouse" "movedRefs" "[I", Cond.fieldLink RX2 37 "FetchHouse" "newCommits" "[I", Cond.fieldLink RX2 10 "FetchHouse" "history" "LFetchHouse$History;", Cond.fieldLink RX2 23 "FetchHouse" "client" "LFetchHouse$Store;", Cond.constantLong RX2 115 (-1), Cond.methodLink RX2 93 yX1_pointRef, Cond.instanceMethod yX1_pointRef, Cond.selects RX1 yX1_pointRef yX1_pointRef, Cond.initialized RX1, Cond.code yX1_pointRef cX1_pointRef 3 none, Cond.fieldLink RX1 15 "FetchHouse$Store" "refCommits" "[I", Cond.static yX2_isRef, Cond.initialized RX2, Cond.code yX2_isRef cX2_isRef 1 (some .boolean), Cond.methodLink RX2 79 yX2_setOf, Cond.static yX2_setOf, Cond.code yX2_setOf cX2_setOf 1 (some .long), Cond.methodLink RX2 163 yX0_ancestorsOf, Cond.instanceMethod yX0_ancestorsOf, Cond.selects RX0 yX0_ancestorsOf yX0_ancestorsOf, Cond.initialized RX0, Cond.code yX0_ancestorsOf cX0_ancestorsOf 10 (some .long)]
def wsX2_doMoves_r2 : List Cond := [Cond.fieldLink RX0 28 "FetchHouse$History" "made" "I", Cond.constantLong RX0 65 (-1), Cond.methodLink RX0 67 yX0_shallowOf, Cond.instanceMethod yX0_shallowOf, Cond.selects RX0 yX0_shallowOf yX0_shallowOf, Cond.code yX0_shallowOf cX0_shallowOf 6 (some .long), Cond.static yX2_contains, Cond.code yX2_contains cX2_contains 3 (some .boolean), Cond.methodLink RX0 62 yX0_parentsOf, Cond.instanceMethod yX0_parentsOf, Cond.selects RX0 yX0_parentsOf yX0_parentsOf, Cond.code yX0_parentsOf cX0_parentsOf 2 (some .long), Cond.fieldLink RX0 9 "FetchHouse$History" "firstParents" "[I", Cond.fieldLink RX0 15 "FetchHouse$History" "secondParents" "[I", Cond.methodLink RX0 40 yX0_isCommit, Cond.instanceMethod yX0_isCommit, Cond.selects RX0 yX0_isCommit yX0_isCommit, Cond.code yX0_isCommit cX0_isCommit 2 (some .boolean), Cond.methodLink RX2 125 yJ13_bitCount_95d88, Cond.static yJ13_bitCount_95d88, Cond.initialized RJ13, Cond.code yJ13_bitCount_95d88 cJ13_bitCount_95d88 2 (some .int), Cond.constantLong RJ13 314 (6148914691236517205), Cond.constantLong RJ13 316 (3689348814741910323)]
def wsX2_doMoves_r3 : List Cond := [Cond.constantLong RJ13 318 (1085102592571150095), Cond.methodLink RX2 117 yX0_filesOf, Cond.instanceMethod yX0_filesOf, Cond.selects RX0 yX0_filesOf yX0_filesOf, Cond.code yX0_filesOf cX0_filesOf 4 (some (.array .boolean)), Cond.fieldLink RX0 24 "FetchHouse$History" "foundFiles" "[Z", Cond.methodLink RX0 51 yX0_findFilesOf, Cond.instanceMethod yX0_findFilesOf, Cond.selects RX0 yX0_findFilesOf yX0_findFilesOf, Cond.code yX0_findFilesOf cX0_findFilesOf 4 none, Cond.methodLink RX0 36 yX0_fileIn, Cond.instanceMethod yX0_fileIn, Cond.selects RX0 yX0_fileIn yX0_fileIn, Cond.code yX0_fileIn cX0_fileIn 3 (some .int), Cond.fieldLink RX0 18 "FetchHouse$History" "slotFiles" "[I", Cond.static yX2_isSlot, Cond.code yX2_isSlot cX2_isSlot 1 (some .boolean), Cond.static yX2_isFile, Cond.code yX2_isFile cX2_isFile 1 (some .boolean), Cond.methodLink RX2 121 yX1_addFiles, Cond.instanceMethod yX1_addFiles, Cond.selects RX1 yX1_addFiles yX1_addFiles, Cond.code yX1_addFiles cX1_addFiles 4 none, Cond.fieldLink RX1 9 "FetchHouse$Store" "heldFiles" "[Z"]
def wsX2_doMoves_r4 : List Cond := [Cond.methodLink RX1 36 yX1_holdsFile, Cond.instanceMethod yX1_holdsFile, Cond.selects RX1 yX1_holdsFile yX1_holdsFile, Cond.code yX1_holdsFile cX1_holdsFile 2 (some .boolean)]
def wsX2_doMoves : List Cond := .code yX2_doMoves cX2_doMoves 6 (some .int) :: ((wsX2_doMoves_r1 ++ (wsX2_doMoves_r2 ++ (wsX2_doMoves_r3 ++ wsX2_doMoves_r4))) ++ wsX20 ++ wsX10 ++ wsX00)
def wsX2_push_r1 : List Cond := [Cond.fieldLink RX2 148 "FetchHouse" "waitingMoves" "I", Cond.methodLink RX2 153 yX2_firstRefusal, Cond.instanceMethod yX2_firstRefusal, Cond.selects RX2 yX2_firstRefusal yX2_firstRefusal, Cond.initialized RX2, Cond.code yX2_firstRefusal cX2_firstRefusal 3 (some .int), Cond.fieldLink RX2 30 "FetchHouse" "movedRefs" "[I", Cond.fieldLink RX2 34 "FetchHouse" "oldCommits" "[I", Cond.fieldLink RX2 37 "FetchHouse" "newCommits" "[I", Cond.methodLink RX2 190 yX2_refusalOf, Cond.instanceMethod yX2_refusalOf, Cond.selects RX2 yX2_refusalOf yX2_refusalOf, Cond.code yX2_refusalOf cX2_refusalOf 6 (some .int), Cond.fieldLink RX2 19 "FetchHouse" "server" "LFetchHouse$Store;", Cond.fieldLink RX2 10 "FetchHouse" "history" "LFetchHouse$History;", Cond.fieldLink RX2 23 "FetchHouse" "client" "LFetchHouse$Store;", Cond.methodLink RX2 89 yX1_commitOfRef, Cond.instanceMethod yX1_commitOfRef, Cond.selects RX1 yX1_commitOfRef yX1_commitOfRef, Cond.initialized RX1, Cond.code yX1_commitOfRef cX1_commitOfRef 2 (some .int), Cond.fieldLink RX1 15 "FetchHouse$Store" "refCommits" "[I", Cond.static yX2_isRef, Cond.code yX2_isRef cX2_isRef 1 (some .boolean)]
def wsX2_push_r2 : List Cond := [Cond.methodLink RX2 79 yX2_setOf, Cond.static yX2_setOf, Cond.code yX2_setOf cX2_setOf 1 (some .long), Cond.methodLink RX2 163 yX0_ancestorsOf, Cond.instanceMethod yX0_ancestorsOf, Cond.selects RX0 yX0_ancestorsOf yX0_ancestorsOf, Cond.initialized RX0, Cond.code yX0_ancestorsOf cX0_ancestorsOf 10 (some .long), Cond.fieldLink RX0 28 "FetchHouse$History" "made" "I", Cond.constantLong RX0 65 (-1), Cond.methodLink RX0 67 yX0_shallowOf, Cond.instanceMethod yX0_shallowOf, Cond.selects RX0 yX0_shallowOf yX0_shallowOf, Cond.code yX0_shallowOf cX0_shallowOf 6 (some .long), Cond.static yX2_contains, Cond.code yX2_contains cX2_contains 3 (some .boolean), Cond.methodLink RX0 62 yX0_parentsOf, Cond.instanceMethod yX0_parentsOf, Cond.selects RX0 yX0_parentsOf yX0_parentsOf, Cond.code yX0_parentsOf cX0_parentsOf 2 (some .long), Cond.fieldLink RX0 9 "FetchHouse$History" "firstParents" "[I", Cond.fieldLink RX0 15 "FetchHouse$History" "secondParents" "[I", Cond.methodLink RX0 40 yX0_isCommit, Cond.instanceMethod yX0_isCommit]
def wsX2_push_r3 : List Cond := [Cond.selects RX0 yX0_isCommit yX0_isCommit, Cond.code yX0_isCommit cX0_isCommit 2 (some .boolean), Cond.methodLink RX2 194 yX2_isProtectedRef, Cond.instanceMethod yX2_isProtectedRef, Cond.selects RX2 yX2_isProtectedRef yX2_isProtectedRef, Cond.code yX2_isProtectedRef cX2_isProtectedRef 2 (some .boolean), Cond.fieldLink RX2 26 "FetchHouse" "protectedRefs" "[Z", Cond.methodLink RX2 218 yX2_isRef, Cond.methodLink RX2 174 yX2_contains, Cond.methodLink RX2 197 yX2_endsBeyondServer, Cond.instanceMethod yX2_endsBeyondServer, Cond.selects RX2 yX2_endsBeyondServer yX2_endsBeyondServer, Cond.code yX2_endsBeyondServer cX2_endsBeyondServer 3 (some .boolean), Cond.constantLong RX2 115 (-1), Cond.methodLink RX2 178 yX0_shallowOf, Cond.methodLink RX2 157 yX2_doMoves, Cond.instanceMethod yX2_doMoves, Cond.selects RX2 yX2_doMoves yX2_doMoves, Cond.code yX2_doMoves cX2_doMoves 6 (some .int), Cond.methodLink RX2 93 yX1_pointRef, Cond.instanceMethod yX1_pointRef, Cond.selects RX1 yX1_pointRef yX1_pointRef, Cond.code yX1_pointRef cX1_pointRef 3 none, Cond.methodLink RX2 125 yJ13_bitCount_95d88]
def wsX2_push_r4 : List Cond := [Cond.static yJ13_bitCount_95d88, Cond.initialized RJ13, Cond.code yJ13_bitCount_95d88 cJ13_bitCount_95d88 2 (some .int), Cond.constantLong RJ13 314 (6148914691236517205), Cond.constantLong RJ13 316 (3689348814741910323), Cond.constantLong RJ13 318 (1085102592571150095), Cond.methodLink RX2 117 yX0_filesOf, Cond.instanceMethod yX0_filesOf, Cond.selects RX0 yX0_filesOf yX0_filesOf, Cond.code yX0_filesOf cX0_filesOf 4 (some (.array .boolean)), Cond.fieldLink RX0 24 "FetchHouse$History" "foundFiles" "[Z", Cond.methodLink RX0 51 yX0_findFilesOf, Cond.instanceMethod yX0_findFilesOf, Cond.selects RX0 yX0_findFilesOf yX0_findFilesOf, Cond.code yX0_findFilesOf cX0_findFilesOf 4 none, Cond.methodLink RX0 36 yX0_fileIn, Cond.instanceMethod yX0_fileIn, Cond.selects RX0 yX0_fileIn yX0_fileIn, Cond.code yX0_fileIn cX0_fileIn 3 (some .int), Cond.fieldLink RX0 18 "FetchHouse$History" "slotFiles" "[I", Cond.static yX2_isSlot, Cond.code yX2_isSlot cX2_isSlot 1 (some .boolean), Cond.static yX2_isFile, Cond.code yX2_isFile cX2_isFile 1 (some .boolean)]
def wsX2_push_r5 : List Cond := [Cond.methodLink RX2 121 yX1_addFiles, Cond.instanceMethod yX1_addFiles, Cond.selects RX1 yX1_addFiles yX1_addFiles, Cond.code yX1_addFiles cX1_addFiles 4 none, Cond.fieldLink RX1 9 "FetchHouse$Store" "heldFiles" "[Z", Cond.methodLink RX1 36 yX1_holdsFile, Cond.instanceMethod yX1_holdsFile, Cond.selects RX1 yX1_holdsFile yX1_holdsFile, Cond.code yX1_holdsFile cX1_holdsFile 2 (some .boolean)]
def wsX2_push : List Cond := .code yX2_push cX2_push 3 (some .int) :: ((wsX2_push_r1 ++ (wsX2_push_r2 ++ (wsX2_push_r3 ++ (wsX2_push_r4 ++ wsX2_push_r5)))) ++ wsX20 ++ wsX10 ++ wsX00)
def wsX2_collect_r1 : List Cond := [Cond.fieldLink RX2 10 "FetchHouse" "history" "LFetchHouse$History;", Cond.constantLong RX2 115 (-1), Cond.methodLink RX2 40 yX2_storeOf, Cond.instanceMethod yX2_storeOf, Cond.selects RX2 yX2_storeOf yX2_storeOf, Cond.initialized RX2, Cond.code yX2_storeOf cX2_storeOf 2 (some (.object "FetchHouse$Store")), Cond.classLink RX2 201 "java/lang/IndexOutOfBoundsException", Cond.initialized "java/lang/IndexOutOfBoundsException", Cond.fieldLink RX2 19 "FetchHouse" "server" "LFetchHouse$Store;", Cond.fieldLink RX2 23 "FetchHouse" "client" "LFetchHouse$Store;", Cond.methodLink RX2 160 yX1_commitsOfRefs, Cond.instanceMethod yX1_commitsOfRefs, Cond.selects RX1 yX1_commitsOfRefs yX1_commitsOfRefs, Cond.initialized RX1, Cond.code yX1_commitsOfRefs cX1_commitsOfRefs 4 (some .long), Cond.fieldLink RX1 15 "FetchHouse$Store" "refCommits" "[I", Cond.static yX2_setOf, Cond.code yX2_setOf cX2_setOf 1 (some .long), Cond.methodLink RX2 163 yX0_ancestorsOf, Cond.instanceMethod yX0_ancestorsOf, Cond.selects RX0 yX0_ancestorsOf yX0_ancestorsOf, Cond.initialized RX0, Cond.code yX0_ancestorsOf cX0_ancestorsOf 10 (some .long)]
def wsX2_collect_r2 : List Cond := [Cond.fieldLink RX0 28 "FetchHouse$History" "made" "I", Cond.constantLong RX0 65 (-1), Cond.methodLink RX0 67 yX0_shallowOf, Cond.instanceMethod yX0_shallowOf, Cond.selects RX0 yX0_shallowOf yX0_shallowOf, Cond.code yX0_shallowOf cX0_shallowOf 6 (some .long), Cond.static yX2_contains, Cond.code yX2_contains cX2_contains 3 (some .boolean), Cond.methodLink RX2 79 yX2_setOf, Cond.methodLink RX0 62 yX0_parentsOf, Cond.instanceMethod yX0_parentsOf, Cond.selects RX0 yX0_parentsOf yX0_parentsOf, Cond.code yX0_parentsOf cX0_parentsOf 2 (some .long), Cond.fieldLink RX0 9 "FetchHouse$History" "firstParents" "[I", Cond.fieldLink RX0 15 "FetchHouse$History" "secondParents" "[I", Cond.methodLink RX0 40 yX0_isCommit, Cond.instanceMethod yX0_isCommit, Cond.selects RX0 yX0_isCommit yX0_isCommit, Cond.code yX0_isCommit cX0_isCommit 2 (some .boolean), Cond.methodLink RX2 125 yJ13_bitCount_95d88, Cond.static yJ13_bitCount_95d88, Cond.initialized RJ13, Cond.code yJ13_bitCount_95d88 cJ13_bitCount_95d88 2 (some .int), Cond.constantLong RJ13 314 (6148914691236517205)]
def wsX2_collect_r3 : List Cond := [Cond.constantLong RJ13 316 (3689348814741910323), Cond.constantLong RJ13 318 (1085102592571150095), Cond.methodLink RX2 117 yX0_filesOf, Cond.instanceMethod yX0_filesOf, Cond.selects RX0 yX0_filesOf yX0_filesOf, Cond.code yX0_filesOf cX0_filesOf 4 (some (.array .boolean)), Cond.fieldLink RX0 24 "FetchHouse$History" "foundFiles" "[Z", Cond.methodLink RX0 51 yX0_findFilesOf, Cond.instanceMethod yX0_findFilesOf, Cond.selects RX0 yX0_findFilesOf yX0_findFilesOf, Cond.code yX0_findFilesOf cX0_findFilesOf 4 none, Cond.methodLink RX0 36 yX0_fileIn, Cond.instanceMethod yX0_fileIn, Cond.selects RX0 yX0_fileIn yX0_fileIn, Cond.code yX0_fileIn cX0_fileIn 3 (some .int), Cond.fieldLink RX0 18 "FetchHouse$History" "slotFiles" "[I", Cond.static yX2_isSlot, Cond.code yX2_isSlot cX2_isSlot 1 (some .boolean), Cond.static yX2_isFile, Cond.code yX2_isFile cX2_isFile 1 (some .boolean), Cond.methodLink RX2 167 yX1_keepOnlyFiles, Cond.instanceMethod yX1_keepOnlyFiles, Cond.selects RX1 yX1_keepOnlyFiles yX1_keepOnlyFiles, Cond.code yX1_keepOnlyFiles cX1_keepOnlyFiles 3 none]
def wsX2_collect_r4 : List Cond := [Cond.fieldLink RX1 9 "FetchHouse$Store" "heldFiles" "[Z"]
def wsX2_collect : List Cond := .code yX2_collect cX2_collect 6 (some .int) :: ((wsX2_collect_r1 ++ (wsX2_collect_r2 ++ (wsX2_collect_r3 ++ wsX2_collect_r4))) ++ wsX20 ++ wsX10 ++ wsX00 ++ (vx_atS RX2 205 "java/lang/IndexOutOfBoundsException" ["java/lang/RuntimeException", "java/lang/Exception"]).filter goodWord)
def wsX2_commits : List Cond := .code yX2_commits cX2_commits 1 (some .int) :: ([.fieldLink RX2 10 "FetchHouse" "history" "LFetchHouse$History;", .methodLink RX2 171 yX0_size, .instanceMethod yX0_size, .selects RX0 yX0_size yX0_size, .initialized RX0, .code yX0_size cX0_size 1 (some .int), .fieldLink RX0 28 "FetchHouse$History" "made" "I"] ++ wsX20 ++ wsX00)
def wsX2_has_r1 : List Cond := [Cond.methodLink RX2 40 yX2_storeOf, Cond.instanceMethod yX2_storeOf, Cond.selects RX2 yX2_storeOf yX2_storeOf, Cond.initialized RX2, Cond.code yX2_storeOf cX2_storeOf 2 (some (.object "FetchHouse$Store")), Cond.classLink RX2 201 "java/lang/IndexOutOfBoundsException", Cond.initialized "java/lang/IndexOutOfBoundsException", Cond.fieldLink RX2 19 "FetchHouse" "server" "LFetchHouse$Store;", Cond.fieldLink RX2 23 "FetchHouse" "client" "LFetchHouse$Store;", Cond.methodLink RX2 97 yX2_checkCommit, Cond.instanceMethod yX2_checkCommit, Cond.selects RX2 yX2_checkCommit yX2_checkCommit, Cond.code yX2_checkCommit cX2_checkCommit 2 none, Cond.fieldLink RX2 10 "FetchHouse" "history" "LFetchHouse$History;", Cond.methodLink RX2 206 yX0_isCommit, Cond.instanceMethod yX0_isCommit, Cond.selects RX0 yX0_isCommit yX0_isCommit, Cond.initialized RX0, Cond.code yX0_isCommit cX0_isCommit 2 (some .boolean), Cond.fieldLink RX0 28 "FetchHouse$History" "made" "I", Cond.methodLink RX2 174 yX2_contains, Cond.static yX2_contains, Cond.code yX2_contains cX2_contains 3 (some .boolean), Cond.methodLink RX2 79 yX2_setOf]
def wsX2_has_r2 : List Cond := [Cond.static yX2_setOf, Cond.code yX2_setOf cX2_setOf 1 (some .long)]
def wsX2_has : List Cond := .code yX2_has cX2_has 4 (some .boolean) :: ((wsX2_has_r1 ++ wsX2_has_r2) ++ wsX10 ++ wsX20 ++ wsX00 ++ (vx_atS RX2 205 "java/lang/IndexOutOfBoundsException" ["java/lang/RuntimeException", "java/lang/Exception"]).filter goodWord)
def wsX2_hasFile : List Cond := .code yX2_hasFile cX2_hasFile 4 (some .boolean) :: ([.methodLink RX2 40 yX2_storeOf, .instanceMethod yX2_storeOf, .selects RX2 yX2_storeOf yX2_storeOf, .initialized RX2, .code yX2_storeOf cX2_storeOf 2 (some (.object "FetchHouse$Store")), .classLink RX2 201 "java/lang/IndexOutOfBoundsException", .initialized "java/lang/IndexOutOfBoundsException", .fieldLink RX2 19 "FetchHouse" "server" "LFetchHouse$Store;", .fieldLink RX2 23 "FetchHouse" "client" "LFetchHouse$Store;", .methodLink RX2 52 yX2_checkFile, .static yX2_checkFile, .code yX2_checkFile cX2_checkFile 1 none, .classLink RX2 55 "java/lang/IllegalArgumentException", .initialized "java/lang/IllegalArgumentException", .methodLink RX2 223 yX2_isFile, .static yX2_isFile, .code yX2_isFile cX2_isFile 1 (some .boolean), .methodLink RX2 135 yX1_holdsFile, .instanceMethod yX1_holdsFile, .selects RX1 yX1_holdsFile yX1_holdsFile, .initialized RX1, .code yX1_holdsFile cX1_holdsFile 2 (some .boolean), .fieldLink RX1 9 "FetchHouse$Store" "heldFiles" "[Z"] ++ wsX20 ++ wsX10 ++ (vx_atS RX2 205 "java/lang/IndexOutOfBoundsException" ["java/lang/RuntimeException", "java/lang/Exception"]).filter goodWord ++ (vx_atS RX2 59 "java/lang/IllegalArgumentException" ["java/lang/RuntimeException", "java/lang/Exception"]).filter goodWord)
def wsX2_isShallow_r1 : List Cond := [Cond.fieldLink RX2 10 "FetchHouse" "history" "LFetchHouse$History;", Cond.fieldLink RX2 23 "FetchHouse" "client" "LFetchHouse$Store;", Cond.methodLink RX2 97 yX2_checkCommit, Cond.instanceMethod yX2_checkCommit, Cond.selects RX2 yX2_checkCommit yX2_checkCommit, Cond.initialized RX2, Cond.code yX2_checkCommit cX2_checkCommit 2 none, Cond.classLink RX2 201 "java/lang/IndexOutOfBoundsException", Cond.initialized "java/lang/IndexOutOfBoundsException", Cond.methodLink RX2 206 yX0_isCommit, Cond.instanceMethod yX0_isCommit, Cond.selects RX0 yX0_isCommit yX0_isCommit, Cond.initialized RX0, Cond.code yX0_isCommit cX0_isCommit 2 (some .boolean), Cond.fieldLink RX0 28 "FetchHouse$History" "made" "I", Cond.methodLink RX2 178 yX0_shallowOf, Cond.instanceMethod yX0_shallowOf, Cond.selects RX0 yX0_shallowOf yX0_shallowOf, Cond.code yX0_shallowOf cX0_shallowOf 6 (some .long), Cond.constantLong RX0 65 (-1), Cond.static yX2_contains, Cond.code yX2_contains cX2_contains 3 (some .boolean), Cond.methodLink RX2 79 yX2_setOf, Cond.static yX2_setOf]
def wsX2_isShallow_r2 : List Cond := [Cond.code yX2_setOf cX2_setOf 1 (some .long), Cond.methodLink RX0 62 yX0_parentsOf, Cond.instanceMethod yX0_parentsOf, Cond.selects RX0 yX0_parentsOf yX0_parentsOf, Cond.code yX0_parentsOf cX0_parentsOf 2 (some .long), Cond.fieldLink RX0 9 "FetchHouse$History" "firstParents" "[I", Cond.fieldLink RX0 15 "FetchHouse$History" "secondParents" "[I", Cond.methodLink RX0 40 yX0_isCommit, Cond.methodLink RX2 174 yX2_contains]
def wsX2_isShallow : List Cond := .code yX2_isShallow cX2_isShallow 2 (some .boolean) :: ((wsX2_isShallow_r1 ++ wsX2_isShallow_r2) ++ wsX20 ++ wsX10 ++ wsX00 ++ (vx_atS RX2 205 "java/lang/IndexOutOfBoundsException" ["java/lang/RuntimeException", "java/lang/Exception"]).filter goodWord)
def wsX2_isAncestor_r1 : List Cond := [Cond.fieldLink RX2 10 "FetchHouse" "history" "LFetchHouse$History;", Cond.methodLink RX2 40 yX2_storeOf, Cond.instanceMethod yX2_storeOf, Cond.selects RX2 yX2_storeOf yX2_storeOf, Cond.initialized RX2, Cond.code yX2_storeOf cX2_storeOf 2 (some (.object "FetchHouse$Store")), Cond.classLink RX2 201 "java/lang/IndexOutOfBoundsException", Cond.initialized "java/lang/IndexOutOfBoundsException", Cond.fieldLink RX2 19 "FetchHouse" "server" "LFetchHouse$Store;", Cond.fieldLink RX2 23 "FetchHouse" "client" "LFetchHouse$Store;", Cond.methodLink RX2 97 yX2_checkCommit, Cond.instanceMethod yX2_checkCommit, Cond.selects RX2 yX2_checkCommit yX2_checkCommit, Cond.code yX2_checkCommit cX2_checkCommit 2 none, Cond.methodLink RX2 206 yX0_isCommit, Cond.instanceMethod yX0_isCommit, Cond.selects RX0 yX0_isCommit yX0_isCommit, Cond.initialized RX0, Cond.code yX0_isCommit cX0_isCommit 2 (some .boolean), Cond.fieldLink RX0 28 "FetchHouse$History" "made" "I", Cond.methodLink RX2 79 yX2_setOf, Cond.static yX2_setOf, Cond.code yX2_setOf cX2_setOf 1 (some .long), Cond.methodLink RX2 163 yX0_ancestorsOf]
def wsX2_isAncestor_r2 : List Cond := [Cond.instanceMethod yX0_ancestorsOf, Cond.selects RX0 yX0_ancestorsOf yX0_ancestorsOf, Cond.code yX0_ancestorsOf cX0_ancestorsOf 10 (some .long), Cond.constantLong RX0 65 (-1), Cond.methodLink RX0 67 yX0_shallowOf, Cond.instanceMethod yX0_shallowOf, Cond.selects RX0 yX0_shallowOf yX0_shallowOf, Cond.code yX0_shallowOf cX0_shallowOf 6 (some .long), Cond.static yX2_contains, Cond.code yX2_contains cX2_contains 3 (some .boolean), Cond.methodLink RX0 62 yX0_parentsOf, Cond.instanceMethod yX0_parentsOf, Cond.selects RX0 yX0_parentsOf yX0_parentsOf, Cond.code yX0_parentsOf cX0_parentsOf 2 (some .long), Cond.fieldLink RX0 9 "FetchHouse$History" "firstParents" "[I", Cond.fieldLink RX0 15 "FetchHouse$History" "secondParents" "[I", Cond.methodLink RX0 40 yX0_isCommit, Cond.methodLink RX2 174 yX2_contains]
def wsX2_isAncestor : List Cond := .code yX2_isAncestor cX2_isAncestor 5 (some .boolean) :: ((wsX2_isAncestor_r1 ++ wsX2_isAncestor_r2) ++ wsX20 ++ wsX10 ++ wsX00 ++ (vx_atS RX2 205 "java/lang/IndexOutOfBoundsException" ["java/lang/RuntimeException", "java/lang/Exception"]).filter goodWord)
def wsX3_init : List Cond := .code yX3_init cX3_init 2 none :: ([.methodLink RX3 1 objectInit, .instanceMethod objectInit, .code objectInit ⟨#[0xb1]⟩ 1 none, .arrayClass .int, .fieldLink RX3 7 "FetchHouseModel" "firsts" "[I", .fieldLink RX3 13 "FetchHouseModel" "seconds" "[I", .fieldLink RX3 16 "FetchHouseModel" "slots" "[I", .arrayClass .boolean, .fieldLink RX3 19 "FetchHouseModel" "hasCommit" "[Z", .fieldLink RX3 23 "FetchHouseModel" "hasFile" "[Z", .fieldLink RX3 26 "FetchHouseModel" "refs" "[I", .fieldLink RX3 29 "FetchHouseModel" "isProtected" "[Z", .fieldLink RX3 32 "FetchHouseModel" "moveRefs" "[I", .fieldLink RX3 35 "FetchHouseModel" "moveOlds" "[I", .fieldLink RX3 38 "FetchHouseModel" "moveNews" "[I", .fieldLink RX3 41 "FetchHouseModel" "marks" "[Z", .fieldLink RX3 44 "FetchHouseModel" "isCommon" "[Z", .fieldLink RX3 47 "FetchHouseModel" "wasTold" "[Z", .fieldLink RX3 50 "FetchHouseModel" "steps" "[I"] ++ wsX30)
def wsX3_thrown : List Cond := .code yX3_thrown cX3_thrown 1 (some .int) :: ([.fieldLink RX3 53 "FetchHouseModel" "refusal" "I"] ++ wsX30)
def wsX3_refused : List Cond := .code yX3_refused cX3_refused 2 (some .boolean) :: ([.fieldLink RX3 53 "FetchHouseModel" "refusal" "I"] ++ wsX30)
def wsX3_fine : List Cond := .code yX3_fine cX3_fine 2 (some .int) :: ([.fieldLink RX3 53 "FetchHouseModel" "refusal" "I"] ++ wsX30)
def wsX3_in : List Cond := .code yX3_in cX3_in 3 (some .boolean) :: ([])
def wsX3_isStore : List Cond := .code yX3_isStore cX3_isStore 1 (some .boolean) :: ([.methodLink RX3 57 yX3_in, .static yX3_in, .initialized RX3, .code yX3_in cX3_in 3 (some .boolean)])
def wsX3_isRef : List Cond := .code yX3_isRef cX3_isRef 1 (some .boolean) :: ([.methodLink RX3 57 yX3_in, .static yX3_in, .initialized RX3, .code yX3_in cX3_in 3 (some .boolean)])
def wsX3_isCommit : List Cond := .code yX3_isCommit cX3_isCommit 2 (some .boolean) :: ([.fieldLink RX3 61 "FetchHouseModel" "made" "I", .methodLink RX3 57 yX3_in, .static yX3_in, .initialized RX3, .code yX3_in cX3_in 3 (some .boolean)] ++ wsX30)
def wsX3_isIn : List Cond := .code yX3_isIn cX3_isIn 3 (some .boolean) :: ([.fieldLink RX3 19 "FetchHouseModel" "hasCommit" "[Z", .methodLink RX3 64 yX3_isCommit, .instanceMethod yX3_isCommit, .selects RX3 yX3_isCommit yX3_isCommit, .initialized RX3, .code yX3_isCommit cX3_isCommit 2 (some .boolean), .fieldLink RX3 61 "FetchHouseModel" "made" "I", .methodLink RX3 57 yX3_in, .static yX3_in, .code yX3_in cX3_in 3 (some .boolean)] ++ wsX30)
def wsX3_isInOrNone : List Cond := .code yX3_isInOrNone cX3_isInOrNone 3 (some .boolean) :: ([.methodLink RX3 68 yX3_isIn, .instanceMethod yX3_isIn, .selects RX3 yX3_isIn yX3_isIn, .initialized RX3, .code yX3_isIn cX3_isIn 3 (some .boolean), .fieldLink RX3 19 "FetchHouseModel" "hasCommit" "[Z", .methodLink RX3 64 yX3_isCommit, .instanceMethod yX3_isCommit, .selects RX3 yX3_isCommit yX3_isCommit, .code yX3_isCommit cX3_isCommit 2 (some .boolean), .fieldLink RX3 61 "FetchHouseModel" "made" "I", .methodLink RX3 57 yX3_in, .static yX3_in, .code yX3_in cX3_in 3 (some .boolean)] ++ wsX30)
def wsX3_isCommitOrNone : List Cond := .code yX3_isCommitOrNone cX3_isCommitOrNone 2 (some .boolean) :: ([.methodLink RX3 64 yX3_isCommit, .instanceMethod yX3_isCommit, .selects RX3 yX3_isCommit yX3_isCommit, .initialized RX3, .code yX3_isCommit cX3_isCommit 2 (some .boolean), .fieldLink RX3 61 "FetchHouseModel" "made" "I", .methodLink RX3 57 yX3_in, .static yX3_in, .code yX3_in cX3_in 3 (some .boolean)] ++ wsX30)
def wsX3_make_r1 : List Cond := [Cond.fieldLink RX3 61 "FetchHouseModel" "made" "I", Cond.fieldLink RX3 7 "FetchHouseModel" "firsts" "[I", Cond.fieldLink RX3 13 "FetchHouseModel" "seconds" "[I", Cond.fieldLink RX3 16 "FetchHouseModel" "slots" "[I", Cond.fieldLink RX3 19 "FetchHouseModel" "hasCommit" "[Z", Cond.fieldLink RX3 23 "FetchHouseModel" "hasFile" "[Z", Cond.methodLink RX3 72 yX3_isStore, Cond.static yX3_isStore, Cond.initialized RX3, Cond.code yX3_isStore cX3_isStore 1 (some .boolean), Cond.methodLink RX3 57 yX3_in, Cond.static yX3_in, Cond.code yX3_in cX3_in 3 (some .boolean), Cond.methodLink RX3 75 yX3_isInOrNone, Cond.instanceMethod yX3_isInOrNone, Cond.selects RX3 yX3_isInOrNone yX3_isInOrNone, Cond.code yX3_isInOrNone cX3_isInOrNone 3 (some .boolean), Cond.methodLink RX3 68 yX3_isIn, Cond.instanceMethod yX3_isIn, Cond.selects RX3 yX3_isIn yX3_isIn, Cond.code yX3_isIn cX3_isIn 3 (some .boolean), Cond.methodLink RX3 64 yX3_isCommit, Cond.instanceMethod yX3_isCommit, Cond.selects RX3 yX3_isCommit yX3_isCommit]
def wsX3_make_r2 : List Cond := [Cond.code yX3_isCommit cX3_isCommit 2 (some .boolean), Cond.methodLink RX3 78 yX3_refused, Cond.instanceMethod yX3_refused, Cond.selects RX3 yX3_refused yX3_refused, Cond.code yX3_refused cX3_refused 2 (some .boolean), Cond.fieldLink RX3 53 "FetchHouseModel" "refusal" "I"]
def wsX3_make : List Cond := .code yX3_make cX3_make 9 (some .int) :: ((wsX3_make_r1 ++ wsX3_make_r2) ++ wsX30)
def wsX3_setRef_r1 : List Cond := [Cond.fieldLink RX3 26 "FetchHouseModel" "refs" "[I", Cond.methodLink RX3 72 yX3_isStore, Cond.static yX3_isStore, Cond.initialized RX3, Cond.code yX3_isStore cX3_isStore 1 (some .boolean), Cond.methodLink RX3 57 yX3_in, Cond.static yX3_in, Cond.code yX3_in cX3_in 3 (some .boolean), Cond.methodLink RX3 81 yX3_isRef, Cond.static yX3_isRef, Cond.code yX3_isRef cX3_isRef 1 (some .boolean), Cond.methodLink RX3 75 yX3_isInOrNone, Cond.instanceMethod yX3_isInOrNone, Cond.selects RX3 yX3_isInOrNone yX3_isInOrNone, Cond.code yX3_isInOrNone cX3_isInOrNone 3 (some .boolean), Cond.methodLink RX3 68 yX3_isIn, Cond.instanceMethod yX3_isIn, Cond.selects RX3 yX3_isIn yX3_isIn, Cond.code yX3_isIn cX3_isIn 3 (some .boolean), Cond.fieldLink RX3 19 "FetchHouseModel" "hasCommit" "[Z", Cond.methodLink RX3 64 yX3_isCommit, Cond.instanceMethod yX3_isCommit, Cond.selects RX3 yX3_isCommit yX3_isCommit, Cond.code yX3_isCommit cX3_isCommit 2 (some .boolean)]
def wsX3_setRef_r2 : List Cond := [Cond.fieldLink RX3 61 "FetchHouseModel" "made" "I", Cond.methodLink RX3 78 yX3_refused, Cond.instanceMethod yX3_refused, Cond.selects RX3 yX3_refused yX3_refused, Cond.code yX3_refused cX3_refused 2 (some .boolean), Cond.fieldLink RX3 53 "FetchHouseModel" "refusal" "I"]
def wsX3_setRef : List Cond := .code yX3_setRef cX3_setRef 6 (some .int) :: ((wsX3_setRef_r1 ++ wsX3_setRef_r2) ++ wsX30)
def wsX3_ref : List Cond := .code yX3_ref cX3_ref 3 (some .int) :: ([.fieldLink RX3 26 "FetchHouseModel" "refs" "[I", .methodLink RX3 72 yX3_isStore, .static yX3_isStore, .initialized RX3, .code yX3_isStore cX3_isStore 1 (some .boolean), .methodLink RX3 57 yX3_in, .static yX3_in, .code yX3_in cX3_in 3 (some .boolean), .methodLink RX3 81 yX3_isRef, .static yX3_isRef, .code yX3_isRef cX3_isRef 1 (some .boolean), .methodLink RX3 78 yX3_refused, .instanceMethod yX3_refused, .selects RX3 yX3_refused yX3_refused, .code yX3_refused cX3_refused 2 (some .boolean), .fieldLink RX3 53 "FetchHouseModel" "refusal" "I"] ++ wsX30)
def wsX3_fileAt : List Cond := .code yX3_fileAt cX3_fileAt 3 (some .int) :: ([.fieldLink RX3 16 "FetchHouseModel" "slots" "[I", .methodLink RX3 64 yX3_isCommit, .instanceMethod yX3_isCommit, .selects RX3 yX3_isCommit yX3_isCommit, .initialized RX3, .code yX3_isCommit cX3_isCommit 2 (some .boolean), .fieldLink RX3 61 "FetchHouseModel" "made" "I", .methodLink RX3 57 yX3_in, .static yX3_in, .code yX3_in cX3_in 3 (some .boolean), .methodLink RX3 78 yX3_refused, .instanceMethod yX3_refused, .selects RX3 yX3_refused yX3_refused, .code yX3_refused cX3_refused 2 (some .boolean), .fieldLink RX3 53 "FetchHouseModel" "refusal" "I"] ++ wsX30)
def wsX3_lacksParent : List Cond := .code yX3_lacksParent cX3_lacksParent 3 (some .boolean) :: ([.fieldLink RX3 7 "FetchHouseModel" "firsts" "[I", .fieldLink RX3 13 "FetchHouseModel" "seconds" "[I", .methodLink RX3 68 yX3_isIn, .instanceMethod yX3_isIn, .selects RX3 yX3_isIn yX3_isIn, .initialized RX3, .code yX3_isIn cX3_isIn 3 (some .boolean), .fieldLink RX3 19 "FetchHouseModel" "hasCommit" "[Z", .methodLink RX3 64 yX3_isCommit, .instanceMethod yX3_isCommit, .selects RX3 yX3_isCommit yX3_isCommit, .code yX3_isCommit cX3_isCommit 2 (some .boolean), .fieldLink RX3 61 "FetchHouseModel" "made" "I", .methodLink RX3 57 yX3_in, .static yX3_in, .code yX3_in cX3_in 3 (some .boolean)] ++ wsX30)
def wsX3_shallow : List Cond := .code yX3_shallow cX3_shallow 2 (some .boolean) :: ([.methodLink RX3 68 yX3_isIn, .instanceMethod yX3_isIn, .selects RX3 yX3_isIn yX3_isIn, .initialized RX3, .code yX3_isIn cX3_isIn 3 (some .boolean), .fieldLink RX3 19 "FetchHouseModel" "hasCommit" "[Z", .methodLink RX3 64 yX3_isCommit, .instanceMethod yX3_isCommit, .selects RX3 yX3_isCommit yX3_isCommit, .code yX3_isCommit cX3_isCommit 2 (some .boolean), .fieldLink RX3 61 "FetchHouseModel" "made" "I", .methodLink RX3 57 yX3_in, .static yX3_in, .code yX3_in cX3_in 3 (some .boolean), .methodLink RX3 84 yX3_lacksParent, .instanceMethod yX3_lacksParent, .selects RX3 yX3_lacksParent yX3_lacksParent, .code yX3_lacksParent cX3_lacksParent 3 (some .boolean), .fieldLink RX3 7 "FetchHouseModel" "firsts" "[I", .fieldLink RX3 13 "FetchHouseModel" "seconds" "[I"] ++ wsX30)
def wsX3_mark : List Cond := .code yX3_mark cX3_mark 3 none :: ([.fieldLink RX3 41 "FetchHouseModel" "marks" "[Z", .methodLink RX3 68 yX3_isIn, .instanceMethod yX3_isIn, .selects RX3 yX3_isIn yX3_isIn, .initialized RX3, .code yX3_isIn cX3_isIn 3 (some .boolean), .fieldLink RX3 19 "FetchHouseModel" "hasCommit" "[Z", .methodLink RX3 64 yX3_isCommit, .instanceMethod yX3_isCommit, .selects RX3 yX3_isCommit yX3_isCommit, .code yX3_isCommit cX3_isCommit 2 (some .boolean), .fieldLink RX3 61 "FetchHouseModel" "made" "I", .methodLink RX3 57 yX3_in, .static yX3_in, .code yX3_in cX3_in 3 (some .boolean)] ++ wsX30)
def wsX3_markOn_r1 : List Cond := [Cond.fieldLink RX3 61 "FetchHouseModel" "made" "I", Cond.fieldLink RX3 41 "FetchHouseModel" "marks" "[Z", Cond.fieldLink RX3 7 "FetchHouseModel" "firsts" "[I", Cond.fieldLink RX3 13 "FetchHouseModel" "seconds" "[I", Cond.methodLink RX3 87 yX3_shallow, Cond.instanceMethod yX3_shallow, Cond.selects RX3 yX3_shallow yX3_shallow, Cond.initialized RX3, Cond.code yX3_shallow cX3_shallow 2 (some .boolean), Cond.methodLink RX3 68 yX3_isIn, Cond.instanceMethod yX3_isIn, Cond.selects RX3 yX3_isIn yX3_isIn, Cond.code yX3_isIn cX3_isIn 3 (some .boolean), Cond.fieldLink RX3 19 "FetchHouseModel" "hasCommit" "[Z", Cond.methodLink RX3 64 yX3_isCommit, Cond.instanceMethod yX3_isCommit, Cond.selects RX3 yX3_isCommit yX3_isCommit, Cond.code yX3_isCommit cX3_isCommit 2 (some .boolean), Cond.methodLink RX3 57 yX3_in, Cond.static yX3_in, Cond.code yX3_in cX3_in 3 (some .boolean), Cond.methodLink RX3 84 yX3_lacksParent, Cond.instanceMethod yX3_lacksParent, Cond.selects RX3 yX3_lacksParent yX3_lacksParent]
def wsX3_markOn_r2 : List Cond := [Cond.code yX3_lacksParent cX3_lacksParent 3 (some .boolean), Cond.methodLink RX3 90 yX3_mark, Cond.instanceMethod yX3_mark, Cond.selects RX3 yX3_mark yX3_mark, Cond.code yX3_mark cX3_mark 3 none]
def wsX3_markOn : List Cond := .code yX3_markOn cX3_markOn 3 none :: ((wsX3_markOn_r1 ++ wsX3_markOn_r2) ++ wsX30)
def wsX3_clear : List Cond := .code yX3_clear cX3_clear 2 none :: ([.fieldLink RX3 41 "FetchHouseModel" "marks" "[Z"] ++ wsX30)
def wsX3_markFrom_r1 : List Cond := [Cond.methodLink RX3 94 yX3_clear, Cond.instanceMethod yX3_clear, Cond.selects RX3 yX3_clear yX3_clear, Cond.initialized RX3, Cond.code yX3_clear cX3_clear 2 none, Cond.fieldLink RX3 41 "FetchHouseModel" "marks" "[Z", Cond.methodLink RX3 90 yX3_mark, Cond.instanceMethod yX3_mark, Cond.selects RX3 yX3_mark yX3_mark, Cond.code yX3_mark cX3_mark 3 none, Cond.methodLink RX3 68 yX3_isIn, Cond.instanceMethod yX3_isIn, Cond.selects RX3 yX3_isIn yX3_isIn, Cond.code yX3_isIn cX3_isIn 3 (some .boolean), Cond.fieldLink RX3 19 "FetchHouseModel" "hasCommit" "[Z", Cond.methodLink RX3 64 yX3_isCommit, Cond.instanceMethod yX3_isCommit, Cond.selects RX3 yX3_isCommit yX3_isCommit, Cond.code yX3_isCommit cX3_isCommit 2 (some .boolean), Cond.fieldLink RX3 61 "FetchHouseModel" "made" "I", Cond.methodLink RX3 57 yX3_in, Cond.static yX3_in, Cond.code yX3_in cX3_in 3 (some .boolean), Cond.methodLink RX3 97 yX3_markOn]
def wsX3_markFrom_r2 : List Cond := [Cond.instanceMethod yX3_markOn, Cond.selects RX3 yX3_markOn yX3_markOn, Cond.code yX3_markOn cX3_markOn 3 none, Cond.fieldLink RX3 7 "FetchHouseModel" "firsts" "[I", Cond.fieldLink RX3 13 "FetchHouseModel" "seconds" "[I", Cond.methodLink RX3 87 yX3_shallow, Cond.instanceMethod yX3_shallow, Cond.selects RX3 yX3_shallow yX3_shallow, Cond.code yX3_shallow cX3_shallow 2 (some .boolean), Cond.methodLink RX3 84 yX3_lacksParent, Cond.instanceMethod yX3_lacksParent, Cond.selects RX3 yX3_lacksParent yX3_lacksParent, Cond.code yX3_lacksParent cX3_lacksParent 3 (some .boolean)]
def wsX3_markFrom : List Cond := .code yX3_markFrom cX3_markFrom 3 none :: ((wsX3_markFrom_r1 ++ wsX3_markFrom_r2) ++ wsX30)
def wsX3_tell_r1 : List Cond := [Cond.fieldLink RX3 61 "FetchHouseModel" "made" "I", Cond.fieldLink RX3 44 "FetchHouseModel" "isCommon" "[Z", Cond.fieldLink RX3 47 "FetchHouseModel" "wasTold" "[Z", Cond.fieldLink RX3 41 "FetchHouseModel" "marks" "[Z", Cond.methodLink RX3 94 yX3_clear, Cond.instanceMethod yX3_clear, Cond.selects RX3 yX3_clear yX3_clear, Cond.initialized RX3, Cond.code yX3_clear cX3_clear 2 none, Cond.methodLink RX3 68 yX3_isIn, Cond.instanceMethod yX3_isIn, Cond.selects RX3 yX3_isIn yX3_isIn, Cond.code yX3_isIn cX3_isIn 3 (some .boolean), Cond.fieldLink RX3 19 "FetchHouseModel" "hasCommit" "[Z", Cond.methodLink RX3 64 yX3_isCommit, Cond.instanceMethod yX3_isCommit, Cond.selects RX3 yX3_isCommit yX3_isCommit, Cond.code yX3_isCommit cX3_isCommit 2 (some .boolean), Cond.methodLink RX3 57 yX3_in, Cond.static yX3_in, Cond.code yX3_in cX3_in 3 (some .boolean), Cond.methodLink RX3 97 yX3_markOn, Cond.instanceMethod yX3_markOn, Cond.selects RX3 yX3_markOn yX3_markOn]
def wsX3_tell_r2 : List Cond := [Cond.code yX3_markOn cX3_markOn 3 none, Cond.fieldLink RX3 7 "FetchHouseModel" "firsts" "[I", Cond.fieldLink RX3 13 "FetchHouseModel" "seconds" "[I", Cond.methodLink RX3 87 yX3_shallow, Cond.instanceMethod yX3_shallow, Cond.selects RX3 yX3_shallow yX3_shallow, Cond.code yX3_shallow cX3_shallow 2 (some .boolean), Cond.methodLink RX3 84 yX3_lacksParent, Cond.instanceMethod yX3_lacksParent, Cond.selects RX3 yX3_lacksParent yX3_lacksParent, Cond.code yX3_lacksParent cX3_lacksParent 3 (some .boolean), Cond.methodLink RX3 90 yX3_mark, Cond.instanceMethod yX3_mark, Cond.selects RX3 yX3_mark yX3_mark, Cond.code yX3_mark cX3_mark 3 none]
def wsX3_tell : List Cond := .code yX3_tell cX3_tell 3 (some .int) :: ((wsX3_tell_r1 ++ wsX3_tell_r2) ++ wsX30)
def wsX3_talk_r1 : List Cond := [Cond.fieldLink RX3 101 "FetchHouseModel" "rounds" "I", Cond.fieldLink RX3 44 "FetchHouseModel" "isCommon" "[Z", Cond.fieldLink RX3 47 "FetchHouseModel" "wasTold" "[Z", Cond.methodLink RX3 104 yX3_tell, Cond.instanceMethod yX3_tell, Cond.selects RX3 yX3_tell yX3_tell, Cond.initialized RX3, Cond.code yX3_tell cX3_tell 3 (some .int), Cond.fieldLink RX3 61 "FetchHouseModel" "made" "I", Cond.fieldLink RX3 41 "FetchHouseModel" "marks" "[Z", Cond.methodLink RX3 94 yX3_clear, Cond.instanceMethod yX3_clear, Cond.selects RX3 yX3_clear yX3_clear, Cond.code yX3_clear cX3_clear 2 none, Cond.methodLink RX3 68 yX3_isIn, Cond.instanceMethod yX3_isIn, Cond.selects RX3 yX3_isIn yX3_isIn, Cond.code yX3_isIn cX3_isIn 3 (some .boolean), Cond.fieldLink RX3 19 "FetchHouseModel" "hasCommit" "[Z", Cond.methodLink RX3 64 yX3_isCommit, Cond.instanceMethod yX3_isCommit, Cond.selects RX3 yX3_isCommit yX3_isCommit, Cond.code yX3_isCommit cX3_isCommit 2 (some .boolean), Cond.methodLink RX3 57 yX3_in]
def wsX3_talk_r2 : List Cond := [Cond.static yX3_in, Cond.code yX3_in cX3_in 3 (some .boolean), Cond.methodLink RX3 97 yX3_markOn, Cond.instanceMethod yX3_markOn, Cond.selects RX3 yX3_markOn yX3_markOn, Cond.code yX3_markOn cX3_markOn 3 none, Cond.fieldLink RX3 7 "FetchHouseModel" "firsts" "[I", Cond.fieldLink RX3 13 "FetchHouseModel" "seconds" "[I", Cond.methodLink RX3 87 yX3_shallow, Cond.instanceMethod yX3_shallow, Cond.selects RX3 yX3_shallow yX3_shallow, Cond.code yX3_shallow cX3_shallow 2 (some .boolean), Cond.methodLink RX3 84 yX3_lacksParent, Cond.instanceMethod yX3_lacksParent, Cond.selects RX3 yX3_lacksParent yX3_lacksParent, Cond.code yX3_lacksParent cX3_lacksParent 3 (some .boolean), Cond.methodLink RX3 90 yX3_mark, Cond.instanceMethod yX3_mark, Cond.selects RX3 yX3_mark yX3_mark, Cond.code yX3_mark cX3_mark 3 none]
def wsX3_talk : List Cond := .code yX3_talk cX3_talk 2 none :: ((wsX3_talk_r1 ++ wsX3_talk_r2) ++ wsX30)
def wsX3_near : List Cond := .code yX3_near cX3_near 3 none :: ([.fieldLink RX3 50 "FetchHouseModel" "steps" "[I"] ++ wsX30)
def wsX3_reach_r1 : List Cond := [Cond.fieldLink RX3 50 "FetchHouseModel" "steps" "[I", Cond.fieldLink RX3 7 "FetchHouseModel" "firsts" "[I", Cond.fieldLink RX3 13 "FetchHouseModel" "seconds" "[I", Cond.fieldLink RX3 41 "FetchHouseModel" "marks" "[Z", Cond.methodLink RX3 108 yX3_markFrom, Cond.instanceMethod yX3_markFrom, Cond.selects RX3 yX3_markFrom yX3_markFrom, Cond.initialized RX3, Cond.code yX3_markFrom cX3_markFrom 3 none, Cond.methodLink RX3 94 yX3_clear, Cond.instanceMethod yX3_clear, Cond.selects RX3 yX3_clear yX3_clear, Cond.code yX3_clear cX3_clear 2 none, Cond.methodLink RX3 90 yX3_mark, Cond.instanceMethod yX3_mark, Cond.selects RX3 yX3_mark yX3_mark, Cond.code yX3_mark cX3_mark 3 none, Cond.methodLink RX3 68 yX3_isIn, Cond.instanceMethod yX3_isIn, Cond.selects RX3 yX3_isIn yX3_isIn, Cond.code yX3_isIn cX3_isIn 3 (some .boolean), Cond.fieldLink RX3 19 "FetchHouseModel" "hasCommit" "[Z", Cond.methodLink RX3 64 yX3_isCommit, Cond.instanceMethod yX3_isCommit]
def wsX3_reach_r2 : List Cond := [Cond.selects RX3 yX3_isCommit yX3_isCommit, Cond.code yX3_isCommit cX3_isCommit 2 (some .boolean), Cond.fieldLink RX3 61 "FetchHouseModel" "made" "I", Cond.methodLink RX3 57 yX3_in, Cond.static yX3_in, Cond.code yX3_in cX3_in 3 (some .boolean), Cond.methodLink RX3 97 yX3_markOn, Cond.instanceMethod yX3_markOn, Cond.selects RX3 yX3_markOn yX3_markOn, Cond.code yX3_markOn cX3_markOn 3 none, Cond.methodLink RX3 87 yX3_shallow, Cond.instanceMethod yX3_shallow, Cond.selects RX3 yX3_shallow yX3_shallow, Cond.code yX3_shallow cX3_shallow 2 (some .boolean), Cond.methodLink RX3 84 yX3_lacksParent, Cond.instanceMethod yX3_lacksParent, Cond.selects RX3 yX3_lacksParent yX3_lacksParent, Cond.code yX3_lacksParent cX3_lacksParent 3 (some .boolean), Cond.methodLink RX3 111 yX3_near, Cond.instanceMethod yX3_near, Cond.selects RX3 yX3_near yX3_near, Cond.code yX3_near cX3_near 3 none]
def wsX3_reach : List Cond := .code yX3_reach cX3_reach 4 none :: ((wsX3_reach_r1 ++ wsX3_reach_r2) ++ wsX30)
def wsX3_noFetch : List Cond := .code yX3_noFetch cX3_noFetch 4 (some .boolean) :: ([.fieldLink RX3 26 "FetchHouseModel" "refs" "[I", .methodLink RX3 81 yX3_isRef, .static yX3_isRef, .initialized RX3, .code yX3_isRef cX3_isRef 1 (some .boolean), .methodLink RX3 57 yX3_in, .static yX3_in, .code yX3_in cX3_in 3 (some .boolean), .methodLink RX3 78 yX3_refused, .instanceMethod yX3_refused, .selects RX3 yX3_refused yX3_refused, .code yX3_refused cX3_refused 2 (some .boolean), .fieldLink RX3 53 "FetchHouseModel" "refusal" "I"] ++ wsX30)
def wsX3_bring : List Cond := .code yX3_bring cX3_bring 6 none :: ([.fieldLink RX3 16 "FetchHouseModel" "slots" "[I", .fieldLink RX3 23 "FetchHouseModel" "hasFile" "[Z"] ++ wsX30)
def wsX3_fetch_r1 : List Cond := [Cond.fieldLink RX3 26 "FetchHouseModel" "refs" "[I", Cond.fieldLink RX3 61 "FetchHouseModel" "made" "I", Cond.fieldLink RX3 41 "FetchHouseModel" "marks" "[Z", Cond.fieldLink RX3 44 "FetchHouseModel" "isCommon" "[Z", Cond.fieldLink RX3 19 "FetchHouseModel" "hasCommit" "[Z", Cond.methodLink RX3 114 yX3_noFetch, Cond.instanceMethod yX3_noFetch, Cond.selects RX3 yX3_noFetch yX3_noFetch, Cond.initialized RX3, Cond.code yX3_noFetch cX3_noFetch 4 (some .boolean), Cond.methodLink RX3 81 yX3_isRef, Cond.static yX3_isRef, Cond.code yX3_isRef cX3_isRef 1 (some .boolean), Cond.methodLink RX3 57 yX3_in, Cond.static yX3_in, Cond.code yX3_in cX3_in 3 (some .boolean), Cond.methodLink RX3 78 yX3_refused, Cond.instanceMethod yX3_refused, Cond.selects RX3 yX3_refused yX3_refused, Cond.code yX3_refused cX3_refused 2 (some .boolean), Cond.fieldLink RX3 53 "FetchHouseModel" "refusal" "I", Cond.methodLink RX3 117 yX3_talk, Cond.instanceMethod yX3_talk, Cond.selects RX3 yX3_talk yX3_talk]
def wsX3_fetch_r2 : List Cond := [Cond.code yX3_talk cX3_talk 2 none, Cond.fieldLink RX3 101 "FetchHouseModel" "rounds" "I", Cond.fieldLink RX3 47 "FetchHouseModel" "wasTold" "[Z", Cond.methodLink RX3 104 yX3_tell, Cond.instanceMethod yX3_tell, Cond.selects RX3 yX3_tell yX3_tell, Cond.code yX3_tell cX3_tell 3 (some .int), Cond.methodLink RX3 94 yX3_clear, Cond.instanceMethod yX3_clear, Cond.selects RX3 yX3_clear yX3_clear, Cond.code yX3_clear cX3_clear 2 none, Cond.methodLink RX3 68 yX3_isIn, Cond.instanceMethod yX3_isIn, Cond.selects RX3 yX3_isIn yX3_isIn, Cond.code yX3_isIn cX3_isIn 3 (some .boolean), Cond.methodLink RX3 64 yX3_isCommit, Cond.instanceMethod yX3_isCommit, Cond.selects RX3 yX3_isCommit yX3_isCommit, Cond.code yX3_isCommit cX3_isCommit 2 (some .boolean), Cond.methodLink RX3 97 yX3_markOn, Cond.instanceMethod yX3_markOn, Cond.selects RX3 yX3_markOn yX3_markOn, Cond.code yX3_markOn cX3_markOn 3 none, Cond.fieldLink RX3 7 "FetchHouseModel" "firsts" "[I"]
def wsX3_fetch_r3 : List Cond := [Cond.fieldLink RX3 13 "FetchHouseModel" "seconds" "[I", Cond.methodLink RX3 87 yX3_shallow, Cond.instanceMethod yX3_shallow, Cond.selects RX3 yX3_shallow yX3_shallow, Cond.code yX3_shallow cX3_shallow 2 (some .boolean), Cond.methodLink RX3 84 yX3_lacksParent, Cond.instanceMethod yX3_lacksParent, Cond.selects RX3 yX3_lacksParent yX3_lacksParent, Cond.code yX3_lacksParent cX3_lacksParent 3 (some .boolean), Cond.methodLink RX3 90 yX3_mark, Cond.instanceMethod yX3_mark, Cond.selects RX3 yX3_mark yX3_mark, Cond.code yX3_mark cX3_mark 3 none, Cond.methodLink RX3 120 yX3_reach, Cond.instanceMethod yX3_reach, Cond.selects RX3 yX3_reach yX3_reach, Cond.code yX3_reach cX3_reach 4 none, Cond.fieldLink RX3 50 "FetchHouseModel" "steps" "[I", Cond.methodLink RX3 108 yX3_markFrom, Cond.instanceMethod yX3_markFrom, Cond.selects RX3 yX3_markFrom yX3_markFrom, Cond.code yX3_markFrom cX3_markFrom 3 none, Cond.methodLink RX3 111 yX3_near, Cond.instanceMethod yX3_near]
def wsX3_fetch_r4 : List Cond := [Cond.selects RX3 yX3_near yX3_near, Cond.code yX3_near cX3_near 3 none, Cond.methodLink RX3 123 yX3_bring, Cond.instanceMethod yX3_bring, Cond.selects RX3 yX3_bring yX3_bring, Cond.code yX3_bring cX3_bring 6 none, Cond.fieldLink RX3 16 "FetchHouseModel" "slots" "[I", Cond.fieldLink RX3 23 "FetchHouseModel" "hasFile" "[Z"]
def wsX3_fetch : List Cond := .code yX3_fetch cX3_fetch 6 (some .int) :: ((wsX3_fetch_r1 ++ (wsX3_fetch_r2 ++ (wsX3_fetch_r3 ++ wsX3_fetch_r4))) ++ wsX30)
def wsX3_wouldFetch_r1 : List Cond := [Cond.fieldLink RX3 26 "FetchHouseModel" "refs" "[I", Cond.fieldLink RX3 61 "FetchHouseModel" "made" "I", Cond.fieldLink RX3 41 "FetchHouseModel" "marks" "[Z", Cond.methodLink RX3 114 yX3_noFetch, Cond.instanceMethod yX3_noFetch, Cond.selects RX3 yX3_noFetch yX3_noFetch, Cond.initialized RX3, Cond.code yX3_noFetch cX3_noFetch 4 (some .boolean), Cond.methodLink RX3 81 yX3_isRef, Cond.static yX3_isRef, Cond.code yX3_isRef cX3_isRef 1 (some .boolean), Cond.methodLink RX3 57 yX3_in, Cond.static yX3_in, Cond.code yX3_in cX3_in 3 (some .boolean), Cond.methodLink RX3 78 yX3_refused, Cond.instanceMethod yX3_refused, Cond.selects RX3 yX3_refused yX3_refused, Cond.code yX3_refused cX3_refused 2 (some .boolean), Cond.fieldLink RX3 53 "FetchHouseModel" "refusal" "I", Cond.methodLink RX3 120 yX3_reach, Cond.instanceMethod yX3_reach, Cond.selects RX3 yX3_reach yX3_reach, Cond.code yX3_reach cX3_reach 4 none, Cond.fieldLink RX3 50 "FetchHouseModel" "steps" "[I"]
def wsX3_wouldFetch_r2 : List Cond := [Cond.fieldLink RX3 7 "FetchHouseModel" "firsts" "[I", Cond.fieldLink RX3 13 "FetchHouseModel" "seconds" "[I", Cond.methodLink RX3 108 yX3_markFrom, Cond.instanceMethod yX3_markFrom, Cond.selects RX3 yX3_markFrom yX3_markFrom, Cond.code yX3_markFrom cX3_markFrom 3 none, Cond.methodLink RX3 94 yX3_clear, Cond.instanceMethod yX3_clear, Cond.selects RX3 yX3_clear yX3_clear, Cond.code yX3_clear cX3_clear 2 none, Cond.methodLink RX3 90 yX3_mark, Cond.instanceMethod yX3_mark, Cond.selects RX3 yX3_mark yX3_mark, Cond.code yX3_mark cX3_mark 3 none, Cond.methodLink RX3 68 yX3_isIn, Cond.instanceMethod yX3_isIn, Cond.selects RX3 yX3_isIn yX3_isIn, Cond.code yX3_isIn cX3_isIn 3 (some .boolean), Cond.fieldLink RX3 19 "FetchHouseModel" "hasCommit" "[Z", Cond.methodLink RX3 64 yX3_isCommit, Cond.instanceMethod yX3_isCommit, Cond.selects RX3 yX3_isCommit yX3_isCommit, Cond.code yX3_isCommit cX3_isCommit 2 (some .boolean), Cond.methodLink RX3 97 yX3_markOn]
def wsX3_wouldFetch_r3 : List Cond := [Cond.instanceMethod yX3_markOn, Cond.selects RX3 yX3_markOn yX3_markOn, Cond.code yX3_markOn cX3_markOn 3 none, Cond.methodLink RX3 87 yX3_shallow, Cond.instanceMethod yX3_shallow, Cond.selects RX3 yX3_shallow yX3_shallow, Cond.code yX3_shallow cX3_shallow 2 (some .boolean), Cond.methodLink RX3 84 yX3_lacksParent, Cond.instanceMethod yX3_lacksParent, Cond.selects RX3 yX3_lacksParent yX3_lacksParent, Cond.code yX3_lacksParent cX3_lacksParent 3 (some .boolean), Cond.methodLink RX3 111 yX3_near, Cond.instanceMethod yX3_near, Cond.selects RX3 yX3_near yX3_near, Cond.code yX3_near cX3_near 3 none]
def wsX3_wouldFetch : List Cond := .code yX3_wouldFetch cX3_wouldFetch 5 (some .int) :: ((wsX3_wouldFetch_r1 ++ (wsX3_wouldFetch_r2 ++ wsX3_wouldFetch_r3)) ++ wsX30)
def wsX3_rounds : List Cond := .code yX3_rounds cX3_rounds 1 (some .int) :: ([.fieldLink RX3 101 "FetchHouseModel" "rounds" "I", .methodLink RX3 127 yX3_fine, .instanceMethod yX3_fine, .selects RX3 yX3_fine yX3_fine, .initialized RX3, .code yX3_fine cX3_fine 2 (some .int), .fieldLink RX3 53 "FetchHouseModel" "refusal" "I"] ++ wsX30)
def wsX3_load : List Cond := .code yX3_load cX3_load 4 (some .boolean) :: ([.fieldLink RX3 23 "FetchHouseModel" "hasFile" "[Z", .methodLink RX3 57 yX3_in, .static yX3_in, .initialized RX3, .code yX3_in cX3_in 3 (some .boolean), .methodLink RX3 78 yX3_refused, .instanceMethod yX3_refused, .selects RX3 yX3_refused yX3_refused, .code yX3_refused cX3_refused 2 (some .boolean), .fieldLink RX3 53 "FetchHouseModel" "refusal" "I"] ++ wsX30)
def wsX3_isNeeded : List Cond := .code yX3_isNeeded cX3_isNeeded 5 (some .boolean) :: ([.fieldLink RX3 61 "FetchHouseModel" "made" "I", .fieldLink RX3 16 "FetchHouseModel" "slots" "[I", .methodLink RX3 68 yX3_isIn, .instanceMethod yX3_isIn, .selects RX3 yX3_isIn yX3_isIn, .initialized RX3, .code yX3_isIn cX3_isIn 3 (some .boolean), .fieldLink RX3 19 "FetchHouseModel" "hasCommit" "[Z", .methodLink RX3 64 yX3_isCommit, .instanceMethod yX3_isCommit, .selects RX3 yX3_isCommit yX3_isCommit, .code yX3_isCommit cX3_isCommit 2 (some .boolean), .methodLink RX3 57 yX3_in, .static yX3_in, .code yX3_in cX3_in 3 (some .boolean)] ++ wsX30)
def wsX3_missing_r1 : List Cond := [Cond.fieldLink RX3 23 "FetchHouseModel" "hasFile" "[Z", Cond.methodLink RX3 131 yX3_isNeeded, Cond.instanceMethod yX3_isNeeded, Cond.selects RX3 yX3_isNeeded yX3_isNeeded, Cond.initialized RX3, Cond.code yX3_isNeeded cX3_isNeeded 5 (some .boolean), Cond.fieldLink RX3 61 "FetchHouseModel" "made" "I", Cond.fieldLink RX3 16 "FetchHouseModel" "slots" "[I", Cond.methodLink RX3 68 yX3_isIn, Cond.instanceMethod yX3_isIn, Cond.selects RX3 yX3_isIn yX3_isIn, Cond.code yX3_isIn cX3_isIn 3 (some .boolean), Cond.fieldLink RX3 19 "FetchHouseModel" "hasCommit" "[Z", Cond.methodLink RX3 64 yX3_isCommit, Cond.instanceMethod yX3_isCommit, Cond.selects RX3 yX3_isCommit yX3_isCommit, Cond.code yX3_isCommit cX3_isCommit 2 (some .boolean), Cond.methodLink RX3 57 yX3_in, Cond.static yX3_in, Cond.code yX3_in cX3_in 3 (some .boolean), Cond.methodLink RX3 127 yX3_fine, Cond.instanceMethod yX3_fine, Cond.selects RX3 yX3_fine yX3_fine, Cond.code yX3_fine cX3_fine 2 (some .int)]
def wsX3_missing_r2 : List Cond := [Cond.fieldLink RX3 53 "FetchHouseModel" "refusal" "I"]
def wsX3_missing : List Cond := .code yX3_missing cX3_missing 3 (some .int) :: ((wsX3_missing_r1 ++ wsX3_missing_r2) ++ wsX30)
def wsX3_protect : List Cond := .code yX3_protect cX3_protect 4 (some .boolean) :: ([.fieldLink RX3 29 "FetchHouseModel" "isProtected" "[Z", .methodLink RX3 81 yX3_isRef, .static yX3_isRef, .initialized RX3, .code yX3_isRef cX3_isRef 1 (some .boolean), .methodLink RX3 57 yX3_in, .static yX3_in, .code yX3_in cX3_in 3 (some .boolean), .methodLink RX3 78 yX3_refused, .instanceMethod yX3_refused, .selects RX3 yX3_refused yX3_refused, .code yX3_refused cX3_refused 2 (some .boolean), .fieldLink RX3 53 "FetchHouseModel" "refusal" "I"] ++ wsX30)
def wsX3_move_r1 : List Cond := [Cond.fieldLink RX3 137 "FetchHouseModel" "waiting" "I", Cond.fieldLink RX3 32 "FetchHouseModel" "moveRefs" "[I", Cond.fieldLink RX3 35 "FetchHouseModel" "moveOlds" "[I", Cond.fieldLink RX3 38 "FetchHouseModel" "moveNews" "[I", Cond.methodLink RX3 81 yX3_isRef, Cond.static yX3_isRef, Cond.initialized RX3, Cond.code yX3_isRef cX3_isRef 1 (some .boolean), Cond.methodLink RX3 57 yX3_in, Cond.static yX3_in, Cond.code yX3_in cX3_in 3 (some .boolean), Cond.methodLink RX3 134 yX3_isCommitOrNone, Cond.instanceMethod yX3_isCommitOrNone, Cond.selects RX3 yX3_isCommitOrNone yX3_isCommitOrNone, Cond.code yX3_isCommitOrNone cX3_isCommitOrNone 2 (some .boolean), Cond.methodLink RX3 64 yX3_isCommit, Cond.instanceMethod yX3_isCommit, Cond.selects RX3 yX3_isCommit yX3_isCommit, Cond.code yX3_isCommit cX3_isCommit 2 (some .boolean), Cond.fieldLink RX3 61 "FetchHouseModel" "made" "I", Cond.methodLink RX3 78 yX3_refused, Cond.instanceMethod yX3_refused, Cond.selects RX3 yX3_refused yX3_refused, Cond.code yX3_refused cX3_refused 2 (some .boolean)]
def wsX3_move_r2 : List Cond := [Cond.fieldLink RX3 53 "FetchHouseModel" "refusal" "I"]
def wsX3_move : List Cond := .code yX3_move cX3_move 5 (some .int) :: ((wsX3_move_r1 ++ wsX3_move_r2) ++ wsX30)
def wsX3_barred_r1 : List Cond := [Cond.fieldLink RX3 35 "FetchHouseModel" "moveOlds" "[I", Cond.fieldLink RX3 38 "FetchHouseModel" "moveNews" "[I", Cond.fieldLink RX3 26 "FetchHouseModel" "refs" "[I", Cond.fieldLink RX3 32 "FetchHouseModel" "moveRefs" "[I", Cond.fieldLink RX3 29 "FetchHouseModel" "isProtected" "[Z", Cond.fieldLink RX3 41 "FetchHouseModel" "marks" "[Z", Cond.fieldLink RX3 61 "FetchHouseModel" "made" "I", Cond.methodLink RX3 108 yX3_markFrom, Cond.instanceMethod yX3_markFrom, Cond.selects RX3 yX3_markFrom yX3_markFrom, Cond.initialized RX3, Cond.code yX3_markFrom cX3_markFrom 3 none, Cond.methodLink RX3 94 yX3_clear, Cond.instanceMethod yX3_clear, Cond.selects RX3 yX3_clear yX3_clear, Cond.code yX3_clear cX3_clear 2 none, Cond.methodLink RX3 90 yX3_mark, Cond.instanceMethod yX3_mark, Cond.selects RX3 yX3_mark yX3_mark, Cond.code yX3_mark cX3_mark 3 none, Cond.methodLink RX3 68 yX3_isIn, Cond.instanceMethod yX3_isIn, Cond.selects RX3 yX3_isIn yX3_isIn, Cond.code yX3_isIn cX3_isIn 3 (some .boolean)]
def wsX3_barred_r2 : List Cond := [Cond.fieldLink RX3 19 "FetchHouseModel" "hasCommit" "[Z", Cond.methodLink RX3 64 yX3_isCommit, Cond.instanceMethod yX3_isCommit, Cond.selects RX3 yX3_isCommit yX3_isCommit, Cond.code yX3_isCommit cX3_isCommit 2 (some .boolean), Cond.methodLink RX3 57 yX3_in, Cond.static yX3_in, Cond.code yX3_in cX3_in 3 (some .boolean), Cond.methodLink RX3 97 yX3_markOn, Cond.instanceMethod yX3_markOn, Cond.selects RX3 yX3_markOn yX3_markOn, Cond.code yX3_markOn cX3_markOn 3 none, Cond.fieldLink RX3 7 "FetchHouseModel" "firsts" "[I", Cond.fieldLink RX3 13 "FetchHouseModel" "seconds" "[I", Cond.methodLink RX3 87 yX3_shallow, Cond.instanceMethod yX3_shallow, Cond.selects RX3 yX3_shallow yX3_shallow, Cond.code yX3_shallow cX3_shallow 2 (some .boolean), Cond.methodLink RX3 84 yX3_lacksParent, Cond.instanceMethod yX3_lacksParent, Cond.selects RX3 yX3_lacksParent yX3_lacksParent, Cond.code yX3_lacksParent cX3_lacksParent 3 (some .boolean)]
def wsX3_barred : List Cond := .code yX3_barred cX3_barred 6 (some .int) :: ((wsX3_barred_r1 ++ wsX3_barred_r2) ++ wsX30)
def wsX3_push_r1 : List Cond := [Cond.fieldLink RX3 53 "FetchHouseModel" "refusal" "I", Cond.fieldLink RX3 137 "FetchHouseModel" "waiting" "I", Cond.fieldLink RX3 38 "FetchHouseModel" "moveNews" "[I", Cond.fieldLink RX3 61 "FetchHouseModel" "made" "I", Cond.fieldLink RX3 41 "FetchHouseModel" "marks" "[Z", Cond.fieldLink RX3 19 "FetchHouseModel" "hasCommit" "[Z", Cond.fieldLink RX3 26 "FetchHouseModel" "refs" "[I", Cond.fieldLink RX3 32 "FetchHouseModel" "moveRefs" "[I", Cond.methodLink RX3 140 yX3_barred, Cond.instanceMethod yX3_barred, Cond.selects RX3 yX3_barred yX3_barred, Cond.initialized RX3, Cond.code yX3_barred cX3_barred 6 (some .int), Cond.fieldLink RX3 35 "FetchHouseModel" "moveOlds" "[I", Cond.fieldLink RX3 29 "FetchHouseModel" "isProtected" "[Z", Cond.methodLink RX3 108 yX3_markFrom, Cond.instanceMethod yX3_markFrom, Cond.selects RX3 yX3_markFrom yX3_markFrom, Cond.code yX3_markFrom cX3_markFrom 3 none, Cond.methodLink RX3 94 yX3_clear, Cond.instanceMethod yX3_clear, Cond.selects RX3 yX3_clear yX3_clear, Cond.code yX3_clear cX3_clear 2 none, Cond.methodLink RX3 90 yX3_mark]
def wsX3_push_r2 : List Cond := [Cond.instanceMethod yX3_mark, Cond.selects RX3 yX3_mark yX3_mark, Cond.code yX3_mark cX3_mark 3 none, Cond.methodLink RX3 68 yX3_isIn, Cond.instanceMethod yX3_isIn, Cond.selects RX3 yX3_isIn yX3_isIn, Cond.code yX3_isIn cX3_isIn 3 (some .boolean), Cond.methodLink RX3 64 yX3_isCommit, Cond.instanceMethod yX3_isCommit, Cond.selects RX3 yX3_isCommit yX3_isCommit, Cond.code yX3_isCommit cX3_isCommit 2 (some .boolean), Cond.methodLink RX3 57 yX3_in, Cond.static yX3_in, Cond.code yX3_in cX3_in 3 (some .boolean), Cond.methodLink RX3 97 yX3_markOn, Cond.instanceMethod yX3_markOn, Cond.selects RX3 yX3_markOn yX3_markOn, Cond.code yX3_markOn cX3_markOn 3 none, Cond.fieldLink RX3 7 "FetchHouseModel" "firsts" "[I", Cond.fieldLink RX3 13 "FetchHouseModel" "seconds" "[I", Cond.methodLink RX3 87 yX3_shallow, Cond.instanceMethod yX3_shallow, Cond.selects RX3 yX3_shallow yX3_shallow, Cond.code yX3_shallow cX3_shallow 2 (some .boolean)]
def wsX3_push_r3 : List Cond := [Cond.methodLink RX3 84 yX3_lacksParent, Cond.instanceMethod yX3_lacksParent, Cond.selects RX3 yX3_lacksParent yX3_lacksParent, Cond.code yX3_lacksParent cX3_lacksParent 3 (some .boolean), Cond.methodLink RX3 123 yX3_bring, Cond.instanceMethod yX3_bring, Cond.selects RX3 yX3_bring yX3_bring, Cond.code yX3_bring cX3_bring 6 none, Cond.fieldLink RX3 16 "FetchHouseModel" "slots" "[I", Cond.fieldLink RX3 23 "FetchHouseModel" "hasFile" "[Z"]
def wsX3_push : List Cond := .code yX3_push cX3_push 5 (some .int) :: ((wsX3_push_r1 ++ (wsX3_push_r2 ++ wsX3_push_r3)) ++ wsX30)
def wsX3_collect_r1 : List Cond := [Cond.fieldLink RX3 26 "FetchHouseModel" "refs" "[I", Cond.fieldLink RX3 61 "FetchHouseModel" "made" "I", Cond.fieldLink RX3 41 "FetchHouseModel" "marks" "[Z", Cond.fieldLink RX3 19 "FetchHouseModel" "hasCommit" "[Z", Cond.fieldLink RX3 23 "FetchHouseModel" "hasFile" "[Z", Cond.methodLink RX3 72 yX3_isStore, Cond.static yX3_isStore, Cond.initialized RX3, Cond.code yX3_isStore cX3_isStore 1 (some .boolean), Cond.methodLink RX3 57 yX3_in, Cond.static yX3_in, Cond.code yX3_in cX3_in 3 (some .boolean), Cond.methodLink RX3 78 yX3_refused, Cond.instanceMethod yX3_refused, Cond.selects RX3 yX3_refused yX3_refused, Cond.code yX3_refused cX3_refused 2 (some .boolean), Cond.fieldLink RX3 53 "FetchHouseModel" "refusal" "I", Cond.methodLink RX3 94 yX3_clear, Cond.instanceMethod yX3_clear, Cond.selects RX3 yX3_clear yX3_clear, Cond.code yX3_clear cX3_clear 2 none, Cond.methodLink RX3 90 yX3_mark, Cond.instanceMethod yX3_mark, Cond.selects RX3 yX3_mark yX3_mark]
def wsX3_collect_r2 : List Cond := [Cond.code yX3_mark cX3_mark 3 none, Cond.methodLink RX3 68 yX3_isIn, Cond.instanceMethod yX3_isIn, Cond.selects RX3 yX3_isIn yX3_isIn, Cond.code yX3_isIn cX3_isIn 3 (some .boolean), Cond.methodLink RX3 64 yX3_isCommit, Cond.instanceMethod yX3_isCommit, Cond.selects RX3 yX3_isCommit yX3_isCommit, Cond.code yX3_isCommit cX3_isCommit 2 (some .boolean), Cond.methodLink RX3 97 yX3_markOn, Cond.instanceMethod yX3_markOn, Cond.selects RX3 yX3_markOn yX3_markOn, Cond.code yX3_markOn cX3_markOn 3 none, Cond.fieldLink RX3 7 "FetchHouseModel" "firsts" "[I", Cond.fieldLink RX3 13 "FetchHouseModel" "seconds" "[I", Cond.methodLink RX3 87 yX3_shallow, Cond.instanceMethod yX3_shallow, Cond.selects RX3 yX3_shallow yX3_shallow, Cond.code yX3_shallow cX3_shallow 2 (some .boolean), Cond.methodLink RX3 84 yX3_lacksParent, Cond.instanceMethod yX3_lacksParent, Cond.selects RX3 yX3_lacksParent yX3_lacksParent, Cond.code yX3_lacksParent cX3_lacksParent 3 (some .boolean), Cond.methodLink RX3 131 yX3_isNeeded]
def wsX3_collect_r3 : List Cond := [Cond.instanceMethod yX3_isNeeded, Cond.selects RX3 yX3_isNeeded yX3_isNeeded, Cond.code yX3_isNeeded cX3_isNeeded 5 (some .boolean), Cond.fieldLink RX3 16 "FetchHouseModel" "slots" "[I"]
def wsX3_collect : List Cond := .code yX3_collect cX3_collect 4 (some .int) :: ((wsX3_collect_r1 ++ (wsX3_collect_r2 ++ wsX3_collect_r3)) ++ wsX30)
def wsX3_commits : List Cond := .code yX3_commits cX3_commits 1 (some .int) :: ([.fieldLink RX3 61 "FetchHouseModel" "made" "I", .methodLink RX3 127 yX3_fine, .instanceMethod yX3_fine, .selects RX3 yX3_fine yX3_fine, .initialized RX3, .code yX3_fine cX3_fine 2 (some .int), .fieldLink RX3 53 "FetchHouseModel" "refusal" "I"] ++ wsX30)
def wsX3_has : List Cond := .code yX3_has cX3_has 3 (some .boolean) :: ([.methodLink RX3 72 yX3_isStore, .static yX3_isStore, .initialized RX3, .code yX3_isStore cX3_isStore 1 (some .boolean), .methodLink RX3 57 yX3_in, .static yX3_in, .code yX3_in cX3_in 3 (some .boolean), .methodLink RX3 64 yX3_isCommit, .instanceMethod yX3_isCommit, .selects RX3 yX3_isCommit yX3_isCommit, .code yX3_isCommit cX3_isCommit 2 (some .boolean), .fieldLink RX3 61 "FetchHouseModel" "made" "I", .methodLink RX3 78 yX3_refused, .instanceMethod yX3_refused, .selects RX3 yX3_refused yX3_refused, .code yX3_refused cX3_refused 2 (some .boolean), .fieldLink RX3 53 "FetchHouseModel" "refusal" "I", .methodLink RX3 68 yX3_isIn, .instanceMethod yX3_isIn, .selects RX3 yX3_isIn yX3_isIn, .code yX3_isIn cX3_isIn 3 (some .boolean), .fieldLink RX3 19 "FetchHouseModel" "hasCommit" "[Z"] ++ wsX30)
def wsX3_hasFile : List Cond := .code yX3_hasFile cX3_hasFile 3 (some .boolean) :: ([.fieldLink RX3 23 "FetchHouseModel" "hasFile" "[Z", .methodLink RX3 72 yX3_isStore, .static yX3_isStore, .initialized RX3, .code yX3_isStore cX3_isStore 1 (some .boolean), .methodLink RX3 57 yX3_in, .static yX3_in, .code yX3_in cX3_in 3 (some .boolean), .methodLink RX3 78 yX3_refused, .instanceMethod yX3_refused, .selects RX3 yX3_refused yX3_refused, .code yX3_refused cX3_refused 2 (some .boolean), .fieldLink RX3 53 "FetchHouseModel" "refusal" "I"] ++ wsX30)
def wsX3_isShallow_r1 : List Cond := [Cond.methodLink RX3 64 yX3_isCommit, Cond.instanceMethod yX3_isCommit, Cond.selects RX3 yX3_isCommit yX3_isCommit, Cond.initialized RX3, Cond.code yX3_isCommit cX3_isCommit 2 (some .boolean), Cond.fieldLink RX3 61 "FetchHouseModel" "made" "I", Cond.methodLink RX3 57 yX3_in, Cond.static yX3_in, Cond.code yX3_in cX3_in 3 (some .boolean), Cond.methodLink RX3 78 yX3_refused, Cond.instanceMethod yX3_refused, Cond.selects RX3 yX3_refused yX3_refused, Cond.code yX3_refused cX3_refused 2 (some .boolean), Cond.fieldLink RX3 53 "FetchHouseModel" "refusal" "I", Cond.methodLink RX3 87 yX3_shallow, Cond.instanceMethod yX3_shallow, Cond.selects RX3 yX3_shallow yX3_shallow, Cond.code yX3_shallow cX3_shallow 2 (some .boolean), Cond.methodLink RX3 68 yX3_isIn, Cond.instanceMethod yX3_isIn, Cond.selects RX3 yX3_isIn yX3_isIn, Cond.code yX3_isIn cX3_isIn 3 (some .boolean), Cond.fieldLink RX3 19 "FetchHouseModel" "hasCommit" "[Z", Cond.methodLink RX3 84 yX3_lacksParent]
def wsX3_isShallow_r2 : List Cond := [Cond.instanceMethod yX3_lacksParent, Cond.selects RX3 yX3_lacksParent yX3_lacksParent, Cond.code yX3_lacksParent cX3_lacksParent 3 (some .boolean), Cond.fieldLink RX3 7 "FetchHouseModel" "firsts" "[I", Cond.fieldLink RX3 13 "FetchHouseModel" "seconds" "[I"]
def wsX3_isShallow : List Cond := .code yX3_isShallow cX3_isShallow 2 (some .boolean) :: ((wsX3_isShallow_r1 ++ wsX3_isShallow_r2) ++ wsX30)
def wsX3_isAncestor_r1 : List Cond := [Cond.fieldLink RX3 41 "FetchHouseModel" "marks" "[Z", Cond.methodLink RX3 72 yX3_isStore, Cond.static yX3_isStore, Cond.initialized RX3, Cond.code yX3_isStore cX3_isStore 1 (some .boolean), Cond.methodLink RX3 57 yX3_in, Cond.static yX3_in, Cond.code yX3_in cX3_in 3 (some .boolean), Cond.methodLink RX3 64 yX3_isCommit, Cond.instanceMethod yX3_isCommit, Cond.selects RX3 yX3_isCommit yX3_isCommit, Cond.code yX3_isCommit cX3_isCommit 2 (some .boolean), Cond.fieldLink RX3 61 "FetchHouseModel" "made" "I", Cond.methodLink RX3 78 yX3_refused, Cond.instanceMethod yX3_refused, Cond.selects RX3 yX3_refused yX3_refused, Cond.code yX3_refused cX3_refused 2 (some .boolean), Cond.fieldLink RX3 53 "FetchHouseModel" "refusal" "I", Cond.methodLink RX3 108 yX3_markFrom, Cond.instanceMethod yX3_markFrom, Cond.selects RX3 yX3_markFrom yX3_markFrom, Cond.code yX3_markFrom cX3_markFrom 3 none, Cond.methodLink RX3 94 yX3_clear, Cond.instanceMethod yX3_clear]
def wsX3_isAncestor_r2 : List Cond := [Cond.selects RX3 yX3_clear yX3_clear, Cond.code yX3_clear cX3_clear 2 none, Cond.methodLink RX3 90 yX3_mark, Cond.instanceMethod yX3_mark, Cond.selects RX3 yX3_mark yX3_mark, Cond.code yX3_mark cX3_mark 3 none, Cond.methodLink RX3 68 yX3_isIn, Cond.instanceMethod yX3_isIn, Cond.selects RX3 yX3_isIn yX3_isIn, Cond.code yX3_isIn cX3_isIn 3 (some .boolean), Cond.fieldLink RX3 19 "FetchHouseModel" "hasCommit" "[Z", Cond.methodLink RX3 97 yX3_markOn, Cond.instanceMethod yX3_markOn, Cond.selects RX3 yX3_markOn yX3_markOn, Cond.code yX3_markOn cX3_markOn 3 none, Cond.fieldLink RX3 7 "FetchHouseModel" "firsts" "[I", Cond.fieldLink RX3 13 "FetchHouseModel" "seconds" "[I", Cond.methodLink RX3 87 yX3_shallow, Cond.instanceMethod yX3_shallow, Cond.selects RX3 yX3_shallow yX3_shallow, Cond.code yX3_shallow cX3_shallow 2 (some .boolean), Cond.methodLink RX3 84 yX3_lacksParent, Cond.instanceMethod yX3_lacksParent, Cond.selects RX3 yX3_lacksParent yX3_lacksParent]
def wsX3_isAncestor_r3 : List Cond := [Cond.code yX3_lacksParent cX3_lacksParent 3 (some .boolean)]
def wsX3_isAncestor : List Cond := .code yX3_isAncestor cX3_isAncestor 5 (some .boolean) :: ((wsX3_isAncestor_r1 ++ (wsX3_isAncestor_r2 ++ wsX3_isAncestor_r3)) ++ wsX30)
def wsL_make_r1 : List Cond := [Cond.classLink RL 13 "java/lang/IndexOutOfBoundsException", Cond.classLink RL 15 "java/lang/IllegalArgumentException", Cond.classLink RL 17 "java/lang/IllegalStateException", Cond.methodLink RL 7 yX2_make, Cond.instanceMethod yX2_make, Cond.selects RX2 yX2_make yX2_make, Cond.initialized RX2, Cond.code yX2_make cX2_make 8 (some .int), Cond.classLink RX2 55 "java/lang/IllegalArgumentException", Cond.initialized "java/lang/IllegalArgumentException", Cond.classLink RX2 66 "java/lang/IllegalStateException", Cond.initialized "java/lang/IllegalStateException", Cond.fieldLink RX2 10 "FetchHouse" "history" "LFetchHouse$History;", Cond.methodLink RX2 40 yX2_storeOf, Cond.instanceMethod yX2_storeOf, Cond.selects RX2 yX2_storeOf yX2_storeOf, Cond.code yX2_storeOf cX2_storeOf 2 (some (.object "FetchHouse$Store")), Cond.classLink RX2 201 "java/lang/IndexOutOfBoundsException", Cond.initialized "java/lang/IndexOutOfBoundsException", Cond.fieldLink RX2 19 "FetchHouse" "server" "LFetchHouse$Store;", Cond.fieldLink RX2 23 "FetchHouse" "client" "LFetchHouse$Store;", Cond.methodLink RX2 44 yX2_checkSlot, Cond.static yX2_checkSlot, Cond.code yX2_checkSlot cX2_checkSlot 1 none]
def wsL_make_r2 : List Cond := [Cond.methodLink RX2 213 yX2_isSlot, Cond.static yX2_isSlot, Cond.code yX2_isSlot cX2_isSlot 1 (some .boolean), Cond.methodLink RX2 48 yX2_checkHeldOrNone, Cond.static yX2_checkHeldOrNone, Cond.code yX2_checkHeldOrNone cX2_checkHeldOrNone 2 none, Cond.methodLink RX2 174 yX2_contains, Cond.static yX2_contains, Cond.code yX2_contains cX2_contains 3 (some .boolean), Cond.methodLink RX2 79 yX2_setOf, Cond.static yX2_setOf, Cond.code yX2_setOf cX2_setOf 1 (some .long), Cond.methodLink RX2 52 yX2_checkFile, Cond.static yX2_checkFile, Cond.code yX2_checkFile cX2_checkFile 1 none, Cond.methodLink RX2 223 yX2_isFile, Cond.static yX2_isFile, Cond.code yX2_isFile cX2_isFile 1 (some .boolean), Cond.methodLink RX2 62 yX0_isFull, Cond.instanceMethod yX0_isFull, Cond.selects RX0 yX0_isFull yX0_isFull, Cond.initialized RX0, Cond.code yX0_isFull cX0_isFull 1 (some .boolean), Cond.fieldLink RX0 28 "FetchHouse$History" "made" "I"]
def wsL_make_r3 : List Cond := [Cond.methodLink RX2 71 yX0_append, Cond.instanceMethod yX0_append, Cond.selects RX0 yX0_append yX0_append, Cond.code yX0_append cX0_append 7 (some .int), Cond.fieldLink RX0 9 "FetchHouse$History" "firstParents" "[I", Cond.fieldLink RX0 15 "FetchHouse$History" "secondParents" "[I", Cond.fieldLink RX0 18 "FetchHouse$History" "slotFiles" "[I", Cond.methodLink RX0 32 yX0_isFull, Cond.methodLink RX0 36 yX0_fileIn, Cond.instanceMethod yX0_fileIn, Cond.selects RX0 yX0_fileIn yX0_fileIn, Cond.code yX0_fileIn cX0_fileIn 3 (some .int), Cond.methodLink RX0 40 yX0_isCommit, Cond.instanceMethod yX0_isCommit, Cond.selects RX0 yX0_isCommit yX0_isCommit, Cond.code yX0_isCommit cX0_isCommit 2 (some .boolean), Cond.methodLink RX2 83 yX1_addFile, Cond.instanceMethod yX1_addFile, Cond.selects RX1 yX1_addFile yX1_addFile, Cond.initialized RX1, Cond.code yX1_addFile cX1_addFile 2 none, Cond.fieldLink RX1 9 "FetchHouse$Store" "heldFiles" "[Z"]
def wsL_make : List Cond := .codeWith yL_make cL_make 8 (some .int) [(0, 16, 19, 13), (0, 16, 23, 15), (0, 16, 27, 17)] :: ((wsL_make_r1 ++ (wsL_make_r2 ++ wsL_make_r3)) ++ wsX20 ++ wsX10 ++ wsX00 ++ (vx_atS RX2 59 "java/lang/IllegalArgumentException" ["java/lang/RuntimeException", "java/lang/Exception"]).filter goodWord ++ (vx_atS RX2 70 "java/lang/IllegalStateException" ["java/lang/RuntimeException", "java/lang/Exception"]).filter goodWord ++ (vx_atS RX2 205 "java/lang/IndexOutOfBoundsException" ["java/lang/RuntimeException", "java/lang/Exception"]).filter goodWord)
def wsL_setRef_r1 : List Cond := [Cond.classLink RL 13 "java/lang/IndexOutOfBoundsException", Cond.methodLink RL 19 yX2_setRef, Cond.instanceMethod yX2_setRef, Cond.selects RX2 yX2_setRef yX2_setRef, Cond.initialized RX2, Cond.code yX2_setRef cX2_setRef 6 (some .int), Cond.methodLink RX2 40 yX2_storeOf, Cond.instanceMethod yX2_storeOf, Cond.selects RX2 yX2_storeOf yX2_storeOf, Cond.code yX2_storeOf cX2_storeOf 2 (some (.object "FetchHouse$Store")), Cond.classLink RX2 201 "java/lang/IndexOutOfBoundsException", Cond.initialized "java/lang/IndexOutOfBoundsException", Cond.fieldLink RX2 19 "FetchHouse" "server" "LFetchHouse$Store;", Cond.fieldLink RX2 23 "FetchHouse" "client" "LFetchHouse$Store;", Cond.methodLink RX2 86 yX2_checkRef, Cond.static yX2_checkRef, Cond.code yX2_checkRef cX2_checkRef 1 none, Cond.methodLink RX2 218 yX2_isRef, Cond.static yX2_isRef, Cond.code yX2_isRef cX2_isRef 1 (some .boolean), Cond.methodLink RX2 48 yX2_checkHeldOrNone, Cond.static yX2_checkHeldOrNone, Cond.code yX2_checkHeldOrNone cX2_checkHeldOrNone 2 none, Cond.methodLink RX2 174 yX2_contains]
def wsL_setRef_r2 : List Cond := [Cond.static yX2_contains, Cond.code yX2_contains cX2_contains 3 (some .boolean), Cond.methodLink RX2 79 yX2_setOf, Cond.static yX2_setOf, Cond.code yX2_setOf cX2_setOf 1 (some .long), Cond.methodLink RX2 89 yX1_commitOfRef, Cond.instanceMethod yX1_commitOfRef, Cond.selects RX1 yX1_commitOfRef yX1_commitOfRef, Cond.initialized RX1, Cond.code yX1_commitOfRef cX1_commitOfRef 2 (some .int), Cond.fieldLink RX1 15 "FetchHouse$Store" "refCommits" "[I", Cond.methodLink RX2 93 yX1_pointRef, Cond.instanceMethod yX1_pointRef, Cond.selects RX1 yX1_pointRef yX1_pointRef, Cond.code yX1_pointRef cX1_pointRef 3 none]
def wsL_setRef : List Cond := .codeWith yL_setRef cL_setRef 6 (some .int) [(0, 12, 15, 13)] :: ((wsL_setRef_r1 ++ wsL_setRef_r2) ++ wsX20 ++ wsX10 ++ (vx_atS RX2 205 "java/lang/IndexOutOfBoundsException" ["java/lang/RuntimeException", "java/lang/Exception"]).filter goodWord)
def wsL_ref_r1 : List Cond := [Cond.classLink RL 13 "java/lang/IndexOutOfBoundsException", Cond.methodLink RL 23 yX2_ref, Cond.instanceMethod yX2_ref, Cond.selects RX2 yX2_ref yX2_ref, Cond.initialized RX2, Cond.code yX2_ref cX2_ref 4 (some .int), Cond.methodLink RX2 40 yX2_storeOf, Cond.instanceMethod yX2_storeOf, Cond.selects RX2 yX2_storeOf yX2_storeOf, Cond.code yX2_storeOf cX2_storeOf 2 (some (.object "FetchHouse$Store")), Cond.classLink RX2 201 "java/lang/IndexOutOfBoundsException", Cond.initialized "java/lang/IndexOutOfBoundsException", Cond.fieldLink RX2 19 "FetchHouse" "server" "LFetchHouse$Store;", Cond.fieldLink RX2 23 "FetchHouse" "client" "LFetchHouse$Store;", Cond.methodLink RX2 86 yX2_checkRef, Cond.static yX2_checkRef, Cond.code yX2_checkRef cX2_checkRef 1 none, Cond.methodLink RX2 218 yX2_isRef, Cond.static yX2_isRef, Cond.code yX2_isRef cX2_isRef 1 (some .boolean), Cond.methodLink RX2 89 yX1_commitOfRef, Cond.instanceMethod yX1_commitOfRef, Cond.selects RX1 yX1_commitOfRef yX1_commitOfRef, Cond.initialized RX1]
def wsL_ref_r2 : List Cond := [Cond.code yX1_commitOfRef cX1_commitOfRef 2 (some .int), Cond.fieldLink RX1 15 "FetchHouse$Store" "refCommits" "[I"]
def wsL_ref : List Cond := .codeWith yL_ref cL_ref 5 (some .int) [(0, 10, 13, 13)] :: ((wsL_ref_r1 ++ wsL_ref_r2) ++ wsX20 ++ wsX10 ++ (vx_atS RX2 205 "java/lang/IndexOutOfBoundsException" ["java/lang/RuntimeException", "java/lang/Exception"]).filter goodWord)
def wsL_fileAt_r1 : List Cond := [Cond.classLink RL 13 "java/lang/IndexOutOfBoundsException", Cond.methodLink RL 27 yX2_fileAt, Cond.instanceMethod yX2_fileAt, Cond.selects RX2 yX2_fileAt yX2_fileAt, Cond.initialized RX2, Cond.code yX2_fileAt cX2_fileAt 3 (some .int), Cond.fieldLink RX2 10 "FetchHouse" "history" "LFetchHouse$History;", Cond.methodLink RX2 97 yX2_checkCommit, Cond.instanceMethod yX2_checkCommit, Cond.selects RX2 yX2_checkCommit yX2_checkCommit, Cond.code yX2_checkCommit cX2_checkCommit 2 none, Cond.classLink RX2 201 "java/lang/IndexOutOfBoundsException", Cond.initialized "java/lang/IndexOutOfBoundsException", Cond.methodLink RX2 206 yX0_isCommit, Cond.instanceMethod yX0_isCommit, Cond.selects RX0 yX0_isCommit yX0_isCommit, Cond.initialized RX0, Cond.code yX0_isCommit cX0_isCommit 2 (some .boolean), Cond.fieldLink RX0 28 "FetchHouse$History" "made" "I", Cond.methodLink RX2 44 yX2_checkSlot, Cond.static yX2_checkSlot, Cond.code yX2_checkSlot cX2_checkSlot 1 none, Cond.methodLink RX2 213 yX2_isSlot, Cond.static yX2_isSlot]
def wsL_fileAt_r2 : List Cond := [Cond.code yX2_isSlot cX2_isSlot 1 (some .boolean), Cond.methodLink RX2 100 yX0_fileIn, Cond.instanceMethod yX0_fileIn, Cond.selects RX0 yX0_fileIn yX0_fileIn, Cond.code yX0_fileIn cX0_fileIn 3 (some .int), Cond.fieldLink RX0 18 "FetchHouse$History" "slotFiles" "[I", Cond.methodLink RX0 40 yX0_isCommit]
def wsL_fileAt : List Cond := .codeWith yL_fileAt cL_fileAt 5 (some .int) [(0, 10, 13, 13)] :: ((wsL_fileAt_r1 ++ wsL_fileAt_r2) ++ wsX20 ++ wsX00 ++ (vx_atS RX2 205 "java/lang/IndexOutOfBoundsException" ["java/lang/RuntimeException", "java/lang/Exception"]).filter goodWord)
def wsL_fetch_r1 : List Cond := [Cond.classLink RL 13 "java/lang/IndexOutOfBoundsException", Cond.classLink RL 15 "java/lang/IllegalArgumentException", Cond.classLink RL 17 "java/lang/IllegalStateException", Cond.methodLink RL 30 yX2_fetch, Cond.instanceMethod yX2_fetch, Cond.selects RX2 yX2_fetch yX2_fetch, Cond.initialized RX2, Cond.code yX2_fetch cX2_fetch 9 (some .int), Cond.fieldLink RX2 10 "FetchHouse" "history" "LFetchHouse$History;", Cond.constantLong RX2 115 (-1), Cond.fieldLink RX2 23 "FetchHouse" "client" "LFetchHouse$Store;", Cond.fieldLink RX2 19 "FetchHouse" "server" "LFetchHouse$Store;", Cond.methodLink RX2 104 yX2_commitToFetch, Cond.instanceMethod yX2_commitToFetch, Cond.selects RX2 yX2_commitToFetch yX2_commitToFetch, Cond.code yX2_commitToFetch cX2_commitToFetch 4 (some .int), Cond.classLink RX2 55 "java/lang/IllegalArgumentException", Cond.initialized "java/lang/IllegalArgumentException", Cond.classLink RX2 66 "java/lang/IllegalStateException", Cond.initialized "java/lang/IllegalStateException", Cond.methodLink RX2 86 yX2_checkRef, Cond.static yX2_checkRef, Cond.code yX2_checkRef cX2_checkRef 1 none, Cond.classLink RX2 201 "java/lang/IndexOutOfBoundsException"]
def wsL_fetch_r2 : List Cond := [Cond.initialized "java/lang/IndexOutOfBoundsException", Cond.methodLink RX2 218 yX2_isRef, Cond.static yX2_isRef, Cond.code yX2_isRef cX2_isRef 1 (some .boolean), Cond.methodLink RX2 89 yX1_commitOfRef, Cond.instanceMethod yX1_commitOfRef, Cond.selects RX1 yX1_commitOfRef yX1_commitOfRef, Cond.initialized RX1, Cond.code yX1_commitOfRef cX1_commitOfRef 2 (some .int), Cond.fieldLink RX1 15 "FetchHouse$Store" "refCommits" "[I", Cond.methodLink RX2 107 yX2_talk, Cond.instanceMethod yX2_talk, Cond.selects RX2 yX2_talk yX2_talk, Cond.code yX2_talk cX2_talk 8 (some .long), Cond.fieldLink RX2 131 "FetchHouse" "latestRounds" "I", Cond.methodLink RX2 186 yX2_highestOf, Cond.static yX2_highestOf, Cond.code yX2_highestOf cX2_highestOf 7 (some .long), Cond.methodLink RX2 174 yX2_contains, Cond.static yX2_contains, Cond.code yX2_contains cX2_contains 3 (some .boolean), Cond.methodLink RX2 79 yX2_setOf, Cond.static yX2_setOf, Cond.code yX2_setOf cX2_setOf 1 (some .long)]
def wsL_fetch_r3 : List Cond := [Cond.methodLink RX2 163 yX0_ancestorsOf, Cond.instanceMethod yX0_ancestorsOf, Cond.selects RX0 yX0_ancestorsOf yX0_ancestorsOf, Cond.initialized RX0, Cond.code yX0_ancestorsOf cX0_ancestorsOf 10 (some .long), Cond.fieldLink RX0 28 "FetchHouse$History" "made" "I", Cond.constantLong RX0 65 (-1), Cond.methodLink RX0 67 yX0_shallowOf, Cond.instanceMethod yX0_shallowOf, Cond.selects RX0 yX0_shallowOf yX0_shallowOf, Cond.code yX0_shallowOf cX0_shallowOf 6 (some .long), Cond.methodLink RX0 62 yX0_parentsOf, Cond.instanceMethod yX0_parentsOf, Cond.selects RX0 yX0_parentsOf yX0_parentsOf, Cond.code yX0_parentsOf cX0_parentsOf 2 (some .long), Cond.fieldLink RX0 9 "FetchHouse$History" "firstParents" "[I", Cond.fieldLink RX0 15 "FetchHouse$History" "secondParents" "[I", Cond.methodLink RX0 40 yX0_isCommit, Cond.instanceMethod yX0_isCommit, Cond.selects RX0 yX0_isCommit yX0_isCommit, Cond.code yX0_isCommit cX0_isCommit 2 (some .boolean), Cond.methodLink RX2 111 yX0_reachOf, Cond.instanceMethod yX0_reachOf, Cond.selects RX0 yX0_reachOf yX0_reachOf]
def wsL_fetch_r4 : List Cond := [Cond.code yX0_reachOf cX0_reachOf 8 (some .long), Cond.fieldLink RX0 21 "FetchHouse$History" "fewestSteps" "[I", Cond.methodLink RX0 71 yJ7_fill_53178, Cond.static yJ7_fill_53178, Cond.initialized RJ7, Cond.code yJ7_fill_53178 cJ7_fill_53178 4 none, Cond.methodLink RX0 77 yX0_comeTo, Cond.instanceMethod yX0_comeTo, Cond.selects RX0 yX0_comeTo yX0_comeTo, Cond.code yX0_comeTo cX0_comeTo 3 none, Cond.methodLink RX2 117 yX0_filesOf, Cond.instanceMethod yX0_filesOf, Cond.selects RX0 yX0_filesOf yX0_filesOf, Cond.code yX0_filesOf cX0_filesOf 4 (some (.array .boolean)), Cond.fieldLink RX0 24 "FetchHouse$History" "foundFiles" "[Z", Cond.methodLink RX0 51 yX0_findFilesOf, Cond.instanceMethod yX0_findFilesOf, Cond.selects RX0 yX0_findFilesOf yX0_findFilesOf, Cond.code yX0_findFilesOf cX0_findFilesOf 4 none, Cond.methodLink RX0 36 yX0_fileIn, Cond.instanceMethod yX0_fileIn, Cond.selects RX0 yX0_fileIn yX0_fileIn, Cond.code yX0_fileIn cX0_fileIn 3 (some .int), Cond.fieldLink RX0 18 "FetchHouse$History" "slotFiles" "[I"]
def wsL_fetch_r5 : List Cond := [Cond.static yX2_isSlot, Cond.code yX2_isSlot cX2_isSlot 1 (some .boolean), Cond.static yX2_isFile, Cond.code yX2_isFile cX2_isFile 1 (some .boolean), Cond.methodLink RX2 121 yX1_addFiles, Cond.instanceMethod yX1_addFiles, Cond.selects RX1 yX1_addFiles yX1_addFiles, Cond.code yX1_addFiles cX1_addFiles 4 none, Cond.fieldLink RX1 9 "FetchHouse$Store" "heldFiles" "[Z", Cond.methodLink RX1 36 yX1_holdsFile, Cond.instanceMethod yX1_holdsFile, Cond.selects RX1 yX1_holdsFile yX1_holdsFile, Cond.code yX1_holdsFile cX1_holdsFile 2 (some .boolean), Cond.methodLink RX2 93 yX1_pointRef, Cond.instanceMethod yX1_pointRef, Cond.selects RX1 yX1_pointRef yX1_pointRef, Cond.code yX1_pointRef cX1_pointRef 3 none, Cond.methodLink RX2 125 yJ13_bitCount_95d88, Cond.static yJ13_bitCount_95d88, Cond.initialized RJ13, Cond.code yJ13_bitCount_95d88 cJ13_bitCount_95d88 2 (some .int), Cond.constantLong RJ13 314 (6148914691236517205), Cond.constantLong RJ13 316 (3689348814741910323), Cond.constantLong RJ13 318 (1085102592571150095)]
def wsL_fetch : List Cond := .codeWith yL_fetch cL_fetch 6 (some .int) [(0, 12, 15, 13), (0, 12, 19, 15), (0, 12, 23, 17)] :: ((wsL_fetch_r1 ++ (wsL_fetch_r2 ++ (wsL_fetch_r3 ++ (wsL_fetch_r4 ++ wsL_fetch_r5)))) ++ wsX20 ++ wsX10 ++ wsX00 ++ (vx_atS RX2 59 "java/lang/IllegalArgumentException" ["java/lang/RuntimeException", "java/lang/Exception"]).filter goodWord ++ (vx_atS RX2 70 "java/lang/IllegalStateException" ["java/lang/RuntimeException", "java/lang/Exception"]).filter goodWord ++ (vx_atS RX2 205 "java/lang/IndexOutOfBoundsException" ["java/lang/RuntimeException", "java/lang/Exception"]).filter goodWord)
def wsL_wouldFetch_r1 : List Cond := [Cond.classLink RL 13 "java/lang/IndexOutOfBoundsException", Cond.classLink RL 15 "java/lang/IllegalArgumentException", Cond.classLink RL 17 "java/lang/IllegalStateException", Cond.methodLink RL 34 yX2_wouldFetch, Cond.instanceMethod yX2_wouldFetch, Cond.selects RX2 yX2_wouldFetch yX2_wouldFetch, Cond.initialized RX2, Cond.code yX2_wouldFetch cX2_wouldFetch 4 (some .int), Cond.fieldLink RX2 10 "FetchHouse" "history" "LFetchHouse$History;", Cond.fieldLink RX2 23 "FetchHouse" "client" "LFetchHouse$Store;", Cond.constantLong RX2 115 (-1), Cond.methodLink RX2 104 yX2_commitToFetch, Cond.instanceMethod yX2_commitToFetch, Cond.selects RX2 yX2_commitToFetch yX2_commitToFetch, Cond.code yX2_commitToFetch cX2_commitToFetch 4 (some .int), Cond.classLink RX2 55 "java/lang/IllegalArgumentException", Cond.initialized "java/lang/IllegalArgumentException", Cond.classLink RX2 66 "java/lang/IllegalStateException", Cond.initialized "java/lang/IllegalStateException", Cond.fieldLink RX2 19 "FetchHouse" "server" "LFetchHouse$Store;", Cond.methodLink RX2 86 yX2_checkRef, Cond.static yX2_checkRef, Cond.code yX2_checkRef cX2_checkRef 1 none, Cond.classLink RX2 201 "java/lang/IndexOutOfBoundsException"]
def wsL_wouldFetch_r2 : List Cond := [Cond.initialized "java/lang/IndexOutOfBoundsException", Cond.methodLink RX2 218 yX2_isRef, Cond.static yX2_isRef, Cond.code yX2_isRef cX2_isRef 1 (some .boolean), Cond.methodLink RX2 89 yX1_commitOfRef, Cond.instanceMethod yX1_commitOfRef, Cond.selects RX1 yX1_commitOfRef yX1_commitOfRef, Cond.initialized RX1, Cond.code yX1_commitOfRef cX1_commitOfRef 2 (some .int), Cond.fieldLink RX1 15 "FetchHouse$Store" "refCommits" "[I", Cond.methodLink RX2 111 yX0_reachOf, Cond.instanceMethod yX0_reachOf, Cond.selects RX0 yX0_reachOf yX0_reachOf, Cond.initialized RX0, Cond.code yX0_reachOf cX0_reachOf 8 (some .long), Cond.fieldLink RX0 21 "FetchHouse$History" "fewestSteps" "[I", Cond.fieldLink RX0 9 "FetchHouse$History" "firstParents" "[I", Cond.fieldLink RX0 15 "FetchHouse$History" "secondParents" "[I", Cond.methodLink RX0 40 yX0_isCommit, Cond.instanceMethod yX0_isCommit, Cond.selects RX0 yX0_isCommit yX0_isCommit, Cond.code yX0_isCommit cX0_isCommit 2 (some .boolean), Cond.fieldLink RX0 28 "FetchHouse$History" "made" "I", Cond.methodLink RX0 71 yJ7_fill_53178]
def wsL_wouldFetch_r3 : List Cond := [Cond.static yJ7_fill_53178, Cond.initialized RJ7, Cond.code yJ7_fill_53178 cJ7_fill_53178 4 none, Cond.static yX2_setOf, Cond.code yX2_setOf cX2_setOf 1 (some .long), Cond.methodLink RX0 77 yX0_comeTo, Cond.instanceMethod yX0_comeTo, Cond.selects RX0 yX0_comeTo yX0_comeTo, Cond.code yX0_comeTo cX0_comeTo 3 none, Cond.methodLink RX2 125 yJ13_bitCount_95d88, Cond.static yJ13_bitCount_95d88, Cond.initialized RJ13, Cond.code yJ13_bitCount_95d88 cJ13_bitCount_95d88 2 (some .int), Cond.constantLong RJ13 314 (6148914691236517205), Cond.constantLong RJ13 316 (3689348814741910323), Cond.constantLong RJ13 318 (1085102592571150095)]
def wsL_wouldFetch : List Cond := .codeWith yL_wouldFetch cL_wouldFetch 5 (some .int) [(0, 10, 13, 13), (0, 10, 17, 15), (0, 10, 21, 17)] :: ((wsL_wouldFetch_r1 ++ (wsL_wouldFetch_r2 ++ wsL_wouldFetch_r3)) ++ wsX20 ++ wsX10 ++ wsX00 ++ (vx_atS RX2 59 "java/lang/IllegalArgumentException" ["java/lang/RuntimeException", "java/lang/Exception"]).filter goodWord ++ (vx_atS RX2 70 "java/lang/IllegalStateException" ["java/lang/RuntimeException", "java/lang/Exception"]).filter goodWord ++ (vx_atS RX2 205 "java/lang/IndexOutOfBoundsException" ["java/lang/RuntimeException", "java/lang/Exception"]).filter goodWord)
def wsL_load_r1 : List Cond := [Cond.classLink RL 15 "java/lang/IllegalArgumentException", Cond.classLink RL 17 "java/lang/IllegalStateException", Cond.methodLink RL 37 yX2_load, Cond.instanceMethod yX2_load, Cond.selects RX2 yX2_load yX2_load, Cond.initialized RX2, Cond.code yX2_load cX2_load 3 (some .boolean), Cond.classLink RX2 66 "java/lang/IllegalStateException", Cond.initialized "java/lang/IllegalStateException", Cond.fieldLink RX2 19 "FetchHouse" "server" "LFetchHouse$Store;", Cond.fieldLink RX2 23 "FetchHouse" "client" "LFetchHouse$Store;", Cond.methodLink RX2 52 yX2_checkFile, Cond.static yX2_checkFile, Cond.code yX2_checkFile cX2_checkFile 1 none, Cond.classLink RX2 55 "java/lang/IllegalArgumentException", Cond.initialized "java/lang/IllegalArgumentException", Cond.methodLink RX2 223 yX2_isFile, Cond.static yX2_isFile, Cond.code yX2_isFile cX2_isFile 1 (some .boolean), Cond.methodLink RX2 135 yX1_holdsFile, Cond.instanceMethod yX1_holdsFile, Cond.selects RX1 yX1_holdsFile yX1_holdsFile, Cond.initialized RX1, Cond.code yX1_holdsFile cX1_holdsFile 2 (some .boolean)]
def wsL_load_r2 : List Cond := [Cond.fieldLink RX1 9 "FetchHouse$Store" "heldFiles" "[Z", Cond.methodLink RX2 83 yX1_addFile, Cond.instanceMethod yX1_addFile, Cond.selects RX1 yX1_addFile yX1_addFile, Cond.code yX1_addFile cX1_addFile 2 none]
def wsL_load : List Cond := .codeWith yL_load cL_load 4 (some .int) [(0, 16, 19, 15), (0, 16, 22, 17)] :: ((wsL_load_r1 ++ wsL_load_r2) ++ wsX20 ++ wsX10 ++ (vx_atS RX2 70 "java/lang/IllegalStateException" ["java/lang/RuntimeException", "java/lang/Exception"]).filter goodWord ++ (vx_atS RX2 59 "java/lang/IllegalArgumentException" ["java/lang/RuntimeException", "java/lang/Exception"]).filter goodWord)
def wsL_protect : List Cond := .codeWith yL_protect cL_protect 5 (some .int) [(0, 17, 20, 13)] :: ([.classLink RL 13 "java/lang/IndexOutOfBoundsException", .methodLink RL 41 yX2_protect, .instanceMethod yX2_protect, .selects RX2 yX2_protect yX2_protect, .initialized RX2, .code yX2_protect cX2_protect 4 (some .boolean), .fieldLink RX2 26 "FetchHouse" "protectedRefs" "[Z", .methodLink RX2 86 yX2_checkRef, .static yX2_checkRef, .code yX2_checkRef cX2_checkRef 1 none, .classLink RX2 201 "java/lang/IndexOutOfBoundsException", .initialized "java/lang/IndexOutOfBoundsException", .methodLink RX2 218 yX2_isRef, .static yX2_isRef, .code yX2_isRef cX2_isRef 1 (some .boolean)] ++ wsX20 ++ (vx_atS RX2 205 "java/lang/IndexOutOfBoundsException" ["java/lang/RuntimeException", "java/lang/Exception"]).filter goodWord)
def wsL_move_r1 : List Cond := [Cond.classLink RL 13 "java/lang/IndexOutOfBoundsException", Cond.classLink RL 17 "java/lang/IllegalStateException", Cond.methodLink RL 45 yX2_move, Cond.instanceMethod yX2_move, Cond.selects RX2 yX2_move yX2_move, Cond.initialized RX2, Cond.code yX2_move cX2_move 4 (some .int), Cond.classLink RX2 66 "java/lang/IllegalStateException", Cond.initialized "java/lang/IllegalStateException", Cond.fieldLink RX2 148 "FetchHouse" "waitingMoves" "I", Cond.fieldLink RX2 30 "FetchHouse" "movedRefs" "[I", Cond.fieldLink RX2 34 "FetchHouse" "oldCommits" "[I", Cond.fieldLink RX2 37 "FetchHouse" "newCommits" "[I", Cond.methodLink RX2 86 yX2_checkRef, Cond.static yX2_checkRef, Cond.code yX2_checkRef cX2_checkRef 1 none, Cond.classLink RX2 201 "java/lang/IndexOutOfBoundsException", Cond.initialized "java/lang/IndexOutOfBoundsException", Cond.methodLink RX2 218 yX2_isRef, Cond.static yX2_isRef, Cond.code yX2_isRef cX2_isRef 1 (some .boolean), Cond.methodLink RX2 145 yX2_checkCommitOrNone, Cond.instanceMethod yX2_checkCommitOrNone, Cond.selects RX2 yX2_checkCommitOrNone yX2_checkCommitOrNone]
def wsL_move_r2 : List Cond := [Cond.code yX2_checkCommitOrNone cX2_checkCommitOrNone 2 none, Cond.methodLink RX2 97 yX2_checkCommit, Cond.instanceMethod yX2_checkCommit, Cond.selects RX2 yX2_checkCommit yX2_checkCommit, Cond.code yX2_checkCommit cX2_checkCommit 2 none, Cond.fieldLink RX2 10 "FetchHouse" "history" "LFetchHouse$History;", Cond.methodLink RX2 206 yX0_isCommit, Cond.instanceMethod yX0_isCommit, Cond.selects RX0 yX0_isCommit yX0_isCommit, Cond.initialized RX0, Cond.code yX0_isCommit cX0_isCommit 2 (some .boolean), Cond.fieldLink RX0 28 "FetchHouse$History" "made" "I"]
def wsL_move : List Cond := .codeWith yL_move cL_move 6 (some .int) [(0, 12, 15, 13), (0, 12, 19, 17)] :: ((wsL_move_r1 ++ wsL_move_r2) ++ wsX20 ++ wsX00 ++ (vx_atS RX2 70 "java/lang/IllegalStateException" ["java/lang/RuntimeException", "java/lang/Exception"]).filter goodWord ++ (vx_atS RX2 205 "java/lang/IndexOutOfBoundsException" ["java/lang/RuntimeException", "java/lang/Exception"]).filter goodWord)
def wsL_collect_r1 : List Cond := [Cond.classLink RL 13 "java/lang/IndexOutOfBoundsException", Cond.methodLink RL 48 yX2_collect, Cond.instanceMethod yX2_collect, Cond.selects RX2 yX2_collect yX2_collect, Cond.initialized RX2, Cond.code yX2_collect cX2_collect 6 (some .int), Cond.fieldLink RX2 10 "FetchHouse" "history" "LFetchHouse$History;", Cond.constantLong RX2 115 (-1), Cond.methodLink RX2 40 yX2_storeOf, Cond.instanceMethod yX2_storeOf, Cond.selects RX2 yX2_storeOf yX2_storeOf, Cond.code yX2_storeOf cX2_storeOf 2 (some (.object "FetchHouse$Store")), Cond.classLink RX2 201 "java/lang/IndexOutOfBoundsException", Cond.initialized "java/lang/IndexOutOfBoundsException", Cond.fieldLink RX2 19 "FetchHouse" "server" "LFetchHouse$Store;", Cond.fieldLink RX2 23 "FetchHouse" "client" "LFetchHouse$Store;", Cond.methodLink RX2 160 yX1_commitsOfRefs, Cond.instanceMethod yX1_commitsOfRefs, Cond.selects RX1 yX1_commitsOfRefs yX1_commitsOfRefs, Cond.initialized RX1, Cond.code yX1_commitsOfRefs cX1_commitsOfRefs 4 (some .long), Cond.fieldLink RX1 15 "FetchHouse$Store" "refCommits" "[I", Cond.static yX2_setOf, Cond.code yX2_setOf cX2_setOf 1 (some .long)]
def wsL_collect_r2 : List Cond := [Cond.methodLink RX2 163 yX0_ancestorsOf, Cond.instanceMethod yX0_ancestorsOf, Cond.selects RX0 yX0_ancestorsOf yX0_ancestorsOf, Cond.initialized RX0, Cond.code yX0_ancestorsOf cX0_ancestorsOf 10 (some .long), Cond.fieldLink RX0 28 "FetchHouse$History" "made" "I", Cond.constantLong RX0 65 (-1), Cond.methodLink RX0 67 yX0_shallowOf, Cond.instanceMethod yX0_shallowOf, Cond.selects RX0 yX0_shallowOf yX0_shallowOf, Cond.code yX0_shallowOf cX0_shallowOf 6 (some .long), Cond.static yX2_contains, Cond.code yX2_contains cX2_contains 3 (some .boolean), Cond.methodLink RX2 79 yX2_setOf, Cond.methodLink RX0 62 yX0_parentsOf, Cond.instanceMethod yX0_parentsOf, Cond.selects RX0 yX0_parentsOf yX0_parentsOf, Cond.code yX0_parentsOf cX0_parentsOf 2 (some .long), Cond.fieldLink RX0 9 "FetchHouse$History" "firstParents" "[I", Cond.fieldLink RX0 15 "FetchHouse$History" "secondParents" "[I", Cond.methodLink RX0 40 yX0_isCommit, Cond.instanceMethod yX0_isCommit, Cond.selects RX0 yX0_isCommit yX0_isCommit, Cond.code yX0_isCommit cX0_isCommit 2 (some .boolean)]
def wsL_collect_r3 : List Cond := [Cond.methodLink RX2 125 yJ13_bitCount_95d88, Cond.static yJ13_bitCount_95d88, Cond.initialized RJ13, Cond.code yJ13_bitCount_95d88 cJ13_bitCount_95d88 2 (some .int), Cond.constantLong RJ13 314 (6148914691236517205), Cond.constantLong RJ13 316 (3689348814741910323), Cond.constantLong RJ13 318 (1085102592571150095), Cond.methodLink RX2 117 yX0_filesOf, Cond.instanceMethod yX0_filesOf, Cond.selects RX0 yX0_filesOf yX0_filesOf, Cond.code yX0_filesOf cX0_filesOf 4 (some (.array .boolean)), Cond.fieldLink RX0 24 "FetchHouse$History" "foundFiles" "[Z", Cond.methodLink RX0 51 yX0_findFilesOf, Cond.instanceMethod yX0_findFilesOf, Cond.selects RX0 yX0_findFilesOf yX0_findFilesOf, Cond.code yX0_findFilesOf cX0_findFilesOf 4 none, Cond.methodLink RX0 36 yX0_fileIn, Cond.instanceMethod yX0_fileIn, Cond.selects RX0 yX0_fileIn yX0_fileIn, Cond.code yX0_fileIn cX0_fileIn 3 (some .int), Cond.fieldLink RX0 18 "FetchHouse$History" "slotFiles" "[I", Cond.static yX2_isSlot, Cond.code yX2_isSlot cX2_isSlot 1 (some .boolean), Cond.static yX2_isFile]
def wsL_collect_r4 : List Cond := [Cond.code yX2_isFile cX2_isFile 1 (some .boolean), Cond.methodLink RX2 167 yX1_keepOnlyFiles, Cond.instanceMethod yX1_keepOnlyFiles, Cond.selects RX1 yX1_keepOnlyFiles yX1_keepOnlyFiles, Cond.code yX1_keepOnlyFiles cX1_keepOnlyFiles 3 none, Cond.fieldLink RX1 9 "FetchHouse$Store" "heldFiles" "[Z"]
def wsL_collect : List Cond := .codeWith yL_collect cL_collect 4 (some .int) [(0, 9, 12, 13)] :: ((wsL_collect_r1 ++ (wsL_collect_r2 ++ (wsL_collect_r3 ++ wsL_collect_r4))) ++ wsX20 ++ wsX10 ++ wsX00 ++ (vx_atS RX2 205 "java/lang/IndexOutOfBoundsException" ["java/lang/RuntimeException", "java/lang/Exception"]).filter goodWord)
def wsL_has_r1 : List Cond := [Cond.classLink RL 13 "java/lang/IndexOutOfBoundsException", Cond.methodLink RL 52 yX2_has, Cond.instanceMethod yX2_has, Cond.selects RX2 yX2_has yX2_has, Cond.initialized RX2, Cond.code yX2_has cX2_has 4 (some .boolean), Cond.methodLink RX2 40 yX2_storeOf, Cond.instanceMethod yX2_storeOf, Cond.selects RX2 yX2_storeOf yX2_storeOf, Cond.code yX2_storeOf cX2_storeOf 2 (some (.object "FetchHouse$Store")), Cond.classLink RX2 201 "java/lang/IndexOutOfBoundsException", Cond.initialized "java/lang/IndexOutOfBoundsException", Cond.fieldLink RX2 19 "FetchHouse" "server" "LFetchHouse$Store;", Cond.fieldLink RX2 23 "FetchHouse" "client" "LFetchHouse$Store;", Cond.methodLink RX2 97 yX2_checkCommit, Cond.instanceMethod yX2_checkCommit, Cond.selects RX2 yX2_checkCommit yX2_checkCommit, Cond.code yX2_checkCommit cX2_checkCommit 2 none, Cond.fieldLink RX2 10 "FetchHouse" "history" "LFetchHouse$History;", Cond.methodLink RX2 206 yX0_isCommit, Cond.instanceMethod yX0_isCommit, Cond.selects RX0 yX0_isCommit yX0_isCommit, Cond.initialized RX0, Cond.code yX0_isCommit cX0_isCommit 2 (some .boolean)]
def wsL_has_r2 : List Cond := [Cond.fieldLink RX0 28 "FetchHouse$History" "made" "I", Cond.methodLink RX2 174 yX2_contains, Cond.static yX2_contains, Cond.code yX2_contains cX2_contains 3 (some .boolean), Cond.methodLink RX2 79 yX2_setOf, Cond.static yX2_setOf, Cond.code yX2_setOf cX2_setOf 1 (some .long)]
def wsL_has : List Cond := .codeWith yL_has cL_has 5 (some .int) [(0, 17, 20, 13)] :: ((wsL_has_r1 ++ wsL_has_r2) ++ wsX10 ++ wsX20 ++ wsX00 ++ (vx_atS RX2 205 "java/lang/IndexOutOfBoundsException" ["java/lang/RuntimeException", "java/lang/Exception"]).filter goodWord)
def wsL_hasFile_r1 : List Cond := [Cond.classLink RL 13 "java/lang/IndexOutOfBoundsException", Cond.classLink RL 15 "java/lang/IllegalArgumentException", Cond.methodLink RL 56 yX2_hasFile, Cond.instanceMethod yX2_hasFile, Cond.selects RX2 yX2_hasFile yX2_hasFile, Cond.initialized RX2, Cond.code yX2_hasFile cX2_hasFile 4 (some .boolean), Cond.methodLink RX2 40 yX2_storeOf, Cond.instanceMethod yX2_storeOf, Cond.selects RX2 yX2_storeOf yX2_storeOf, Cond.code yX2_storeOf cX2_storeOf 2 (some (.object "FetchHouse$Store")), Cond.classLink RX2 201 "java/lang/IndexOutOfBoundsException", Cond.initialized "java/lang/IndexOutOfBoundsException", Cond.fieldLink RX2 19 "FetchHouse" "server" "LFetchHouse$Store;", Cond.fieldLink RX2 23 "FetchHouse" "client" "LFetchHouse$Store;", Cond.methodLink RX2 52 yX2_checkFile, Cond.static yX2_checkFile, Cond.code yX2_checkFile cX2_checkFile 1 none, Cond.classLink RX2 55 "java/lang/IllegalArgumentException", Cond.initialized "java/lang/IllegalArgumentException", Cond.methodLink RX2 223 yX2_isFile, Cond.static yX2_isFile, Cond.code yX2_isFile cX2_isFile 1 (some .boolean), Cond.methodLink RX2 135 yX1_holdsFile]
def wsL_hasFile_r2 : List Cond := [Cond.instanceMethod yX1_holdsFile, Cond.selects RX1 yX1_holdsFile yX1_holdsFile, Cond.initialized RX1, Cond.code yX1_holdsFile cX1_holdsFile 2 (some .boolean), Cond.fieldLink RX1 9 "FetchHouse$Store" "heldFiles" "[Z"]
def wsL_hasFile : List Cond := .codeWith yL_hasFile cL_hasFile 5 (some .int) [(0, 17, 20, 13), (0, 17, 24, 15)] :: ((wsL_hasFile_r1 ++ wsL_hasFile_r2) ++ wsX20 ++ wsX10 ++ (vx_atS RX2 205 "java/lang/IndexOutOfBoundsException" ["java/lang/RuntimeException", "java/lang/Exception"]).filter goodWord ++ (vx_atS RX2 59 "java/lang/IllegalArgumentException" ["java/lang/RuntimeException", "java/lang/Exception"]).filter goodWord)
def wsL_isShallow_r1 : List Cond := [Cond.classLink RL 13 "java/lang/IndexOutOfBoundsException", Cond.methodLink RL 59 yX2_isShallow, Cond.instanceMethod yX2_isShallow, Cond.selects RX2 yX2_isShallow yX2_isShallow, Cond.initialized RX2, Cond.code yX2_isShallow cX2_isShallow 2 (some .boolean), Cond.fieldLink RX2 10 "FetchHouse" "history" "LFetchHouse$History;", Cond.fieldLink RX2 23 "FetchHouse" "client" "LFetchHouse$Store;", Cond.methodLink RX2 97 yX2_checkCommit, Cond.instanceMethod yX2_checkCommit, Cond.selects RX2 yX2_checkCommit yX2_checkCommit, Cond.code yX2_checkCommit cX2_checkCommit 2 none, Cond.classLink RX2 201 "java/lang/IndexOutOfBoundsException", Cond.initialized "java/lang/IndexOutOfBoundsException", Cond.methodLink RX2 206 yX0_isCommit, Cond.instanceMethod yX0_isCommit, Cond.selects RX0 yX0_isCommit yX0_isCommit, Cond.initialized RX0, Cond.code yX0_isCommit cX0_isCommit 2 (some .boolean), Cond.fieldLink RX0 28 "FetchHouse$History" "made" "I", Cond.methodLink RX2 178 yX0_shallowOf, Cond.instanceMethod yX0_shallowOf, Cond.selects RX0 yX0_shallowOf yX0_shallowOf, Cond.code yX0_shallowOf cX0_shallowOf 6 (some .long)]
def wsL_isShallow_r2 : List Cond := [Cond.constantLong RX0 65 (-1), Cond.static yX2_contains, Cond.code yX2_contains cX2_contains 3 (some .boolean), Cond.methodLink RX2 79 yX2_setOf, Cond.static yX2_setOf, Cond.code yX2_setOf cX2_setOf 1 (some .long), Cond.methodLink RX0 62 yX0_parentsOf, Cond.instanceMethod yX0_parentsOf, Cond.selects RX0 yX0_parentsOf yX0_parentsOf, Cond.code yX0_parentsOf cX0_parentsOf 2 (some .long), Cond.fieldLink RX0 9 "FetchHouse$History" "firstParents" "[I", Cond.fieldLink RX0 15 "FetchHouse$History" "secondParents" "[I", Cond.methodLink RX0 40 yX0_isCommit, Cond.methodLink RX2 174 yX2_contains]
def wsL_isShallow : List Cond := .codeWith yL_isShallow cL_isShallow 4 (some .int) [(0, 16, 19, 13)] :: ((wsL_isShallow_r1 ++ wsL_isShallow_r2) ++ wsX20 ++ wsX10 ++ wsX00 ++ (vx_atS RX2 205 "java/lang/IndexOutOfBoundsException" ["java/lang/RuntimeException", "java/lang/Exception"]).filter goodWord)
def wsL_isAncestor_r1 : List Cond := [Cond.classLink RL 13 "java/lang/IndexOutOfBoundsException", Cond.methodLink RL 62 yX2_isAncestor, Cond.instanceMethod yX2_isAncestor, Cond.selects RX2 yX2_isAncestor yX2_isAncestor, Cond.initialized RX2, Cond.code yX2_isAncestor cX2_isAncestor 5 (some .boolean), Cond.fieldLink RX2 10 "FetchHouse" "history" "LFetchHouse$History;", Cond.methodLink RX2 40 yX2_storeOf, Cond.instanceMethod yX2_storeOf, Cond.selects RX2 yX2_storeOf yX2_storeOf, Cond.code yX2_storeOf cX2_storeOf 2 (some (.object "FetchHouse$Store")), Cond.classLink RX2 201 "java/lang/IndexOutOfBoundsException", Cond.initialized "java/lang/IndexOutOfBoundsException", Cond.fieldLink RX2 19 "FetchHouse" "server" "LFetchHouse$Store;", Cond.fieldLink RX2 23 "FetchHouse" "client" "LFetchHouse$Store;", Cond.methodLink RX2 97 yX2_checkCommit, Cond.instanceMethod yX2_checkCommit, Cond.selects RX2 yX2_checkCommit yX2_checkCommit, Cond.code yX2_checkCommit cX2_checkCommit 2 none, Cond.methodLink RX2 206 yX0_isCommit, Cond.instanceMethod yX0_isCommit, Cond.selects RX0 yX0_isCommit yX0_isCommit, Cond.initialized RX0, Cond.code yX0_isCommit cX0_isCommit 2 (some .boolean)]
def wsL_isAncestor_r2 : List Cond := [Cond.fieldLink RX0 28 "FetchHouse$History" "made" "I", Cond.methodLink RX2 79 yX2_setOf, Cond.static yX2_setOf, Cond.code yX2_setOf cX2_setOf 1 (some .long), Cond.methodLink RX2 163 yX0_ancestorsOf, Cond.instanceMethod yX0_ancestorsOf, Cond.selects RX0 yX0_ancestorsOf yX0_ancestorsOf, Cond.code yX0_ancestorsOf cX0_ancestorsOf 10 (some .long), Cond.constantLong RX0 65 (-1), Cond.methodLink RX0 67 yX0_shallowOf, Cond.instanceMethod yX0_shallowOf, Cond.selects RX0 yX0_shallowOf yX0_shallowOf, Cond.code yX0_shallowOf cX0_shallowOf 6 (some .long), Cond.static yX2_contains, Cond.code yX2_contains cX2_contains 3 (some .boolean), Cond.methodLink RX0 62 yX0_parentsOf, Cond.instanceMethod yX0_parentsOf, Cond.selects RX0 yX0_parentsOf yX0_parentsOf, Cond.code yX0_parentsOf cX0_parentsOf 2 (some .long), Cond.fieldLink RX0 9 "FetchHouse$History" "firstParents" "[I", Cond.fieldLink RX0 15 "FetchHouse$History" "secondParents" "[I", Cond.methodLink RX0 40 yX0_isCommit, Cond.methodLink RX2 174 yX2_contains]
def wsL_isAncestor : List Cond := .codeWith yL_isAncestor cL_isAncestor 6 (some .int) [(0, 19, 22, 13)] :: ((wsL_isAncestor_r1 ++ wsL_isAncestor_r2) ++ wsX20 ++ wsX10 ++ wsX00 ++ (vx_atS RX2 205 "java/lang/IndexOutOfBoundsException" ["java/lang/RuntimeException", "java/lang/Exception"]).filter goodWord)
def wsL_law0_r1 : List Cond := [Cond.classLink RL 8 RX2, Cond.instantiable RX2 9, Cond.initialized RX2, Cond.classLink RL 67 RX3, Cond.instantiable RX3 18, Cond.initialized RX3, Cond.arrayClass .long, Cond.methodLink RL 66 yX2_init, Cond.instanceMethod yX2_init, Cond.code yX2_init cX2_init 1 none, Cond.methodLink RX2 1 objectInit, Cond.instanceMethod objectInit, Cond.code objectInit ⟨#[0xb1]⟩ 1 none, Cond.classLink RX2 7 RX0, Cond.instantiable RX0 6, Cond.initialized RX0, Cond.fieldLink RX2 10 "FetchHouse" "history" "LFetchHouse$History;", Cond.classLink RX2 16 RX1, Cond.instantiable RX1 3, Cond.initialized RX1, Cond.fieldLink RX2 19 "FetchHouse" "server" "LFetchHouse$Store;", Cond.fieldLink RX2 23 "FetchHouse" "client" "LFetchHouse$Store;", Cond.arrayClass .boolean, Cond.fieldLink RX2 26 "FetchHouse" "protectedRefs" "[Z"]
def wsL_law0_r2 : List Cond := [Cond.arrayClass .int, Cond.fieldLink RX2 30 "FetchHouse" "movedRefs" "[I", Cond.fieldLink RX2 34 "FetchHouse" "oldCommits" "[I", Cond.fieldLink RX2 37 "FetchHouse" "newCommits" "[I", Cond.instanceMethod yX0_init, Cond.code yX0_init cX0_init 1 none, Cond.methodLink RX0 3 objectInit, Cond.fieldLink RX0 9 "FetchHouse$History" "firstParents" "[I", Cond.fieldLink RX0 15 "FetchHouse$History" "secondParents" "[I", Cond.fieldLink RX0 18 "FetchHouse$History" "slotFiles" "[I", Cond.fieldLink RX0 21 "FetchHouse$History" "fewestSteps" "[I", Cond.fieldLink RX0 24 "FetchHouse$History" "foundFiles" "[Z", Cond.methodLink RX2 18 yX1_init, Cond.instanceMethod yX1_init, Cond.code yX1_init cX1_init 1 none, Cond.methodLink RX1 3 objectInit, Cond.fieldLink RX1 9 "FetchHouse$Store" "heldFiles" "[Z", Cond.fieldLink RX1 15 "FetchHouse$Store" "refCommits" "[I", Cond.methodLink RX1 19 yJ7_fill_53178, Cond.static yJ7_fill_53178, Cond.initialized RJ7, Cond.code yJ7_fill_53178 cJ7_fill_53178 4 none, Cond.methodLink RL 69 yX3_init, Cond.instanceMethod yX3_init]
def wsL_law0_r3 : List Cond := [Cond.code yX3_init cX3_init 2 none, Cond.methodLink RX3 1 objectInit, Cond.fieldLink RX3 7 "FetchHouseModel" "firsts" "[I", Cond.fieldLink RX3 13 "FetchHouseModel" "seconds" "[I", Cond.fieldLink RX3 16 "FetchHouseModel" "slots" "[I", Cond.fieldLink RX3 19 "FetchHouseModel" "hasCommit" "[Z", Cond.fieldLink RX3 23 "FetchHouseModel" "hasFile" "[Z", Cond.fieldLink RX3 26 "FetchHouseModel" "refs" "[I", Cond.fieldLink RX3 29 "FetchHouseModel" "isProtected" "[Z", Cond.fieldLink RX3 32 "FetchHouseModel" "moveRefs" "[I", Cond.fieldLink RX3 35 "FetchHouseModel" "moveOlds" "[I", Cond.fieldLink RX3 38 "FetchHouseModel" "moveNews" "[I", Cond.fieldLink RX3 41 "FetchHouseModel" "marks" "[Z", Cond.fieldLink RX3 44 "FetchHouseModel" "isCommon" "[Z", Cond.fieldLink RX3 47 "FetchHouseModel" "wasTold" "[Z", Cond.fieldLink RX3 50 "FetchHouseModel" "steps" "[I", Cond.methodLink RL 70 yL_make, Cond.static yL_make, Cond.initialized RL, Cond.codeWith yL_make cL_make 8 (some .int) [(0, 16, 19, 13), (0, 16, 23, 15), (0, 16, 27, 17)], Cond.classLink RL 13 "java/lang/IndexOutOfBoundsException", Cond.classLink RL 15 "java/lang/IllegalArgumentException", Cond.classLink RL 17 "java/lang/IllegalStateException", Cond.methodLink RL 7 yX2_make]
def wsL_law0_r4 : List Cond := [Cond.instanceMethod yX2_make, Cond.selects RX2 yX2_make yX2_make, Cond.code yX2_make cX2_make 8 (some .int), Cond.classLink RX2 55 "java/lang/IllegalArgumentException", Cond.initialized "java/lang/IllegalArgumentException", Cond.classLink RX2 66 "java/lang/IllegalStateException", Cond.initialized "java/lang/IllegalStateException", Cond.methodLink RX2 40 yX2_storeOf, Cond.instanceMethod yX2_storeOf, Cond.selects RX2 yX2_storeOf yX2_storeOf, Cond.code yX2_storeOf cX2_storeOf 2 (some (.object "FetchHouse$Store")), Cond.classLink RX2 201 "java/lang/IndexOutOfBoundsException", Cond.initialized "java/lang/IndexOutOfBoundsException", Cond.methodLink RX2 44 yX2_checkSlot, Cond.static yX2_checkSlot, Cond.code yX2_checkSlot cX2_checkSlot 1 none, Cond.methodLink RX2 213 yX2_isSlot, Cond.static yX2_isSlot, Cond.code yX2_isSlot cX2_isSlot 1 (some .boolean), Cond.methodLink RX2 48 yX2_checkHeldOrNone, Cond.static yX2_checkHeldOrNone, Cond.code yX2_checkHeldOrNone cX2_checkHeldOrNone 2 none, Cond.methodLink RX2 174 yX2_contains, Cond.static yX2_contains]
def wsL_law0_r5 : List Cond := [Cond.code yX2_contains cX2_contains 3 (some .boolean), Cond.methodLink RX2 79 yX2_setOf, Cond.static yX2_setOf, Cond.code yX2_setOf cX2_setOf 1 (some .long), Cond.methodLink RX2 52 yX2_checkFile, Cond.static yX2_checkFile, Cond.code yX2_checkFile cX2_checkFile 1 none, Cond.methodLink RX2 223 yX2_isFile, Cond.static yX2_isFile, Cond.code yX2_isFile cX2_isFile 1 (some .boolean), Cond.methodLink RX2 62 yX0_isFull, Cond.instanceMethod yX0_isFull, Cond.selects RX0 yX0_isFull yX0_isFull, Cond.code yX0_isFull cX0_isFull 1 (some .boolean), Cond.fieldLink RX0 28 "FetchHouse$History" "made" "I", Cond.methodLink RX2 71 yX0_append, Cond.instanceMethod yX0_append, Cond.selects RX0 yX0_append yX0_append, Cond.code yX0_append cX0_append 7 (some .int), Cond.methodLink RX0 32 yX0_isFull, Cond.methodLink RX0 36 yX0_fileIn, Cond.instanceMethod yX0_fileIn, Cond.selects RX0 yX0_fileIn yX0_fileIn, Cond.code yX0_fileIn cX0_fileIn 3 (some .int)]
def wsL_law0_r6 : List Cond := [Cond.methodLink RX0 40 yX0_isCommit, Cond.instanceMethod yX0_isCommit, Cond.selects RX0 yX0_isCommit yX0_isCommit, Cond.code yX0_isCommit cX0_isCommit 2 (some .boolean), Cond.methodLink RX2 83 yX1_addFile, Cond.instanceMethod yX1_addFile, Cond.selects RX1 yX1_addFile yX1_addFile, Cond.code yX1_addFile cX1_addFile 2 none, Cond.methodLink RL 75 yX3_make, Cond.instanceMethod yX3_make, Cond.selects RX3 yX3_make yX3_make, Cond.code yX3_make cX3_make 9 (some .int), Cond.fieldLink RX3 61 "FetchHouseModel" "made" "I", Cond.methodLink RX3 72 yX3_isStore, Cond.static yX3_isStore, Cond.code yX3_isStore cX3_isStore 1 (some .boolean), Cond.methodLink RX3 57 yX3_in, Cond.static yX3_in, Cond.code yX3_in cX3_in 3 (some .boolean), Cond.methodLink RX3 75 yX3_isInOrNone, Cond.instanceMethod yX3_isInOrNone, Cond.selects RX3 yX3_isInOrNone yX3_isInOrNone, Cond.code yX3_isInOrNone cX3_isInOrNone 3 (some .boolean), Cond.methodLink RX3 68 yX3_isIn]
def wsL_law0_r7 : List Cond := [Cond.instanceMethod yX3_isIn, Cond.selects RX3 yX3_isIn yX3_isIn, Cond.code yX3_isIn cX3_isIn 3 (some .boolean), Cond.methodLink RX3 64 yX3_isCommit, Cond.instanceMethod yX3_isCommit, Cond.selects RX3 yX3_isCommit yX3_isCommit, Cond.code yX3_isCommit cX3_isCommit 2 (some .boolean), Cond.methodLink RX3 78 yX3_refused, Cond.instanceMethod yX3_refused, Cond.selects RX3 yX3_refused yX3_refused, Cond.code yX3_refused cX3_refused 2 (some .boolean), Cond.fieldLink RX3 53 "FetchHouseModel" "refusal" "I", Cond.methodLink RL 76 yX3_thrown, Cond.instanceMethod yX3_thrown, Cond.selects RX3 yX3_thrown yX3_thrown, Cond.code yX3_thrown cX3_thrown 1 (some .int), Cond.methodLink RL 80 yL_setRef, Cond.static yL_setRef, Cond.codeWith yL_setRef cL_setRef 6 (some .int) [(0, 12, 15, 13)], Cond.methodLink RL 19 yX2_setRef, Cond.instanceMethod yX2_setRef, Cond.selects RX2 yX2_setRef yX2_setRef, Cond.code yX2_setRef cX2_setRef 6 (some .int), Cond.methodLink RX2 86 yX2_checkRef]
def wsL_law0_r8 : List Cond := [Cond.static yX2_checkRef, Cond.code yX2_checkRef cX2_checkRef 1 none, Cond.methodLink RX2 218 yX2_isRef, Cond.static yX2_isRef, Cond.code yX2_isRef cX2_isRef 1 (some .boolean), Cond.methodLink RX2 89 yX1_commitOfRef, Cond.instanceMethod yX1_commitOfRef, Cond.selects RX1 yX1_commitOfRef yX1_commitOfRef, Cond.code yX1_commitOfRef cX1_commitOfRef 2 (some .int), Cond.methodLink RX2 93 yX1_pointRef, Cond.instanceMethod yX1_pointRef, Cond.selects RX1 yX1_pointRef yX1_pointRef, Cond.code yX1_pointRef cX1_pointRef 3 none, Cond.methodLink RL 83 yX3_setRef, Cond.instanceMethod yX3_setRef, Cond.selects RX3 yX3_setRef yX3_setRef, Cond.code yX3_setRef cX3_setRef 6 (some .int), Cond.methodLink RX3 81 yX3_isRef, Cond.static yX3_isRef, Cond.code yX3_isRef cX3_isRef 1 (some .boolean), Cond.methodLink RL 84 yL_ref, Cond.static yL_ref, Cond.codeWith yL_ref cL_ref 5 (some .int) [(0, 10, 13, 13)], Cond.methodLink RL 23 yX2_ref]
def wsL_law0_r9 : List Cond := [Cond.instanceMethod yX2_ref, Cond.selects RX2 yX2_ref yX2_ref, Cond.code yX2_ref cX2_ref 4 (some .int), Cond.methodLink RL 87 yX3_ref, Cond.instanceMethod yX3_ref, Cond.selects RX3 yX3_ref yX3_ref, Cond.code yX3_ref cX3_ref 3 (some .int), Cond.methodLink RL 88 yL_fileAt, Cond.static yL_fileAt, Cond.codeWith yL_fileAt cL_fileAt 5 (some .int) [(0, 10, 13, 13)], Cond.methodLink RL 27 yX2_fileAt, Cond.instanceMethod yX2_fileAt, Cond.selects RX2 yX2_fileAt yX2_fileAt, Cond.code yX2_fileAt cX2_fileAt 3 (some .int), Cond.methodLink RX2 97 yX2_checkCommit, Cond.instanceMethod yX2_checkCommit, Cond.selects RX2 yX2_checkCommit yX2_checkCommit, Cond.code yX2_checkCommit cX2_checkCommit 2 none, Cond.methodLink RX2 206 yX0_isCommit, Cond.methodLink RX2 100 yX0_fileIn, Cond.methodLink RL 90 yX3_fileAt, Cond.instanceMethod yX3_fileAt, Cond.selects RX3 yX3_fileAt yX3_fileAt, Cond.code yX3_fileAt cX3_fileAt 3 (some .int)]
def wsL_law0_r10 : List Cond := [Cond.methodLink RL 91 yL_fetch, Cond.static yL_fetch, Cond.codeWith yL_fetch cL_fetch 6 (some .int) [(0, 12, 15, 13), (0, 12, 19, 15), (0, 12, 23, 17)], Cond.methodLink RL 30 yX2_fetch, Cond.instanceMethod yX2_fetch, Cond.selects RX2 yX2_fetch yX2_fetch, Cond.code yX2_fetch cX2_fetch 9 (some .int), Cond.constantLong RX2 115 (-1), Cond.methodLink RX2 104 yX2_commitToFetch, Cond.instanceMethod yX2_commitToFetch, Cond.selects RX2 yX2_commitToFetch yX2_commitToFetch, Cond.code yX2_commitToFetch cX2_commitToFetch 4 (some .int), Cond.methodLink RX2 107 yX2_talk, Cond.instanceMethod yX2_talk, Cond.selects RX2 yX2_talk yX2_talk, Cond.code yX2_talk cX2_talk 8 (some .long), Cond.fieldLink RX2 131 "FetchHouse" "latestRounds" "I", Cond.methodLink RX2 186 yX2_highestOf, Cond.static yX2_highestOf, Cond.code yX2_highestOf cX2_highestOf 7 (some .long), Cond.methodLink RX2 163 yX0_ancestorsOf, Cond.instanceMethod yX0_ancestorsOf, Cond.selects RX0 yX0_ancestorsOf yX0_ancestorsOf, Cond.code yX0_ancestorsOf cX0_ancestorsOf 10 (some .long)]
def wsL_law0_r11 : List Cond := [Cond.constantLong RX0 65 (-1), Cond.methodLink RX0 67 yX0_shallowOf, Cond.instanceMethod yX0_shallowOf, Cond.selects RX0 yX0_shallowOf yX0_shallowOf, Cond.code yX0_shallowOf cX0_shallowOf 6 (some .long), Cond.methodLink RX0 62 yX0_parentsOf, Cond.instanceMethod yX0_parentsOf, Cond.selects RX0 yX0_parentsOf yX0_parentsOf, Cond.code yX0_parentsOf cX0_parentsOf 2 (some .long), Cond.methodLink RX2 111 yX0_reachOf, Cond.instanceMethod yX0_reachOf, Cond.selects RX0 yX0_reachOf yX0_reachOf, Cond.code yX0_reachOf cX0_reachOf 8 (some .long), Cond.methodLink RX0 71 yJ7_fill_53178, Cond.methodLink RX0 77 yX0_comeTo, Cond.instanceMethod yX0_comeTo, Cond.selects RX0 yX0_comeTo yX0_comeTo, Cond.code yX0_comeTo cX0_comeTo 3 none, Cond.methodLink RX2 117 yX0_filesOf, Cond.instanceMethod yX0_filesOf, Cond.selects RX0 yX0_filesOf yX0_filesOf, Cond.code yX0_filesOf cX0_filesOf 4 (some (.array .boolean)), Cond.methodLink RX0 51 yX0_findFilesOf, Cond.instanceMethod yX0_findFilesOf]
def wsL_law0_r12 : List Cond := [Cond.selects RX0 yX0_findFilesOf yX0_findFilesOf, Cond.code yX0_findFilesOf cX0_findFilesOf 4 none, Cond.methodLink RX2 121 yX1_addFiles, Cond.instanceMethod yX1_addFiles, Cond.selects RX1 yX1_addFiles yX1_addFiles, Cond.code yX1_addFiles cX1_addFiles 4 none, Cond.methodLink RX1 36 yX1_holdsFile, Cond.instanceMethod yX1_holdsFile, Cond.selects RX1 yX1_holdsFile yX1_holdsFile, Cond.code yX1_holdsFile cX1_holdsFile 2 (some .boolean), Cond.methodLink RX2 125 yJ13_bitCount_95d88, Cond.static yJ13_bitCount_95d88, Cond.initialized RJ13, Cond.code yJ13_bitCount_95d88 cJ13_bitCount_95d88 2 (some .int), Cond.constantLong RJ13 314 (6148914691236517205), Cond.constantLong RJ13 316 (3689348814741910323), Cond.constantLong RJ13 318 (1085102592571150095), Cond.methodLink RL 94 yX3_fetch, Cond.instanceMethod yX3_fetch, Cond.selects RX3 yX3_fetch yX3_fetch, Cond.code yX3_fetch cX3_fetch 6 (some .int), Cond.methodLink RX3 114 yX3_noFetch, Cond.instanceMethod yX3_noFetch, Cond.selects RX3 yX3_noFetch yX3_noFetch]
def wsL_law0_r13 : List Cond := [Cond.code yX3_noFetch cX3_noFetch 4 (some .boolean), Cond.methodLink RX3 117 yX3_talk, Cond.instanceMethod yX3_talk, Cond.selects RX3 yX3_talk yX3_talk, Cond.code yX3_talk cX3_talk 2 none, Cond.fieldLink RX3 101 "FetchHouseModel" "rounds" "I", Cond.methodLink RX3 104 yX3_tell, Cond.instanceMethod yX3_tell, Cond.selects RX3 yX3_tell yX3_tell, Cond.code yX3_tell cX3_tell 3 (some .int), Cond.methodLink RX3 94 yX3_clear, Cond.instanceMethod yX3_clear, Cond.selects RX3 yX3_clear yX3_clear, Cond.code yX3_clear cX3_clear 2 none, Cond.methodLink RX3 97 yX3_markOn, Cond.instanceMethod yX3_markOn, Cond.selects RX3 yX3_markOn yX3_markOn, Cond.code yX3_markOn cX3_markOn 3 none, Cond.methodLink RX3 87 yX3_shallow, Cond.instanceMethod yX3_shallow, Cond.selects RX3 yX3_shallow yX3_shallow, Cond.code yX3_shallow cX3_shallow 2 (some .boolean), Cond.methodLink RX3 84 yX3_lacksParent, Cond.instanceMethod yX3_lacksParent]
def wsL_law0_r14 : List Cond := [Cond.selects RX3 yX3_lacksParent yX3_lacksParent, Cond.code yX3_lacksParent cX3_lacksParent 3 (some .boolean), Cond.methodLink RX3 90 yX3_mark, Cond.instanceMethod yX3_mark, Cond.selects RX3 yX3_mark yX3_mark, Cond.code yX3_mark cX3_mark 3 none, Cond.methodLink RX3 120 yX3_reach, Cond.instanceMethod yX3_reach, Cond.selects RX3 yX3_reach yX3_reach, Cond.code yX3_reach cX3_reach 4 none, Cond.methodLink RX3 108 yX3_markFrom, Cond.instanceMethod yX3_markFrom, Cond.selects RX3 yX3_markFrom yX3_markFrom, Cond.code yX3_markFrom cX3_markFrom 3 none, Cond.methodLink RX3 111 yX3_near, Cond.instanceMethod yX3_near, Cond.selects RX3 yX3_near yX3_near, Cond.code yX3_near cX3_near 3 none, Cond.methodLink RX3 123 yX3_bring, Cond.instanceMethod yX3_bring, Cond.selects RX3 yX3_bring yX3_bring, Cond.code yX3_bring cX3_bring 6 none, Cond.methodLink RL 95 yL_wouldFetch, Cond.static yL_wouldFetch]
def wsL_law0_r15 : List Cond := [Cond.codeWith yL_wouldFetch cL_wouldFetch 5 (some .int) [(0, 10, 13, 13), (0, 10, 17, 15), (0, 10, 21, 17)], Cond.methodLink RL 34 yX2_wouldFetch, Cond.instanceMethod yX2_wouldFetch, Cond.selects RX2 yX2_wouldFetch yX2_wouldFetch, Cond.code yX2_wouldFetch cX2_wouldFetch 4 (some .int), Cond.methodLink RL 97 yX3_wouldFetch, Cond.instanceMethod yX3_wouldFetch, Cond.selects RX3 yX3_wouldFetch yX3_wouldFetch, Cond.code yX3_wouldFetch cX3_wouldFetch 5 (some .int), Cond.methodLink RL 98 yX2_rounds, Cond.instanceMethod yX2_rounds, Cond.selects RX2 yX2_rounds yX2_rounds, Cond.code yX2_rounds cX2_rounds 1 (some .int), Cond.methodLink RL 101 yX3_rounds, Cond.instanceMethod yX3_rounds, Cond.selects RX3 yX3_rounds yX3_rounds, Cond.code yX3_rounds cX3_rounds 1 (some .int), Cond.methodLink RX3 127 yX3_fine, Cond.instanceMethod yX3_fine, Cond.selects RX3 yX3_fine yX3_fine, Cond.code yX3_fine cX3_fine 2 (some .int), Cond.methodLink RL 102 yL_load, Cond.static yL_load, Cond.codeWith yL_load cL_load 4 (some .int) [(0, 16, 19, 15), (0, 16, 22, 17)]]
def wsL_law0_r16 : List Cond := [Cond.methodLink RL 37 yX2_load, Cond.instanceMethod yX2_load, Cond.selects RX2 yX2_load yX2_load, Cond.code yX2_load cX2_load 3 (some .boolean), Cond.methodLink RX2 135 yX1_holdsFile, Cond.methodLink RL 105 yX3_load, Cond.instanceMethod yX3_load, Cond.selects RX3 yX3_load yX3_load, Cond.code yX3_load cX3_load 4 (some .boolean), Cond.methodLink RL 106 yX2_missing, Cond.instanceMethod yX2_missing, Cond.selects RX2 yX2_missing yX2_missing, Cond.code yX2_missing cX2_missing 1 (some .int), Cond.methodLink RX2 141 yX1_countLacking, Cond.instanceMethod yX1_countLacking, Cond.selects RX1 yX1_countLacking yX1_countLacking, Cond.code yX1_countLacking cX1_countLacking 4 (some .int), Cond.methodLink RL 109 yX3_missing, Cond.instanceMethod yX3_missing, Cond.selects RX3 yX3_missing yX3_missing, Cond.code yX3_missing cX3_missing 3 (some .int), Cond.methodLink RX3 131 yX3_isNeeded, Cond.instanceMethod yX3_isNeeded, Cond.selects RX3 yX3_isNeeded yX3_isNeeded]
def wsL_law0_r17 : List Cond := [Cond.code yX3_isNeeded cX3_isNeeded 5 (some .boolean), Cond.methodLink RL 110 yL_protect, Cond.static yL_protect, Cond.codeWith yL_protect cL_protect 5 (some .int) [(0, 17, 20, 13)], Cond.methodLink RL 41 yX2_protect, Cond.instanceMethod yX2_protect, Cond.selects RX2 yX2_protect yX2_protect, Cond.code yX2_protect cX2_protect 4 (some .boolean), Cond.methodLink RL 113 yX3_protect, Cond.instanceMethod yX3_protect, Cond.selects RX3 yX3_protect yX3_protect, Cond.code yX3_protect cX3_protect 4 (some .boolean), Cond.methodLink RL 114 yL_move, Cond.static yL_move, Cond.codeWith yL_move cL_move 6 (some .int) [(0, 12, 15, 13), (0, 12, 19, 17)], Cond.methodLink RL 45 yX2_move, Cond.instanceMethod yX2_move, Cond.selects RX2 yX2_move yX2_move, Cond.code yX2_move cX2_move 4 (some .int), Cond.fieldLink RX2 148 "FetchHouse" "waitingMoves" "I", Cond.methodLink RX2 145 yX2_checkCommitOrNone, Cond.instanceMethod yX2_checkCommitOrNone, Cond.selects RX2 yX2_checkCommitOrNone yX2_checkCommitOrNone, Cond.code yX2_checkCommitOrNone cX2_checkCommitOrNone 2 none]
def wsL_law0_r18 : List Cond := [Cond.methodLink RL 116 yX3_move, Cond.instanceMethod yX3_move, Cond.selects RX3 yX3_move yX3_move, Cond.code yX3_move cX3_move 5 (some .int), Cond.fieldLink RX3 137 "FetchHouseModel" "waiting" "I", Cond.methodLink RX3 134 yX3_isCommitOrNone, Cond.instanceMethod yX3_isCommitOrNone, Cond.selects RX3 yX3_isCommitOrNone yX3_isCommitOrNone, Cond.code yX3_isCommitOrNone cX3_isCommitOrNone 2 (some .boolean), Cond.methodLink RL 117 yX2_push, Cond.instanceMethod yX2_push, Cond.selects RX2 yX2_push yX2_push, Cond.code yX2_push cX2_push 3 (some .int), Cond.methodLink RX2 153 yX2_firstRefusal, Cond.instanceMethod yX2_firstRefusal, Cond.selects RX2 yX2_firstRefusal yX2_firstRefusal, Cond.code yX2_firstRefusal cX2_firstRefusal 3 (some .int), Cond.methodLink RX2 190 yX2_refusalOf, Cond.instanceMethod yX2_refusalOf, Cond.selects RX2 yX2_refusalOf yX2_refusalOf, Cond.code yX2_refusalOf cX2_refusalOf 6 (some .int), Cond.methodLink RX2 194 yX2_isProtectedRef, Cond.instanceMethod yX2_isProtectedRef, Cond.selects RX2 yX2_isProtectedRef yX2_isProtectedRef]
def wsL_law0_r19 : List Cond := [Cond.code yX2_isProtectedRef cX2_isProtectedRef 2 (some .boolean), Cond.methodLink RX2 197 yX2_endsBeyondServer, Cond.instanceMethod yX2_endsBeyondServer, Cond.selects RX2 yX2_endsBeyondServer yX2_endsBeyondServer, Cond.code yX2_endsBeyondServer cX2_endsBeyondServer 3 (some .boolean), Cond.methodLink RX2 178 yX0_shallowOf, Cond.methodLink RX2 157 yX2_doMoves, Cond.instanceMethod yX2_doMoves, Cond.selects RX2 yX2_doMoves yX2_doMoves, Cond.code yX2_doMoves cX2_doMoves 6 (some .int), Cond.methodLink RL 120 yX3_push, Cond.instanceMethod yX3_push, Cond.selects RX3 yX3_push yX3_push, Cond.code yX3_push cX3_push 5 (some .int), Cond.methodLink RX3 140 yX3_barred, Cond.instanceMethod yX3_barred, Cond.selects RX3 yX3_barred yX3_barred, Cond.code yX3_barred cX3_barred 6 (some .int), Cond.methodLink RL 121 yL_collect, Cond.static yL_collect, Cond.codeWith yL_collect cL_collect 4 (some .int) [(0, 9, 12, 13)], Cond.methodLink RL 48 yX2_collect, Cond.instanceMethod yX2_collect, Cond.selects RX2 yX2_collect yX2_collect]
def wsL_law0_r20 : List Cond := [Cond.code yX2_collect cX2_collect 6 (some .int), Cond.methodLink RX2 160 yX1_commitsOfRefs, Cond.instanceMethod yX1_commitsOfRefs, Cond.selects RX1 yX1_commitsOfRefs yX1_commitsOfRefs, Cond.code yX1_commitsOfRefs cX1_commitsOfRefs 4 (some .long), Cond.methodLink RX2 167 yX1_keepOnlyFiles, Cond.instanceMethod yX1_keepOnlyFiles, Cond.selects RX1 yX1_keepOnlyFiles yX1_keepOnlyFiles, Cond.code yX1_keepOnlyFiles cX1_keepOnlyFiles 3 none, Cond.methodLink RL 123 yX3_collect, Cond.instanceMethod yX3_collect, Cond.selects RX3 yX3_collect yX3_collect, Cond.code yX3_collect cX3_collect 4 (some .int), Cond.methodLink RL 124 yX2_commits, Cond.instanceMethod yX2_commits, Cond.selects RX2 yX2_commits yX2_commits, Cond.code yX2_commits cX2_commits 1 (some .int), Cond.methodLink RX2 171 yX0_size, Cond.instanceMethod yX0_size, Cond.selects RX0 yX0_size yX0_size, Cond.code yX0_size cX0_size 1 (some .int), Cond.methodLink RL 127 yX3_commits, Cond.instanceMethod yX3_commits, Cond.selects RX3 yX3_commits yX3_commits]
def wsL_law0_r21 : List Cond := [Cond.code yX3_commits cX3_commits 1 (some .int), Cond.methodLink RL 128 yL_has, Cond.static yL_has, Cond.codeWith yL_has cL_has 5 (some .int) [(0, 17, 20, 13)], Cond.methodLink RL 52 yX2_has, Cond.instanceMethod yX2_has, Cond.selects RX2 yX2_has yX2_has, Cond.code yX2_has cX2_has 4 (some .boolean), Cond.methodLink RL 130 yX3_has, Cond.instanceMethod yX3_has, Cond.selects RX3 yX3_has yX3_has, Cond.code yX3_has cX3_has 3 (some .boolean), Cond.methodLink RL 131 yL_hasFile, Cond.static yL_hasFile, Cond.codeWith yL_hasFile cL_hasFile 5 (some .int) [(0, 17, 20, 13), (0, 17, 24, 15)], Cond.methodLink RL 56 yX2_hasFile, Cond.instanceMethod yX2_hasFile, Cond.selects RX2 yX2_hasFile yX2_hasFile, Cond.code yX2_hasFile cX2_hasFile 4 (some .boolean), Cond.methodLink RL 133 yX3_hasFile, Cond.instanceMethod yX3_hasFile, Cond.selects RX3 yX3_hasFile yX3_hasFile, Cond.code yX3_hasFile cX3_hasFile 3 (some .boolean), Cond.methodLink RL 134 yL_isShallow]
def wsL_law0_r22 : List Cond := [Cond.static yL_isShallow, Cond.codeWith yL_isShallow cL_isShallow 4 (some .int) [(0, 16, 19, 13)], Cond.methodLink RL 59 yX2_isShallow, Cond.instanceMethod yX2_isShallow, Cond.selects RX2 yX2_isShallow yX2_isShallow, Cond.code yX2_isShallow cX2_isShallow 2 (some .boolean), Cond.methodLink RL 136 yX3_isShallow, Cond.instanceMethod yX3_isShallow, Cond.selects RX3 yX3_isShallow yX3_isShallow, Cond.code yX3_isShallow cX3_isShallow 2 (some .boolean), Cond.methodLink RL 137 yL_isAncestor, Cond.static yL_isAncestor, Cond.codeWith yL_isAncestor cL_isAncestor 6 (some .int) [(0, 19, 22, 13)], Cond.methodLink RL 62 yX2_isAncestor, Cond.instanceMethod yX2_isAncestor, Cond.selects RX2 yX2_isAncestor yX2_isAncestor, Cond.code yX2_isAncestor cX2_isAncestor 5 (some .boolean), Cond.methodLink RL 139 yX3_isAncestor, Cond.instanceMethod yX3_isAncestor, Cond.selects RX3 yX3_isAncestor yX3_isAncestor, Cond.code yX3_isAncestor cX3_isAncestor 5 (some .boolean)]
def wsL_law0 : List Cond := (wsL_law0_r1 ++ (wsL_law0_r2 ++ (wsL_law0_r3 ++ (wsL_law0_r4 ++ (wsL_law0_r5 ++ (wsL_law0_r6 ++ (wsL_law0_r7 ++ (wsL_law0_r8 ++ (wsL_law0_r9 ++ (wsL_law0_r10 ++ (wsL_law0_r11 ++ (wsL_law0_r12 ++ (wsL_law0_r13 ++ (wsL_law0_r14 ++ (wsL_law0_r15 ++ (wsL_law0_r16 ++ (wsL_law0_r17 ++ (wsL_law0_r18 ++ (wsL_law0_r19 ++ (wsL_law0_r20 ++ (wsL_law0_r21 ++ wsL_law0_r22))))))))))))))))))))) ++ wsX20 ++ wsX30 ++ wsX00 ++ wsX10 ++ ([] : List Cond)
def wsL_law : List Cond := wsL_law0 ++ (vx_atS RX2 59 "java/lang/IllegalArgumentException" ["java/lang/RuntimeException", "java/lang/Exception"]).filter goodWord ++ (vx_atS RX2 70 "java/lang/IllegalStateException" ["java/lang/RuntimeException", "java/lang/Exception"]).filter goodWord ++ (vx_atS RX2 205 "java/lang/IndexOutOfBoundsException" ["java/lang/RuntimeException", "java/lang/Exception"]).filter goodWord
abbrev vwCl : List vw_C := [(RX0, TX0, 6), (RX1, TX1, 3), (RX2, TX2, 9), (RX3, TX3, 18)]
end
section
theorem dX0_init_0 : decode cX0_init 0 = .ok (.aload_n 0, 1) := by decide +kernel
theorem dX0_init_1 : decode cX0_init 1 = .ok (.invokespecial 3, 3) := by decide +kernel
theorem dX0_init_4 : decode cX0_init 4 = .ok (.aload_n 0, 1) := by decide +kernel
theorem dX0_init_5 : decode cX0_init 5 = .ok (.bipush 60, 2) := by decide +kernel
theorem dX0_init_7 : decode cX0_init 7 = .ok (.newarray .int, 2) := by decide +kernel
theorem dX0_init_9 : decode cX0_init 9 = .ok (.putfield 9, 3) := by decide +kernel
theorem dX0_init_12 : decode cX0_init 12 = .ok (.aload_n 0, 1) := by decide +kernel
theorem dX0_init_13 : decode cX0_init 13 = .ok (.bipush 60, 2) := by decide +kernel
theorem dX0_init_15 : decode cX0_init 15 = .ok (.newarray .int, 2) := by decide +kernel
theorem dX0_init_17 : decode cX0_init 17 = .ok (.putfield 15, 3) := by decide +kernel
theorem dX0_init_20 : decode cX0_init 20 = .ok (.aload_n 0, 1) := by decide +kernel
theorem dX0_init_21 : decode cX0_init 21 = .ok (.sipush 240, 3) := by decide +kernel
theorem dX0_init_24 : decode cX0_init 24 = .ok (.newarray .int, 2) := by decide +kernel
theorem dX0_init_26 : decode cX0_init 26 = .ok (.putfield 18, 3) := by decide +kernel
theorem dX0_init_29 : decode cX0_init 29 = .ok (.aload_n 0, 1) := by decide +kernel
theorem dX0_init_30 : decode cX0_init 30 = .ok (.bipush 60, 2) := by decide +kernel
theorem dX0_init_32 : decode cX0_init 32 = .ok (.newarray .int, 2) := by decide +kernel
theorem dX0_init_34 : decode cX0_init 34 = .ok (.putfield 21, 3) := by decide +kernel
theorem dX0_init_37 : decode cX0_init 37 = .ok (.aload_n 0, 1) := by decide +kernel
theorem dX0_init_38 : decode cX0_init 38 = .ok (.bipush 100, 2) := by decide +kernel
theorem dX0_init_40 : decode cX0_init 40 = .ok (.newarray .boolean, 2) := by decide +kernel
theorem dX0_init_42 : decode cX0_init 42 = .ok (.putfield 24, 3) := by decide +kernel
theorem dX0_init_45 : decode cX0_init 45 = .ok (.return_, 1) := by decide +kernel
theorem dX0_size_0 : decode cX0_size 0 = .ok (.aload_n 0, 1) := by decide +kernel
theorem dX0_size_1 : decode cX0_size 1 = .ok (.getfield 28, 3) := by decide +kernel
theorem dX0_size_4 : decode cX0_size 4 = .ok (.ireturn, 1) := by decide +kernel
theorem dX0_isFull_0 : decode cX0_isFull 0 = .ok (.aload_n 0, 1) := by decide +kernel
theorem dX0_isFull_1 : decode cX0_isFull 1 = .ok (.getfield 28, 3) := by decide +kernel
theorem dX0_isFull_4 : decode cX0_isFull 4 = .ok (.bipush 60, 2) := by decide +kernel
theorem dX0_isFull_6 : decode cX0_isFull 6 = .ok (.if_icmp .lt 7, 3) := by decide +kernel
theorem dX0_isFull_9 : decode cX0_isFull 9 = .ok (.iconst 1, 1) := by decide +kernel
theorem dX0_isFull_10 : decode cX0_isFull 10 = .ok (.goto 4, 3) := by decide +kernel
theorem dX0_isFull_13 : decode cX0_isFull 13 = .ok (.iconst 0, 1) := by decide +kernel
theorem dX0_isFull_14 : decode cX0_isFull 14 = .ok (.ireturn, 1) := by decide +kernel
theorem dX0_isCommit_0 : decode cX0_isCommit 0 = .ok (.iload_n 1, 1) := by decide +kernel
theorem dX0_isCommit_1 : decode cX0_isCommit 1 = .ok (.ifCond .lt 15, 3) := by decide +kernel
theorem dX0_isCommit_4 : decode cX0_isCommit 4 = .ok (.iload_n 1, 1) := by decide +kernel
theorem dX0_isCommit_5 : decode cX0_isCommit 5 = .ok (.aload_n 0, 1) := by decide +kernel
theorem dX0_isCommit_6 : decode cX0_isCommit 6 = .ok (.getfield 28, 3) := by decide +kernel
theorem dX0_isCommit_9 : decode cX0_isCommit 9 = .ok (.if_icmp .ge 7, 3) := by decide +kernel
theorem dX0_isCommit_12 : decode cX0_isCommit 12 = .ok (.iconst 1, 1) := by decide +kernel
theorem dX0_isCommit_13 : decode cX0_isCommit 13 = .ok (.goto 4, 3) := by decide +kernel
theorem dX0_isCommit_16 : decode cX0_isCommit 16 = .ok (.iconst 0, 1) := by decide +kernel
theorem dX0_isCommit_17 : decode cX0_isCommit 17 = .ok (.ireturn, 1) := by decide +kernel
set_option maxRecDepth 20000 in
theorem ggX0_append_X0_isFull : GoodIn wsX0_append wsX0_isFull := goodIn_r _ [9, 1, 21, 22, 23, 24, 25, 26] (by decide +kernel) (by decide +kernel)
set_option maxRecDepth 20000 in
theorem gX0_append_X0_isFull : GoodIn wsX0_append (wsV RX0 32 RX0 yX0_isFull wsX0_isFull) := goodIn_app (goodIn_of _ (by decide +kernel)) ggX0_append_X0_isFull
set_option maxRecDepth 20000 in
theorem ggX0_append_X0_fileIn : GoodIn wsX0_append wsX0_fileIn := goodIn_r _ [13, 4, 14, 15, 16, 8, 17, 1, 18, 19, 20, 21, 22, 23, 24, 25, 26] (by decide +kernel) (by decide +kernel)
set_option maxRecDepth 20000 in
theorem gX0_append_X0_fileIn : GoodIn wsX0_append (wsV RX0 36 RX0 yX0_fileIn wsX0_fileIn) := goodIn_app (goodIn_of _ (by decide +kernel)) ggX0_append_X0_fileIn
theorem dX0_append_0 : decode cX0_append 0 = .ok (.aload_n 0, 1) := by decide +kernel
theorem dX0_append_1 : decode cX0_append 1 = .ok (.invokevirtual 32, 3) := by decide +kernel
theorem dX0_append_4 : decode cX0_append 4 = .ok (.ifCond .eq 5, 3) := by decide +kernel
theorem dX0_append_7 : decode cX0_append 7 = .ok (.iconst (-1), 1) := by decide +kernel
theorem dX0_append_8 : decode cX0_append 8 = .ok (.ireturn, 1) := by decide +kernel
theorem dX0_append_9 : decode cX0_append 9 = .ok (.aload_n 0, 1) := by decide +kernel
theorem dX0_append_10 : decode cX0_append 10 = .ok (.getfield 28, 3) := by decide +kernel
theorem dX0_append_13 : decode cX0_append 13 = .ok (.istore 5, 2) := by decide +kernel
theorem dX0_append_15 : decode cX0_append 15 = .ok (.aload_n 0, 1) := by decide +kernel
theorem dX0_append_16 : decode cX0_append 16 = .ok (.getfield 9, 3) := by decide +kernel
theorem dX0_append_19 : decode cX0_append 19 = .ok (.iload 5, 2) := by decide +kernel
theorem dX0_append_21 : decode cX0_append 21 = .ok (.iload_n 1, 1) := by decide +kernel
theorem dX0_append_22 : decode cX0_append 22 = .ok (.iastore, 1) := by decide +kernel
theorem dX0_append_23 : decode cX0_append 23 = .ok (.aload_n 0, 1) := by decide +kernel
theorem dX0_append_24 : decode cX0_append 24 = .ok (.getfield 15, 3) := by decide +kernel
theorem dX0_append_27 : decode cX0_append 27 = .ok (.iload 5, 2) := by decide +kernel
theorem dX0_append_29 : decode cX0_append 29 = .ok (.iload_n 2, 1) := by decide +kernel
theorem dX0_append_30 : decode cX0_append 30 = .ok (.iastore, 1) := by decide +kernel
theorem dX0_append_31 : decode cX0_append 31 = .ok (.iconst 0, 1) := by decide +kernel
theorem dX0_append_32 : decode cX0_append 32 = .ok (.istore 6, 2) := by decide +kernel
theorem dX0_append_34 : decode cX0_append 34 = .ok (.iload 6, 2) := by decide +kernel
theorem dX0_append_36 : decode cX0_append 36 = .ok (.iconst 4, 1) := by decide +kernel
theorem dX0_append_37 : decode cX0_append 37 = .ok (.if_icmp .ge 39, 3) := by decide +kernel
theorem dX0_append_40 : decode cX0_append 40 = .ok (.aload_n 0, 1) := by decide +kernel
theorem dX0_append_41 : decode cX0_append 41 = .ok (.getfield 18, 3) := by decide +kernel
theorem dX0_append_44 : decode cX0_append 44 = .ok (.iload 5, 2) := by decide +kernel
theorem dX0_append_46 : decode cX0_append 46 = .ok (.iconst 4, 1) := by decide +kernel
theorem dX0_append_47 : decode cX0_append 47 = .ok (.imul, 1) := by decide +kernel
theorem dX0_append_48 : decode cX0_append 48 = .ok (.iload 6, 2) := by decide +kernel
theorem dX0_append_50 : decode cX0_append 50 = .ok (.iadd, 1) := by decide +kernel
theorem dX0_append_51 : decode cX0_append 51 = .ok (.iload 6, 2) := by decide +kernel
theorem dX0_append_53 : decode cX0_append 53 = .ok (.iload_n 3, 1) := by decide +kernel
theorem dX0_append_54 : decode cX0_append 54 = .ok (.if_icmp .ne 8, 3) := by decide +kernel
theorem dX0_append_57 : decode cX0_append 57 = .ok (.iload 4, 2) := by decide +kernel
theorem dX0_append_59 : decode cX0_append 59 = .ok (.goto 10, 3) := by decide +kernel
theorem dX0_append_62 : decode cX0_append 62 = .ok (.aload_n 0, 1) := by decide +kernel
theorem dX0_append_63 : decode cX0_append 63 = .ok (.iload_n 1, 1) := by decide +kernel
theorem dX0_append_64 : decode cX0_append 64 = .ok (.iload 6, 2) := by decide +kernel
theorem dX0_append_66 : decode cX0_append 66 = .ok (.invokevirtual 36, 3) := by decide +kernel
theorem dX0_append_69 : decode cX0_append 69 = .ok (.iastore, 1) := by decide +kernel
theorem dX0_append_70 : decode cX0_append 70 = .ok (.iinc 6 1, 3) := by decide +kernel
theorem dX0_append_73 : decode cX0_append 73 = .ok (.goto (-39), 3) := by decide +kernel
theorem dX0_append_76 : decode cX0_append 76 = .ok (.aload_n 0, 1) := by decide +kernel
theorem dX0_append_77 : decode cX0_append 77 = .ok (.dup, 1) := by decide +kernel
theorem dX0_append_78 : decode cX0_append 78 = .ok (.getfield 28, 3) := by decide +kernel
theorem dX0_append_81 : decode cX0_append 81 = .ok (.iconst 1, 1) := by decide +kernel
theorem dX0_append_82 : decode cX0_append 82 = .ok (.iadd, 1) := by decide +kernel
theorem dX0_append_83 : decode cX0_append 83 = .ok (.putfield 28, 3) := by decide +kernel
theorem dX0_append_86 : decode cX0_append 86 = .ok (.iload 5, 2) := by decide +kernel
theorem dX0_append_88 : decode cX0_append 88 = .ok (.ireturn, 1) := by decide +kernel
set_option maxRecDepth 20000 in
theorem ggX0_fileIn_X0_isCommit : GoodIn wsX0_fileIn wsX0_isCommit := goodIn_r _ [6, 7, 11, 12, 13, 14, 15, 16] (by decide +kernel) (by decide +kernel)
set_option maxRecDepth 20000 in
theorem gX0_fileIn_X0_isCommit : GoodIn wsX0_fileIn (wsV RX0 40 RX0 yX0_isCommit wsX0_isCommit) := goodIn_app (goodIn_of _ (by decide +kernel)) ggX0_fileIn_X0_isCommit
set_option maxRecDepth 20000 in
theorem ggX0_fileIn_X2_isSlot : GoodIn wsX0_fileIn wsX2_isSlot := goodIn_r _ [10] (by decide +kernel) (by decide +kernel)
set_option maxRecDepth 20000 in
theorem gX0_fileIn_X2_isSlot_n44 : GoodIn wsX0_fileIn (wsX2_isSlot) := ggX0_fileIn_X2_isSlot
theorem dX0_fileIn_0 : decode cX0_fileIn 0 = .ok (.aload_n 0, 1) := by decide +kernel
theorem dX0_fileIn_1 : decode cX0_fileIn 1 = .ok (.iload_n 1, 1) := by decide +kernel
theorem dX0_fileIn_2 : decode cX0_fileIn 2 = .ok (.invokevirtual 40, 3) := by decide +kernel
theorem dX0_fileIn_5 : decode cX0_fileIn 5 = .ok (.ifCond .eq 23, 3) := by decide +kernel
theorem dX0_fileIn_8 : decode cX0_fileIn 8 = .ok (.iload_n 2, 1) := by decide +kernel
theorem dX0_fileIn_9 : decode cX0_fileIn 9 = .ok (.invokestatic 44, 3) := by decide +kernel
theorem dX0_fileIn_12 : decode cX0_fileIn 12 = .ok (.ifCond .eq 16, 3) := by decide +kernel
theorem dX0_fileIn_15 : decode cX0_fileIn 15 = .ok (.aload_n 0, 1) := by decide +kernel
theorem dX0_fileIn_16 : decode cX0_fileIn 16 = .ok (.getfield 18, 3) := by decide +kernel
theorem dX0_fileIn_19 : decode cX0_fileIn 19 = .ok (.iload_n 1, 1) := by decide +kernel
theorem dX0_fileIn_20 : decode cX0_fileIn 20 = .ok (.iconst 4, 1) := by decide +kernel
theorem dX0_fileIn_21 : decode cX0_fileIn 21 = .ok (.imul, 1) := by decide +kernel
theorem dX0_fileIn_22 : decode cX0_fileIn 22 = .ok (.iload_n 2, 1) := by decide +kernel
theorem dX0_fileIn_23 : decode cX0_fileIn 23 = .ok (.iadd, 1) := by decide +kernel
theorem dX0_fileIn_24 : decode cX0_fileIn 24 = .ok (.iaload, 1) := by decide +kernel
theorem dX0_fileIn_25 : decode cX0_fileIn 25 = .ok (.goto 4, 3) := by decide +kernel
theorem dX0_fileIn_28 : decode cX0_fileIn 28 = .ok (.iconst (-1), 1) := by decide +kernel
theorem dX0_fileIn_29 : decode cX0_fileIn 29 = .ok (.ireturn, 1) := by decide +kernel
set_option maxRecDepth 20000 in
theorem ggX0_filesOf_X2_contains : GoodIn wsX0_filesOf wsX2_contains := goodIn_r _ [5, 6, 7, 4, 8] (by decide +kernel) (by decide +kernel)
set_option maxRecDepth 20000 in
theorem gX0_filesOf_X2_contains_n47 : GoodIn wsX0_filesOf (wsX2_contains) := ggX0_filesOf_X2_contains
set_option maxRecDepth 20000 in
theorem ggX0_filesOf_X0_findFilesOf : GoodIn wsX0_filesOf wsX0_findFilesOf := goodIn_r _ [13, 1, 14, 15, 16, 12, 17, 18, 19, 20, 21, 22, 2, 23, 4, 24, 25, 26, 27, 28, 29, 30, 31, 32] (by decide +kernel) (by decide +kernel)
set_option maxRecDepth 20000 in
theorem gX0_filesOf_X0_findFilesOf : GoodIn wsX0_filesOf (wsV RX0 51 RX0 yX0_findFilesOf wsX0_findFilesOf) := goodIn_app (goodIn_of _ (by decide +kernel)) ggX0_filesOf_X0_findFilesOf
theorem dX0_filesOf_0 : decode cX0_filesOf 0 = .ok (.iconst 0, 1) := by decide +kernel
theorem dX0_filesOf_1 : decode cX0_filesOf 1 = .ok (.istore_n 3, 1) := by decide +kernel
theorem dX0_filesOf_2 : decode cX0_filesOf 2 = .ok (.iload_n 3, 1) := by decide +kernel
theorem dX0_filesOf_3 : decode cX0_filesOf 3 = .ok (.bipush 100, 2) := by decide +kernel
theorem dX0_filesOf_5 : decode cX0_filesOf 5 = .ok (.if_icmp .ge 16, 3) := by decide +kernel
theorem dX0_filesOf_8 : decode cX0_filesOf 8 = .ok (.aload_n 0, 1) := by decide +kernel
theorem dX0_filesOf_9 : decode cX0_filesOf 9 = .ok (.getfield 24, 3) := by decide +kernel
theorem dX0_filesOf_12 : decode cX0_filesOf 12 = .ok (.iload_n 3, 1) := by decide +kernel
theorem dX0_filesOf_13 : decode cX0_filesOf 13 = .ok (.iconst 0, 1) := by decide +kernel
theorem dX0_filesOf_14 : decode cX0_filesOf 14 = .ok (.bastore, 1) := by decide +kernel
theorem dX0_filesOf_15 : decode cX0_filesOf 15 = .ok (.iinc 3 1, 3) := by decide +kernel
theorem dX0_filesOf_18 : decode cX0_filesOf 18 = .ok (.goto (-16), 3) := by decide +kernel
theorem dX0_filesOf_21 : decode cX0_filesOf 21 = .ok (.iconst 0, 1) := by decide +kernel
theorem dX0_filesOf_22 : decode cX0_filesOf 22 = .ok (.istore_n 3, 1) := by decide +kernel
theorem dX0_filesOf_23 : decode cX0_filesOf 23 = .ok (.iload_n 3, 1) := by decide +kernel
theorem dX0_filesOf_24 : decode cX0_filesOf 24 = .ok (.aload_n 0, 1) := by decide +kernel
theorem dX0_filesOf_25 : decode cX0_filesOf 25 = .ok (.getfield 28, 3) := by decide +kernel
theorem dX0_filesOf_28 : decode cX0_filesOf 28 = .ok (.if_icmp .ge 22, 3) := by decide +kernel
theorem dX0_filesOf_31 : decode cX0_filesOf 31 = .ok (.lload_n 1, 1) := by decide +kernel
theorem dX0_filesOf_32 : decode cX0_filesOf 32 = .ok (.iload_n 3, 1) := by decide +kernel
theorem dX0_filesOf_33 : decode cX0_filesOf 33 = .ok (.invokestatic 47, 3) := by decide +kernel
theorem dX0_filesOf_36 : decode cX0_filesOf 36 = .ok (.ifCond .eq 8, 3) := by decide +kernel
theorem dX0_filesOf_39 : decode cX0_filesOf 39 = .ok (.aload_n 0, 1) := by decide +kernel
theorem dX0_filesOf_40 : decode cX0_filesOf 40 = .ok (.iload_n 3, 1) := by decide +kernel
theorem dX0_filesOf_41 : decode cX0_filesOf 41 = .ok (.invokevirtual 51, 3) := by decide +kernel
theorem dX0_filesOf_44 : decode cX0_filesOf 44 = .ok (.iinc 3 1, 3) := by decide +kernel
theorem dX0_filesOf_47 : decode cX0_filesOf 47 = .ok (.goto (-24), 3) := by decide +kernel
theorem dX0_filesOf_50 : decode cX0_filesOf 50 = .ok (.aload_n 0, 1) := by decide +kernel
theorem dX0_filesOf_51 : decode cX0_filesOf 51 = .ok (.getfield 24, 3) := by decide +kernel
theorem dX0_filesOf_54 : decode cX0_filesOf 54 = .ok (.areturn, 1) := by decide +kernel
set_option maxRecDepth 20000 in
theorem ggX0_findFilesOf_X0_fileIn : GoodIn wsX0_findFilesOf wsX0_fileIn := goodIn_r _ [6, 7, 8, 9, 10, 5, 11, 12, 13, 14, 15, 18, 19, 20, 21, 22, 23] (by decide +kernel) (by decide +kernel)
set_option maxRecDepth 20000 in
theorem gX0_findFilesOf_X0_fileIn : GoodIn wsX0_findFilesOf (wsV RX0 36 RX0 yX0_fileIn wsX0_fileIn) := goodIn_app (goodIn_of _ (by decide +kernel)) ggX0_findFilesOf_X0_fileIn
set_option maxRecDepth 20000 in
theorem ggX0_findFilesOf_X2_isFile : GoodIn wsX0_findFilesOf wsX2_isFile := goodIn_r _ [17] (by decide +kernel) (by decide +kernel)
set_option maxRecDepth 20000 in
theorem gX0_findFilesOf_X2_isFile_n55 : GoodIn wsX0_findFilesOf (wsX2_isFile) := ggX0_findFilesOf_X2_isFile
theorem dX0_findFilesOf_0 : decode cX0_findFilesOf 0 = .ok (.iconst 0, 1) := by decide +kernel
theorem dX0_findFilesOf_1 : decode cX0_findFilesOf 1 = .ok (.istore_n 2, 1) := by decide +kernel
theorem dX0_findFilesOf_2 : decode cX0_findFilesOf 2 = .ok (.iload_n 2, 1) := by decide +kernel
theorem dX0_findFilesOf_3 : decode cX0_findFilesOf 3 = .ok (.iconst 4, 1) := by decide +kernel
theorem dX0_findFilesOf_4 : decode cX0_findFilesOf 4 = .ok (.if_icmp .ge 30, 3) := by decide +kernel
theorem dX0_findFilesOf_7 : decode cX0_findFilesOf 7 = .ok (.aload_n 0, 1) := by decide +kernel
theorem dX0_findFilesOf_8 : decode cX0_findFilesOf 8 = .ok (.iload_n 1, 1) := by decide +kernel
theorem dX0_findFilesOf_9 : decode cX0_findFilesOf 9 = .ok (.iload_n 2, 1) := by decide +kernel
theorem dX0_findFilesOf_10 : decode cX0_findFilesOf 10 = .ok (.invokevirtual 36, 3) := by decide +kernel
theorem dX0_findFilesOf_13 : decode cX0_findFilesOf 13 = .ok (.istore_n 3, 1) := by decide +kernel
theorem dX0_findFilesOf_14 : decode cX0_findFilesOf 14 = .ok (.iload_n 3, 1) := by decide +kernel
theorem dX0_findFilesOf_15 : decode cX0_findFilesOf 15 = .ok (.invokestatic 55, 3) := by decide +kernel
theorem dX0_findFilesOf_18 : decode cX0_findFilesOf 18 = .ok (.ifCond .eq 10, 3) := by decide +kernel
theorem dX0_findFilesOf_21 : decode cX0_findFilesOf 21 = .ok (.aload_n 0, 1) := by decide +kernel
theorem dX0_findFilesOf_22 : decode cX0_findFilesOf 22 = .ok (.getfield 24, 3) := by decide +kernel
theorem dX0_findFilesOf_25 : decode cX0_findFilesOf 25 = .ok (.iload_n 3, 1) := by decide +kernel
theorem dX0_findFilesOf_26 : decode cX0_findFilesOf 26 = .ok (.iconst 1, 1) := by decide +kernel
theorem dX0_findFilesOf_27 : decode cX0_findFilesOf 27 = .ok (.bastore, 1) := by decide +kernel
theorem dX0_findFilesOf_28 : decode cX0_findFilesOf 28 = .ok (.iinc 2 1, 3) := by decide +kernel
theorem dX0_findFilesOf_31 : decode cX0_findFilesOf 31 = .ok (.goto (-29), 3) := by decide +kernel
theorem dX0_findFilesOf_34 : decode cX0_findFilesOf 34 = .ok (.return_, 1) := by decide +kernel
set_option maxRecDepth 20000 in
theorem ggX0_parentsOf_X0_isCommit : GoodIn wsX0_parentsOf wsX0_isCommit := goodIn_r _ [7, 8, 12, 13, 14, 15, 16, 17] (by decide +kernel) (by decide +kernel)
set_option maxRecDepth 20000 in
theorem gX0_parentsOf_X0_isCommit : GoodIn wsX0_parentsOf (wsV RX0 40 RX0 yX0_isCommit wsX0_isCommit) := goodIn_app (goodIn_of _ (by decide +kernel)) ggX0_parentsOf_X0_isCommit
set_option maxRecDepth 20000 in
theorem ggX0_parentsOf_X2_setOf : GoodIn wsX0_parentsOf wsX2_setOf := goodIn_r _ [11] (by decide +kernel) (by decide +kernel)
set_option maxRecDepth 20000 in
theorem gX0_parentsOf_X2_setOf_n58 : GoodIn wsX0_parentsOf (wsX2_setOf) := ggX0_parentsOf_X2_setOf
theorem dX0_parentsOf_0 : decode cX0_parentsOf 0 = .ok (.aload_n 0, 1) := by decide +kernel
theorem dX0_parentsOf_1 : decode cX0_parentsOf 1 = .ok (.iload_n 1, 1) := by decide +kernel
theorem dX0_parentsOf_2 : decode cX0_parentsOf 2 = .ok (.invokevirtual 40, 3) := by decide +kernel
theorem dX0_parentsOf_5 : decode cX0_parentsOf 5 = .ok (.ifCond .eq 25, 3) := by decide +kernel
theorem dX0_parentsOf_8 : decode cX0_parentsOf 8 = .ok (.aload_n 0, 1) := by decide +kernel
theorem dX0_parentsOf_9 : decode cX0_parentsOf 9 = .ok (.getfield 9, 3) := by decide +kernel
theorem dX0_parentsOf_12 : decode cX0_parentsOf 12 = .ok (.iload_n 1, 1) := by decide +kernel
theorem dX0_parentsOf_13 : decode cX0_parentsOf 13 = .ok (.iaload, 1) := by decide +kernel
theorem dX0_parentsOf_14 : decode cX0_parentsOf 14 = .ok (.invokestatic 58, 3) := by decide +kernel
theorem dX0_parentsOf_17 : decode cX0_parentsOf 17 = .ok (.aload_n 0, 1) := by decide +kernel
theorem dX0_parentsOf_18 : decode cX0_parentsOf 18 = .ok (.getfield 15, 3) := by decide +kernel
theorem dX0_parentsOf_21 : decode cX0_parentsOf 21 = .ok (.iload_n 1, 1) := by decide +kernel
theorem dX0_parentsOf_22 : decode cX0_parentsOf 22 = .ok (.iaload, 1) := by decide +kernel
theorem dX0_parentsOf_23 : decode cX0_parentsOf 23 = .ok (.invokestatic 58, 3) := by decide +kernel
theorem dX0_parentsOf_26 : decode cX0_parentsOf 26 = .ok (.lor, 1) := by decide +kernel
theorem dX0_parentsOf_27 : decode cX0_parentsOf 27 = .ok (.goto 4, 3) := by decide +kernel
theorem dX0_parentsOf_30 : decode cX0_parentsOf 30 = .ok (.lconst 0, 1) := by decide +kernel
theorem dX0_parentsOf_31 : decode cX0_parentsOf 31 = .ok (.lreturn, 1) := by decide +kernel
set_option maxRecDepth 20000 in
theorem ggX0_shallowOf_X2_contains : GoodIn wsX0_shallowOf wsX2_contains := goodIn_r _ [5, 6, 7, 4, 8] (by decide +kernel) (by decide +kernel)
set_option maxRecDepth 20000 in
theorem gX0_shallowOf_X2_contains_n47 : GoodIn wsX0_shallowOf (wsX2_contains) := ggX0_shallowOf_X2_contains
set_option maxRecDepth 20000 in
theorem ggX0_shallowOf_X0_parentsOf : GoodIn wsX0_shallowOf wsX0_parentsOf := goodIn_r _ [13, 14, 15, 16, 17, 18, 12, 19, 1, 7, 4, 8, 20, 21, 22, 23, 24, 25] (by decide +kernel) (by decide +kernel)
set_option maxRecDepth 20000 in
theorem gX0_shallowOf_X0_parentsOf : GoodIn wsX0_shallowOf (wsV RX0 62 RX0 yX0_parentsOf wsX0_parentsOf) := goodIn_app (goodIn_of _ (by decide +kernel)) ggX0_shallowOf_X0_parentsOf
set_option maxRecDepth 20000 in
theorem ggX0_shallowOf_X2_setOf : GoodIn wsX0_shallowOf wsX2_setOf := goodIn_r _ [8] (by decide +kernel) (by decide +kernel)
set_option maxRecDepth 20000 in
theorem gX0_shallowOf_X2_setOf_n58 : GoodIn wsX0_shallowOf (wsX2_setOf) := ggX0_shallowOf_X2_setOf
theorem dX0_shallowOf_0 : decode cX0_shallowOf 0 = .ok (.lconst 0, 1) := by decide +kernel
theorem dX0_shallowOf_1 : decode cX0_shallowOf 1 = .ok (.lstore_n 3, 1) := by decide +kernel
theorem dX0_shallowOf_2 : decode cX0_shallowOf 2 = .ok (.iconst 0, 1) := by decide +kernel
theorem dX0_shallowOf_3 : decode cX0_shallowOf 3 = .ok (.istore 5, 2) := by decide +kernel
theorem dX0_shallowOf_5 : decode cX0_shallowOf 5 = .ok (.iload 5, 2) := by decide +kernel
theorem dX0_shallowOf_7 : decode cX0_shallowOf 7 = .ok (.aload_n 0, 1) := by decide +kernel
theorem dX0_shallowOf_8 : decode cX0_shallowOf 8 = .ok (.getfield 28, 3) := by decide +kernel
theorem dX0_shallowOf_11 : decode cX0_shallowOf 11 = .ok (.if_icmp .ge 43, 3) := by decide +kernel
theorem dX0_shallowOf_14 : decode cX0_shallowOf 14 = .ok (.lload_n 1, 1) := by decide +kernel
theorem dX0_shallowOf_15 : decode cX0_shallowOf 15 = .ok (.iload 5, 2) := by decide +kernel
theorem dX0_shallowOf_17 : decode cX0_shallowOf 17 = .ok (.invokestatic 47, 3) := by decide +kernel
theorem dX0_shallowOf_20 : decode cX0_shallowOf 20 = .ok (.ifCond .eq 28, 3) := by decide +kernel
theorem dX0_shallowOf_23 : decode cX0_shallowOf 23 = .ok (.aload_n 0, 1) := by decide +kernel
theorem dX0_shallowOf_24 : decode cX0_shallowOf 24 = .ok (.iload 5, 2) := by decide +kernel
theorem dX0_shallowOf_26 : decode cX0_shallowOf 26 = .ok (.invokevirtual 62, 3) := by decide +kernel
theorem dX0_shallowOf_29 : decode cX0_shallowOf 29 = .ok (.lload_n 1, 1) := by decide +kernel
theorem dX0_shallowOf_30 : decode cX0_shallowOf 30 = .ok (.ldc2_w 65, 3) := by decide +kernel
theorem dX0_shallowOf_33 : decode cX0_shallowOf 33 = .ok (.lxor, 1) := by decide +kernel
theorem dX0_shallowOf_34 : decode cX0_shallowOf 34 = .ok (.land, 1) := by decide +kernel
theorem dX0_shallowOf_35 : decode cX0_shallowOf 35 = .ok (.lconst 0, 1) := by decide +kernel
theorem dX0_shallowOf_36 : decode cX0_shallowOf 36 = .ok (.lcmp, 1) := by decide +kernel
theorem dX0_shallowOf_37 : decode cX0_shallowOf 37 = .ok (.ifCond .eq 11, 3) := by decide +kernel
theorem dX0_shallowOf_40 : decode cX0_shallowOf 40 = .ok (.lload_n 3, 1) := by decide +kernel
theorem dX0_shallowOf_41 : decode cX0_shallowOf 41 = .ok (.iload 5, 2) := by decide +kernel
theorem dX0_shallowOf_43 : decode cX0_shallowOf 43 = .ok (.invokestatic 58, 3) := by decide +kernel
theorem dX0_shallowOf_46 : decode cX0_shallowOf 46 = .ok (.lor, 1) := by decide +kernel
theorem dX0_shallowOf_47 : decode cX0_shallowOf 47 = .ok (.lstore_n 3, 1) := by decide +kernel
theorem dX0_shallowOf_48 : decode cX0_shallowOf 48 = .ok (.iinc 5 1, 3) := by decide +kernel
theorem dX0_shallowOf_51 : decode cX0_shallowOf 51 = .ok (.goto (-46), 3) := by decide +kernel
theorem dX0_shallowOf_54 : decode cX0_shallowOf 54 = .ok (.lload_n 3, 1) := by decide +kernel
theorem dX0_shallowOf_55 : decode cX0_shallowOf 55 = .ok (.lreturn, 1) := by decide +kernel
set_option maxRecDepth 20000 in
theorem ggX0_ancestorsOf_X0_shallowOf : GoodIn wsX0_ancestorsOf wsX0_shallowOf := goodIn_r _ [7, 1, 2, 8, 9, 10, 11, 12, 13, 14, 15, 16, 6, 17, 18, 19, 20, 21, 22, 23, 24, 25, 26, 27, 28, 29] (by decide +kernel) (by decide +kernel)
set_option maxRecDepth 20000 in
theorem gX0_ancestorsOf_X0_shallowOf : GoodIn wsX0_ancestorsOf (wsV RX0 67 RX0 yX0_shallowOf wsX0_shallowOf) := goodIn_app (goodIn_of _ (by decide +kernel)) ggX0_ancestorsOf_X0_shallowOf
set_option maxRecDepth 20000 in
theorem ggX0_ancestorsOf_X2_contains : GoodIn wsX0_ancestorsOf wsX2_contains := goodIn_r _ [10, 11, 12, 9, 13] (by decide +kernel) (by decide +kernel)
set_option maxRecDepth 20000 in
theorem gX0_ancestorsOf_X2_contains_n47 : GoodIn wsX0_ancestorsOf (wsX2_contains) := ggX0_ancestorsOf_X2_contains
set_option maxRecDepth 20000 in
theorem ggX0_ancestorsOf_X0_parentsOf : GoodIn wsX0_ancestorsOf wsX0_parentsOf := goodIn_r _ [17, 18, 19, 20, 21, 22, 6, 23, 1, 12, 9, 13, 24, 25, 26, 27, 28, 29] (by decide +kernel) (by decide +kernel)
set_option maxRecDepth 20000 in
theorem gX0_ancestorsOf_X0_parentsOf : GoodIn wsX0_ancestorsOf (wsV RX0 62 RX0 yX0_parentsOf wsX0_parentsOf) := goodIn_app (goodIn_of _ (by decide +kernel)) ggX0_ancestorsOf_X0_parentsOf
theorem dX0_ancestorsOf_0 : decode cX0_ancestorsOf 0 = .ok (.aload_n 0, 1) := by decide +kernel
theorem dX0_ancestorsOf_1 : decode cX0_ancestorsOf 1 = .ok (.lload_n 3, 1) := by decide +kernel
theorem dX0_ancestorsOf_2 : decode cX0_ancestorsOf 2 = .ok (.invokevirtual 67, 3) := by decide +kernel
theorem dX0_ancestorsOf_5 : decode cX0_ancestorsOf 5 = .ok (.lstore 5, 2) := by decide +kernel
theorem dX0_ancestorsOf_7 : decode cX0_ancestorsOf 7 = .ok (.lload_n 1, 1) := by decide +kernel
theorem dX0_ancestorsOf_8 : decode cX0_ancestorsOf 8 = .ok (.lload_n 3, 1) := by decide +kernel
theorem dX0_ancestorsOf_9 : decode cX0_ancestorsOf 9 = .ok (.land, 1) := by decide +kernel
theorem dX0_ancestorsOf_10 : decode cX0_ancestorsOf 10 = .ok (.lstore 7, 2) := by decide +kernel
theorem dX0_ancestorsOf_12 : decode cX0_ancestorsOf 12 = .ok (.aload_n 0, 1) := by decide +kernel
theorem dX0_ancestorsOf_13 : decode cX0_ancestorsOf 13 = .ok (.getfield 28, 3) := by decide +kernel
theorem dX0_ancestorsOf_16 : decode cX0_ancestorsOf 16 = .ok (.iconst 1, 1) := by decide +kernel
theorem dX0_ancestorsOf_17 : decode cX0_ancestorsOf 17 = .ok (.isub, 1) := by decide +kernel
theorem dX0_ancestorsOf_18 : decode cX0_ancestorsOf 18 = .ok (.istore 9, 2) := by decide +kernel
theorem dX0_ancestorsOf_20 : decode cX0_ancestorsOf 20 = .ok (.iload 9, 2) := by decide +kernel
theorem dX0_ancestorsOf_22 : decode cX0_ancestorsOf 22 = .ok (.ifCond .lt 37, 3) := by decide +kernel
theorem dX0_ancestorsOf_25 : decode cX0_ancestorsOf 25 = .ok (.lload 7, 2) := by decide +kernel
theorem dX0_ancestorsOf_27 : decode cX0_ancestorsOf 27 = .ok (.lload 5, 2) := by decide +kernel
theorem dX0_ancestorsOf_29 : decode cX0_ancestorsOf 29 = .ok (.ldc2_w 65, 3) := by decide +kernel
theorem dX0_ancestorsOf_32 : decode cX0_ancestorsOf 32 = .ok (.lxor, 1) := by decide +kernel
theorem dX0_ancestorsOf_33 : decode cX0_ancestorsOf 33 = .ok (.land, 1) := by decide +kernel
theorem dX0_ancestorsOf_34 : decode cX0_ancestorsOf 34 = .ok (.iload 9, 2) := by decide +kernel
theorem dX0_ancestorsOf_36 : decode cX0_ancestorsOf 36 = .ok (.invokestatic 47, 3) := by decide +kernel
theorem dX0_ancestorsOf_39 : decode cX0_ancestorsOf 39 = .ok (.ifCond .eq 14, 3) := by decide +kernel
theorem dX0_ancestorsOf_42 : decode cX0_ancestorsOf 42 = .ok (.lload 7, 2) := by decide +kernel
theorem dX0_ancestorsOf_44 : decode cX0_ancestorsOf 44 = .ok (.aload_n 0, 1) := by decide +kernel
theorem dX0_ancestorsOf_45 : decode cX0_ancestorsOf 45 = .ok (.iload 9, 2) := by decide +kernel
theorem dX0_ancestorsOf_47 : decode cX0_ancestorsOf 47 = .ok (.invokevirtual 62, 3) := by decide +kernel
theorem dX0_ancestorsOf_50 : decode cX0_ancestorsOf 50 = .ok (.lor, 1) := by decide +kernel
theorem dX0_ancestorsOf_51 : decode cX0_ancestorsOf 51 = .ok (.lstore 7, 2) := by decide +kernel
theorem dX0_ancestorsOf_53 : decode cX0_ancestorsOf 53 = .ok (.iinc 9 (-1), 3) := by decide +kernel
theorem dX0_ancestorsOf_56 : decode cX0_ancestorsOf 56 = .ok (.goto (-36), 3) := by decide +kernel
theorem dX0_ancestorsOf_59 : decode cX0_ancestorsOf 59 = .ok (.lload 7, 2) := by decide +kernel
theorem dX0_ancestorsOf_61 : decode cX0_ancestorsOf 61 = .ok (.lreturn, 1) := by decide +kernel
set_option maxRecDepth 20000 in
theorem ggX0_reachOf_X0_isCommit : GoodIn wsX0_reachOf wsX0_isCommit := goodIn_r _ [8, 9, 21, 22, 23, 24, 25, 26] (by decide +kernel) (by decide +kernel)
set_option maxRecDepth 20000 in
theorem gX0_reachOf_X0_isCommit : GoodIn wsX0_reachOf (wsV RX0 40 RX0 yX0_isCommit wsX0_isCommit) := goodIn_app (goodIn_of _ (by decide +kernel)) ggX0_reachOf_X0_isCommit
set_option maxRecDepth 20000 in
theorem ggX0_reachOf_J7_fill_53178 : GoodIn wsX0_reachOf wsJ7_fill_53178 := goodIn_r _ [13] (by decide +kernel) (by decide +kernel)
set_option maxRecDepth 20000 in
theorem gX0_reachOf_J7_fill_53178 : GoodIn wsX0_reachOf (va_wsS RX0 71 yJ7_fill_53178 wsJ7_fill_53178) := goodIn_app (goodIn_of _ (by decide +kernel)) ggX0_reachOf_J7_fill_53178
set_option maxRecDepth 20000 in
theorem ggX0_reachOf_X2_setOf : GoodIn wsX0_reachOf wsX2_setOf := goodIn_r _ [16] (by decide +kernel) (by decide +kernel)
set_option maxRecDepth 20000 in
theorem gX0_reachOf_X2_setOf_n58 : GoodIn wsX0_reachOf (wsX2_setOf) := ggX0_reachOf_X2_setOf
set_option maxRecDepth 20000 in
theorem ggX0_reachOf_X0_comeTo : GoodIn wsX0_reachOf wsX0_comeTo := goodIn_r _ [20, 1, 4, 5, 6, 7, 8, 9, 21, 22, 23, 24, 25, 26] (by decide +kernel) (by decide +kernel)
set_option maxRecDepth 20000 in
theorem gX0_reachOf_X0_comeTo : GoodIn wsX0_reachOf (wsV RX0 77 RX0 yX0_comeTo wsX0_comeTo) := goodIn_app (goodIn_of _ (by decide +kernel)) ggX0_reachOf_X0_comeTo
theorem dX0_reachOf_0 : decode cX0_reachOf 0 = .ok (.aload_n 0, 1) := by decide +kernel
theorem dX0_reachOf_1 : decode cX0_reachOf 1 = .ok (.iload_n 1, 1) := by decide +kernel
theorem dX0_reachOf_2 : decode cX0_reachOf 2 = .ok (.invokevirtual 40, 3) := by decide +kernel
theorem dX0_reachOf_5 : decode cX0_reachOf 5 = .ok (.ifCond .ne 5, 3) := by decide +kernel
theorem dX0_reachOf_8 : decode cX0_reachOf 8 = .ok (.lconst 0, 1) := by decide +kernel
theorem dX0_reachOf_9 : decode cX0_reachOf 9 = .ok (.lreturn, 1) := by decide +kernel
theorem dX0_reachOf_10 : decode cX0_reachOf 10 = .ok (.iload_n 2, 1) := by decide +kernel
theorem dX0_reachOf_11 : decode cX0_reachOf 11 = .ok (.ifCond .ne 8, 3) := by decide +kernel
theorem dX0_reachOf_14 : decode cX0_reachOf 14 = .ok (.bipush 60, 2) := by decide +kernel
theorem dX0_reachOf_16 : decode cX0_reachOf 16 = .ok (.goto 4, 3) := by decide +kernel
theorem dX0_reachOf_19 : decode cX0_reachOf 19 = .ok (.iload_n 2, 1) := by decide +kernel
theorem dX0_reachOf_20 : decode cX0_reachOf 20 = .ok (.istore_n 3, 1) := by decide +kernel
theorem dX0_reachOf_21 : decode cX0_reachOf 21 = .ok (.aload_n 0, 1) := by decide +kernel
theorem dX0_reachOf_22 : decode cX0_reachOf 22 = .ok (.getfield 21, 3) := by decide +kernel
theorem dX0_reachOf_25 : decode cX0_reachOf 25 = .ok (.iload_n 3, 1) := by decide +kernel
theorem dX0_reachOf_26 : decode cX0_reachOf 26 = .ok (.invokestatic 71, 3) := by decide +kernel
theorem dX0_reachOf_29 : decode cX0_reachOf 29 = .ok (.aload_n 0, 1) := by decide +kernel
theorem dX0_reachOf_30 : decode cX0_reachOf 30 = .ok (.getfield 21, 3) := by decide +kernel
theorem dX0_reachOf_33 : decode cX0_reachOf 33 = .ok (.iload_n 1, 1) := by decide +kernel
theorem dX0_reachOf_34 : decode cX0_reachOf 34 = .ok (.iconst 0, 1) := by decide +kernel
theorem dX0_reachOf_35 : decode cX0_reachOf 35 = .ok (.iastore, 1) := by decide +kernel
theorem dX0_reachOf_36 : decode cX0_reachOf 36 = .ok (.lconst 0, 1) := by decide +kernel
theorem dX0_reachOf_37 : decode cX0_reachOf 37 = .ok (.lstore 4, 2) := by decide +kernel
theorem dX0_reachOf_39 : decode cX0_reachOf 39 = .ok (.iload_n 1, 1) := by decide +kernel
theorem dX0_reachOf_40 : decode cX0_reachOf 40 = .ok (.istore 6, 2) := by decide +kernel
theorem dX0_reachOf_42 : decode cX0_reachOf 42 = .ok (.iload 6, 2) := by decide +kernel
theorem dX0_reachOf_44 : decode cX0_reachOf 44 = .ok (.ifCond .lt 64, 3) := by decide +kernel
theorem dX0_reachOf_47 : decode cX0_reachOf 47 = .ok (.aload_n 0, 1) := by decide +kernel
theorem dX0_reachOf_48 : decode cX0_reachOf 48 = .ok (.getfield 21, 3) := by decide +kernel
theorem dX0_reachOf_51 : decode cX0_reachOf 51 = .ok (.iload 6, 2) := by decide +kernel
theorem dX0_reachOf_53 : decode cX0_reachOf 53 = .ok (.iaload, 1) := by decide +kernel
theorem dX0_reachOf_54 : decode cX0_reachOf 54 = .ok (.istore 7, 2) := by decide +kernel
theorem dX0_reachOf_56 : decode cX0_reachOf 56 = .ok (.iload 7, 2) := by decide +kernel
theorem dX0_reachOf_58 : decode cX0_reachOf 58 = .ok (.iload_n 3, 1) := by decide +kernel
theorem dX0_reachOf_59 : decode cX0_reachOf 59 = .ok (.if_icmp .ge 43, 3) := by decide +kernel
theorem dX0_reachOf_62 : decode cX0_reachOf 62 = .ok (.lload 4, 2) := by decide +kernel
theorem dX0_reachOf_64 : decode cX0_reachOf 64 = .ok (.iload 6, 2) := by decide +kernel
theorem dX0_reachOf_66 : decode cX0_reachOf 66 = .ok (.invokestatic 58, 3) := by decide +kernel
theorem dX0_reachOf_69 : decode cX0_reachOf 69 = .ok (.lor, 1) := by decide +kernel
theorem dX0_reachOf_70 : decode cX0_reachOf 70 = .ok (.lstore 4, 2) := by decide +kernel
theorem dX0_reachOf_72 : decode cX0_reachOf 72 = .ok (.aload_n 0, 1) := by decide +kernel
theorem dX0_reachOf_73 : decode cX0_reachOf 73 = .ok (.aload_n 0, 1) := by decide +kernel
theorem dX0_reachOf_74 : decode cX0_reachOf 74 = .ok (.getfield 9, 3) := by decide +kernel
theorem dX0_reachOf_77 : decode cX0_reachOf 77 = .ok (.iload 6, 2) := by decide +kernel
theorem dX0_reachOf_79 : decode cX0_reachOf 79 = .ok (.iaload, 1) := by decide +kernel
theorem dX0_reachOf_80 : decode cX0_reachOf 80 = .ok (.iload 7, 2) := by decide +kernel
theorem dX0_reachOf_82 : decode cX0_reachOf 82 = .ok (.iconst 1, 1) := by decide +kernel
theorem dX0_reachOf_83 : decode cX0_reachOf 83 = .ok (.iadd, 1) := by decide +kernel
theorem dX0_reachOf_84 : decode cX0_reachOf 84 = .ok (.invokevirtual 77, 3) := by decide +kernel
theorem dX0_reachOf_87 : decode cX0_reachOf 87 = .ok (.aload_n 0, 1) := by decide +kernel
theorem dX0_reachOf_88 : decode cX0_reachOf 88 = .ok (.aload_n 0, 1) := by decide +kernel
theorem dX0_reachOf_89 : decode cX0_reachOf 89 = .ok (.getfield 15, 3) := by decide +kernel
theorem dX0_reachOf_92 : decode cX0_reachOf 92 = .ok (.iload 6, 2) := by decide +kernel
theorem dX0_reachOf_94 : decode cX0_reachOf 94 = .ok (.iaload, 1) := by decide +kernel
theorem dX0_reachOf_95 : decode cX0_reachOf 95 = .ok (.iload 7, 2) := by decide +kernel
theorem dX0_reachOf_97 : decode cX0_reachOf 97 = .ok (.iconst 1, 1) := by decide +kernel
theorem dX0_reachOf_98 : decode cX0_reachOf 98 = .ok (.iadd, 1) := by decide +kernel
theorem dX0_reachOf_99 : decode cX0_reachOf 99 = .ok (.invokevirtual 77, 3) := by decide +kernel
theorem dX0_reachOf_102 : decode cX0_reachOf 102 = .ok (.iinc 6 (-1), 3) := by decide +kernel
theorem dX0_reachOf_105 : decode cX0_reachOf 105 = .ok (.goto (-63), 3) := by decide +kernel
theorem dX0_reachOf_108 : decode cX0_reachOf 108 = .ok (.lload 4, 2) := by decide +kernel
theorem dX0_reachOf_110 : decode cX0_reachOf 110 = .ok (.lreturn, 1) := by decide +kernel
set_option maxRecDepth 20000 in
theorem ggX0_comeTo_X0_isCommit : GoodIn wsX0_comeTo wsX0_isCommit := goodIn_r _ [6, 7, 8, 9, 10, 11, 12, 13] (by decide +kernel) (by decide +kernel)
set_option maxRecDepth 20000 in
theorem gX0_comeTo_X0_isCommit : GoodIn wsX0_comeTo (wsV RX0 40 RX0 yX0_isCommit wsX0_isCommit) := goodIn_app (goodIn_of _ (by decide +kernel)) ggX0_comeTo_X0_isCommit
theorem dX0_comeTo_0 : decode cX0_comeTo 0 = .ok (.aload_n 0, 1) := by decide +kernel
theorem dX0_comeTo_1 : decode cX0_comeTo 1 = .ok (.iload_n 1, 1) := by decide +kernel
theorem dX0_comeTo_2 : decode cX0_comeTo 2 = .ok (.invokevirtual 40, 3) := by decide +kernel
theorem dX0_comeTo_5 : decode cX0_comeTo 5 = .ok (.ifCond .eq 20, 3) := by decide +kernel
theorem dX0_comeTo_8 : decode cX0_comeTo 8 = .ok (.iload_n 2, 1) := by decide +kernel
theorem dX0_comeTo_9 : decode cX0_comeTo 9 = .ok (.aload_n 0, 1) := by decide +kernel
theorem dX0_comeTo_10 : decode cX0_comeTo 10 = .ok (.getfield 21, 3) := by decide +kernel
theorem dX0_comeTo_13 : decode cX0_comeTo 13 = .ok (.iload_n 1, 1) := by decide +kernel
theorem dX0_comeTo_14 : decode cX0_comeTo 14 = .ok (.iaload, 1) := by decide +kernel
theorem dX0_comeTo_15 : decode cX0_comeTo 15 = .ok (.if_icmp .ge 10, 3) := by decide +kernel
theorem dX0_comeTo_18 : decode cX0_comeTo 18 = .ok (.aload_n 0, 1) := by decide +kernel
theorem dX0_comeTo_19 : decode cX0_comeTo 19 = .ok (.getfield 21, 3) := by decide +kernel
theorem dX0_comeTo_22 : decode cX0_comeTo 22 = .ok (.iload_n 1, 1) := by decide +kernel
theorem dX0_comeTo_23 : decode cX0_comeTo 23 = .ok (.iload_n 2, 1) := by decide +kernel
theorem dX0_comeTo_24 : decode cX0_comeTo 24 = .ok (.iastore, 1) := by decide +kernel
theorem dX0_comeTo_25 : decode cX0_comeTo 25 = .ok (.return_, 1) := by decide +kernel
end
section
set_option maxRecDepth 20000 in
theorem ggX1_init_J7_fill_53178 : GoodIn wsX1_init wsJ7_fill_53178 := goodIn_r _ [11] (by decide +kernel) (by decide +kernel)
set_option maxRecDepth 20000 in
theorem gX1_init_J7_fill_53178 : GoodIn wsX1_init (va_wsS RX1 19 yJ7_fill_53178 wsJ7_fill_53178) := goodIn_app (goodIn_of _ (by decide +kernel)) ggX1_init_J7_fill_53178
theorem dX1_init_0 : decode cX1_init 0 = .ok (.aload_n 0, 1) := by decide +kernel
theorem dX1_init_1 : decode cX1_init 1 = .ok (.invokespecial 3, 3) := by decide +kernel
theorem dX1_init_4 : decode cX1_init 4 = .ok (.aload_n 0, 1) := by decide +kernel
theorem dX1_init_5 : decode cX1_init 5 = .ok (.bipush 100, 2) := by decide +kernel
theorem dX1_init_7 : decode cX1_init 7 = .ok (.newarray .boolean, 2) := by decide +kernel
theorem dX1_init_9 : decode cX1_init 9 = .ok (.putfield 9, 3) := by decide +kernel
theorem dX1_init_12 : decode cX1_init 12 = .ok (.aload_n 0, 1) := by decide +kernel
theorem dX1_init_13 : decode cX1_init 13 = .ok (.iconst 4, 1) := by decide +kernel
theorem dX1_init_14 : decode cX1_init 14 = .ok (.newarray .int, 2) := by decide +kernel
theorem dX1_init_16 : decode cX1_init 16 = .ok (.putfield 15, 3) := by decide +kernel
theorem dX1_init_19 : decode cX1_init 19 = .ok (.aload_n 0, 1) := by decide +kernel
theorem dX1_init_20 : decode cX1_init 20 = .ok (.getfield 15, 3) := by decide +kernel
theorem dX1_init_23 : decode cX1_init 23 = .ok (.iconst (-1), 1) := by decide +kernel
theorem dX1_init_24 : decode cX1_init 24 = .ok (.invokestatic 19, 3) := by decide +kernel
theorem dX1_init_27 : decode cX1_init 27 = .ok (.return_, 1) := by decide +kernel
set_option maxRecDepth 20000 in
theorem ggX1_commitOfRef_X2_isRef : GoodIn wsX1_commitOfRef wsX2_isRef := goodIn_r _ [4] (by decide +kernel) (by decide +kernel)
set_option maxRecDepth 20000 in
theorem gX1_commitOfRef_X2_isRef_n25 : GoodIn wsX1_commitOfRef (wsX2_isRef) := ggX1_commitOfRef_X2_isRef
theorem dX1_commitOfRef_0 : decode cX1_commitOfRef 0 = .ok (.iload_n 1, 1) := by decide +kernel
theorem dX1_commitOfRef_1 : decode cX1_commitOfRef 1 = .ok (.invokestatic 25, 3) := by decide +kernel
theorem dX1_commitOfRef_4 : decode cX1_commitOfRef 4 = .ok (.ifCond .eq 12, 3) := by decide +kernel
theorem dX1_commitOfRef_7 : decode cX1_commitOfRef 7 = .ok (.aload_n 0, 1) := by decide +kernel
theorem dX1_commitOfRef_8 : decode cX1_commitOfRef 8 = .ok (.getfield 15, 3) := by decide +kernel
theorem dX1_commitOfRef_11 : decode cX1_commitOfRef 11 = .ok (.iload_n 1, 1) := by decide +kernel
theorem dX1_commitOfRef_12 : decode cX1_commitOfRef 12 = .ok (.iaload, 1) := by decide +kernel
theorem dX1_commitOfRef_13 : decode cX1_commitOfRef 13 = .ok (.goto 4, 3) := by decide +kernel
theorem dX1_commitOfRef_16 : decode cX1_commitOfRef 16 = .ok (.iconst (-1), 1) := by decide +kernel
theorem dX1_commitOfRef_17 : decode cX1_commitOfRef 17 = .ok (.ireturn, 1) := by decide +kernel
set_option maxRecDepth 20000 in
theorem ggX1_pointRef_X2_isRef : GoodIn wsX1_pointRef wsX2_isRef := goodIn_r _ [4] (by decide +kernel) (by decide +kernel)
set_option maxRecDepth 20000 in
theorem gX1_pointRef_X2_isRef_n25 : GoodIn wsX1_pointRef (wsX2_isRef) := ggX1_pointRef_X2_isRef
theorem dX1_pointRef_0 : decode cX1_pointRef 0 = .ok (.iload_n 1, 1) := by decide +kernel
theorem dX1_pointRef_1 : decode cX1_pointRef 1 = .ok (.invokestatic 25, 3) := by decide +kernel
theorem dX1_pointRef_4 : decode cX1_pointRef 4 = .ok (.ifCond .eq 10, 3) := by decide +kernel
theorem dX1_pointRef_7 : decode cX1_pointRef 7 = .ok (.aload_n 0, 1) := by decide +kernel
theorem dX1_pointRef_8 : decode cX1_pointRef 8 = .ok (.getfield 15, 3) := by decide +kernel
theorem dX1_pointRef_11 : decode cX1_pointRef 11 = .ok (.iload_n 1, 1) := by decide +kernel
theorem dX1_pointRef_12 : decode cX1_pointRef 12 = .ok (.iload_n 2, 1) := by decide +kernel
theorem dX1_pointRef_13 : decode cX1_pointRef 13 = .ok (.iastore, 1) := by decide +kernel
theorem dX1_pointRef_14 : decode cX1_pointRef 14 = .ok (.return_, 1) := by decide +kernel
set_option maxRecDepth 20000 in
theorem ggX1_commitsOfRefs_X2_setOf : GoodIn wsX1_commitsOfRefs wsX2_setOf := goodIn_r _ [4] (by decide +kernel) (by decide +kernel)
set_option maxRecDepth 20000 in
theorem gX1_commitsOfRefs_X2_setOf_n29 : GoodIn wsX1_commitsOfRefs (wsX2_setOf) := ggX1_commitsOfRefs_X2_setOf
theorem dX1_commitsOfRefs_0 : decode cX1_commitsOfRefs 0 = .ok (.lconst 0, 1) := by decide +kernel
theorem dX1_commitsOfRefs_1 : decode cX1_commitsOfRefs 1 = .ok (.lstore_n 1, 1) := by decide +kernel
theorem dX1_commitsOfRefs_2 : decode cX1_commitsOfRefs 2 = .ok (.iconst 0, 1) := by decide +kernel
theorem dX1_commitsOfRefs_3 : decode cX1_commitsOfRefs 3 = .ok (.istore_n 3, 1) := by decide +kernel
theorem dX1_commitsOfRefs_4 : decode cX1_commitsOfRefs 4 = .ok (.iload_n 3, 1) := by decide +kernel
theorem dX1_commitsOfRefs_5 : decode cX1_commitsOfRefs 5 = .ok (.iconst 4, 1) := by decide +kernel
theorem dX1_commitsOfRefs_6 : decode cX1_commitsOfRefs 6 = .ok (.if_icmp .ge 21, 3) := by decide +kernel
theorem dX1_commitsOfRefs_9 : decode cX1_commitsOfRefs 9 = .ok (.lload_n 1, 1) := by decide +kernel
theorem dX1_commitsOfRefs_10 : decode cX1_commitsOfRefs 10 = .ok (.aload_n 0, 1) := by decide +kernel
theorem dX1_commitsOfRefs_11 : decode cX1_commitsOfRefs 11 = .ok (.getfield 15, 3) := by decide +kernel
theorem dX1_commitsOfRefs_14 : decode cX1_commitsOfRefs 14 = .ok (.iload_n 3, 1) := by decide +kernel
theorem dX1_commitsOfRefs_15 : decode cX1_commitsOfRefs 15 = .ok (.iaload, 1) := by decide +kernel
theorem dX1_commitsOfRefs_16 : decode cX1_commitsOfRefs 16 = .ok (.invokestatic 29, 3) := by decide +kernel
theorem dX1_commitsOfRefs_19 : decode cX1_commitsOfRefs 19 = .ok (.lor, 1) := by decide +kernel
theorem dX1_commitsOfRefs_20 : decode cX1_commitsOfRefs 20 = .ok (.lstore_n 1, 1) := by decide +kernel
theorem dX1_commitsOfRefs_21 : decode cX1_commitsOfRefs 21 = .ok (.iinc 3 1, 3) := by decide +kernel
theorem dX1_commitsOfRefs_24 : decode cX1_commitsOfRefs 24 = .ok (.goto (-20), 3) := by decide +kernel
theorem dX1_commitsOfRefs_27 : decode cX1_commitsOfRefs 27 = .ok (.lload_n 1, 1) := by decide +kernel
theorem dX1_commitsOfRefs_28 : decode cX1_commitsOfRefs 28 = .ok (.lreturn, 1) := by decide +kernel
set_option maxRecDepth 20000 in
theorem ggX1_holdsFile_X2_isFile : GoodIn wsX1_holdsFile wsX2_isFile := goodIn_r _ [4] (by decide +kernel) (by decide +kernel)
set_option maxRecDepth 20000 in
theorem gX1_holdsFile_X2_isFile_n33 : GoodIn wsX1_holdsFile (wsX2_isFile) := ggX1_holdsFile_X2_isFile
theorem dX1_holdsFile_0 : decode cX1_holdsFile 0 = .ok (.iload_n 1, 1) := by decide +kernel
theorem dX1_holdsFile_1 : decode cX1_holdsFile 1 = .ok (.invokestatic 33, 3) := by decide +kernel
theorem dX1_holdsFile_4 : decode cX1_holdsFile 4 = .ok (.ifCond .eq 16, 3) := by decide +kernel
theorem dX1_holdsFile_7 : decode cX1_holdsFile 7 = .ok (.aload_n 0, 1) := by decide +kernel
theorem dX1_holdsFile_8 : decode cX1_holdsFile 8 = .ok (.getfield 9, 3) := by decide +kernel
theorem dX1_holdsFile_11 : decode cX1_holdsFile 11 = .ok (.iload_n 1, 1) := by decide +kernel
theorem dX1_holdsFile_12 : decode cX1_holdsFile 12 = .ok (.baload, 1) := by decide +kernel
theorem dX1_holdsFile_13 : decode cX1_holdsFile 13 = .ok (.ifCond .eq 7, 3) := by decide +kernel
theorem dX1_holdsFile_16 : decode cX1_holdsFile 16 = .ok (.iconst 1, 1) := by decide +kernel
theorem dX1_holdsFile_17 : decode cX1_holdsFile 17 = .ok (.goto 4, 3) := by decide +kernel
theorem dX1_holdsFile_20 : decode cX1_holdsFile 20 = .ok (.iconst 0, 1) := by decide +kernel
theorem dX1_holdsFile_21 : decode cX1_holdsFile 21 = .ok (.ireturn, 1) := by decide +kernel
set_option maxRecDepth 20000 in
theorem ggX1_addFile_X2_isFile : GoodIn wsX1_addFile wsX2_isFile := goodIn_r _ [4] (by decide +kernel) (by decide +kernel)
set_option maxRecDepth 20000 in
theorem gX1_addFile_X2_isFile_n33 : GoodIn wsX1_addFile (wsX2_isFile) := ggX1_addFile_X2_isFile
theorem dX1_addFile_0 : decode cX1_addFile 0 = .ok (.iload_n 1, 1) := by decide +kernel
theorem dX1_addFile_1 : decode cX1_addFile 1 = .ok (.invokestatic 33, 3) := by decide +kernel
theorem dX1_addFile_4 : decode cX1_addFile 4 = .ok (.ifCond .eq 10, 3) := by decide +kernel
theorem dX1_addFile_7 : decode cX1_addFile 7 = .ok (.aload_n 0, 1) := by decide +kernel
theorem dX1_addFile_8 : decode cX1_addFile 8 = .ok (.getfield 9, 3) := by decide +kernel
theorem dX1_addFile_11 : decode cX1_addFile 11 = .ok (.iload_n 1, 1) := by decide +kernel
theorem dX1_addFile_12 : decode cX1_addFile 12 = .ok (.iconst 1, 1) := by decide +kernel
theorem dX1_addFile_13 : decode cX1_addFile 13 = .ok (.bastore, 1) := by decide +kernel
theorem dX1_addFile_14 : decode cX1_addFile 14 = .ok (.return_, 1) := by decide +kernel
set_option maxRecDepth 20000 in
theorem ggX1_addFiles_X1_holdsFile : GoodIn wsX1_addFiles wsX1_holdsFile := goodIn_r _ [6, 1, 7, 8, 9, 10, 11, 12] (by decide +kernel) (by decide +kernel)
set_option maxRecDepth 20000 in
theorem gX1_addFiles_X1_holdsFile : GoodIn wsX1_addFiles (wsV RX1 36 RX1 yX1_holdsFile wsX1_holdsFile) := goodIn_app (goodIn_of _ (by decide +kernel)) ggX1_addFiles_X1_holdsFile
theorem dX1_addFiles_0 : decode cX1_addFiles 0 = .ok (.iconst 0, 1) := by decide +kernel
theorem dX1_addFiles_1 : decode cX1_addFiles 1 = .ok (.istore_n 3, 1) := by decide +kernel
theorem dX1_addFiles_2 : decode cX1_addFiles 2 = .ok (.iload_n 3, 1) := by decide +kernel
theorem dX1_addFiles_3 : decode cX1_addFiles 3 = .ok (.bipush 100, 2) := by decide +kernel
theorem dX1_addFiles_5 : decode cX1_addFiles 5 = .ok (.if_icmp .ge 36, 3) := by decide +kernel
theorem dX1_addFiles_8 : decode cX1_addFiles 8 = .ok (.iload_n 3, 1) := by decide +kernel
theorem dX1_addFiles_9 : decode cX1_addFiles 9 = .ok (.aload_n 1, 1) := by decide +kernel
theorem dX1_addFiles_10 : decode cX1_addFiles 10 = .ok (.arraylength, 1) := by decide +kernel
theorem dX1_addFiles_11 : decode cX1_addFiles 11 = .ok (.if_icmp .ge 30, 3) := by decide +kernel
theorem dX1_addFiles_14 : decode cX1_addFiles 14 = .ok (.aload_n 1, 1) := by decide +kernel
theorem dX1_addFiles_15 : decode cX1_addFiles 15 = .ok (.iload_n 3, 1) := by decide +kernel
theorem dX1_addFiles_16 : decode cX1_addFiles 16 = .ok (.baload, 1) := by decide +kernel
theorem dX1_addFiles_17 : decode cX1_addFiles 17 = .ok (.ifCond .eq 18, 3) := by decide +kernel
theorem dX1_addFiles_20 : decode cX1_addFiles 20 = .ok (.aload_n 2, 1) := by decide +kernel
theorem dX1_addFiles_21 : decode cX1_addFiles 21 = .ok (.iload_n 3, 1) := by decide +kernel
theorem dX1_addFiles_22 : decode cX1_addFiles 22 = .ok (.invokevirtual 36, 3) := by decide +kernel
theorem dX1_addFiles_25 : decode cX1_addFiles 25 = .ok (.ifCond .eq 10, 3) := by decide +kernel
theorem dX1_addFiles_28 : decode cX1_addFiles 28 = .ok (.aload_n 0, 1) := by decide +kernel
theorem dX1_addFiles_29 : decode cX1_addFiles 29 = .ok (.getfield 9, 3) := by decide +kernel
theorem dX1_addFiles_32 : decode cX1_addFiles 32 = .ok (.iload_n 3, 1) := by decide +kernel
theorem dX1_addFiles_33 : decode cX1_addFiles 33 = .ok (.iconst 1, 1) := by decide +kernel
theorem dX1_addFiles_34 : decode cX1_addFiles 34 = .ok (.bastore, 1) := by decide +kernel
theorem dX1_addFiles_35 : decode cX1_addFiles 35 = .ok (.iinc 3 1, 3) := by decide +kernel
theorem dX1_addFiles_38 : decode cX1_addFiles 38 = .ok (.goto (-36), 3) := by decide +kernel
theorem dX1_addFiles_41 : decode cX1_addFiles 41 = .ok (.return_, 1) := by decide +kernel
theorem dX1_keepOnlyFiles_0 : decode cX1_keepOnlyFiles 0 = .ok (.iconst 0, 1) := by decide +kernel
theorem dX1_keepOnlyFiles_1 : decode cX1_keepOnlyFiles 1 = .ok (.istore_n 2, 1) := by decide +kernel
theorem dX1_keepOnlyFiles_2 : decode cX1_keepOnlyFiles 2 = .ok (.iload_n 2, 1) := by decide +kernel
theorem dX1_keepOnlyFiles_3 : decode cX1_keepOnlyFiles 3 = .ok (.bipush 100, 2) := by decide +kernel
theorem dX1_keepOnlyFiles_5 : decode cX1_keepOnlyFiles 5 = .ok (.if_icmp .ge 41, 3) := by decide +kernel
theorem dX1_keepOnlyFiles_8 : decode cX1_keepOnlyFiles 8 = .ok (.iload_n 2, 1) := by decide +kernel
theorem dX1_keepOnlyFiles_9 : decode cX1_keepOnlyFiles 9 = .ok (.aload_n 1, 1) := by decide +kernel
theorem dX1_keepOnlyFiles_10 : decode cX1_keepOnlyFiles 10 = .ok (.arraylength, 1) := by decide +kernel
theorem dX1_keepOnlyFiles_11 : decode cX1_keepOnlyFiles 11 = .ok (.if_icmp .ge 35, 3) := by decide +kernel
theorem dX1_keepOnlyFiles_14 : decode cX1_keepOnlyFiles 14 = .ok (.aload_n 0, 1) := by decide +kernel
theorem dX1_keepOnlyFiles_15 : decode cX1_keepOnlyFiles 15 = .ok (.getfield 9, 3) := by decide +kernel
theorem dX1_keepOnlyFiles_18 : decode cX1_keepOnlyFiles 18 = .ok (.iload_n 2, 1) := by decide +kernel
theorem dX1_keepOnlyFiles_19 : decode cX1_keepOnlyFiles 19 = .ok (.aload_n 0, 1) := by decide +kernel
theorem dX1_keepOnlyFiles_20 : decode cX1_keepOnlyFiles 20 = .ok (.getfield 9, 3) := by decide +kernel
theorem dX1_keepOnlyFiles_23 : decode cX1_keepOnlyFiles 23 = .ok (.iload_n 2, 1) := by decide +kernel
theorem dX1_keepOnlyFiles_24 : decode cX1_keepOnlyFiles 24 = .ok (.baload, 1) := by decide +kernel
theorem dX1_keepOnlyFiles_25 : decode cX1_keepOnlyFiles 25 = .ok (.ifCond .eq 13, 3) := by decide +kernel
theorem dX1_keepOnlyFiles_28 : decode cX1_keepOnlyFiles 28 = .ok (.aload_n 1, 1) := by decide +kernel
theorem dX1_keepOnlyFiles_29 : decode cX1_keepOnlyFiles 29 = .ok (.iload_n 2, 1) := by decide +kernel
theorem dX1_keepOnlyFiles_30 : decode cX1_keepOnlyFiles 30 = .ok (.baload, 1) := by decide +kernel
theorem dX1_keepOnlyFiles_31 : decode cX1_keepOnlyFiles 31 = .ok (.ifCond .eq 7, 3) := by decide +kernel
theorem dX1_keepOnlyFiles_34 : decode cX1_keepOnlyFiles 34 = .ok (.iconst 1, 1) := by decide +kernel
theorem dX1_keepOnlyFiles_35 : decode cX1_keepOnlyFiles 35 = .ok (.goto 4, 3) := by decide +kernel
theorem dX1_keepOnlyFiles_38 : decode cX1_keepOnlyFiles 38 = .ok (.iconst 0, 1) := by decide +kernel
theorem dX1_keepOnlyFiles_39 : decode cX1_keepOnlyFiles 39 = .ok (.bastore, 1) := by decide +kernel
theorem dX1_keepOnlyFiles_40 : decode cX1_keepOnlyFiles 40 = .ok (.iinc 2 1, 3) := by decide +kernel
theorem dX1_keepOnlyFiles_43 : decode cX1_keepOnlyFiles 43 = .ok (.goto (-41), 3) := by decide +kernel
theorem dX1_keepOnlyFiles_46 : decode cX1_keepOnlyFiles 46 = .ok (.return_, 1) := by decide +kernel
theorem dX1_countLacking_0 : decode cX1_countLacking 0 = .ok (.iconst 0, 1) := by decide +kernel
theorem dX1_countLacking_1 : decode cX1_countLacking 1 = .ok (.istore_n 2, 1) := by decide +kernel
theorem dX1_countLacking_2 : decode cX1_countLacking 2 = .ok (.iconst 0, 1) := by decide +kernel
theorem dX1_countLacking_3 : decode cX1_countLacking 3 = .ok (.istore_n 3, 1) := by decide +kernel
theorem dX1_countLacking_4 : decode cX1_countLacking 4 = .ok (.iload_n 3, 1) := by decide +kernel
theorem dX1_countLacking_5 : decode cX1_countLacking 5 = .ok (.bipush 100, 2) := by decide +kernel
theorem dX1_countLacking_7 : decode cX1_countLacking 7 = .ok (.if_icmp .ge 33, 3) := by decide +kernel
theorem dX1_countLacking_10 : decode cX1_countLacking 10 = .ok (.iload_n 3, 1) := by decide +kernel
theorem dX1_countLacking_11 : decode cX1_countLacking 11 = .ok (.aload_n 1, 1) := by decide +kernel
theorem dX1_countLacking_12 : decode cX1_countLacking 12 = .ok (.arraylength, 1) := by decide +kernel
theorem dX1_countLacking_13 : decode cX1_countLacking 13 = .ok (.if_icmp .ge 27, 3) := by decide +kernel
theorem dX1_countLacking_16 : decode cX1_countLacking 16 = .ok (.aload_n 1, 1) := by decide +kernel
theorem dX1_countLacking_17 : decode cX1_countLacking 17 = .ok (.iload_n 3, 1) := by decide +kernel
theorem dX1_countLacking_18 : decode cX1_countLacking 18 = .ok (.baload, 1) := by decide +kernel
theorem dX1_countLacking_19 : decode cX1_countLacking 19 = .ok (.ifCond .eq 15, 3) := by decide +kernel
theorem dX1_countLacking_22 : decode cX1_countLacking 22 = .ok (.aload_n 0, 1) := by decide +kernel
theorem dX1_countLacking_23 : decode cX1_countLacking 23 = .ok (.getfield 9, 3) := by decide +kernel
theorem dX1_countLacking_26 : decode cX1_countLacking 26 = .ok (.iload_n 3, 1) := by decide +kernel
theorem dX1_countLacking_27 : decode cX1_countLacking 27 = .ok (.baload, 1) := by decide +kernel
theorem dX1_countLacking_28 : decode cX1_countLacking 28 = .ok (.ifCond .ne 6, 3) := by decide +kernel
theorem dX1_countLacking_31 : decode cX1_countLacking 31 = .ok (.iinc 2 1, 3) := by decide +kernel
theorem dX1_countLacking_34 : decode cX1_countLacking 34 = .ok (.iinc 3 1, 3) := by decide +kernel
theorem dX1_countLacking_37 : decode cX1_countLacking 37 = .ok (.goto (-33), 3) := by decide +kernel
theorem dX1_countLacking_40 : decode cX1_countLacking 40 = .ok (.iload_n 2, 1) := by decide +kernel
theorem dX1_countLacking_41 : decode cX1_countLacking 41 = .ok (.ireturn, 1) := by decide +kernel
end
section
set_option maxRecDepth 20000 in
theorem ggX2_init_X0_init : GoodIn wsX2_init wsX0_init := goodIn_r _ [20, 21, 2, 3, 15, 22, 23, 24, 25, 13, 26, 37, 38, 39, 40, 41, 42] (by decide +kernel) (by decide +kernel)
set_option maxRecDepth 20000 in
theorem gX2_init_X0_init_n9 : GoodIn wsX2_init (wsX0_init) := ggX2_init_X0_init
set_option maxRecDepth 20000 in
theorem ggX2_init_X1_init : GoodIn wsX2_init wsX1_init := goodIn_r _ [29, 30, 2, 3, 13, 31, 15, 32, 33, 34, 35, 36, 52, 53, 54] (by decide +kernel) (by decide +kernel)
set_option maxRecDepth 20000 in
theorem gX2_init_X1_init : GoodIn wsX2_init (wsX1_init) := ggX2_init_X1_init
theorem dX2_init_0 : decode cX2_init 0 = .ok (.aload_n 0, 1) := by decide +kernel
theorem dX2_init_1 : decode cX2_init 1 = .ok (.invokespecial 1, 3) := by decide +kernel
theorem dX2_init_4 : decode cX2_init 4 = .ok (.aload_n 0, 1) := by decide +kernel
theorem dX2_init_5 : decode cX2_init 5 = .ok (.new 7, 3) := by decide +kernel
theorem dX2_init_8 : decode cX2_init 8 = .ok (.dup, 1) := by decide +kernel
theorem dX2_init_9 : decode cX2_init 9 = .ok (.invokespecial 9, 3) := by decide +kernel
theorem dX2_init_12 : decode cX2_init 12 = .ok (.putfield 10, 3) := by decide +kernel
theorem dX2_init_15 : decode cX2_init 15 = .ok (.aload_n 0, 1) := by decide +kernel
theorem dX2_init_16 : decode cX2_init 16 = .ok (.new 16, 3) := by decide +kernel
theorem dX2_init_19 : decode cX2_init 19 = .ok (.dup, 1) := by decide +kernel
theorem dX2_init_20 : decode cX2_init 20 = .ok (.invokespecial 18, 3) := by decide +kernel
theorem dX2_init_23 : decode cX2_init 23 = .ok (.putfield 19, 3) := by decide +kernel
theorem dX2_init_26 : decode cX2_init 26 = .ok (.aload_n 0, 1) := by decide +kernel
theorem dX2_init_27 : decode cX2_init 27 = .ok (.new 16, 3) := by decide +kernel
theorem dX2_init_30 : decode cX2_init 30 = .ok (.dup, 1) := by decide +kernel
theorem dX2_init_31 : decode cX2_init 31 = .ok (.invokespecial 18, 3) := by decide +kernel
theorem dX2_init_34 : decode cX2_init 34 = .ok (.putfield 23, 3) := by decide +kernel
theorem dX2_init_37 : decode cX2_init 37 = .ok (.aload_n 0, 1) := by decide +kernel
theorem dX2_init_38 : decode cX2_init 38 = .ok (.iconst 4, 1) := by decide +kernel
theorem dX2_init_39 : decode cX2_init 39 = .ok (.newarray .boolean, 2) := by decide +kernel
theorem dX2_init_41 : decode cX2_init 41 = .ok (.putfield 26, 3) := by decide +kernel
theorem dX2_init_44 : decode cX2_init 44 = .ok (.aload_n 0, 1) := by decide +kernel
theorem dX2_init_45 : decode cX2_init 45 = .ok (.iconst 3, 1) := by decide +kernel
theorem dX2_init_46 : decode cX2_init 46 = .ok (.newarray .int, 2) := by decide +kernel
theorem dX2_init_48 : decode cX2_init 48 = .ok (.putfield 30, 3) := by decide +kernel
theorem dX2_init_51 : decode cX2_init 51 = .ok (.aload_n 0, 1) := by decide +kernel
theorem dX2_init_52 : decode cX2_init 52 = .ok (.iconst 3, 1) := by decide +kernel
theorem dX2_init_53 : decode cX2_init 53 = .ok (.newarray .int, 2) := by decide +kernel
theorem dX2_init_55 : decode cX2_init 55 = .ok (.putfield 34, 3) := by decide +kernel
theorem dX2_init_58 : decode cX2_init 58 = .ok (.aload_n 0, 1) := by decide +kernel
theorem dX2_init_59 : decode cX2_init 59 = .ok (.iconst 3, 1) := by decide +kernel
theorem dX2_init_60 : decode cX2_init 60 = .ok (.newarray .int, 2) := by decide +kernel
theorem dX2_init_62 : decode cX2_init 62 = .ok (.putfield 37, 3) := by decide +kernel
theorem dX2_init_65 : decode cX2_init 65 = .ok (.return_, 1) := by decide +kernel
set_option maxRecDepth 20000 in
theorem ggX2_make_X2_storeOf : GoodIn wsX2_make wsX2_storeOf := goodIn_ca (goodIn_r _ [10, 11, 12, 13, 14, 64, 65, 66, 67, 68, 69, 70, 71, 72] (by decide +kernel) (by decide +kernel)) (goodIn_sub (fun _ h => List.mem_cons_of_mem _ (List.mem_append_right _ h)) (by decide +kernel))
set_option maxRecDepth 20000 in
theorem gX2_make_X2_storeOf : GoodIn wsX2_make (wsV RX2 40 RX2 yX2_storeOf wsX2_storeOf) := goodIn_app (goodIn_of _ (by decide +kernel)) ggX2_make_X2_storeOf
set_option maxRecDepth 20000 in
theorem ggX2_make_X2_checkSlot : GoodIn wsX2_make wsX2_checkSlot := goodIn_ca (goodIn_r _ [17, 11, 12, 18, 19, 9, 20] (by decide +kernel) (by decide +kernel)) (goodIn_sub (fun _ h => List.mem_cons_of_mem _ (List.mem_append_right _ h)) (by decide +kernel))
set_option maxRecDepth 20000 in
theorem gX2_make_X2_checkSlot : GoodIn wsX2_make (va_wsS RX2 44 yX2_checkSlot wsX2_checkSlot) := goodIn_app (goodIn_of _ (by decide +kernel)) ggX2_make_X2_checkSlot
set_option maxRecDepth 20000 in
theorem ggX2_make_X2_checkHeldOrNone : GoodIn wsX2_make wsX2_checkHeldOrNone := goodIn_ca (goodIn_r _ [23, 11, 12, 24, 25, 9, 26, 27, 28, 29, 73, 74, 75] (by decide +kernel) (by decide +kernel)) (goodIn_sub (fun _ h => List.mem_cons_of_mem _ (List.mem_append_right _ h)) (by decide +kernel))
set_option maxRecDepth 20000 in
theorem gX2_make_X2_checkHeldOrNone : GoodIn wsX2_make (va_wsS RX2 48 yX2_checkHeldOrNone wsX2_checkHeldOrNone) := goodIn_app (goodIn_of _ (by decide +kernel)) ggX2_make_X2_checkHeldOrNone
set_option maxRecDepth 20000 in
theorem ggX2_make_X2_checkFile : GoodIn wsX2_make wsX2_checkFile := goodIn_ca (goodIn_r _ [32, 1, 2, 33, 34, 9, 35] (by decide +kernel) (by decide +kernel)) (goodIn_sub (fun _ h => List.mem_cons_of_mem _ (List.mem_append_left _ (List.mem_append_left _ (List.mem_append_right _ h)))) (by decide +kernel))
set_option maxRecDepth 20000 in
theorem gX2_make_X2_checkFile : GoodIn wsX2_make (va_wsS RX2 52 yX2_checkFile wsX2_checkFile) := goodIn_app (goodIn_of _ (by decide +kernel)) ggX2_make_X2_checkFile
set_option maxRecDepth 20000 in
theorem ggX2_make_X0_isFull : GoodIn wsX2_make wsX0_isFull := goodIn_r _ [40, 41, 76, 77, 78, 79, 80, 81] (by decide +kernel) (by decide +kernel)
set_option maxRecDepth 20000 in
theorem gX2_make_X0_isFull : GoodIn wsX2_make (wsV RX2 62 RX0 yX0_isFull wsX0_isFull) := goodIn_app (goodIn_of _ (by decide +kernel)) ggX2_make_X0_isFull
set_option maxRecDepth 20000 in
theorem ggX2_make_X0_append : GoodIn wsX2_make wsX0_append := goodIn_r _ [45, 41, 46, 47, 48, 49, 37, 38, 39, 40, 50, 51, 52, 53, 54, 55, 56, 57, 19, 9, 20, 76, 77, 78, 79, 80, 81] (by decide +kernel) (by decide +kernel)
set_option maxRecDepth 20000 in
theorem gX2_make_X0_append : GoodIn wsX2_make (wsV RX2 71 RX0 yX0_append wsX0_append) := goodIn_app (goodIn_of _ (by decide +kernel)) ggX2_make_X0_append
set_option maxRecDepth 20000 in
theorem ggX2_make_X2_setOf : GoodIn wsX2_make wsX2_setOf := goodIn_r _ [29] (by decide +kernel) (by decide +kernel)
set_option maxRecDepth 20000 in
theorem gX2_make_X2_setOf : GoodIn wsX2_make (va_wsS RX2 79 yX2_setOf wsX2_setOf) := goodIn_app (goodIn_of _ (by decide +kernel)) ggX2_make_X2_setOf
set_option maxRecDepth 20000 in
theorem ggX2_make_X1_addFile : GoodIn wsX2_make wsX1_addFile := goodIn_r _ [62, 63, 34, 9, 35, 73, 74, 75] (by decide +kernel) (by decide +kernel)
set_option maxRecDepth 20000 in
theorem gX2_make_X1_addFile : GoodIn wsX2_make (wsV RX2 83 RX1 yX1_addFile wsX1_addFile) := goodIn_app (goodIn_of _ (by decide +kernel)) ggX2_make_X1_addFile
theorem dX2_make_0 : decode cX2_make 0 = .ok (.aload_n 0, 1) := by decide +kernel
theorem dX2_make_1 : decode cX2_make 1 = .ok (.iload_n 1, 1) := by decide +kernel
theorem dX2_make_2 : decode cX2_make 2 = .ok (.invokevirtual 40, 3) := by decide +kernel
theorem dX2_make_5 : decode cX2_make 5 = .ok (.astore 6, 2) := by decide +kernel
theorem dX2_make_7 : decode cX2_make 7 = .ok (.iload 4, 2) := by decide +kernel
theorem dX2_make_9 : decode cX2_make 9 = .ok (.invokestatic 44, 3) := by decide +kernel
theorem dX2_make_12 : decode cX2_make 12 = .ok (.aload 6, 2) := by decide +kernel
theorem dX2_make_14 : decode cX2_make 14 = .ok (.iload_n 2, 1) := by decide +kernel
theorem dX2_make_15 : decode cX2_make 15 = .ok (.invokestatic 48, 3) := by decide +kernel
theorem dX2_make_18 : decode cX2_make 18 = .ok (.aload 6, 2) := by decide +kernel
theorem dX2_make_20 : decode cX2_make 20 = .ok (.iload_n 3, 1) := by decide +kernel
theorem dX2_make_21 : decode cX2_make 21 = .ok (.invokestatic 48, 3) := by decide +kernel
theorem dX2_make_24 : decode cX2_make 24 = .ok (.iload 5, 2) := by decide +kernel
theorem dX2_make_26 : decode cX2_make 26 = .ok (.iconst (-1), 1) := by decide +kernel
theorem dX2_make_27 : decode cX2_make 27 = .ok (.if_icmp .eq 8, 3) := by decide +kernel
theorem dX2_make_30 : decode cX2_make 30 = .ok (.iload 5, 2) := by decide +kernel
theorem dX2_make_32 : decode cX2_make 32 = .ok (.invokestatic 52, 3) := by decide +kernel
theorem dX2_make_35 : decode cX2_make 35 = .ok (.iload_n 3, 1) := by decide +kernel
theorem dX2_make_36 : decode cX2_make 36 = .ok (.iconst (-1), 1) := by decide +kernel
theorem dX2_make_37 : decode cX2_make 37 = .ok (.if_icmp .eq 23, 3) := by decide +kernel
theorem dX2_make_40 : decode cX2_make 40 = .ok (.iload_n 2, 1) := by decide +kernel
theorem dX2_make_41 : decode cX2_make 41 = .ok (.iconst (-1), 1) := by decide +kernel
theorem dX2_make_42 : decode cX2_make 42 = .ok (.if_icmp .eq 8, 3) := by decide +kernel
theorem dX2_make_45 : decode cX2_make 45 = .ok (.iload_n 2, 1) := by decide +kernel
theorem dX2_make_46 : decode cX2_make 46 = .ok (.iload_n 3, 1) := by decide +kernel
theorem dX2_make_47 : decode cX2_make 47 = .ok (.if_icmp .ne 13, 3) := by decide +kernel
theorem dX2_make_50 : decode cX2_make 50 = .ok (.new 55, 3) := by decide +kernel
theorem dX2_make_53 : decode cX2_make 53 = .ok (.dup, 1) := by decide +kernel
theorem dX2_make_54 : decode cX2_make 54 = .ok (.ldc 57, 2) := by decide +kernel
theorem dX2_make_56 : decode cX2_make 56 = .ok (.invokespecial 59, 3) := by decide +kernel
theorem dX2_make_59 : decode cX2_make 59 = .ok (.athrow, 1) := by decide +kernel
theorem dX2_make_60 : decode cX2_make 60 = .ok (.aload_n 0, 1) := by decide +kernel
theorem dX2_make_61 : decode cX2_make 61 = .ok (.getfield 10, 3) := by decide +kernel
theorem dX2_make_64 : decode cX2_make 64 = .ok (.invokevirtual 62, 3) := by decide +kernel
theorem dX2_make_67 : decode cX2_make 67 = .ok (.ifCond .eq 13, 3) := by decide +kernel
theorem dX2_make_70 : decode cX2_make 70 = .ok (.new 66, 3) := by decide +kernel
theorem dX2_make_73 : decode cX2_make 73 = .ok (.dup, 1) := by decide +kernel
theorem dX2_make_74 : decode cX2_make 74 = .ok (.ldc 68, 2) := by decide +kernel
theorem dX2_make_76 : decode cX2_make 76 = .ok (.invokespecial 70, 3) := by decide +kernel
theorem dX2_make_79 : decode cX2_make 79 = .ok (.athrow, 1) := by decide +kernel
theorem dX2_make_80 : decode cX2_make 80 = .ok (.aload_n 0, 1) := by decide +kernel
theorem dX2_make_81 : decode cX2_make 81 = .ok (.getfield 10, 3) := by decide +kernel
theorem dX2_make_84 : decode cX2_make 84 = .ok (.iload_n 2, 1) := by decide +kernel
theorem dX2_make_85 : decode cX2_make 85 = .ok (.iload_n 3, 1) := by decide +kernel
theorem dX2_make_86 : decode cX2_make 86 = .ok (.iload 4, 2) := by decide +kernel
theorem dX2_make_88 : decode cX2_make 88 = .ok (.iload 5, 2) := by decide +kernel
theorem dX2_make_90 : decode cX2_make 90 = .ok (.invokevirtual 71, 3) := by decide +kernel
theorem dX2_make_93 : decode cX2_make 93 = .ok (.istore 7, 2) := by decide +kernel
theorem dX2_make_95 : decode cX2_make 95 = .ok (.aload 6, 2) := by decide +kernel
theorem dX2_make_97 : decode cX2_make 97 = .ok (.dup, 1) := by decide +kernel
theorem dX2_make_98 : decode cX2_make 98 = .ok (.getfield 75, 3) := by decide +kernel
theorem dX2_make_101 : decode cX2_make 101 = .ok (.iload 7, 2) := by decide +kernel
theorem dX2_make_103 : decode cX2_make 103 = .ok (.invokestatic 79, 3) := by decide +kernel
theorem dX2_make_106 : decode cX2_make 106 = .ok (.lor, 1) := by decide +kernel
theorem dX2_make_107 : decode cX2_make 107 = .ok (.putfield 75, 3) := by decide +kernel
theorem dX2_make_110 : decode cX2_make 110 = .ok (.aload 6, 2) := by decide +kernel
theorem dX2_make_112 : decode cX2_make 112 = .ok (.iload 5, 2) := by decide +kernel
theorem dX2_make_114 : decode cX2_make 114 = .ok (.invokevirtual 83, 3) := by decide +kernel
theorem dX2_make_117 : decode cX2_make 117 = .ok (.iload 7, 2) := by decide +kernel
theorem dX2_make_119 : decode cX2_make 119 = .ok (.ireturn, 1) := by decide +kernel
set_option maxRecDepth 20000 in
theorem ggX2_setRef_X2_storeOf : GoodIn wsX2_setRef wsX2_storeOf := goodIn_ca (goodIn_r _ [5, 6, 7, 8, 9, 35, 36, 37, 38, 39, 40, 41, 42, 43] (by decide +kernel) (by decide +kernel)) (goodIn_sub (fun _ h => List.mem_cons_of_mem _ (List.mem_append_right _ h)) (by decide +kernel))
set_option maxRecDepth 20000 in
theorem gX2_setRef_X2_storeOf : GoodIn wsX2_setRef (wsV RX2 40 RX2 yX2_storeOf wsX2_storeOf) := goodIn_app (goodIn_of _ (by decide +kernel)) ggX2_setRef_X2_storeOf
set_option maxRecDepth 20000 in
theorem ggX2_setRef_X2_checkRef : GoodIn wsX2_setRef wsX2_checkRef := goodIn_ca (goodIn_r _ [12, 6, 7, 13, 14, 4, 15] (by decide +kernel) (by decide +kernel)) (goodIn_sub (fun _ h => List.mem_cons_of_mem _ (List.mem_append_right _ h)) (by decide +kernel))
set_option maxRecDepth 20000 in
theorem gX2_setRef_X2_checkRef : GoodIn wsX2_setRef (va_wsS RX2 86 yX2_checkRef wsX2_checkRef) := goodIn_app (goodIn_of _ (by decide +kernel)) ggX2_setRef_X2_checkRef
set_option maxRecDepth 20000 in
theorem ggX2_setRef_X2_checkHeldOrNone : GoodIn wsX2_setRef wsX2_checkHeldOrNone := goodIn_ca (goodIn_r _ [18, 6, 7, 19, 20, 4, 21, 22, 23, 24, 44, 45, 46] (by decide +kernel) (by decide +kernel)) (goodIn_sub (fun _ h => List.mem_cons_of_mem _ (List.mem_append_right _ h)) (by decide +kernel))
set_option maxRecDepth 20000 in
theorem gX2_setRef_X2_checkHeldOrNone : GoodIn wsX2_setRef (va_wsS RX2 48 yX2_checkHeldOrNone wsX2_checkHeldOrNone) := goodIn_app (goodIn_of _ (by decide +kernel)) ggX2_setRef_X2_checkHeldOrNone
set_option maxRecDepth 20000 in
theorem ggX2_setRef_X1_commitOfRef : GoodIn wsX2_setRef wsX1_commitOfRef := goodIn_r _ [29, 30, 14, 4, 15, 44, 45, 46] (by decide +kernel) (by decide +kernel)
set_option maxRecDepth 20000 in
theorem gX2_setRef_X1_commitOfRef : GoodIn wsX2_setRef (wsV RX2 89 RX1 yX1_commitOfRef wsX1_commitOfRef) := goodIn_app (goodIn_of _ (by decide +kernel)) ggX2_setRef_X1_commitOfRef
set_option maxRecDepth 20000 in
theorem ggX2_setRef_X1_pointRef : GoodIn wsX2_setRef wsX1_pointRef := goodIn_r _ [34, 30, 14, 4, 15, 44, 45, 46] (by decide +kernel) (by decide +kernel)
set_option maxRecDepth 20000 in
theorem gX2_setRef_X1_pointRef : GoodIn wsX2_setRef (wsV RX2 93 RX1 yX1_pointRef wsX1_pointRef) := goodIn_app (goodIn_of _ (by decide +kernel)) ggX2_setRef_X1_pointRef
theorem dX2_setRef_0 : decode cX2_setRef 0 = .ok (.aload_n 0, 1) := by decide +kernel
theorem dX2_setRef_1 : decode cX2_setRef 1 = .ok (.iload_n 1, 1) := by decide +kernel
theorem dX2_setRef_2 : decode cX2_setRef 2 = .ok (.invokevirtual 40, 3) := by decide +kernel
theorem dX2_setRef_5 : decode cX2_setRef 5 = .ok (.astore 4, 2) := by decide +kernel
theorem dX2_setRef_7 : decode cX2_setRef 7 = .ok (.iload_n 2, 1) := by decide +kernel
theorem dX2_setRef_8 : decode cX2_setRef 8 = .ok (.invokestatic 86, 3) := by decide +kernel
theorem dX2_setRef_11 : decode cX2_setRef 11 = .ok (.aload 4, 2) := by decide +kernel
theorem dX2_setRef_13 : decode cX2_setRef 13 = .ok (.iload_n 3, 1) := by decide +kernel
theorem dX2_setRef_14 : decode cX2_setRef 14 = .ok (.invokestatic 48, 3) := by decide +kernel
theorem dX2_setRef_17 : decode cX2_setRef 17 = .ok (.aload 4, 2) := by decide +kernel
theorem dX2_setRef_19 : decode cX2_setRef 19 = .ok (.iload_n 2, 1) := by decide +kernel
theorem dX2_setRef_20 : decode cX2_setRef 20 = .ok (.invokevirtual 89, 3) := by decide +kernel
theorem dX2_setRef_23 : decode cX2_setRef 23 = .ok (.istore 5, 2) := by decide +kernel
theorem dX2_setRef_25 : decode cX2_setRef 25 = .ok (.aload 4, 2) := by decide +kernel
theorem dX2_setRef_27 : decode cX2_setRef 27 = .ok (.iload_n 2, 1) := by decide +kernel
theorem dX2_setRef_28 : decode cX2_setRef 28 = .ok (.iload_n 3, 1) := by decide +kernel
theorem dX2_setRef_29 : decode cX2_setRef 29 = .ok (.invokevirtual 93, 3) := by decide +kernel
theorem dX2_setRef_32 : decode cX2_setRef 32 = .ok (.iload 5, 2) := by decide +kernel
theorem dX2_setRef_34 : decode cX2_setRef 34 = .ok (.ireturn, 1) := by decide +kernel
set_option maxRecDepth 20000 in
theorem ggX2_ref_X2_storeOf : GoodIn wsX2_ref wsX2_storeOf := goodIn_ca (goodIn_r _ [5, 6, 7, 8, 9, 22, 23, 24, 25, 26, 27, 28, 29, 30] (by decide +kernel) (by decide +kernel)) (goodIn_sub (fun _ h => List.mem_cons_of_mem _ (List.mem_append_right _ h)) (by decide +kernel))
set_option maxRecDepth 20000 in
theorem gX2_ref_X2_storeOf : GoodIn wsX2_ref (wsV RX2 40 RX2 yX2_storeOf wsX2_storeOf) := goodIn_app (goodIn_of _ (by decide +kernel)) ggX2_ref_X2_storeOf
set_option maxRecDepth 20000 in
theorem ggX2_ref_X2_checkRef : GoodIn wsX2_ref wsX2_checkRef := goodIn_ca (goodIn_r _ [12, 6, 7, 13, 14, 4, 15] (by decide +kernel) (by decide +kernel)) (goodIn_sub (fun _ h => List.mem_cons_of_mem _ (List.mem_append_right _ h)) (by decide +kernel))
set_option maxRecDepth 20000 in
theorem gX2_ref_X2_checkRef : GoodIn wsX2_ref (va_wsS RX2 86 yX2_checkRef wsX2_checkRef) := goodIn_app (goodIn_of _ (by decide +kernel)) ggX2_ref_X2_checkRef
set_option maxRecDepth 20000 in
theorem ggX2_ref_X1_commitOfRef : GoodIn wsX2_ref wsX1_commitOfRef := goodIn_r _ [20, 21, 14, 4, 15, 31, 32, 33] (by decide +kernel) (by decide +kernel)
set_option maxRecDepth 20000 in
theorem gX2_ref_X1_commitOfRef : GoodIn wsX2_ref (wsV RX2 89 RX1 yX1_commitOfRef wsX1_commitOfRef) := goodIn_app (goodIn_of _ (by decide +kernel)) ggX2_ref_X1_commitOfRef
theorem dX2_ref_0 : decode cX2_ref 0 = .ok (.aload_n 0, 1) := by decide +kernel
theorem dX2_ref_1 : decode cX2_ref 1 = .ok (.iload_n 1, 1) := by decide +kernel
theorem dX2_ref_2 : decode cX2_ref 2 = .ok (.invokevirtual 40, 3) := by decide +kernel
theorem dX2_ref_5 : decode cX2_ref 5 = .ok (.astore_n 3, 1) := by decide +kernel
theorem dX2_ref_6 : decode cX2_ref 6 = .ok (.iload_n 2, 1) := by decide +kernel
theorem dX2_ref_7 : decode cX2_ref 7 = .ok (.invokestatic 86, 3) := by decide +kernel
theorem dX2_ref_10 : decode cX2_ref 10 = .ok (.aload_n 3, 1) := by decide +kernel
theorem dX2_ref_11 : decode cX2_ref 11 = .ok (.iload_n 2, 1) := by decide +kernel
theorem dX2_ref_12 : decode cX2_ref 12 = .ok (.invokevirtual 89, 3) := by decide +kernel
theorem dX2_ref_15 : decode cX2_ref 15 = .ok (.ireturn, 1) := by decide +kernel
set_option maxRecDepth 20000 in
theorem ggX2_fileAt_X2_checkCommit : GoodIn wsX2_fileAt wsX2_checkCommit := goodIn_ca (goodIn_r _ [6, 7, 8, 1, 9, 10, 11, 12, 13, 14, 27, 28, 29, 30, 31, 32, 33, 34, 35, 36, 37, 38, 39, 40, 41] (by decide +kernel) (by decide +kernel)) (goodIn_sub (fun _ h => List.mem_cons_of_mem _ (List.mem_append_right _ h)) (by decide +kernel))
set_option maxRecDepth 20000 in
theorem gX2_fileAt_X2_checkCommit : GoodIn wsX2_fileAt (wsV RX2 97 RX2 yX2_checkCommit wsX2_checkCommit) := goodIn_app (goodIn_of _ (by decide +kernel)) ggX2_fileAt_X2_checkCommit
set_option maxRecDepth 20000 in
theorem ggX2_fileAt_X2_checkSlot : GoodIn wsX2_fileAt wsX2_checkSlot := goodIn_ca (goodIn_r _ [17, 7, 8, 18, 19, 5, 20] (by decide +kernel) (by decide +kernel)) (goodIn_sub (fun _ h => List.mem_cons_of_mem _ (List.mem_append_right _ h)) (by decide +kernel))
set_option maxRecDepth 20000 in
theorem gX2_fileAt_X2_checkSlot : GoodIn wsX2_fileAt (va_wsS RX2 44 yX2_checkSlot wsX2_checkSlot) := goodIn_app (goodIn_of _ (by decide +kernel)) ggX2_fileAt_X2_checkSlot
set_option maxRecDepth 20000 in
theorem ggX2_fileAt_X0_fileIn : GoodIn wsX2_fileAt wsX0_fileIn := goodIn_r _ [24, 25, 26, 10, 11, 12, 13, 14, 19, 5, 20, 36, 37, 38, 39, 40, 41] (by decide +kernel) (by decide +kernel)
set_option maxRecDepth 20000 in
theorem gX2_fileAt_X0_fileIn : GoodIn wsX2_fileAt (wsV RX2 100 RX0 yX0_fileIn wsX0_fileIn) := goodIn_app (goodIn_of _ (by decide +kernel)) ggX2_fileAt_X0_fileIn
theorem dX2_fileAt_0 : decode cX2_fileAt 0 = .ok (.aload_n 0, 1) := by decide +kernel
theorem dX2_fileAt_1 : decode cX2_fileAt 1 = .ok (.iload_n 1, 1) := by decide +kernel
theorem dX2_fileAt_2 : decode cX2_fileAt 2 = .ok (.invokevirtual 97, 3) := by decide +kernel
theorem dX2_fileAt_5 : decode cX2_fileAt 5 = .ok (.iload_n 2, 1) := by decide +kernel
theorem dX2_fileAt_6 : decode cX2_fileAt 6 = .ok (.invokestatic 44, 3) := by decide +kernel
theorem dX2_fileAt_9 : decode cX2_fileAt 9 = .ok (.aload_n 0, 1) := by decide +kernel
theorem dX2_fileAt_10 : decode cX2_fileAt 10 = .ok (.getfield 10, 3) := by decide +kernel
theorem dX2_fileAt_13 : decode cX2_fileAt 13 = .ok (.iload_n 1, 1) := by decide +kernel
theorem dX2_fileAt_14 : decode cX2_fileAt 14 = .ok (.iload_n 2, 1) := by decide +kernel
theorem dX2_fileAt_15 : decode cX2_fileAt 15 = .ok (.invokevirtual 100, 3) := by decide +kernel
theorem dX2_fileAt_18 : decode cX2_fileAt 18 = .ok (.ireturn, 1) := by decide +kernel
set_option maxRecDepth 20000 in
theorem ggX2_fetch_X2_commitToFetch : GoodIn wsX2_fetch wsX2_commitToFetch := goodIn_ca (goodIn_ca (goodIn_ca (goodIn_r _ [9, 10, 11, 12, 13, 4, 14, 15, 8, 16, 17, 18, 19, 20, 21, 22, 23, 24, 25, 26, 27, 114, 115, 116, 117, 118, 119, 120, 121, 122, 123, 124, 125] (by decide +kernel) (by decide +kernel)) (goodIn_sub (fun _ h => List.mem_cons_of_mem _ (List.mem_append_left _ (List.mem_append_left _ (List.mem_append_right _ h)))) (by decide +kernel))) (goodIn_sub (fun _ h => List.mem_cons_of_mem _ (List.mem_append_left _ (List.mem_append_right _ h))) (by decide +kernel))) (goodIn_sub (fun _ h => List.mem_cons_of_mem _ (List.mem_append_right _ h)) (by decide +kernel))
set_option maxRecDepth 20000 in
theorem gX2_fetch_X2_commitToFetch : GoodIn wsX2_fetch (wsV RX2 104 RX2 yX2_commitToFetch wsX2_commitToFetch) := goodIn_app (goodIn_of _ (by decide +kernel)) ggX2_fetch_X2_commitToFetch
set_option maxRecDepth 20000 in
theorem ggX2_fetch_X2_talk : GoodIn wsX2_fetch wsX2_talk := goodIn_r _ [31, 3, 1, 4, 2, 32, 33, 34, 8, 35, 36, 37, 38, 39, 40, 41, 42, 43, 44, 45, 46, 47, 48, 49, 50, 51, 52, 53, 54, 55, 56, 57, 58, 59, 60, 61, 62, 114, 115, 116, 117, 118, 119, 120, 121, 122, 123, 124, 125, 126, 127, 128, 129, 130, 131] (by decide +kernel) (by decide +kernel)
set_option maxRecDepth 20000 in
theorem gX2_fetch_X2_talk : GoodIn wsX2_fetch (wsV RX2 107 RX2 yX2_talk wsX2_talk) := goodIn_app (goodIn_of _ (by decide +kernel)) ggX2_fetch_X2_talk
set_option maxRecDepth 20000 in
theorem ggX2_fetch_X0_reachOf : GoodIn wsX2_fetch wsX0_reachOf := goodIn_r _ [66, 67, 57, 58, 59, 60, 61, 45, 62, 47, 68, 69, 70, 71, 40, 8, 41, 72, 73, 74, 75, 126, 127, 128, 129, 130, 131] (by decide +kernel) (by decide +kernel)
set_option maxRecDepth 20000 in
theorem gX2_fetch_X0_reachOf : GoodIn wsX2_fetch (wsV RX2 111 RX0 yX0_reachOf wsX0_reachOf) := goodIn_app (goodIn_of _ (by decide +kernel)) ggX2_fetch_X0_reachOf
set_option maxRecDepth 20000 in
theorem ggX2_fetch_X0_filesOf : GoodIn wsX2_fetch wsX0_filesOf := goodIn_r _ [79, 80, 47, 37, 8, 38, 39, 40, 41, 81, 82, 83, 45, 84, 85, 86, 87, 88, 89, 59, 60, 61, 62, 90, 91, 92, 93, 126, 127, 128, 129, 130, 131] (by decide +kernel) (by decide +kernel)
set_option maxRecDepth 20000 in
theorem gX2_fetch_X0_filesOf : GoodIn wsX2_fetch (wsV RX2 117 RX0 yX0_filesOf wsX0_filesOf) := goodIn_app (goodIn_of _ (by decide +kernel)) ggX2_fetch_X0_filesOf
set_option maxRecDepth 20000 in
theorem ggX2_fetch_X1_addFiles : GoodIn wsX2_fetch wsX1_addFiles := goodIn_r _ [97, 98, 99, 100, 101, 25, 102, 92, 8, 93, 123, 124, 125] (by decide +kernel) (by decide +kernel)
set_option maxRecDepth 20000 in
theorem gX2_fetch_X1_addFiles : GoodIn wsX2_fetch (wsV RX2 121 RX1 yX1_addFiles wsX1_addFiles) := goodIn_app (goodIn_of _ (by decide +kernel)) ggX2_fetch_X1_addFiles
set_option maxRecDepth 20000 in
theorem ggX2_fetch_X1_pointRef : GoodIn wsX2_fetch wsX1_pointRef := goodIn_r _ [106, 27, 20, 8, 21, 123, 124, 125] (by decide +kernel) (by decide +kernel)
set_option maxRecDepth 20000 in
theorem gX2_fetch_X1_pointRef : GoodIn wsX2_fetch (wsV RX2 93 RX1 yX1_pointRef wsX1_pointRef) := goodIn_app (goodIn_of _ (by decide +kernel)) ggX2_fetch_X1_pointRef
set_option maxRecDepth 20000 in
theorem ggX2_fetch_J13_bitCount_95d88 : GoodIn wsX2_fetch wsJ13_bitCount_95d88 := goodIn_r _ [110, 111, 112, 113] (by decide +kernel) (by decide +kernel)
set_option maxRecDepth 20000 in
theorem gX2_fetch_J13_bitCount_95d88 : GoodIn wsX2_fetch (va_wsS RX2 125 yJ13_bitCount_95d88 wsJ13_bitCount_95d88) := goodIn_app (goodIn_of _ (by decide +kernel)) ggX2_fetch_J13_bitCount_95d88
theorem dX2_fetch_0 : decode cX2_fetch 0 = .ok (.aload_n 0, 1) := by decide +kernel
theorem dX2_fetch_1 : decode cX2_fetch 1 = .ok (.iload_n 1, 1) := by decide +kernel
theorem dX2_fetch_2 : decode cX2_fetch 2 = .ok (.iload_n 2, 1) := by decide +kernel
theorem dX2_fetch_3 : decode cX2_fetch 3 = .ok (.invokevirtual 104, 3) := by decide +kernel
theorem dX2_fetch_6 : decode cX2_fetch 6 = .ok (.istore 4, 2) := by decide +kernel
theorem dX2_fetch_8 : decode cX2_fetch 8 = .ok (.aload_n 0, 1) := by decide +kernel
theorem dX2_fetch_9 : decode cX2_fetch 9 = .ok (.invokevirtual 107, 3) := by decide +kernel
theorem dX2_fetch_12 : decode cX2_fetch 12 = .ok (.lstore 5, 2) := by decide +kernel
theorem dX2_fetch_14 : decode cX2_fetch 14 = .ok (.aload_n 0, 1) := by decide +kernel
theorem dX2_fetch_15 : decode cX2_fetch 15 = .ok (.getfield 10, 3) := by decide +kernel
theorem dX2_fetch_18 : decode cX2_fetch 18 = .ok (.iload 4, 2) := by decide +kernel
theorem dX2_fetch_20 : decode cX2_fetch 20 = .ok (.iload_n 2, 1) := by decide +kernel
theorem dX2_fetch_21 : decode cX2_fetch 21 = .ok (.invokevirtual 111, 3) := by decide +kernel
theorem dX2_fetch_24 : decode cX2_fetch 24 = .ok (.lload 5, 2) := by decide +kernel
theorem dX2_fetch_26 : decode cX2_fetch 26 = .ok (.ldc2_w 115, 3) := by decide +kernel
theorem dX2_fetch_29 : decode cX2_fetch 29 = .ok (.lxor, 1) := by decide +kernel
theorem dX2_fetch_30 : decode cX2_fetch 30 = .ok (.land, 1) := by decide +kernel
theorem dX2_fetch_31 : decode cX2_fetch 31 = .ok (.lstore 7, 2) := by decide +kernel
theorem dX2_fetch_33 : decode cX2_fetch 33 = .ok (.aload_n 0, 1) := by decide +kernel
theorem dX2_fetch_34 : decode cX2_fetch 34 = .ok (.getfield 23, 3) := by decide +kernel
theorem dX2_fetch_37 : decode cX2_fetch 37 = .ok (.dup, 1) := by decide +kernel
theorem dX2_fetch_38 : decode cX2_fetch 38 = .ok (.getfield 75, 3) := by decide +kernel
theorem dX2_fetch_41 : decode cX2_fetch 41 = .ok (.lload 7, 2) := by decide +kernel
theorem dX2_fetch_43 : decode cX2_fetch 43 = .ok (.lor, 1) := by decide +kernel
theorem dX2_fetch_44 : decode cX2_fetch 44 = .ok (.putfield 75, 3) := by decide +kernel
theorem dX2_fetch_47 : decode cX2_fetch 47 = .ok (.iload_n 3, 1) := by decide +kernel
theorem dX2_fetch_48 : decode cX2_fetch 48 = .ok (.ifCond .eq 23, 3) := by decide +kernel
theorem dX2_fetch_51 : decode cX2_fetch 51 = .ok (.aload_n 0, 1) := by decide +kernel
theorem dX2_fetch_52 : decode cX2_fetch 52 = .ok (.getfield 23, 3) := by decide +kernel
theorem dX2_fetch_55 : decode cX2_fetch 55 = .ok (.aload_n 0, 1) := by decide +kernel
theorem dX2_fetch_56 : decode cX2_fetch 56 = .ok (.getfield 10, 3) := by decide +kernel
theorem dX2_fetch_59 : decode cX2_fetch 59 = .ok (.lload 7, 2) := by decide +kernel
theorem dX2_fetch_61 : decode cX2_fetch 61 = .ok (.invokevirtual 117, 3) := by decide +kernel
theorem dX2_fetch_64 : decode cX2_fetch 64 = .ok (.aload_n 0, 1) := by decide +kernel
theorem dX2_fetch_65 : decode cX2_fetch 65 = .ok (.getfield 19, 3) := by decide +kernel
theorem dX2_fetch_68 : decode cX2_fetch 68 = .ok (.invokevirtual 121, 3) := by decide +kernel
theorem dX2_fetch_71 : decode cX2_fetch 71 = .ok (.aload_n 0, 1) := by decide +kernel
theorem dX2_fetch_72 : decode cX2_fetch 72 = .ok (.getfield 23, 3) := by decide +kernel
theorem dX2_fetch_75 : decode cX2_fetch 75 = .ok (.iload_n 1, 1) := by decide +kernel
theorem dX2_fetch_76 : decode cX2_fetch 76 = .ok (.iload 4, 2) := by decide +kernel
theorem dX2_fetch_78 : decode cX2_fetch 78 = .ok (.invokevirtual 93, 3) := by decide +kernel
theorem dX2_fetch_81 : decode cX2_fetch 81 = .ok (.lload 7, 2) := by decide +kernel
theorem dX2_fetch_83 : decode cX2_fetch 83 = .ok (.invokestatic 125, 3) := by decide +kernel
theorem dX2_fetch_86 : decode cX2_fetch 86 = .ok (.ireturn, 1) := by decide +kernel
set_option maxRecDepth 20000 in
theorem ggX2_wouldFetch_X2_commitToFetch : GoodIn wsX2_wouldFetch wsX2_commitToFetch := goodIn_ca (goodIn_ca (goodIn_ca (goodIn_r _ [8, 9, 10, 11, 12, 13, 14, 15, 7, 16, 17, 18, 19, 20, 21, 22, 23, 24, 25, 26, 27, 58, 59, 60, 61, 62, 63, 64, 65, 66, 67, 68, 69] (by decide +kernel) (by decide +kernel)) (goodIn_sub (fun _ h => List.mem_cons_of_mem _ (List.mem_append_left _ (List.mem_append_left _ (List.mem_append_right _ h)))) (by decide +kernel))) (goodIn_sub (fun _ h => List.mem_cons_of_mem _ (List.mem_append_left _ (List.mem_append_right _ h))) (by decide +kernel))) (goodIn_sub (fun _ h => List.mem_cons_of_mem _ (List.mem_append_right _ h)) (by decide +kernel))
set_option maxRecDepth 20000 in
theorem gX2_wouldFetch_X2_commitToFetch : GoodIn wsX2_wouldFetch (wsV RX2 104 RX2 yX2_commitToFetch wsX2_commitToFetch) := goodIn_app (goodIn_of _ (by decide +kernel)) ggX2_wouldFetch_X2_commitToFetch
set_option maxRecDepth 20000 in
theorem ggX2_wouldFetch_X0_reachOf : GoodIn wsX2_wouldFetch wsX0_reachOf := goodIn_r _ [32, 33, 34, 35, 36, 37, 38, 31, 39, 40, 41, 42, 43, 44, 45, 7, 46, 47, 48, 49, 50, 70, 71, 72, 73, 74, 75] (by decide +kernel) (by decide +kernel)
set_option maxRecDepth 20000 in
theorem gX2_wouldFetch_X0_reachOf : GoodIn wsX2_wouldFetch (wsV RX2 111 RX0 yX0_reachOf wsX0_reachOf) := goodIn_app (goodIn_of _ (by decide +kernel)) ggX2_wouldFetch_X0_reachOf
set_option maxRecDepth 20000 in
theorem ggX2_wouldFetch_J13_bitCount_95d88 : GoodIn wsX2_wouldFetch wsJ13_bitCount_95d88 := goodIn_r _ [54, 55, 56, 57] (by decide +kernel) (by decide +kernel)
set_option maxRecDepth 20000 in
theorem gX2_wouldFetch_J13_bitCount_95d88 : GoodIn wsX2_wouldFetch (va_wsS RX2 125 yJ13_bitCount_95d88 wsJ13_bitCount_95d88) := goodIn_app (goodIn_of _ (by decide +kernel)) ggX2_wouldFetch_J13_bitCount_95d88
theorem dX2_wouldFetch_0 : decode cX2_wouldFetch 0 = .ok (.aload_n 0, 1) := by decide +kernel
theorem dX2_wouldFetch_1 : decode cX2_wouldFetch 1 = .ok (.iload_n 1, 1) := by decide +kernel
theorem dX2_wouldFetch_2 : decode cX2_wouldFetch 2 = .ok (.iload_n 2, 1) := by decide +kernel
theorem dX2_wouldFetch_3 : decode cX2_wouldFetch 3 = .ok (.invokevirtual 104, 3) := by decide +kernel
theorem dX2_wouldFetch_6 : decode cX2_wouldFetch 6 = .ok (.istore_n 3, 1) := by decide +kernel
theorem dX2_wouldFetch_7 : decode cX2_wouldFetch 7 = .ok (.aload_n 0, 1) := by decide +kernel
theorem dX2_wouldFetch_8 : decode cX2_wouldFetch 8 = .ok (.getfield 10, 3) := by decide +kernel
theorem dX2_wouldFetch_11 : decode cX2_wouldFetch 11 = .ok (.iload_n 3, 1) := by decide +kernel
theorem dX2_wouldFetch_12 : decode cX2_wouldFetch 12 = .ok (.iload_n 2, 1) := by decide +kernel
theorem dX2_wouldFetch_13 : decode cX2_wouldFetch 13 = .ok (.invokevirtual 111, 3) := by decide +kernel
theorem dX2_wouldFetch_16 : decode cX2_wouldFetch 16 = .ok (.aload_n 0, 1) := by decide +kernel
theorem dX2_wouldFetch_17 : decode cX2_wouldFetch 17 = .ok (.getfield 23, 3) := by decide +kernel
theorem dX2_wouldFetch_20 : decode cX2_wouldFetch 20 = .ok (.getfield 75, 3) := by decide +kernel
theorem dX2_wouldFetch_23 : decode cX2_wouldFetch 23 = .ok (.ldc2_w 115, 3) := by decide +kernel
theorem dX2_wouldFetch_26 : decode cX2_wouldFetch 26 = .ok (.lxor, 1) := by decide +kernel
theorem dX2_wouldFetch_27 : decode cX2_wouldFetch 27 = .ok (.land, 1) := by decide +kernel
theorem dX2_wouldFetch_28 : decode cX2_wouldFetch 28 = .ok (.invokestatic 125, 3) := by decide +kernel
theorem dX2_wouldFetch_31 : decode cX2_wouldFetch 31 = .ok (.ireturn, 1) := by decide +kernel
theorem dX2_rounds_0 : decode cX2_rounds 0 = .ok (.aload_n 0, 1) := by decide +kernel
theorem dX2_rounds_1 : decode cX2_rounds 1 = .ok (.getfield 131, 3) := by decide +kernel
theorem dX2_rounds_4 : decode cX2_rounds 4 = .ok (.ireturn, 1) := by decide +kernel
set_option maxRecDepth 20000 in
theorem ggX2_load_X2_checkFile : GoodIn wsX2_load wsX2_checkFile := goodIn_ca (goodIn_r _ [8, 9, 10, 11, 12, 7, 13] (by decide +kernel) (by decide +kernel)) (goodIn_sub (fun _ h => List.mem_cons_of_mem _ (List.mem_append_right _ h)) (by decide +kernel))
set_option maxRecDepth 20000 in
theorem gX2_load_X2_checkFile : GoodIn wsX2_load (va_wsS RX2 52 yX2_checkFile wsX2_checkFile) := goodIn_app (goodIn_of _ (by decide +kernel)) ggX2_load_X2_checkFile
set_option maxRecDepth 20000 in
theorem ggX2_load_X1_holdsFile : GoodIn wsX2_load wsX1_holdsFile := goodIn_r _ [18, 19, 12, 7, 13, 33, 34, 35] (by decide +kernel) (by decide +kernel)
set_option maxRecDepth 20000 in
theorem gX2_load_X1_holdsFile : GoodIn wsX2_load (wsV RX2 135 RX1 yX1_holdsFile wsX1_holdsFile) := goodIn_app (goodIn_of _ (by decide +kernel)) ggX2_load_X1_holdsFile
set_option maxRecDepth 20000 in
theorem ggX2_load_X1_addFile : GoodIn wsX2_load wsX1_addFile := goodIn_r _ [23, 19, 12, 7, 13, 33, 34, 35] (by decide +kernel) (by decide +kernel)
set_option maxRecDepth 20000 in
theorem gX2_load_X1_addFile : GoodIn wsX2_load (wsV RX2 83 RX1 yX1_addFile wsX1_addFile) := goodIn_app (goodIn_of _ (by decide +kernel)) ggX2_load_X1_addFile
theorem dX2_load_0 : decode cX2_load 0 = .ok (.iload_n 1, 1) := by decide +kernel
theorem dX2_load_1 : decode cX2_load 1 = .ok (.invokestatic 52, 3) := by decide +kernel
theorem dX2_load_4 : decode cX2_load 4 = .ok (.aload_n 0, 1) := by decide +kernel
theorem dX2_load_5 : decode cX2_load 5 = .ok (.getfield 19, 3) := by decide +kernel
theorem dX2_load_8 : decode cX2_load 8 = .ok (.iload_n 1, 1) := by decide +kernel
theorem dX2_load_9 : decode cX2_load 9 = .ok (.invokevirtual 135, 3) := by decide +kernel
theorem dX2_load_12 : decode cX2_load 12 = .ok (.ifCond .ne 13, 3) := by decide +kernel
theorem dX2_load_15 : decode cX2_load 15 = .ok (.new 66, 3) := by decide +kernel
theorem dX2_load_18 : decode cX2_load 18 = .ok (.dup, 1) := by decide +kernel
theorem dX2_load_19 : decode cX2_load 19 = .ok (.ldc 139, 2) := by decide +kernel
theorem dX2_load_21 : decode cX2_load 21 = .ok (.invokespecial 70, 3) := by decide +kernel
theorem dX2_load_24 : decode cX2_load 24 = .ok (.athrow, 1) := by decide +kernel
theorem dX2_load_25 : decode cX2_load 25 = .ok (.aload_n 0, 1) := by decide +kernel
theorem dX2_load_26 : decode cX2_load 26 = .ok (.getfield 23, 3) := by decide +kernel
theorem dX2_load_29 : decode cX2_load 29 = .ok (.iload_n 1, 1) := by decide +kernel
theorem dX2_load_30 : decode cX2_load 30 = .ok (.invokevirtual 135, 3) := by decide +kernel
theorem dX2_load_33 : decode cX2_load 33 = .ok (.ifCond .ne 7, 3) := by decide +kernel
theorem dX2_load_36 : decode cX2_load 36 = .ok (.iconst 1, 1) := by decide +kernel
theorem dX2_load_37 : decode cX2_load 37 = .ok (.goto 4, 3) := by decide +kernel
theorem dX2_load_40 : decode cX2_load 40 = .ok (.iconst 0, 1) := by decide +kernel
theorem dX2_load_41 : decode cX2_load 41 = .ok (.istore_n 2, 1) := by decide +kernel
theorem dX2_load_42 : decode cX2_load 42 = .ok (.aload_n 0, 1) := by decide +kernel
theorem dX2_load_43 : decode cX2_load 43 = .ok (.getfield 23, 3) := by decide +kernel
theorem dX2_load_46 : decode cX2_load 46 = .ok (.iload_n 1, 1) := by decide +kernel
theorem dX2_load_47 : decode cX2_load 47 = .ok (.invokevirtual 83, 3) := by decide +kernel
theorem dX2_load_50 : decode cX2_load 50 = .ok (.iload_n 2, 1) := by decide +kernel
theorem dX2_load_51 : decode cX2_load 51 = .ok (.ireturn, 1) := by decide +kernel
set_option maxRecDepth 20000 in
theorem ggX2_missing_X0_filesOf : GoodIn wsX2_missing wsX0_filesOf := goodIn_r _ [7, 8, 9, 10, 11, 12, 13, 14, 15, 16, 17, 18, 6, 19, 20, 21, 22, 23, 24, 25, 26, 27, 28, 29, 30, 31, 32, 51, 52, 53, 54, 55, 56] (by decide +kernel) (by decide +kernel)
set_option maxRecDepth 20000 in
theorem gX2_missing_X0_filesOf : GoodIn wsX2_missing (wsV RX2 117 RX0 yX0_filesOf wsX0_filesOf) := goodIn_app (goodIn_of _ (by decide +kernel)) ggX2_missing_X0_filesOf
set_option maxRecDepth 20000 in
theorem ggX2_missing_X1_countLacking : GoodIn wsX2_missing wsX1_countLacking := goodIn_r _ [37, 38, 48, 49, 50] (by decide +kernel) (by decide +kernel)
set_option maxRecDepth 20000 in
theorem gX2_missing_X1_countLacking : GoodIn wsX2_missing (wsV RX2 141 RX1 yX1_countLacking wsX1_countLacking) := goodIn_app (goodIn_of _ (by decide +kernel)) ggX2_missing_X1_countLacking
theorem dX2_missing_0 : decode cX2_missing 0 = .ok (.aload_n 0, 1) := by decide +kernel
theorem dX2_missing_1 : decode cX2_missing 1 = .ok (.getfield 23, 3) := by decide +kernel
theorem dX2_missing_4 : decode cX2_missing 4 = .ok (.aload_n 0, 1) := by decide +kernel
theorem dX2_missing_5 : decode cX2_missing 5 = .ok (.getfield 10, 3) := by decide +kernel
theorem dX2_missing_8 : decode cX2_missing 8 = .ok (.aload_n 0, 1) := by decide +kernel
theorem dX2_missing_9 : decode cX2_missing 9 = .ok (.getfield 23, 3) := by decide +kernel
theorem dX2_missing_12 : decode cX2_missing 12 = .ok (.getfield 75, 3) := by decide +kernel
theorem dX2_missing_15 : decode cX2_missing 15 = .ok (.invokevirtual 117, 3) := by decide +kernel
theorem dX2_missing_18 : decode cX2_missing 18 = .ok (.invokevirtual 141, 3) := by decide +kernel
theorem dX2_missing_21 : decode cX2_missing 21 = .ok (.ireturn, 1) := by decide +kernel
set_option maxRecDepth 20000 in
theorem ggX2_protect_X2_checkRef : GoodIn wsX2_protect wsX2_checkRef := goodIn_ca (goodIn_r _ [5, 6, 7, 8, 9, 4, 10] (by decide +kernel) (by decide +kernel)) (goodIn_sub (fun _ h => List.mem_cons_of_mem _ (List.mem_append_right _ h)) (by decide +kernel))
set_option maxRecDepth 20000 in
theorem gX2_protect_X2_checkRef : GoodIn wsX2_protect (va_wsS RX2 86 yX2_checkRef wsX2_checkRef) := goodIn_app (goodIn_of _ (by decide +kernel)) ggX2_protect_X2_checkRef
theorem dX2_protect_0 : decode cX2_protect 0 = .ok (.iload_n 1, 1) := by decide +kernel
theorem dX2_protect_1 : decode cX2_protect 1 = .ok (.invokestatic 86, 3) := by decide +kernel
theorem dX2_protect_4 : decode cX2_protect 4 = .ok (.aload_n 0, 1) := by decide +kernel
theorem dX2_protect_5 : decode cX2_protect 5 = .ok (.getfield 26, 3) := by decide +kernel
theorem dX2_protect_8 : decode cX2_protect 8 = .ok (.iload_n 1, 1) := by decide +kernel
theorem dX2_protect_9 : decode cX2_protect 9 = .ok (.baload, 1) := by decide +kernel
theorem dX2_protect_10 : decode cX2_protect 10 = .ok (.iload_n 2, 1) := by decide +kernel
theorem dX2_protect_11 : decode cX2_protect 11 = .ok (.if_icmp .eq 7, 3) := by decide +kernel
theorem dX2_protect_14 : decode cX2_protect 14 = .ok (.iconst 1, 1) := by decide +kernel
theorem dX2_protect_15 : decode cX2_protect 15 = .ok (.goto 4, 3) := by decide +kernel
theorem dX2_protect_18 : decode cX2_protect 18 = .ok (.iconst 0, 1) := by decide +kernel
theorem dX2_protect_19 : decode cX2_protect 19 = .ok (.istore_n 3, 1) := by decide +kernel
theorem dX2_protect_20 : decode cX2_protect 20 = .ok (.aload_n 0, 1) := by decide +kernel
theorem dX2_protect_21 : decode cX2_protect 21 = .ok (.getfield 26, 3) := by decide +kernel
theorem dX2_protect_24 : decode cX2_protect 24 = .ok (.iload_n 1, 1) := by decide +kernel
theorem dX2_protect_25 : decode cX2_protect 25 = .ok (.iload_n 2, 1) := by decide +kernel
theorem dX2_protect_26 : decode cX2_protect 26 = .ok (.bastore, 1) := by decide +kernel
theorem dX2_protect_27 : decode cX2_protect 27 = .ok (.iload_n 3, 1) := by decide +kernel
theorem dX2_protect_28 : decode cX2_protect 28 = .ok (.ireturn, 1) := by decide +kernel
set_option maxRecDepth 20000 in
theorem ggX2_move_X2_checkRef : GoodIn wsX2_move wsX2_checkRef := goodIn_ca (goodIn_r _ [10, 11, 12, 13, 14, 9, 15] (by decide +kernel) (by decide +kernel)) (goodIn_sub (fun _ h => List.mem_cons_of_mem _ (List.mem_append_right _ h)) (by decide +kernel))
set_option maxRecDepth 20000 in
theorem gX2_move_X2_checkRef : GoodIn wsX2_move (va_wsS RX2 86 yX2_checkRef wsX2_checkRef) := goodIn_app (goodIn_of _ (by decide +kernel)) ggX2_move_X2_checkRef
set_option maxRecDepth 20000 in
theorem ggX2_move_X2_checkCommitOrNone : GoodIn wsX2_move wsX2_checkCommitOrNone := goodIn_ca (goodIn_r _ [19, 20, 21, 22, 9, 23, 11, 12, 24, 25, 26, 27, 28, 29, 30, 31, 32, 33, 34, 35, 36, 37, 38, 39, 40, 41, 42, 43, 44, 45] (by decide +kernel) (by decide +kernel)) (goodIn_sub (fun _ h => List.mem_cons_of_mem _ (List.mem_append_right _ h)) (by decide +kernel))
set_option maxRecDepth 20000 in
theorem gX2_move_X2_checkCommitOrNone : GoodIn wsX2_move (wsV RX2 145 RX2 yX2_checkCommitOrNone wsX2_checkCommitOrNone) := goodIn_app (goodIn_of _ (by decide +kernel)) ggX2_move_X2_checkCommitOrNone
theorem dX2_move_0 : decode cX2_move 0 = .ok (.iload_n 1, 1) := by decide +kernel
theorem dX2_move_1 : decode cX2_move 1 = .ok (.invokestatic 86, 3) := by decide +kernel
theorem dX2_move_4 : decode cX2_move 4 = .ok (.aload_n 0, 1) := by decide +kernel
theorem dX2_move_5 : decode cX2_move 5 = .ok (.iload_n 2, 1) := by decide +kernel
theorem dX2_move_6 : decode cX2_move 6 = .ok (.invokevirtual 145, 3) := by decide +kernel
theorem dX2_move_9 : decode cX2_move 9 = .ok (.aload_n 0, 1) := by decide +kernel
theorem dX2_move_10 : decode cX2_move 10 = .ok (.iload_n 3, 1) := by decide +kernel
theorem dX2_move_11 : decode cX2_move 11 = .ok (.invokevirtual 145, 3) := by decide +kernel
theorem dX2_move_14 : decode cX2_move 14 = .ok (.aload_n 0, 1) := by decide +kernel
theorem dX2_move_15 : decode cX2_move 15 = .ok (.getfield 148, 3) := by decide +kernel
theorem dX2_move_18 : decode cX2_move 18 = .ok (.iconst 3, 1) := by decide +kernel
theorem dX2_move_19 : decode cX2_move 19 = .ok (.if_icmp .lt 13, 3) := by decide +kernel
theorem dX2_move_22 : decode cX2_move 22 = .ok (.new 66, 3) := by decide +kernel
theorem dX2_move_25 : decode cX2_move 25 = .ok (.dup, 1) := by decide +kernel
theorem dX2_move_26 : decode cX2_move 26 = .ok (.ldc 151, 2) := by decide +kernel
theorem dX2_move_28 : decode cX2_move 28 = .ok (.invokespecial 70, 3) := by decide +kernel
theorem dX2_move_31 : decode cX2_move 31 = .ok (.athrow, 1) := by decide +kernel
theorem dX2_move_32 : decode cX2_move 32 = .ok (.aload_n 0, 1) := by decide +kernel
theorem dX2_move_33 : decode cX2_move 33 = .ok (.getfield 30, 3) := by decide +kernel
theorem dX2_move_36 : decode cX2_move 36 = .ok (.aload_n 0, 1) := by decide +kernel
theorem dX2_move_37 : decode cX2_move 37 = .ok (.getfield 148, 3) := by decide +kernel
theorem dX2_move_40 : decode cX2_move 40 = .ok (.iload_n 1, 1) := by decide +kernel
theorem dX2_move_41 : decode cX2_move 41 = .ok (.iastore, 1) := by decide +kernel
theorem dX2_move_42 : decode cX2_move 42 = .ok (.aload_n 0, 1) := by decide +kernel
theorem dX2_move_43 : decode cX2_move 43 = .ok (.getfield 34, 3) := by decide +kernel
theorem dX2_move_46 : decode cX2_move 46 = .ok (.aload_n 0, 1) := by decide +kernel
theorem dX2_move_47 : decode cX2_move 47 = .ok (.getfield 148, 3) := by decide +kernel
theorem dX2_move_50 : decode cX2_move 50 = .ok (.iload_n 2, 1) := by decide +kernel
theorem dX2_move_51 : decode cX2_move 51 = .ok (.iastore, 1) := by decide +kernel
theorem dX2_move_52 : decode cX2_move 52 = .ok (.aload_n 0, 1) := by decide +kernel
theorem dX2_move_53 : decode cX2_move 53 = .ok (.getfield 37, 3) := by decide +kernel
theorem dX2_move_56 : decode cX2_move 56 = .ok (.aload_n 0, 1) := by decide +kernel
theorem dX2_move_57 : decode cX2_move 57 = .ok (.getfield 148, 3) := by decide +kernel
theorem dX2_move_60 : decode cX2_move 60 = .ok (.iload_n 3, 1) := by decide +kernel
theorem dX2_move_61 : decode cX2_move 61 = .ok (.iastore, 1) := by decide +kernel
theorem dX2_move_62 : decode cX2_move 62 = .ok (.aload_n 0, 1) := by decide +kernel
theorem dX2_move_63 : decode cX2_move 63 = .ok (.dup, 1) := by decide +kernel
theorem dX2_move_64 : decode cX2_move 64 = .ok (.getfield 148, 3) := by decide +kernel
theorem dX2_move_67 : decode cX2_move 67 = .ok (.iconst 1, 1) := by decide +kernel
theorem dX2_move_68 : decode cX2_move 68 = .ok (.iadd, 1) := by decide +kernel
theorem dX2_move_69 : decode cX2_move 69 = .ok (.putfield 148, 3) := by decide +kernel
theorem dX2_move_72 : decode cX2_move 72 = .ok (.aload_n 0, 1) := by decide +kernel
theorem dX2_move_73 : decode cX2_move 73 = .ok (.getfield 148, 3) := by decide +kernel
theorem dX2_move_76 : decode cX2_move 76 = .ok (.ireturn, 1) := by decide +kernel
set_option maxRecDepth 20000 in
theorem ggX2_push_X2_firstRefusal : GoodIn wsX2_push wsX2_firstRefusal := goodIn_r _ [6, 1, 7, 8, 9, 10, 11, 12, 5, 13, 14, 15, 16, 17, 18, 19, 20, 21, 22, 23, 24, 25, 26, 27, 28, 29, 30, 31, 32, 33, 34, 35, 36, 37, 38, 39, 40, 41, 42, 43, 44, 45, 46, 47, 48, 49, 50, 51, 52, 53, 54, 55, 56, 57, 58, 59, 60, 61, 62, 63, 106, 107, 108, 109, 110, 111, 112, 113, 114, 115, 116, 117, 118, 119, 120, 121, 122, 123] (by decide +kernel) (by decide +kernel)
set_option maxRecDepth 20000 in
theorem gX2_push_X2_firstRefusal : GoodIn wsX2_push (wsV RX2 153 RX2 yX2_firstRefusal wsX2_firstRefusal) := goodIn_app (goodIn_of _ (by decide +kernel)) ggX2_push_X2_firstRefusal
set_option maxRecDepth 20000 in
theorem ggX2_push_X2_doMoves : GoodIn wsX2_push wsX2_doMoves := goodIn_r _ [67, 1, 14, 7, 9, 15, 16, 62, 68, 69, 70, 20, 71, 22, 23, 5, 24, 25, 26, 27, 28, 29, 30, 31, 32, 33, 34, 35, 36, 37, 38, 39, 40, 41, 42, 43, 44, 45, 46, 47, 48, 49, 50, 72, 73, 74, 75, 76, 77, 78, 79, 80, 81, 82, 83, 84, 85, 86, 87, 88, 89, 90, 91, 92, 93, 94, 95, 96, 97, 98, 99, 100, 101, 102, 103, 104, 105, 106, 107, 108, 109, 110, 111, 112, 113, 114, 115, 116, 117, 118, 119, 120, 121, 122, 123] (by decide +kernel) (by decide +kernel)
set_option maxRecDepth 20000 in
theorem gX2_push_X2_doMoves : GoodIn wsX2_push (wsV RX2 157 RX2 yX2_doMoves wsX2_doMoves) := goodIn_app (goodIn_of _ (by decide +kernel)) ggX2_push_X2_doMoves
theorem dX2_push_0 : decode cX2_push 0 = .ok (.aload_n 0, 1) := by decide +kernel
theorem dX2_push_1 : decode cX2_push 1 = .ok (.invokevirtual 153, 3) := by decide +kernel
theorem dX2_push_4 : decode cX2_push 4 = .ok (.istore_n 1, 1) := by decide +kernel
theorem dX2_push_5 : decode cX2_push 5 = .ok (.iload_n 1, 1) := by decide +kernel
theorem dX2_push_6 : decode cX2_push 6 = .ok (.ifCond .ne 10, 3) := by decide +kernel
theorem dX2_push_9 : decode cX2_push 9 = .ok (.aload_n 0, 1) := by decide +kernel
theorem dX2_push_10 : decode cX2_push 10 = .ok (.invokevirtual 157, 3) := by decide +kernel
theorem dX2_push_13 : decode cX2_push 13 = .ok (.goto 4, 3) := by decide +kernel
theorem dX2_push_16 : decode cX2_push 16 = .ok (.iload_n 1, 1) := by decide +kernel
theorem dX2_push_17 : decode cX2_push 17 = .ok (.istore_n 2, 1) := by decide +kernel
theorem dX2_push_18 : decode cX2_push 18 = .ok (.aload_n 0, 1) := by decide +kernel
theorem dX2_push_19 : decode cX2_push 19 = .ok (.iconst 0, 1) := by decide +kernel
theorem dX2_push_20 : decode cX2_push 20 = .ok (.putfield 148, 3) := by decide +kernel
theorem dX2_push_23 : decode cX2_push 23 = .ok (.iload_n 2, 1) := by decide +kernel
theorem dX2_push_24 : decode cX2_push 24 = .ok (.ireturn, 1) := by decide +kernel
set_option maxRecDepth 20000 in
theorem ggX2_collect_X2_storeOf : GoodIn wsX2_collect wsX2_storeOf := goodIn_ca (goodIn_r _ [7, 8, 9, 10, 11, 74, 75, 76, 77, 78, 79, 80, 81, 82] (by decide +kernel) (by decide +kernel)) (goodIn_sub (fun _ h => List.mem_cons_of_mem _ (List.mem_append_right _ h)) (by decide +kernel))
set_option maxRecDepth 20000 in
theorem gX2_collect_X2_storeOf : GoodIn wsX2_collect (wsV RX2 40 RX2 yX2_storeOf wsX2_storeOf) := goodIn_app (goodIn_of _ (by decide +kernel)) ggX2_collect_X2_storeOf
set_option maxRecDepth 20000 in
theorem ggX2_collect_X1_commitsOfRefs : GoodIn wsX2_collect wsX1_commitsOfRefs := goodIn_r _ [16, 17, 18, 6, 19, 83, 84, 85] (by decide +kernel) (by decide +kernel)
set_option maxRecDepth 20000 in
theorem gX2_collect_X1_commitsOfRefs : GoodIn wsX2_collect (wsV RX2 160 RX1 yX1_commitsOfRefs wsX1_commitsOfRefs) := goodIn_app (goodIn_of _ (by decide +kernel)) ggX2_collect_X1_commitsOfRefs
set_option maxRecDepth 20000 in
theorem ggX2_collect_X0_ancestorsOf : GoodIn wsX2_collect wsX0_ancestorsOf := goodIn_r _ [24, 25, 26, 27, 28, 29, 23, 30, 31, 6, 32, 33, 18, 19, 34, 35, 36, 37, 38, 39, 40, 41, 42, 43, 86, 87, 88, 89, 90, 91] (by decide +kernel) (by decide +kernel)
set_option maxRecDepth 20000 in
theorem gX2_collect_X0_ancestorsOf : GoodIn wsX2_collect (wsV RX2 163 RX0 yX0_ancestorsOf wsX0_ancestorsOf) := goodIn_app (goodIn_of _ (by decide +kernel)) ggX2_collect_X0_ancestorsOf
set_option maxRecDepth 20000 in
theorem ggX2_collect_J13_bitCount_95d88 : GoodIn wsX2_collect wsJ13_bitCount_95d88 := goodIn_r _ [47, 48, 49, 50] (by decide +kernel) (by decide +kernel)
set_option maxRecDepth 20000 in
theorem gX2_collect_J13_bitCount_95d88 : GoodIn wsX2_collect (va_wsS RX2 125 yJ13_bitCount_95d88 wsJ13_bitCount_95d88) := goodIn_app (goodIn_of _ (by decide +kernel)) ggX2_collect_J13_bitCount_95d88
set_option maxRecDepth 20000 in
theorem ggX2_collect_X0_filesOf : GoodIn wsX2_collect wsX0_filesOf := goodIn_r _ [54, 55, 25, 31, 6, 32, 33, 18, 19, 56, 57, 58, 23, 59, 60, 61, 62, 63, 64, 40, 41, 42, 43, 65, 66, 67, 68, 86, 87, 88, 89, 90, 91] (by decide +kernel) (by decide +kernel)
set_option maxRecDepth 20000 in
theorem gX2_collect_X0_filesOf : GoodIn wsX2_collect (wsV RX2 117 RX0 yX0_filesOf wsX0_filesOf) := goodIn_app (goodIn_of _ (by decide +kernel)) ggX2_collect_X0_filesOf
set_option maxRecDepth 20000 in
theorem ggX2_collect_X1_keepOnlyFiles : GoodIn wsX2_collect wsX1_keepOnlyFiles := goodIn_r _ [72, 73, 83, 84, 85] (by decide +kernel) (by decide +kernel)
set_option maxRecDepth 20000 in
theorem gX2_collect_X1_keepOnlyFiles : GoodIn wsX2_collect (wsV RX2 167 RX1 yX1_keepOnlyFiles wsX1_keepOnlyFiles) := goodIn_app (goodIn_of _ (by decide +kernel)) ggX2_collect_X1_keepOnlyFiles
theorem dX2_collect_0 : decode cX2_collect 0 = .ok (.aload_n 0, 1) := by decide +kernel
theorem dX2_collect_1 : decode cX2_collect 1 = .ok (.iload_n 1, 1) := by decide +kernel
theorem dX2_collect_2 : decode cX2_collect 2 = .ok (.invokevirtual 40, 3) := by decide +kernel
theorem dX2_collect_5 : decode cX2_collect 5 = .ok (.astore_n 2, 1) := by decide +kernel
theorem dX2_collect_6 : decode cX2_collect 6 = .ok (.aload_n 0, 1) := by decide +kernel
theorem dX2_collect_7 : decode cX2_collect 7 = .ok (.getfield 10, 3) := by decide +kernel
theorem dX2_collect_10 : decode cX2_collect 10 = .ok (.aload_n 2, 1) := by decide +kernel
theorem dX2_collect_11 : decode cX2_collect 11 = .ok (.invokevirtual 160, 3) := by decide +kernel
theorem dX2_collect_14 : decode cX2_collect 14 = .ok (.aload_n 2, 1) := by decide +kernel
theorem dX2_collect_15 : decode cX2_collect 15 = .ok (.getfield 75, 3) := by decide +kernel
theorem dX2_collect_18 : decode cX2_collect 18 = .ok (.invokevirtual 163, 3) := by decide +kernel
theorem dX2_collect_21 : decode cX2_collect 21 = .ok (.lstore_n 3, 1) := by decide +kernel
theorem dX2_collect_22 : decode cX2_collect 22 = .ok (.aload_n 2, 1) := by decide +kernel
theorem dX2_collect_23 : decode cX2_collect 23 = .ok (.getfield 75, 3) := by decide +kernel
theorem dX2_collect_26 : decode cX2_collect 26 = .ok (.lload_n 3, 1) := by decide +kernel
theorem dX2_collect_27 : decode cX2_collect 27 = .ok (.ldc2_w 115, 3) := by decide +kernel
theorem dX2_collect_30 : decode cX2_collect 30 = .ok (.lxor, 1) := by decide +kernel
theorem dX2_collect_31 : decode cX2_collect 31 = .ok (.land, 1) := by decide +kernel
theorem dX2_collect_32 : decode cX2_collect 32 = .ok (.invokestatic 125, 3) := by decide +kernel
theorem dX2_collect_35 : decode cX2_collect 35 = .ok (.istore 5, 2) := by decide +kernel
theorem dX2_collect_37 : decode cX2_collect 37 = .ok (.aload_n 2, 1) := by decide +kernel
theorem dX2_collect_38 : decode cX2_collect 38 = .ok (.lload_n 3, 1) := by decide +kernel
theorem dX2_collect_39 : decode cX2_collect 39 = .ok (.putfield 75, 3) := by decide +kernel
theorem dX2_collect_42 : decode cX2_collect 42 = .ok (.aload_n 2, 1) := by decide +kernel
theorem dX2_collect_43 : decode cX2_collect 43 = .ok (.aload_n 0, 1) := by decide +kernel
theorem dX2_collect_44 : decode cX2_collect 44 = .ok (.getfield 10, 3) := by decide +kernel
theorem dX2_collect_47 : decode cX2_collect 47 = .ok (.lload_n 3, 1) := by decide +kernel
theorem dX2_collect_48 : decode cX2_collect 48 = .ok (.invokevirtual 117, 3) := by decide +kernel
theorem dX2_collect_51 : decode cX2_collect 51 = .ok (.invokevirtual 167, 3) := by decide +kernel
theorem dX2_collect_54 : decode cX2_collect 54 = .ok (.iload 5, 2) := by decide +kernel
theorem dX2_collect_56 : decode cX2_collect 56 = .ok (.ireturn, 1) := by decide +kernel
set_option maxRecDepth 20000 in
theorem ggX2_commits_X0_size : GoodIn wsX2_commits wsX0_size := goodIn_r _ [6, 7, 17, 18, 19, 20, 21, 22] (by decide +kernel) (by decide +kernel)
set_option maxRecDepth 20000 in
theorem gX2_commits_X0_size : GoodIn wsX2_commits (wsV RX2 171 RX0 yX0_size wsX0_size) := goodIn_app (goodIn_of _ (by decide +kernel)) ggX2_commits_X0_size
theorem dX2_commits_0 : decode cX2_commits 0 = .ok (.aload_n 0, 1) := by decide +kernel
theorem dX2_commits_1 : decode cX2_commits 1 = .ok (.getfield 10, 3) := by decide +kernel
theorem dX2_commits_4 : decode cX2_commits 4 = .ok (.invokevirtual 171, 3) := by decide +kernel
theorem dX2_commits_7 : decode cX2_commits 7 = .ok (.ireturn, 1) := by decide +kernel
set_option maxRecDepth 20000 in
theorem ggX2_has_X2_storeOf : GoodIn wsX2_has wsX2_storeOf := goodIn_ca (goodIn_r _ [5, 6, 7, 8, 9, 30, 31, 32, 33, 34, 35, 36, 37, 38] (by decide +kernel) (by decide +kernel)) (goodIn_sub (fun _ h => List.mem_cons_of_mem _ (List.mem_append_right _ h)) (by decide +kernel))
set_option maxRecDepth 20000 in
theorem gX2_has_X2_storeOf : GoodIn wsX2_has (wsV RX2 40 RX2 yX2_storeOf wsX2_storeOf) := goodIn_app (goodIn_of _ (by decide +kernel)) ggX2_has_X2_storeOf
set_option maxRecDepth 20000 in
theorem ggX2_has_X2_checkCommit : GoodIn wsX2_has wsX2_checkCommit := goodIn_ca (goodIn_r _ [13, 6, 7, 14, 15, 16, 17, 18, 19, 20, 30, 31, 32, 33, 34, 35, 36, 37, 38, 39, 40, 41, 42, 43, 44] (by decide +kernel) (by decide +kernel)) (goodIn_sub (fun _ h => List.mem_cons_of_mem _ (List.mem_append_right _ h)) (by decide +kernel))
set_option maxRecDepth 20000 in
theorem gX2_has_X2_checkCommit : GoodIn wsX2_has (wsV RX2 97 RX2 yX2_checkCommit wsX2_checkCommit) := goodIn_app (goodIn_of _ (by decide +kernel)) ggX2_has_X2_checkCommit
set_option maxRecDepth 20000 in
theorem ggX2_has_X2_contains : GoodIn wsX2_has wsX2_contains := goodIn_r _ [23, 24, 25, 4, 26] (by decide +kernel) (by decide +kernel)
end
section
set_option maxRecDepth 20000 in
theorem gX2_has_X2_contains : GoodIn wsX2_has (va_wsS RX2 174 yX2_contains wsX2_contains) := goodIn_app (goodIn_of _ (by decide +kernel)) ggX2_has_X2_contains
theorem dX2_has_0 : decode cX2_has 0 = .ok (.aload_n 0, 1) := by decide +kernel
theorem dX2_has_1 : decode cX2_has 1 = .ok (.iload_n 1, 1) := by decide +kernel
theorem dX2_has_2 : decode cX2_has 2 = .ok (.invokevirtual 40, 3) := by decide +kernel
theorem dX2_has_5 : decode cX2_has 5 = .ok (.astore_n 3, 1) := by decide +kernel
theorem dX2_has_6 : decode cX2_has 6 = .ok (.aload_n 0, 1) := by decide +kernel
theorem dX2_has_7 : decode cX2_has 7 = .ok (.iload_n 2, 1) := by decide +kernel
theorem dX2_has_8 : decode cX2_has 8 = .ok (.invokevirtual 97, 3) := by decide +kernel
theorem dX2_has_11 : decode cX2_has 11 = .ok (.aload_n 3, 1) := by decide +kernel
theorem dX2_has_12 : decode cX2_has 12 = .ok (.getfield 75, 3) := by decide +kernel
theorem dX2_has_15 : decode cX2_has 15 = .ok (.iload_n 2, 1) := by decide +kernel
theorem dX2_has_16 : decode cX2_has 16 = .ok (.invokestatic 174, 3) := by decide +kernel
theorem dX2_has_19 : decode cX2_has 19 = .ok (.ireturn, 1) := by decide +kernel
set_option maxRecDepth 20000 in
theorem ggX2_hasFile_X2_storeOf : GoodIn wsX2_hasFile wsX2_storeOf := goodIn_ca (goodIn_r _ [5, 6, 7, 8, 9, 24, 25, 26, 27, 28, 29, 30, 31, 32] (by decide +kernel) (by decide +kernel)) (goodIn_sub (fun _ h => List.mem_cons_of_mem _ (List.mem_append_left _ (List.mem_append_right _ h))) (by decide +kernel))
set_option maxRecDepth 20000 in
theorem gX2_hasFile_X2_storeOf : GoodIn wsX2_hasFile (wsV RX2 40 RX2 yX2_storeOf wsX2_storeOf) := goodIn_app (goodIn_of _ (by decide +kernel)) ggX2_hasFile_X2_storeOf
set_option maxRecDepth 20000 in
theorem ggX2_hasFile_X2_checkFile : GoodIn wsX2_hasFile wsX2_checkFile := goodIn_ca (goodIn_r _ [12, 13, 14, 15, 16, 4, 17] (by decide +kernel) (by decide +kernel)) (goodIn_sub (fun _ h => List.mem_cons_of_mem _ (List.mem_append_right _ h)) (by decide +kernel))
set_option maxRecDepth 20000 in
theorem gX2_hasFile_X2_checkFile : GoodIn wsX2_hasFile (va_wsS RX2 52 yX2_checkFile wsX2_checkFile) := goodIn_app (goodIn_of _ (by decide +kernel)) ggX2_hasFile_X2_checkFile
set_option maxRecDepth 20000 in
theorem ggX2_hasFile_X1_holdsFile : GoodIn wsX2_hasFile wsX1_holdsFile := goodIn_r _ [22, 23, 16, 4, 17, 33, 34, 35] (by decide +kernel) (by decide +kernel)
set_option maxRecDepth 20000 in
theorem gX2_hasFile_X1_holdsFile : GoodIn wsX2_hasFile (wsV RX2 135 RX1 yX1_holdsFile wsX1_holdsFile) := goodIn_app (goodIn_of _ (by decide +kernel)) ggX2_hasFile_X1_holdsFile
theorem dX2_hasFile_0 : decode cX2_hasFile 0 = .ok (.aload_n 0, 1) := by decide +kernel
theorem dX2_hasFile_1 : decode cX2_hasFile 1 = .ok (.iload_n 1, 1) := by decide +kernel
theorem dX2_hasFile_2 : decode cX2_hasFile 2 = .ok (.invokevirtual 40, 3) := by decide +kernel
theorem dX2_hasFile_5 : decode cX2_hasFile 5 = .ok (.astore_n 3, 1) := by decide +kernel
theorem dX2_hasFile_6 : decode cX2_hasFile 6 = .ok (.iload_n 2, 1) := by decide +kernel
theorem dX2_hasFile_7 : decode cX2_hasFile 7 = .ok (.invokestatic 52, 3) := by decide +kernel
theorem dX2_hasFile_10 : decode cX2_hasFile 10 = .ok (.aload_n 3, 1) := by decide +kernel
theorem dX2_hasFile_11 : decode cX2_hasFile 11 = .ok (.iload_n 2, 1) := by decide +kernel
theorem dX2_hasFile_12 : decode cX2_hasFile 12 = .ok (.invokevirtual 135, 3) := by decide +kernel
theorem dX2_hasFile_15 : decode cX2_hasFile 15 = .ok (.ireturn, 1) := by decide +kernel
set_option maxRecDepth 20000 in
theorem ggX2_isShallow_X2_checkCommit : GoodIn wsX2_isShallow wsX2_checkCommit := goodIn_ca (goodIn_r _ [7, 8, 9, 1, 10, 11, 12, 13, 14, 15, 34, 35, 36, 37, 38, 39, 40, 41, 42, 46, 47, 48, 49, 50, 51] (by decide +kernel) (by decide +kernel)) (goodIn_sub (fun _ h => List.mem_cons_of_mem _ (List.mem_append_right _ h)) (by decide +kernel))
set_option maxRecDepth 20000 in
theorem gX2_isShallow_X2_checkCommit : GoodIn wsX2_isShallow (wsV RX2 97 RX2 yX2_checkCommit wsX2_checkCommit) := goodIn_app (goodIn_of _ (by decide +kernel)) ggX2_isShallow_X2_checkCommit
set_option maxRecDepth 20000 in
theorem ggX2_isShallow_X0_shallowOf : GoodIn wsX2_isShallow wsX0_shallowOf := goodIn_r _ [19, 15, 20, 21, 6, 22, 23, 24, 25, 26, 27, 28, 13, 29, 30, 31, 32, 11, 12, 14, 46, 47, 48, 49, 50, 51] (by decide +kernel) (by decide +kernel)
set_option maxRecDepth 20000 in
theorem gX2_isShallow_X0_shallowOf : GoodIn wsX2_isShallow (wsV RX2 178 RX0 yX0_shallowOf wsX0_shallowOf) := goodIn_app (goodIn_of _ (by decide +kernel)) ggX2_isShallow_X0_shallowOf
set_option maxRecDepth 20000 in
theorem ggX2_isShallow_X2_contains : GoodIn wsX2_isShallow wsX2_contains := goodIn_r _ [22, 23, 24, 6, 25] (by decide +kernel) (by decide +kernel)
set_option maxRecDepth 20000 in
theorem gX2_isShallow_X2_contains : GoodIn wsX2_isShallow (va_wsS RX2 174 yX2_contains wsX2_contains) := goodIn_app (goodIn_of _ (by decide +kernel)) ggX2_isShallow_X2_contains
theorem dX2_isShallow_0 : decode cX2_isShallow 0 = .ok (.aload_n 0, 1) := by decide +kernel
theorem dX2_isShallow_1 : decode cX2_isShallow 1 = .ok (.iload_n 1, 1) := by decide +kernel
theorem dX2_isShallow_2 : decode cX2_isShallow 2 = .ok (.invokevirtual 97, 3) := by decide +kernel
theorem dX2_isShallow_5 : decode cX2_isShallow 5 = .ok (.aload_n 0, 1) := by decide +kernel
theorem dX2_isShallow_6 : decode cX2_isShallow 6 = .ok (.getfield 10, 3) := by decide +kernel
theorem dX2_isShallow_9 : decode cX2_isShallow 9 = .ok (.aload_n 0, 1) := by decide +kernel
theorem dX2_isShallow_10 : decode cX2_isShallow 10 = .ok (.getfield 23, 3) := by decide +kernel
theorem dX2_isShallow_13 : decode cX2_isShallow 13 = .ok (.getfield 75, 3) := by decide +kernel
theorem dX2_isShallow_16 : decode cX2_isShallow 16 = .ok (.invokevirtual 178, 3) := by decide +kernel
theorem dX2_isShallow_19 : decode cX2_isShallow 19 = .ok (.iload_n 1, 1) := by decide +kernel
theorem dX2_isShallow_20 : decode cX2_isShallow 20 = .ok (.invokestatic 174, 3) := by decide +kernel
theorem dX2_isShallow_23 : decode cX2_isShallow 23 = .ok (.ireturn, 1) := by decide +kernel
set_option maxRecDepth 20000 in
theorem ggX2_isAncestor_X2_storeOf : GoodIn wsX2_isAncestor wsX2_storeOf := goodIn_ca (goodIn_r _ [6, 7, 8, 9, 10, 43, 44, 45, 46, 47, 48, 49, 50, 51] (by decide +kernel) (by decide +kernel)) (goodIn_sub (fun _ h => List.mem_cons_of_mem _ (List.mem_append_right _ h)) (by decide +kernel))
set_option maxRecDepth 20000 in
theorem gX2_isAncestor_X2_storeOf : GoodIn wsX2_isAncestor (wsV RX2 40 RX2 yX2_storeOf wsX2_storeOf) := goodIn_app (goodIn_of _ (by decide +kernel)) ggX2_isAncestor_X2_storeOf
set_option maxRecDepth 20000 in
theorem ggX2_isAncestor_X2_checkCommit : GoodIn wsX2_isAncestor wsX2_checkCommit := goodIn_ca (goodIn_r _ [14, 7, 8, 1, 15, 16, 17, 18, 19, 20, 43, 44, 45, 46, 47, 48, 49, 50, 51, 55, 56, 57, 58, 59, 60] (by decide +kernel) (by decide +kernel)) (goodIn_sub (fun _ h => List.mem_cons_of_mem _ (List.mem_append_right _ h)) (by decide +kernel))
set_option maxRecDepth 20000 in
theorem gX2_isAncestor_X2_checkCommit : GoodIn wsX2_isAncestor (wsV RX2 97 RX2 yX2_checkCommit wsX2_checkCommit) := goodIn_app (goodIn_of _ (by decide +kernel)) ggX2_isAncestor_X2_checkCommit
set_option maxRecDepth 20000 in
theorem ggX2_isAncestor_X2_setOf : GoodIn wsX2_isAncestor wsX2_setOf := goodIn_r _ [23] (by decide +kernel) (by decide +kernel)
set_option maxRecDepth 20000 in
theorem gX2_isAncestor_X2_setOf : GoodIn wsX2_isAncestor (va_wsS RX2 79 yX2_setOf wsX2_setOf) := goodIn_app (goodIn_of _ (by decide +kernel)) ggX2_isAncestor_X2_setOf
set_option maxRecDepth 20000 in
theorem ggX2_isAncestor_X0_ancestorsOf : GoodIn wsX2_isAncestor wsX0_ancestorsOf := goodIn_r _ [27, 20, 28, 29, 30, 31, 18, 32, 33, 5, 34, 21, 22, 23, 35, 36, 37, 38, 39, 40, 41, 16, 17, 19, 55, 56, 57, 58, 59, 60] (by decide +kernel) (by decide +kernel)
set_option maxRecDepth 20000 in
theorem gX2_isAncestor_X0_ancestorsOf : GoodIn wsX2_isAncestor (wsV RX2 163 RX0 yX0_ancestorsOf wsX0_ancestorsOf) := goodIn_app (goodIn_of _ (by decide +kernel)) ggX2_isAncestor_X0_ancestorsOf
set_option maxRecDepth 20000 in
theorem ggX2_isAncestor_X2_contains : GoodIn wsX2_isAncestor wsX2_contains := goodIn_r _ [34, 21, 22, 5, 23] (by decide +kernel) (by decide +kernel)
set_option maxRecDepth 20000 in
theorem gX2_isAncestor_X2_contains : GoodIn wsX2_isAncestor (va_wsS RX2 174 yX2_contains wsX2_contains) := goodIn_app (goodIn_of _ (by decide +kernel)) ggX2_isAncestor_X2_contains
theorem dX2_isAncestor_0 : decode cX2_isAncestor 0 = .ok (.aload_n 0, 1) := by decide +kernel
theorem dX2_isAncestor_1 : decode cX2_isAncestor 1 = .ok (.iload_n 1, 1) := by decide +kernel
theorem dX2_isAncestor_2 : decode cX2_isAncestor 2 = .ok (.invokevirtual 40, 3) := by decide +kernel
theorem dX2_isAncestor_5 : decode cX2_isAncestor 5 = .ok (.astore 4, 2) := by decide +kernel
theorem dX2_isAncestor_7 : decode cX2_isAncestor 7 = .ok (.aload_n 0, 1) := by decide +kernel
theorem dX2_isAncestor_8 : decode cX2_isAncestor 8 = .ok (.iload_n 2, 1) := by decide +kernel
theorem dX2_isAncestor_9 : decode cX2_isAncestor 9 = .ok (.invokevirtual 97, 3) := by decide +kernel
theorem dX2_isAncestor_12 : decode cX2_isAncestor 12 = .ok (.aload_n 0, 1) := by decide +kernel
theorem dX2_isAncestor_13 : decode cX2_isAncestor 13 = .ok (.iload_n 3, 1) := by decide +kernel
theorem dX2_isAncestor_14 : decode cX2_isAncestor 14 = .ok (.invokevirtual 97, 3) := by decide +kernel
theorem dX2_isAncestor_17 : decode cX2_isAncestor 17 = .ok (.aload_n 0, 1) := by decide +kernel
theorem dX2_isAncestor_18 : decode cX2_isAncestor 18 = .ok (.getfield 10, 3) := by decide +kernel
theorem dX2_isAncestor_21 : decode cX2_isAncestor 21 = .ok (.iload_n 3, 1) := by decide +kernel
theorem dX2_isAncestor_22 : decode cX2_isAncestor 22 = .ok (.invokestatic 79, 3) := by decide +kernel
theorem dX2_isAncestor_25 : decode cX2_isAncestor 25 = .ok (.aload 4, 2) := by decide +kernel
theorem dX2_isAncestor_27 : decode cX2_isAncestor 27 = .ok (.getfield 75, 3) := by decide +kernel
theorem dX2_isAncestor_30 : decode cX2_isAncestor 30 = .ok (.invokevirtual 163, 3) := by decide +kernel
theorem dX2_isAncestor_33 : decode cX2_isAncestor 33 = .ok (.iload_n 2, 1) := by decide +kernel
theorem dX2_isAncestor_34 : decode cX2_isAncestor 34 = .ok (.invokestatic 174, 3) := by decide +kernel
theorem dX2_isAncestor_37 : decode cX2_isAncestor 37 = .ok (.ireturn, 1) := by decide +kernel
set_option maxRecDepth 20000 in
theorem ggX2_commitToFetch_X2_checkRef : GoodIn wsX2_commitToFetch wsX2_checkRef := goodIn_ca (goodIn_r _ [9, 10, 11, 12, 13, 8, 14] (by decide +kernel) (by decide +kernel)) (goodIn_sub (fun _ h => List.mem_cons_of_mem _ (List.mem_append_right _ h)) (by decide +kernel))
set_option maxRecDepth 20000 in
theorem gX2_commitToFetch_X2_checkRef : GoodIn wsX2_commitToFetch (va_wsS RX2 86 yX2_checkRef wsX2_checkRef) := goodIn_app (goodIn_of _ (by decide +kernel)) ggX2_commitToFetch_X2_checkRef
set_option maxRecDepth 20000 in
theorem ggX2_commitToFetch_X1_commitOfRef : GoodIn wsX2_commitToFetch wsX1_commitOfRef := goodIn_r _ [19, 20, 13, 8, 14, 30, 31, 32] (by decide +kernel) (by decide +kernel)
set_option maxRecDepth 20000 in
theorem gX2_commitToFetch_X1_commitOfRef : GoodIn wsX2_commitToFetch (wsV RX2 89 RX1 yX1_commitOfRef wsX1_commitOfRef) := goodIn_app (goodIn_of _ (by decide +kernel)) ggX2_commitToFetch_X1_commitOfRef
theorem dX2_commitToFetch_0 : decode cX2_commitToFetch 0 = .ok (.iload_n 1, 1) := by decide +kernel
theorem dX2_commitToFetch_1 : decode cX2_commitToFetch 1 = .ok (.invokestatic 86, 3) := by decide +kernel
theorem dX2_commitToFetch_4 : decode cX2_commitToFetch 4 = .ok (.iload_n 2, 1) := by decide +kernel
theorem dX2_commitToFetch_5 : decode cX2_commitToFetch 5 = .ok (.ifCond .lt 9, 3) := by decide +kernel
theorem dX2_commitToFetch_8 : decode cX2_commitToFetch 8 = .ok (.iload_n 2, 1) := by decide +kernel
theorem dX2_commitToFetch_9 : decode cX2_commitToFetch 9 = .ok (.bipush 60, 2) := by decide +kernel
theorem dX2_commitToFetch_11 : decode cX2_commitToFetch 11 = .ok (.if_icmp .le 13, 3) := by decide +kernel
theorem dX2_commitToFetch_14 : decode cX2_commitToFetch 14 = .ok (.new 55, 3) := by decide +kernel
theorem dX2_commitToFetch_17 : decode cX2_commitToFetch 17 = .ok (.dup, 1) := by decide +kernel
theorem dX2_commitToFetch_18 : decode cX2_commitToFetch 18 = .ok (.ldc 182, 2) := by decide +kernel
theorem dX2_commitToFetch_20 : decode cX2_commitToFetch 20 = .ok (.invokespecial 59, 3) := by decide +kernel
theorem dX2_commitToFetch_23 : decode cX2_commitToFetch 23 = .ok (.athrow, 1) := by decide +kernel
theorem dX2_commitToFetch_24 : decode cX2_commitToFetch 24 = .ok (.aload_n 0, 1) := by decide +kernel
theorem dX2_commitToFetch_25 : decode cX2_commitToFetch 25 = .ok (.getfield 19, 3) := by decide +kernel
theorem dX2_commitToFetch_28 : decode cX2_commitToFetch 28 = .ok (.iload_n 1, 1) := by decide +kernel
theorem dX2_commitToFetch_29 : decode cX2_commitToFetch 29 = .ok (.invokevirtual 89, 3) := by decide +kernel
theorem dX2_commitToFetch_32 : decode cX2_commitToFetch 32 = .ok (.istore_n 3, 1) := by decide +kernel
theorem dX2_commitToFetch_33 : decode cX2_commitToFetch 33 = .ok (.iload_n 3, 1) := by decide +kernel
theorem dX2_commitToFetch_34 : decode cX2_commitToFetch 34 = .ok (.iconst (-1), 1) := by decide +kernel
theorem dX2_commitToFetch_35 : decode cX2_commitToFetch 35 = .ok (.if_icmp .ne 13, 3) := by decide +kernel
theorem dX2_commitToFetch_38 : decode cX2_commitToFetch 38 = .ok (.new 66, 3) := by decide +kernel
theorem dX2_commitToFetch_41 : decode cX2_commitToFetch 41 = .ok (.dup, 1) := by decide +kernel
theorem dX2_commitToFetch_42 : decode cX2_commitToFetch 42 = .ok (.ldc 184, 2) := by decide +kernel
theorem dX2_commitToFetch_44 : decode cX2_commitToFetch 44 = .ok (.invokespecial 70, 3) := by decide +kernel
theorem dX2_commitToFetch_47 : decode cX2_commitToFetch 47 = .ok (.athrow, 1) := by decide +kernel
theorem dX2_commitToFetch_48 : decode cX2_commitToFetch 48 = .ok (.iload_n 3, 1) := by decide +kernel
theorem dX2_commitToFetch_49 : decode cX2_commitToFetch 49 = .ok (.ireturn, 1) := by decide +kernel
set_option maxRecDepth 20000 in
theorem ggX2_talk_X2_highestOf : GoodIn wsX2_talk wsX2_highestOf := goodIn_r _ [9, 10, 11, 8, 12, 13, 14, 15] (by decide +kernel) (by decide +kernel)
set_option maxRecDepth 20000 in
theorem gX2_talk_X2_highestOf : GoodIn wsX2_talk (va_wsS RX2 186 yX2_highestOf wsX2_highestOf) := goodIn_app (goodIn_of _ (by decide +kernel)) ggX2_talk_X2_highestOf
set_option maxRecDepth 20000 in
theorem ggX2_talk_X0_ancestorsOf : GoodIn wsX2_talk wsX0_ancestorsOf := goodIn_r _ [20, 21, 22, 23, 24, 25, 19, 26, 11, 8, 12, 13, 14, 15, 27, 28, 29, 30, 31, 32, 33, 34, 35, 36, 49, 50, 51, 52, 53, 54] (by decide +kernel) (by decide +kernel)
set_option maxRecDepth 20000 in
theorem gX2_talk_X0_ancestorsOf : GoodIn wsX2_talk (wsV RX2 163 RX0 yX0_ancestorsOf wsX0_ancestorsOf) := goodIn_app (goodIn_of _ (by decide +kernel)) ggX2_talk_X0_ancestorsOf
theorem dX2_talk_0 : decode cX2_talk 0 = .ok (.lconst 0, 1) := by decide +kernel
theorem dX2_talk_1 : decode cX2_talk 1 = .ok (.lstore_n 1, 1) := by decide +kernel
theorem dX2_talk_2 : decode cX2_talk 2 = .ok (.aload_n 0, 1) := by decide +kernel
theorem dX2_talk_3 : decode cX2_talk 3 = .ok (.getfield 23, 3) := by decide +kernel
theorem dX2_talk_6 : decode cX2_talk 6 = .ok (.getfield 75, 3) := by decide +kernel
theorem dX2_talk_9 : decode cX2_talk 9 = .ok (.lstore_n 3, 1) := by decide +kernel
theorem dX2_talk_10 : decode cX2_talk 10 = .ok (.iconst 0, 1) := by decide +kernel
theorem dX2_talk_11 : decode cX2_talk 11 = .ok (.istore 5, 2) := by decide +kernel
theorem dX2_talk_13 : decode cX2_talk 13 = .ok (.lload_n 3, 1) := by decide +kernel
theorem dX2_talk_14 : decode cX2_talk 14 = .ok (.lconst 0, 1) := by decide +kernel
theorem dX2_talk_15 : decode cX2_talk 15 = .ok (.lcmp, 1) := by decide +kernel
theorem dX2_talk_16 : decode cX2_talk 16 = .ok (.ifCond .eq 65, 3) := by decide +kernel
theorem dX2_talk_19 : decode cX2_talk 19 = .ok (.iload 5, 2) := by decide +kernel
theorem dX2_talk_21 : decode cX2_talk 21 = .ok (.bipush 60, 2) := by decide +kernel
theorem dX2_talk_23 : decode cX2_talk 23 = .ok (.if_icmp .ge 58, 3) := by decide +kernel
theorem dX2_talk_26 : decode cX2_talk 26 = .ok (.lload_n 3, 1) := by decide +kernel
theorem dX2_talk_27 : decode cX2_talk 27 = .ok (.iconst 4, 1) := by decide +kernel
theorem dX2_talk_28 : decode cX2_talk 28 = .ok (.invokestatic 186, 3) := by decide +kernel
theorem dX2_talk_31 : decode cX2_talk 31 = .ok (.lstore 6, 2) := by decide +kernel
theorem dX2_talk_33 : decode cX2_talk 33 = .ok (.lload_n 1, 1) := by decide +kernel
theorem dX2_talk_34 : decode cX2_talk 34 = .ok (.aload_n 0, 1) := by decide +kernel
theorem dX2_talk_35 : decode cX2_talk 35 = .ok (.getfield 10, 3) := by decide +kernel
theorem dX2_talk_38 : decode cX2_talk 38 = .ok (.lload 6, 2) := by decide +kernel
theorem dX2_talk_40 : decode cX2_talk 40 = .ok (.aload_n 0, 1) := by decide +kernel
theorem dX2_talk_41 : decode cX2_talk 41 = .ok (.getfield 19, 3) := by decide +kernel
theorem dX2_talk_44 : decode cX2_talk 44 = .ok (.getfield 75, 3) := by decide +kernel
theorem dX2_talk_47 : decode cX2_talk 47 = .ok (.land, 1) := by decide +kernel
theorem dX2_talk_48 : decode cX2_talk 48 = .ok (.aload_n 0, 1) := by decide +kernel
theorem dX2_talk_49 : decode cX2_talk 49 = .ok (.getfield 23, 3) := by decide +kernel
theorem dX2_talk_52 : decode cX2_talk 52 = .ok (.getfield 75, 3) := by decide +kernel
theorem dX2_talk_55 : decode cX2_talk 55 = .ok (.invokevirtual 163, 3) := by decide +kernel
theorem dX2_talk_58 : decode cX2_talk 58 = .ok (.lor, 1) := by decide +kernel
theorem dX2_talk_59 : decode cX2_talk 59 = .ok (.lstore_n 1, 1) := by decide +kernel
theorem dX2_talk_60 : decode cX2_talk 60 = .ok (.lload_n 3, 1) := by decide +kernel
theorem dX2_talk_61 : decode cX2_talk 61 = .ok (.lload 6, 2) := by decide +kernel
theorem dX2_talk_63 : decode cX2_talk 63 = .ok (.ldc2_w 115, 3) := by decide +kernel
theorem dX2_talk_66 : decode cX2_talk 66 = .ok (.lxor, 1) := by decide +kernel
theorem dX2_talk_67 : decode cX2_talk 67 = .ok (.lload_n 1, 1) := by decide +kernel
theorem dX2_talk_68 : decode cX2_talk 68 = .ok (.ldc2_w 115, 3) := by decide +kernel
theorem dX2_talk_71 : decode cX2_talk 71 = .ok (.lxor, 1) := by decide +kernel
theorem dX2_talk_72 : decode cX2_talk 72 = .ok (.land, 1) := by decide +kernel
theorem dX2_talk_73 : decode cX2_talk 73 = .ok (.land, 1) := by decide +kernel
theorem dX2_talk_74 : decode cX2_talk 74 = .ok (.lstore_n 3, 1) := by decide +kernel
theorem dX2_talk_75 : decode cX2_talk 75 = .ok (.iinc 5 1, 3) := by decide +kernel
theorem dX2_talk_78 : decode cX2_talk 78 = .ok (.goto (-65), 3) := by decide +kernel
theorem dX2_talk_81 : decode cX2_talk 81 = .ok (.aload_n 0, 1) := by decide +kernel
theorem dX2_talk_82 : decode cX2_talk 82 = .ok (.iload 5, 2) := by decide +kernel
theorem dX2_talk_84 : decode cX2_talk 84 = .ok (.putfield 131, 3) := by decide +kernel
theorem dX2_talk_87 : decode cX2_talk 87 = .ok (.lload_n 1, 1) := by decide +kernel
theorem dX2_talk_88 : decode cX2_talk 88 = .ok (.lreturn, 1) := by decide +kernel
set_option maxRecDepth 20000 in
theorem ggX2_firstRefusal_X2_refusalOf : GoodIn wsX2_firstRefusal wsX2_refusalOf := goodIn_r _ [9, 10, 11, 12, 13, 14, 15, 16, 17, 18, 19, 8, 20, 21, 22, 23, 24, 25, 26, 27, 28, 29, 30, 31, 32, 33, 34, 35, 36, 37, 38, 39, 40, 41, 42, 43, 44, 45, 46, 47, 48, 49, 50, 51, 52, 53, 54, 55, 56, 57, 58, 59, 60, 61, 62, 63, 64, 65, 66, 67, 68, 69, 70, 71, 72, 73, 74, 75, 76, 77] (by decide +kernel) (by decide +kernel)
set_option maxRecDepth 20000 in
theorem gX2_firstRefusal_X2_refusalOf : GoodIn wsX2_firstRefusal (wsV RX2 190 RX2 yX2_refusalOf wsX2_refusalOf) := goodIn_app (goodIn_of _ (by decide +kernel)) ggX2_firstRefusal_X2_refusalOf
theorem dX2_firstRefusal_0 : decode cX2_firstRefusal 0 = .ok (.iconst 0, 1) := by decide +kernel
theorem dX2_firstRefusal_1 : decode cX2_firstRefusal 1 = .ok (.istore_n 1, 1) := by decide +kernel
theorem dX2_firstRefusal_2 : decode cX2_firstRefusal 2 = .ok (.iload_n 1, 1) := by decide +kernel
theorem dX2_firstRefusal_3 : decode cX2_firstRefusal 3 = .ok (.aload_n 0, 1) := by decide +kernel
theorem dX2_firstRefusal_4 : decode cX2_firstRefusal 4 = .ok (.getfield 148, 3) := by decide +kernel
theorem dX2_firstRefusal_7 : decode cX2_firstRefusal 7 = .ok (.if_icmp .ge 38, 3) := by decide +kernel
theorem dX2_firstRefusal_10 : decode cX2_firstRefusal 10 = .ok (.aload_n 0, 1) := by decide +kernel
theorem dX2_firstRefusal_11 : decode cX2_firstRefusal 11 = .ok (.aload_n 0, 1) := by decide +kernel
theorem dX2_firstRefusal_12 : decode cX2_firstRefusal 12 = .ok (.getfield 30, 3) := by decide +kernel
theorem dX2_firstRefusal_15 : decode cX2_firstRefusal 15 = .ok (.iload_n 1, 1) := by decide +kernel
theorem dX2_firstRefusal_16 : decode cX2_firstRefusal 16 = .ok (.iaload, 1) := by decide +kernel
theorem dX2_firstRefusal_17 : decode cX2_firstRefusal 17 = .ok (.aload_n 0, 1) := by decide +kernel
theorem dX2_firstRefusal_18 : decode cX2_firstRefusal 18 = .ok (.getfield 34, 3) := by decide +kernel
theorem dX2_firstRefusal_21 : decode cX2_firstRefusal 21 = .ok (.iload_n 1, 1) := by decide +kernel
theorem dX2_firstRefusal_22 : decode cX2_firstRefusal 22 = .ok (.iaload, 1) := by decide +kernel
theorem dX2_firstRefusal_23 : decode cX2_firstRefusal 23 = .ok (.aload_n 0, 1) := by decide +kernel
theorem dX2_firstRefusal_24 : decode cX2_firstRefusal 24 = .ok (.getfield 37, 3) := by decide +kernel
theorem dX2_firstRefusal_27 : decode cX2_firstRefusal 27 = .ok (.iload_n 1, 1) := by decide +kernel
theorem dX2_firstRefusal_28 : decode cX2_firstRefusal 28 = .ok (.iaload, 1) := by decide +kernel
theorem dX2_firstRefusal_29 : decode cX2_firstRefusal 29 = .ok (.invokevirtual 190, 3) := by decide +kernel
theorem dX2_firstRefusal_32 : decode cX2_firstRefusal 32 = .ok (.istore_n 2, 1) := by decide +kernel
theorem dX2_firstRefusal_33 : decode cX2_firstRefusal 33 = .ok (.iload_n 2, 1) := by decide +kernel
theorem dX2_firstRefusal_34 : decode cX2_firstRefusal 34 = .ok (.ifCond .eq 5, 3) := by decide +kernel
theorem dX2_firstRefusal_37 : decode cX2_firstRefusal 37 = .ok (.iload_n 2, 1) := by decide +kernel
theorem dX2_firstRefusal_38 : decode cX2_firstRefusal 38 = .ok (.ireturn, 1) := by decide +kernel
theorem dX2_firstRefusal_39 : decode cX2_firstRefusal 39 = .ok (.iinc 1 1, 3) := by decide +kernel
theorem dX2_firstRefusal_42 : decode cX2_firstRefusal 42 = .ok (.goto (-40), 3) := by decide +kernel
theorem dX2_firstRefusal_45 : decode cX2_firstRefusal 45 = .ok (.iconst 0, 1) := by decide +kernel
theorem dX2_firstRefusal_46 : decode cX2_firstRefusal 46 = .ok (.ireturn, 1) := by decide +kernel
set_option maxRecDepth 20000 in
theorem ggX2_refusalOf_X1_commitOfRef : GoodIn wsX2_refusalOf wsX1_commitOfRef := goodIn_r _ [8, 9, 10, 11, 12, 61, 62, 63] (by decide +kernel) (by decide +kernel)
set_option maxRecDepth 20000 in
theorem gX2_refusalOf_X1_commitOfRef : GoodIn wsX2_refusalOf (wsV RX2 89 RX1 yX1_commitOfRef wsX1_commitOfRef) := goodIn_app (goodIn_of _ (by decide +kernel)) ggX2_refusalOf_X1_commitOfRef
set_option maxRecDepth 20000 in
theorem ggX2_refusalOf_X2_setOf : GoodIn wsX2_refusalOf wsX2_setOf := goodIn_r _ [15] (by decide +kernel) (by decide +kernel)
set_option maxRecDepth 20000 in
theorem gX2_refusalOf_X2_setOf : GoodIn wsX2_refusalOf (va_wsS RX2 79 yX2_setOf wsX2_setOf) := goodIn_app (goodIn_of _ (by decide +kernel)) ggX2_refusalOf_X2_setOf
set_option maxRecDepth 20000 in
theorem ggX2_refusalOf_X0_ancestorsOf : GoodIn wsX2_refusalOf wsX0_ancestorsOf := goodIn_r _ [20, 21, 22, 23, 24, 25, 19, 26, 27, 11, 28, 13, 14, 15, 29, 30, 31, 32, 33, 34, 35, 36, 37, 38, 64, 65, 66, 67, 68, 69] (by decide +kernel) (by decide +kernel)
set_option maxRecDepth 20000 in
theorem gX2_refusalOf_X0_ancestorsOf : GoodIn wsX2_refusalOf (wsV RX2 163 RX0 yX0_ancestorsOf wsX0_ancestorsOf) := goodIn_app (goodIn_of _ (by decide +kernel)) ggX2_refusalOf_X0_ancestorsOf
set_option maxRecDepth 20000 in
theorem ggX2_refusalOf_X2_isProtectedRef : GoodIn wsX2_refusalOf wsX2_isProtectedRef := goodIn_r _ [42, 43, 44, 10, 11, 12, 52, 53, 54, 55, 56, 57, 58, 59, 60] (by decide +kernel) (by decide +kernel)
set_option maxRecDepth 20000 in
theorem gX2_refusalOf_X2_isProtectedRef : GoodIn wsX2_refusalOf (wsV RX2 194 RX2 yX2_isProtectedRef wsX2_isProtectedRef) := goodIn_app (goodIn_of _ (by decide +kernel)) ggX2_refusalOf_X2_isProtectedRef
set_option maxRecDepth 20000 in
theorem ggX2_refusalOf_X2_contains : GoodIn wsX2_refusalOf wsX2_contains := goodIn_r _ [28, 13, 14, 11, 15] (by decide +kernel) (by decide +kernel)
set_option maxRecDepth 20000 in
theorem gX2_refusalOf_X2_contains : GoodIn wsX2_refusalOf (va_wsS RX2 174 yX2_contains wsX2_contains) := goodIn_app (goodIn_of _ (by decide +kernel)) ggX2_refusalOf_X2_contains
set_option maxRecDepth 20000 in
theorem ggX2_refusalOf_X2_endsBeyondServer : GoodIn wsX2_refusalOf wsX2_endsBeyondServer := goodIn_r _ [49, 2, 3, 1, 50, 51, 24, 25, 19, 26, 21, 22, 27, 11, 28, 13, 14, 15, 29, 30, 31, 32, 33, 34, 35, 36, 37, 38, 52, 53, 54, 55, 56, 57, 58, 59, 60, 61, 62, 63, 64, 65, 66, 67, 68, 69] (by decide +kernel) (by decide +kernel)
set_option maxRecDepth 20000 in
theorem gX2_refusalOf_X2_endsBeyondServer : GoodIn wsX2_refusalOf (wsV RX2 197 RX2 yX2_endsBeyondServer wsX2_endsBeyondServer) := goodIn_app (goodIn_of _ (by decide +kernel)) ggX2_refusalOf_X2_endsBeyondServer
theorem dX2_refusalOf_0 : decode cX2_refusalOf 0 = .ok (.aload_n 0, 1) := by decide +kernel
theorem dX2_refusalOf_1 : decode cX2_refusalOf 1 = .ok (.getfield 19, 3) := by decide +kernel
theorem dX2_refusalOf_4 : decode cX2_refusalOf 4 = .ok (.iload_n 1, 1) := by decide +kernel
theorem dX2_refusalOf_5 : decode cX2_refusalOf 5 = .ok (.invokevirtual 89, 3) := by decide +kernel
theorem dX2_refusalOf_8 : decode cX2_refusalOf 8 = .ok (.iload_n 2, 1) := by decide +kernel
theorem dX2_refusalOf_9 : decode cX2_refusalOf 9 = .ok (.if_icmp .eq 6, 3) := by decide +kernel
theorem dX2_refusalOf_12 : decode cX2_refusalOf 12 = .ok (.bipush (-2), 2) := by decide +kernel
theorem dX2_refusalOf_14 : decode cX2_refusalOf 14 = .ok (.ireturn, 1) := by decide +kernel
theorem dX2_refusalOf_15 : decode cX2_refusalOf 15 = .ok (.aload_n 0, 1) := by decide +kernel
theorem dX2_refusalOf_16 : decode cX2_refusalOf 16 = .ok (.getfield 10, 3) := by decide +kernel
theorem dX2_refusalOf_19 : decode cX2_refusalOf 19 = .ok (.iload_n 3, 1) := by decide +kernel
theorem dX2_refusalOf_20 : decode cX2_refusalOf 20 = .ok (.invokestatic 79, 3) := by decide +kernel
theorem dX2_refusalOf_23 : decode cX2_refusalOf 23 = .ok (.aload_n 0, 1) := by decide +kernel
theorem dX2_refusalOf_24 : decode cX2_refusalOf 24 = .ok (.getfield 23, 3) := by decide +kernel
theorem dX2_refusalOf_27 : decode cX2_refusalOf 27 = .ok (.getfield 75, 3) := by decide +kernel
theorem dX2_refusalOf_30 : decode cX2_refusalOf 30 = .ok (.invokevirtual 163, 3) := by decide +kernel
theorem dX2_refusalOf_33 : decode cX2_refusalOf 33 = .ok (.lstore 4, 2) := by decide +kernel
theorem dX2_refusalOf_35 : decode cX2_refusalOf 35 = .ok (.aload_n 0, 1) := by decide +kernel
theorem dX2_refusalOf_36 : decode cX2_refusalOf 36 = .ok (.iload_n 1, 1) := by decide +kernel
theorem dX2_refusalOf_37 : decode cX2_refusalOf 37 = .ok (.invokevirtual 194, 3) := by decide +kernel
theorem dX2_refusalOf_40 : decode cX2_refusalOf 40 = .ok (.ifCond .eq 20, 3) := by decide +kernel
theorem dX2_refusalOf_43 : decode cX2_refusalOf 43 = .ok (.iload_n 2, 1) := by decide +kernel
theorem dX2_refusalOf_44 : decode cX2_refusalOf 44 = .ok (.iconst (-1), 1) := by decide +kernel
theorem dX2_refusalOf_45 : decode cX2_refusalOf 45 = .ok (.if_icmp .eq 15, 3) := by decide +kernel
theorem dX2_refusalOf_48 : decode cX2_refusalOf 48 = .ok (.lload 4, 2) := by decide +kernel
theorem dX2_refusalOf_50 : decode cX2_refusalOf 50 = .ok (.iload_n 2, 1) := by decide +kernel
theorem dX2_refusalOf_51 : decode cX2_refusalOf 51 = .ok (.invokestatic 174, 3) := by decide +kernel
theorem dX2_refusalOf_54 : decode cX2_refusalOf 54 = .ok (.ifCond .ne 6, 3) := by decide +kernel
theorem dX2_refusalOf_57 : decode cX2_refusalOf 57 = .ok (.bipush (-3), 2) := by decide +kernel
theorem dX2_refusalOf_59 : decode cX2_refusalOf 59 = .ok (.ireturn, 1) := by decide +kernel
theorem dX2_refusalOf_60 : decode cX2_refusalOf 60 = .ok (.iload_n 3, 1) := by decide +kernel
theorem dX2_refusalOf_61 : decode cX2_refusalOf 61 = .ok (.iconst (-1), 1) := by decide +kernel
theorem dX2_refusalOf_62 : decode cX2_refusalOf 62 = .ok (.if_icmp .eq 22, 3) := by decide +kernel
theorem dX2_refusalOf_65 : decode cX2_refusalOf 65 = .ok (.lload 4, 2) := by decide +kernel
theorem dX2_refusalOf_67 : decode cX2_refusalOf 67 = .ok (.lconst 0, 1) := by decide +kernel
theorem dX2_refusalOf_68 : decode cX2_refusalOf 68 = .ok (.lcmp, 1) := by decide +kernel
theorem dX2_refusalOf_69 : decode cX2_refusalOf 69 = .ok (.ifCond .eq 12, 3) := by decide +kernel
theorem dX2_refusalOf_72 : decode cX2_refusalOf 72 = .ok (.aload_n 0, 1) := by decide +kernel
theorem dX2_refusalOf_73 : decode cX2_refusalOf 73 = .ok (.lload 4, 2) := by decide +kernel
theorem dX2_refusalOf_75 : decode cX2_refusalOf 75 = .ok (.invokevirtual 197, 3) := by decide +kernel
theorem dX2_refusalOf_78 : decode cX2_refusalOf 78 = .ok (.ifCond .eq 6, 3) := by decide +kernel
theorem dX2_refusalOf_81 : decode cX2_refusalOf 81 = .ok (.bipush (-4), 2) := by decide +kernel
theorem dX2_refusalOf_83 : decode cX2_refusalOf 83 = .ok (.ireturn, 1) := by decide +kernel
theorem dX2_refusalOf_84 : decode cX2_refusalOf 84 = .ok (.iconst 0, 1) := by decide +kernel
theorem dX2_refusalOf_85 : decode cX2_refusalOf 85 = .ok (.ireturn, 1) := by decide +kernel
set_option maxRecDepth 20000 in
theorem ggX2_endsBeyondServer_X0_shallowOf : GoodIn wsX2_endsBeyondServer wsX0_shallowOf := goodIn_r _ [9, 10, 11, 12, 13, 14, 15, 16, 17, 18, 19, 20, 8, 21, 22, 23, 24, 25, 26, 27, 40, 41, 42, 43, 44, 45] (by decide +kernel) (by decide +kernel)
set_option maxRecDepth 20000 in
theorem gX2_endsBeyondServer_X0_shallowOf : GoodIn wsX2_endsBeyondServer (wsV RX2 178 RX0 yX0_shallowOf wsX0_shallowOf) := goodIn_app (goodIn_of _ (by decide +kernel)) ggX2_endsBeyondServer_X0_shallowOf
theorem dX2_endsBeyondServer_0 : decode cX2_endsBeyondServer 0 = .ok (.lload_n 1, 1) := by decide +kernel
theorem dX2_endsBeyondServer_1 : decode cX2_endsBeyondServer 1 = .ok (.aload_n 0, 1) := by decide +kernel
theorem dX2_endsBeyondServer_2 : decode cX2_endsBeyondServer 2 = .ok (.getfield 10, 3) := by decide +kernel
theorem dX2_endsBeyondServer_5 : decode cX2_endsBeyondServer 5 = .ok (.aload_n 0, 1) := by decide +kernel
theorem dX2_endsBeyondServer_6 : decode cX2_endsBeyondServer 6 = .ok (.getfield 23, 3) := by decide +kernel
theorem dX2_endsBeyondServer_9 : decode cX2_endsBeyondServer 9 = .ok (.getfield 75, 3) := by decide +kernel
theorem dX2_endsBeyondServer_12 : decode cX2_endsBeyondServer 12 = .ok (.invokevirtual 178, 3) := by decide +kernel
theorem dX2_endsBeyondServer_15 : decode cX2_endsBeyondServer 15 = .ok (.land, 1) := by decide +kernel
theorem dX2_endsBeyondServer_16 : decode cX2_endsBeyondServer 16 = .ok (.aload_n 0, 1) := by decide +kernel
theorem dX2_endsBeyondServer_17 : decode cX2_endsBeyondServer 17 = .ok (.getfield 19, 3) := by decide +kernel
theorem dX2_endsBeyondServer_20 : decode cX2_endsBeyondServer 20 = .ok (.getfield 75, 3) := by decide +kernel
theorem dX2_endsBeyondServer_23 : decode cX2_endsBeyondServer 23 = .ok (.ldc2_w 115, 3) := by decide +kernel
theorem dX2_endsBeyondServer_26 : decode cX2_endsBeyondServer 26 = .ok (.lxor, 1) := by decide +kernel
theorem dX2_endsBeyondServer_27 : decode cX2_endsBeyondServer 27 = .ok (.land, 1) := by decide +kernel
theorem dX2_endsBeyondServer_28 : decode cX2_endsBeyondServer 28 = .ok (.lconst 0, 1) := by decide +kernel
theorem dX2_endsBeyondServer_29 : decode cX2_endsBeyondServer 29 = .ok (.lcmp, 1) := by decide +kernel
theorem dX2_endsBeyondServer_30 : decode cX2_endsBeyondServer 30 = .ok (.ifCond .eq 7, 3) := by decide +kernel
theorem dX2_endsBeyondServer_33 : decode cX2_endsBeyondServer 33 = .ok (.iconst 1, 1) := by decide +kernel
theorem dX2_endsBeyondServer_34 : decode cX2_endsBeyondServer 34 = .ok (.goto 4, 3) := by decide +kernel
theorem dX2_endsBeyondServer_37 : decode cX2_endsBeyondServer 37 = .ok (.iconst 0, 1) := by decide +kernel
theorem dX2_endsBeyondServer_38 : decode cX2_endsBeyondServer 38 = .ok (.ireturn, 1) := by decide +kernel
set_option maxRecDepth 20000 in
theorem ggX2_doMoves_X1_pointRef : GoodIn wsX2_doMoves wsX1_pointRef := goodIn_r _ [12, 13, 14, 15, 16, 86, 87, 88] (by decide +kernel) (by decide +kernel)
set_option maxRecDepth 20000 in
theorem gX2_doMoves_X1_pointRef : GoodIn wsX2_doMoves (wsV RX2 93 RX1 yX1_pointRef wsX1_pointRef) := goodIn_app (goodIn_of _ (by decide +kernel)) ggX2_doMoves_X1_pointRef
set_option maxRecDepth 20000 in
theorem ggX2_doMoves_X2_setOf : GoodIn wsX2_doMoves wsX2_setOf := goodIn_r _ [19] (by decide +kernel) (by decide +kernel)
set_option maxRecDepth 20000 in
theorem gX2_doMoves_X2_setOf : GoodIn wsX2_doMoves (va_wsS RX2 79 yX2_setOf wsX2_setOf) := goodIn_app (goodIn_of _ (by decide +kernel)) ggX2_doMoves_X2_setOf
set_option maxRecDepth 20000 in
theorem ggX2_doMoves_X0_ancestorsOf : GoodIn wsX2_doMoves wsX0_ancestorsOf := goodIn_r _ [24, 25, 26, 27, 28, 29, 23, 30, 31, 15, 32, 17, 18, 19, 33, 34, 35, 36, 37, 38, 39, 40, 41, 42, 89, 90, 91, 92, 93, 94] (by decide +kernel) (by decide +kernel)
set_option maxRecDepth 20000 in
theorem gX2_doMoves_X0_ancestorsOf : GoodIn wsX2_doMoves (wsV RX2 163 RX0 yX0_ancestorsOf wsX0_ancestorsOf) := goodIn_app (goodIn_of _ (by decide +kernel)) ggX2_doMoves_X0_ancestorsOf
set_option maxRecDepth 20000 in
theorem ggX2_doMoves_J13_bitCount_95d88 : GoodIn wsX2_doMoves wsJ13_bitCount_95d88 := goodIn_r _ [46, 47, 48, 49] (by decide +kernel) (by decide +kernel)
set_option maxRecDepth 20000 in
theorem gX2_doMoves_J13_bitCount_95d88 : GoodIn wsX2_doMoves (va_wsS RX2 125 yJ13_bitCount_95d88 wsJ13_bitCount_95d88) := goodIn_app (goodIn_of _ (by decide +kernel)) ggX2_doMoves_J13_bitCount_95d88
set_option maxRecDepth 20000 in
theorem ggX2_doMoves_X0_filesOf : GoodIn wsX2_doMoves wsX0_filesOf := goodIn_r _ [53, 54, 25, 31, 15, 32, 17, 18, 19, 55, 56, 57, 23, 58, 59, 60, 61, 62, 63, 39, 40, 41, 42, 64, 65, 66, 67, 89, 90, 91, 92, 93, 94] (by decide +kernel) (by decide +kernel)
set_option maxRecDepth 20000 in
theorem gX2_doMoves_X0_filesOf : GoodIn wsX2_doMoves (wsV RX2 117 RX0 yX0_filesOf wsX0_filesOf) := goodIn_app (goodIn_of _ (by decide +kernel)) ggX2_doMoves_X0_filesOf
set_option maxRecDepth 20000 in
theorem ggX2_doMoves_X1_addFiles : GoodIn wsX2_doMoves wsX1_addFiles := goodIn_r _ [71, 72, 73, 74, 75, 11, 76, 66, 15, 67, 86, 87, 88] (by decide +kernel) (by decide +kernel)
set_option maxRecDepth 20000 in
theorem gX2_doMoves_X1_addFiles : GoodIn wsX2_doMoves (wsV RX2 121 RX1 yX1_addFiles wsX1_addFiles) := goodIn_app (goodIn_of _ (by decide +kernel)) ggX2_doMoves_X1_addFiles
theorem dX2_doMoves_0 : decode cX2_doMoves 0 = .ok (.lconst 0, 1) := by decide +kernel
theorem dX2_doMoves_1 : decode cX2_doMoves 1 = .ok (.lstore_n 1, 1) := by decide +kernel
theorem dX2_doMoves_2 : decode cX2_doMoves 2 = .ok (.iconst 0, 1) := by decide +kernel
theorem dX2_doMoves_3 : decode cX2_doMoves 3 = .ok (.istore_n 3, 1) := by decide +kernel
theorem dX2_doMoves_4 : decode cX2_doMoves 4 = .ok (.iload_n 3, 1) := by decide +kernel
theorem dX2_doMoves_5 : decode cX2_doMoves 5 = .ok (.aload_n 0, 1) := by decide +kernel
theorem dX2_doMoves_6 : decode cX2_doMoves 6 = .ok (.getfield 148, 3) := by decide +kernel
theorem dX2_doMoves_9 : decode cX2_doMoves 9 = .ok (.if_icmp .ge 40, 3) := by decide +kernel
theorem dX2_doMoves_12 : decode cX2_doMoves 12 = .ok (.aload_n 0, 1) := by decide +kernel
theorem dX2_doMoves_13 : decode cX2_doMoves 13 = .ok (.getfield 19, 3) := by decide +kernel
theorem dX2_doMoves_16 : decode cX2_doMoves 16 = .ok (.aload_n 0, 1) := by decide +kernel
theorem dX2_doMoves_17 : decode cX2_doMoves 17 = .ok (.getfield 30, 3) := by decide +kernel
theorem dX2_doMoves_20 : decode cX2_doMoves 20 = .ok (.iload_n 3, 1) := by decide +kernel
theorem dX2_doMoves_21 : decode cX2_doMoves 21 = .ok (.iaload, 1) := by decide +kernel
theorem dX2_doMoves_22 : decode cX2_doMoves 22 = .ok (.aload_n 0, 1) := by decide +kernel
theorem dX2_doMoves_23 : decode cX2_doMoves 23 = .ok (.getfield 37, 3) := by decide +kernel
theorem dX2_doMoves_26 : decode cX2_doMoves 26 = .ok (.iload_n 3, 1) := by decide +kernel
theorem dX2_doMoves_27 : decode cX2_doMoves 27 = .ok (.iaload, 1) := by decide +kernel
theorem dX2_doMoves_28 : decode cX2_doMoves 28 = .ok (.invokevirtual 93, 3) := by decide +kernel
theorem dX2_doMoves_31 : decode cX2_doMoves 31 = .ok (.lload_n 1, 1) := by decide +kernel
theorem dX2_doMoves_32 : decode cX2_doMoves 32 = .ok (.aload_n 0, 1) := by decide +kernel
theorem dX2_doMoves_33 : decode cX2_doMoves 33 = .ok (.getfield 37, 3) := by decide +kernel
theorem dX2_doMoves_36 : decode cX2_doMoves 36 = .ok (.iload_n 3, 1) := by decide +kernel
theorem dX2_doMoves_37 : decode cX2_doMoves 37 = .ok (.iaload, 1) := by decide +kernel
theorem dX2_doMoves_38 : decode cX2_doMoves 38 = .ok (.invokestatic 79, 3) := by decide +kernel
theorem dX2_doMoves_41 : decode cX2_doMoves 41 = .ok (.lor, 1) := by decide +kernel
theorem dX2_doMoves_42 : decode cX2_doMoves 42 = .ok (.lstore_n 1, 1) := by decide +kernel
theorem dX2_doMoves_43 : decode cX2_doMoves 43 = .ok (.iinc 3 1, 3) := by decide +kernel
theorem dX2_doMoves_46 : decode cX2_doMoves 46 = .ok (.goto (-42), 3) := by decide +kernel
theorem dX2_doMoves_49 : decode cX2_doMoves 49 = .ok (.aload_n 0, 1) := by decide +kernel
theorem dX2_doMoves_50 : decode cX2_doMoves 50 = .ok (.getfield 10, 3) := by decide +kernel
theorem dX2_doMoves_53 : decode cX2_doMoves 53 = .ok (.lload_n 1, 1) := by decide +kernel
theorem dX2_doMoves_54 : decode cX2_doMoves 54 = .ok (.aload_n 0, 1) := by decide +kernel
theorem dX2_doMoves_55 : decode cX2_doMoves 55 = .ok (.getfield 23, 3) := by decide +kernel
theorem dX2_doMoves_58 : decode cX2_doMoves 58 = .ok (.getfield 75, 3) := by decide +kernel
theorem dX2_doMoves_61 : decode cX2_doMoves 61 = .ok (.invokevirtual 163, 3) := by decide +kernel
theorem dX2_doMoves_64 : decode cX2_doMoves 64 = .ok (.lstore_n 3, 1) := by decide +kernel
theorem dX2_doMoves_65 : decode cX2_doMoves 65 = .ok (.lload_n 3, 1) := by decide +kernel
theorem dX2_doMoves_66 : decode cX2_doMoves 66 = .ok (.aload_n 0, 1) := by decide +kernel
theorem dX2_doMoves_67 : decode cX2_doMoves 67 = .ok (.getfield 19, 3) := by decide +kernel
theorem dX2_doMoves_70 : decode cX2_doMoves 70 = .ok (.getfield 75, 3) := by decide +kernel
theorem dX2_doMoves_73 : decode cX2_doMoves 73 = .ok (.ldc2_w 115, 3) := by decide +kernel
theorem dX2_doMoves_76 : decode cX2_doMoves 76 = .ok (.lxor, 1) := by decide +kernel
theorem dX2_doMoves_77 : decode cX2_doMoves 77 = .ok (.land, 1) := by decide +kernel
theorem dX2_doMoves_78 : decode cX2_doMoves 78 = .ok (.invokestatic 125, 3) := by decide +kernel
theorem dX2_doMoves_81 : decode cX2_doMoves 81 = .ok (.istore 5, 2) := by decide +kernel
theorem dX2_doMoves_83 : decode cX2_doMoves 83 = .ok (.aload_n 0, 1) := by decide +kernel
theorem dX2_doMoves_84 : decode cX2_doMoves 84 = .ok (.getfield 19, 3) := by decide +kernel
theorem dX2_doMoves_87 : decode cX2_doMoves 87 = .ok (.dup, 1) := by decide +kernel
theorem dX2_doMoves_88 : decode cX2_doMoves 88 = .ok (.getfield 75, 3) := by decide +kernel
theorem dX2_doMoves_91 : decode cX2_doMoves 91 = .ok (.lload_n 3, 1) := by decide +kernel
theorem dX2_doMoves_92 : decode cX2_doMoves 92 = .ok (.lor, 1) := by decide +kernel
theorem dX2_doMoves_93 : decode cX2_doMoves 93 = .ok (.putfield 75, 3) := by decide +kernel
theorem dX2_doMoves_96 : decode cX2_doMoves 96 = .ok (.aload_n 0, 1) := by decide +kernel
theorem dX2_doMoves_97 : decode cX2_doMoves 97 = .ok (.getfield 19, 3) := by decide +kernel
theorem dX2_doMoves_100 : decode cX2_doMoves 100 = .ok (.aload_n 0, 1) := by decide +kernel
theorem dX2_doMoves_101 : decode cX2_doMoves 101 = .ok (.getfield 10, 3) := by decide +kernel
theorem dX2_doMoves_104 : decode cX2_doMoves 104 = .ok (.lload_n 3, 1) := by decide +kernel
theorem dX2_doMoves_105 : decode cX2_doMoves 105 = .ok (.invokevirtual 117, 3) := by decide +kernel
theorem dX2_doMoves_108 : decode cX2_doMoves 108 = .ok (.aload_n 0, 1) := by decide +kernel
theorem dX2_doMoves_109 : decode cX2_doMoves 109 = .ok (.getfield 23, 3) := by decide +kernel
theorem dX2_doMoves_112 : decode cX2_doMoves 112 = .ok (.invokevirtual 121, 3) := by decide +kernel
theorem dX2_doMoves_115 : decode cX2_doMoves 115 = .ok (.iload 5, 2) := by decide +kernel
theorem dX2_doMoves_117 : decode cX2_doMoves 117 = .ok (.ireturn, 1) := by decide +kernel
theorem dX2_storeOf_0 : decode cX2_storeOf 0 = .ok (.iload_n 1, 1) := by decide +kernel
theorem dX2_storeOf_1 : decode cX2_storeOf 1 = .ok (.ifCond .eq 18, 3) := by decide +kernel
theorem dX2_storeOf_4 : decode cX2_storeOf 4 = .ok (.iload_n 1, 1) := by decide +kernel
theorem dX2_storeOf_5 : decode cX2_storeOf 5 = .ok (.iconst 1, 1) := by decide +kernel
theorem dX2_storeOf_6 : decode cX2_storeOf 6 = .ok (.if_icmp .eq 13, 3) := by decide +kernel
theorem dX2_storeOf_9 : decode cX2_storeOf 9 = .ok (.new 201, 3) := by decide +kernel
theorem dX2_storeOf_12 : decode cX2_storeOf 12 = .ok (.dup, 1) := by decide +kernel
theorem dX2_storeOf_13 : decode cX2_storeOf 13 = .ok (.ldc 203, 2) := by decide +kernel
theorem dX2_storeOf_15 : decode cX2_storeOf 15 = .ok (.invokespecial 205, 3) := by decide +kernel
theorem dX2_storeOf_18 : decode cX2_storeOf 18 = .ok (.athrow, 1) := by decide +kernel
theorem dX2_storeOf_19 : decode cX2_storeOf 19 = .ok (.iload_n 1, 1) := by decide +kernel
theorem dX2_storeOf_20 : decode cX2_storeOf 20 = .ok (.ifCond .ne 10, 3) := by decide +kernel
theorem dX2_storeOf_23 : decode cX2_storeOf 23 = .ok (.aload_n 0, 1) := by decide +kernel
theorem dX2_storeOf_24 : decode cX2_storeOf 24 = .ok (.getfield 19, 3) := by decide +kernel
theorem dX2_storeOf_27 : decode cX2_storeOf 27 = .ok (.goto 7, 3) := by decide +kernel
theorem dX2_storeOf_30 : decode cX2_storeOf 30 = .ok (.aload_n 0, 1) := by decide +kernel
theorem dX2_storeOf_31 : decode cX2_storeOf 31 = .ok (.getfield 23, 3) := by decide +kernel
theorem dX2_storeOf_34 : decode cX2_storeOf 34 = .ok (.areturn, 1) := by decide +kernel
set_option maxRecDepth 20000 in
theorem ggX2_checkCommit_X0_isCommit : GoodIn wsX2_checkCommit wsX0_isCommit := goodIn_r _ [8, 9, 19, 20, 21, 22, 23, 24] (by decide +kernel) (by decide +kernel)
set_option maxRecDepth 20000 in
theorem gX2_checkCommit_X0_isCommit : GoodIn wsX2_checkCommit (wsV RX2 206 RX0 yX0_isCommit wsX0_isCommit) := goodIn_app (goodIn_of _ (by decide +kernel)) ggX2_checkCommit_X0_isCommit
theorem dX2_checkCommit_0 : decode cX2_checkCommit 0 = .ok (.aload_n 0, 1) := by decide +kernel
theorem dX2_checkCommit_1 : decode cX2_checkCommit 1 = .ok (.getfield 10, 3) := by decide +kernel
theorem dX2_checkCommit_4 : decode cX2_checkCommit 4 = .ok (.iload_n 1, 1) := by decide +kernel
theorem dX2_checkCommit_5 : decode cX2_checkCommit 5 = .ok (.invokevirtual 206, 3) := by decide +kernel
theorem dX2_checkCommit_8 : decode cX2_checkCommit 8 = .ok (.ifCond .ne 13, 3) := by decide +kernel
theorem dX2_checkCommit_11 : decode cX2_checkCommit 11 = .ok (.new 201, 3) := by decide +kernel
theorem dX2_checkCommit_14 : decode cX2_checkCommit 14 = .ok (.dup, 1) := by decide +kernel
theorem dX2_checkCommit_15 : decode cX2_checkCommit 15 = .ok (.ldc 209, 2) := by decide +kernel
theorem dX2_checkCommit_17 : decode cX2_checkCommit 17 = .ok (.invokespecial 205, 3) := by decide +kernel
theorem dX2_checkCommit_20 : decode cX2_checkCommit 20 = .ok (.athrow, 1) := by decide +kernel
theorem dX2_checkCommit_21 : decode cX2_checkCommit 21 = .ok (.return_, 1) := by decide +kernel
set_option maxRecDepth 20000 in
theorem ggX2_checkCommitOrNone_X2_checkCommit : GoodIn wsX2_checkCommitOrNone wsX2_checkCommit := goodIn_ca (goodIn_r _ [5, 6, 7, 8, 9, 10, 11, 12, 13, 14, 15, 16, 17, 18, 19, 20, 21, 22, 23, 24, 25, 26, 27, 28, 29] (by decide +kernel) (by decide +kernel)) (goodIn_sub (fun _ h => List.mem_cons_of_mem _ (List.mem_append_right _ h)) (by decide +kernel))
set_option maxRecDepth 20000 in
theorem gX2_checkCommitOrNone_X2_checkCommit : GoodIn wsX2_checkCommitOrNone (wsV RX2 97 RX2 yX2_checkCommit wsX2_checkCommit) := goodIn_app (goodIn_of _ (by decide +kernel)) ggX2_checkCommitOrNone_X2_checkCommit
theorem dX2_checkCommitOrNone_0 : decode cX2_checkCommitOrNone 0 = .ok (.iload_n 1, 1) := by decide +kernel
theorem dX2_checkCommitOrNone_1 : decode cX2_checkCommitOrNone 1 = .ok (.iconst (-1), 1) := by decide +kernel
theorem dX2_checkCommitOrNone_2 : decode cX2_checkCommitOrNone 2 = .ok (.if_icmp .eq 8, 3) := by decide +kernel
theorem dX2_checkCommitOrNone_5 : decode cX2_checkCommitOrNone 5 = .ok (.aload_n 0, 1) := by decide +kernel
theorem dX2_checkCommitOrNone_6 : decode cX2_checkCommitOrNone 6 = .ok (.iload_n 1, 1) := by decide +kernel
theorem dX2_checkCommitOrNone_7 : decode cX2_checkCommitOrNone 7 = .ok (.invokevirtual 97, 3) := by decide +kernel
theorem dX2_checkCommitOrNone_10 : decode cX2_checkCommitOrNone 10 = .ok (.return_, 1) := by decide +kernel
set_option maxRecDepth 20000 in
theorem ggX2_checkHeldOrNone_X2_contains : GoodIn wsX2_checkHeldOrNone wsX2_contains := goodIn_r _ [6, 7, 8, 5, 9] (by decide +kernel) (by decide +kernel)
set_option maxRecDepth 20000 in
theorem gX2_checkHeldOrNone_X2_contains : GoodIn wsX2_checkHeldOrNone (va_wsS RX2 174 yX2_contains wsX2_contains) := goodIn_app (goodIn_of _ (by decide +kernel)) ggX2_checkHeldOrNone_X2_contains
theorem dX2_checkHeldOrNone_0 : decode cX2_checkHeldOrNone 0 = .ok (.iload_n 1, 1) := by decide +kernel
theorem dX2_checkHeldOrNone_1 : decode cX2_checkHeldOrNone 1 = .ok (.iconst (-1), 1) := by decide +kernel
theorem dX2_checkHeldOrNone_2 : decode cX2_checkHeldOrNone 2 = .ok (.if_icmp .eq 24, 3) := by decide +kernel
theorem dX2_checkHeldOrNone_5 : decode cX2_checkHeldOrNone 5 = .ok (.aload_n 0, 1) := by decide +kernel
theorem dX2_checkHeldOrNone_6 : decode cX2_checkHeldOrNone 6 = .ok (.getfield 75, 3) := by decide +kernel
theorem dX2_checkHeldOrNone_9 : decode cX2_checkHeldOrNone 9 = .ok (.iload_n 1, 1) := by decide +kernel
theorem dX2_checkHeldOrNone_10 : decode cX2_checkHeldOrNone 10 = .ok (.invokestatic 174, 3) := by decide +kernel
theorem dX2_checkHeldOrNone_13 : decode cX2_checkHeldOrNone 13 = .ok (.ifCond .ne 13, 3) := by decide +kernel
theorem dX2_checkHeldOrNone_16 : decode cX2_checkHeldOrNone 16 = .ok (.new 201, 3) := by decide +kernel
theorem dX2_checkHeldOrNone_19 : decode cX2_checkHeldOrNone 19 = .ok (.dup, 1) := by decide +kernel
theorem dX2_checkHeldOrNone_20 : decode cX2_checkHeldOrNone 20 = .ok (.ldc 211, 2) := by decide +kernel
theorem dX2_checkHeldOrNone_22 : decode cX2_checkHeldOrNone 22 = .ok (.invokespecial 205, 3) := by decide +kernel
theorem dX2_checkHeldOrNone_25 : decode cX2_checkHeldOrNone 25 = .ok (.athrow, 1) := by decide +kernel
theorem dX2_checkHeldOrNone_26 : decode cX2_checkHeldOrNone 26 = .ok (.return_, 1) := by decide +kernel
set_option maxRecDepth 20000 in
theorem ggX2_checkSlot_X2_isSlot : GoodIn wsX2_checkSlot wsX2_isSlot := goodIn_r _ [6] (by decide +kernel) (by decide +kernel)
set_option maxRecDepth 20000 in
theorem gX2_checkSlot_X2_isSlot : GoodIn wsX2_checkSlot (va_wsS RX2 213 yX2_isSlot wsX2_isSlot) := goodIn_app (goodIn_of _ (by decide +kernel)) ggX2_checkSlot_X2_isSlot
theorem dX2_checkSlot_0 : decode cX2_checkSlot 0 = .ok (.iload_n 0, 1) := by decide +kernel
theorem dX2_checkSlot_1 : decode cX2_checkSlot 1 = .ok (.invokestatic 213, 3) := by decide +kernel
theorem dX2_checkSlot_4 : decode cX2_checkSlot 4 = .ok (.ifCond .ne 13, 3) := by decide +kernel
theorem dX2_checkSlot_7 : decode cX2_checkSlot 7 = .ok (.new 201, 3) := by decide +kernel
theorem dX2_checkSlot_10 : decode cX2_checkSlot 10 = .ok (.dup, 1) := by decide +kernel
theorem dX2_checkSlot_11 : decode cX2_checkSlot 11 = .ok (.ldc 216, 2) := by decide +kernel
theorem dX2_checkSlot_13 : decode cX2_checkSlot 13 = .ok (.invokespecial 205, 3) := by decide +kernel
theorem dX2_checkSlot_16 : decode cX2_checkSlot 16 = .ok (.athrow, 1) := by decide +kernel
theorem dX2_checkSlot_17 : decode cX2_checkSlot 17 = .ok (.return_, 1) := by decide +kernel
set_option maxRecDepth 20000 in
theorem ggX2_checkRef_X2_isRef : GoodIn wsX2_checkRef wsX2_isRef := goodIn_r _ [6] (by decide +kernel) (by decide +kernel)
set_option maxRecDepth 20000 in
theorem gX2_checkRef_X2_isRef : GoodIn wsX2_checkRef (va_wsS RX2 218 yX2_isRef wsX2_isRef) := goodIn_app (goodIn_of _ (by decide +kernel)) ggX2_checkRef_X2_isRef
theorem dX2_checkRef_0 : decode cX2_checkRef 0 = .ok (.iload_n 0, 1) := by decide +kernel
theorem dX2_checkRef_1 : decode cX2_checkRef 1 = .ok (.invokestatic 218, 3) := by decide +kernel
theorem dX2_checkRef_4 : decode cX2_checkRef 4 = .ok (.ifCond .ne 13, 3) := by decide +kernel
theorem dX2_checkRef_7 : decode cX2_checkRef 7 = .ok (.new 201, 3) := by decide +kernel
theorem dX2_checkRef_10 : decode cX2_checkRef 10 = .ok (.dup, 1) := by decide +kernel
theorem dX2_checkRef_11 : decode cX2_checkRef 11 = .ok (.ldc 221, 2) := by decide +kernel
theorem dX2_checkRef_13 : decode cX2_checkRef 13 = .ok (.invokespecial 205, 3) := by decide +kernel
theorem dX2_checkRef_16 : decode cX2_checkRef 16 = .ok (.athrow, 1) := by decide +kernel
theorem dX2_checkRef_17 : decode cX2_checkRef 17 = .ok (.return_, 1) := by decide +kernel
set_option maxRecDepth 20000 in
theorem ggX2_checkFile_X2_isFile : GoodIn wsX2_checkFile wsX2_isFile := goodIn_r _ [6] (by decide +kernel) (by decide +kernel)
set_option maxRecDepth 20000 in
theorem gX2_checkFile_X2_isFile : GoodIn wsX2_checkFile (va_wsS RX2 223 yX2_isFile wsX2_isFile) := goodIn_app (goodIn_of _ (by decide +kernel)) ggX2_checkFile_X2_isFile
theorem dX2_checkFile_0 : decode cX2_checkFile 0 = .ok (.iload_n 0, 1) := by decide +kernel
theorem dX2_checkFile_1 : decode cX2_checkFile 1 = .ok (.invokestatic 223, 3) := by decide +kernel
theorem dX2_checkFile_4 : decode cX2_checkFile 4 = .ok (.ifCond .ne 13, 3) := by decide +kernel
theorem dX2_checkFile_7 : decode cX2_checkFile 7 = .ok (.new 55, 3) := by decide +kernel
theorem dX2_checkFile_10 : decode cX2_checkFile 10 = .ok (.dup, 1) := by decide +kernel
theorem dX2_checkFile_11 : decode cX2_checkFile 11 = .ok (.ldc 226, 2) := by decide +kernel
theorem dX2_checkFile_13 : decode cX2_checkFile 13 = .ok (.invokespecial 59, 3) := by decide +kernel
theorem dX2_checkFile_16 : decode cX2_checkFile 16 = .ok (.athrow, 1) := by decide +kernel
theorem dX2_checkFile_17 : decode cX2_checkFile 17 = .ok (.return_, 1) := by decide +kernel
theorem dX2_isSlot_0 : decode cX2_isSlot 0 = .ok (.iload_n 0, 1) := by decide +kernel
theorem dX2_isSlot_1 : decode cX2_isSlot 1 = .ok (.ifCond .lt 12, 3) := by decide +kernel
theorem dX2_isSlot_4 : decode cX2_isSlot 4 = .ok (.iload_n 0, 1) := by decide +kernel
theorem dX2_isSlot_5 : decode cX2_isSlot 5 = .ok (.iconst 4, 1) := by decide +kernel
theorem dX2_isSlot_6 : decode cX2_isSlot 6 = .ok (.if_icmp .ge 7, 3) := by decide +kernel
theorem dX2_isSlot_9 : decode cX2_isSlot 9 = .ok (.iconst 1, 1) := by decide +kernel
theorem dX2_isSlot_10 : decode cX2_isSlot 10 = .ok (.goto 4, 3) := by decide +kernel
theorem dX2_isSlot_13 : decode cX2_isSlot 13 = .ok (.iconst 0, 1) := by decide +kernel
theorem dX2_isSlot_14 : decode cX2_isSlot 14 = .ok (.ireturn, 1) := by decide +kernel
theorem dX2_isRef_0 : decode cX2_isRef 0 = .ok (.iload_n 0, 1) := by decide +kernel
theorem dX2_isRef_1 : decode cX2_isRef 1 = .ok (.ifCond .lt 12, 3) := by decide +kernel
theorem dX2_isRef_4 : decode cX2_isRef 4 = .ok (.iload_n 0, 1) := by decide +kernel
end
section
theorem dX2_isRef_5 : decode cX2_isRef 5 = .ok (.iconst 4, 1) := by decide +kernel
theorem dX2_isRef_6 : decode cX2_isRef 6 = .ok (.if_icmp .ge 7, 3) := by decide +kernel
theorem dX2_isRef_9 : decode cX2_isRef 9 = .ok (.iconst 1, 1) := by decide +kernel
theorem dX2_isRef_10 : decode cX2_isRef 10 = .ok (.goto 4, 3) := by decide +kernel
theorem dX2_isRef_13 : decode cX2_isRef 13 = .ok (.iconst 0, 1) := by decide +kernel
theorem dX2_isRef_14 : decode cX2_isRef 14 = .ok (.ireturn, 1) := by decide +kernel
theorem dX2_isFile_0 : decode cX2_isFile 0 = .ok (.iload_n 0, 1) := by decide +kernel
theorem dX2_isFile_1 : decode cX2_isFile 1 = .ok (.ifCond .lt 13, 3) := by decide +kernel
theorem dX2_isFile_4 : decode cX2_isFile 4 = .ok (.iload_n 0, 1) := by decide +kernel
theorem dX2_isFile_5 : decode cX2_isFile 5 = .ok (.bipush 100, 2) := by decide +kernel
theorem dX2_isFile_7 : decode cX2_isFile 7 = .ok (.if_icmp .ge 7, 3) := by decide +kernel
theorem dX2_isFile_10 : decode cX2_isFile 10 = .ok (.iconst 1, 1) := by decide +kernel
theorem dX2_isFile_11 : decode cX2_isFile 11 = .ok (.goto 4, 3) := by decide +kernel
theorem dX2_isFile_14 : decode cX2_isFile 14 = .ok (.iconst 0, 1) := by decide +kernel
theorem dX2_isFile_15 : decode cX2_isFile 15 = .ok (.ireturn, 1) := by decide +kernel
set_option maxRecDepth 20000 in
theorem ggX2_isProtectedRef_X2_isRef : GoodIn wsX2_isProtectedRef wsX2_isRef := goodIn_r _ [5] (by decide +kernel) (by decide +kernel)
set_option maxRecDepth 20000 in
theorem gX2_isProtectedRef_X2_isRef : GoodIn wsX2_isProtectedRef (va_wsS RX2 218 yX2_isRef wsX2_isRef) := goodIn_app (goodIn_of _ (by decide +kernel)) ggX2_isProtectedRef_X2_isRef
theorem dX2_isProtectedRef_0 : decode cX2_isProtectedRef 0 = .ok (.iload_n 1, 1) := by decide +kernel
theorem dX2_isProtectedRef_1 : decode cX2_isProtectedRef 1 = .ok (.invokestatic 218, 3) := by decide +kernel
theorem dX2_isProtectedRef_4 : decode cX2_isProtectedRef 4 = .ok (.ifCond .eq 16, 3) := by decide +kernel
theorem dX2_isProtectedRef_7 : decode cX2_isProtectedRef 7 = .ok (.aload_n 0, 1) := by decide +kernel
theorem dX2_isProtectedRef_8 : decode cX2_isProtectedRef 8 = .ok (.getfield 26, 3) := by decide +kernel
theorem dX2_isProtectedRef_11 : decode cX2_isProtectedRef 11 = .ok (.iload_n 1, 1) := by decide +kernel
theorem dX2_isProtectedRef_12 : decode cX2_isProtectedRef 12 = .ok (.baload, 1) := by decide +kernel
theorem dX2_isProtectedRef_13 : decode cX2_isProtectedRef 13 = .ok (.ifCond .eq 7, 3) := by decide +kernel
theorem dX2_isProtectedRef_16 : decode cX2_isProtectedRef 16 = .ok (.iconst 1, 1) := by decide +kernel
theorem dX2_isProtectedRef_17 : decode cX2_isProtectedRef 17 = .ok (.goto 4, 3) := by decide +kernel
theorem dX2_isProtectedRef_20 : decode cX2_isProtectedRef 20 = .ok (.iconst 0, 1) := by decide +kernel
theorem dX2_isProtectedRef_21 : decode cX2_isProtectedRef 21 = .ok (.ireturn, 1) := by decide +kernel
theorem dX2_setOf_0 : decode cX2_setOf 0 = .ok (.iload_n 0, 1) := by decide +kernel
theorem dX2_setOf_1 : decode cX2_setOf 1 = .ok (.ifCond .lt 15, 3) := by decide +kernel
theorem dX2_setOf_4 : decode cX2_setOf 4 = .ok (.iload_n 0, 1) := by decide +kernel
theorem dX2_setOf_5 : decode cX2_setOf 5 = .ok (.bipush 60, 2) := by decide +kernel
theorem dX2_setOf_7 : decode cX2_setOf 7 = .ok (.if_icmp .ge 9, 3) := by decide +kernel
theorem dX2_setOf_10 : decode cX2_setOf 10 = .ok (.lconst 1, 1) := by decide +kernel
theorem dX2_setOf_11 : decode cX2_setOf 11 = .ok (.iload_n 0, 1) := by decide +kernel
theorem dX2_setOf_12 : decode cX2_setOf 12 = .ok (.lshl, 1) := by decide +kernel
theorem dX2_setOf_13 : decode cX2_setOf 13 = .ok (.goto 4, 3) := by decide +kernel
theorem dX2_setOf_16 : decode cX2_setOf 16 = .ok (.lconst 0, 1) := by decide +kernel
theorem dX2_setOf_17 : decode cX2_setOf 17 = .ok (.lreturn, 1) := by decide +kernel
set_option maxRecDepth 20000 in
theorem ggX2_contains_X2_setOf : GoodIn wsX2_contains wsX2_setOf := goodIn_r _ [4] (by decide +kernel) (by decide +kernel)
set_option maxRecDepth 20000 in
theorem gX2_contains_X2_setOf : GoodIn wsX2_contains (va_wsS RX2 79 yX2_setOf wsX2_setOf) := goodIn_app (goodIn_of _ (by decide +kernel)) ggX2_contains_X2_setOf
theorem dX2_contains_0 : decode cX2_contains 0 = .ok (.lload_n 0, 1) := by decide +kernel
theorem dX2_contains_1 : decode cX2_contains 1 = .ok (.iload_n 2, 1) := by decide +kernel
theorem dX2_contains_2 : decode cX2_contains 2 = .ok (.invokestatic 79, 3) := by decide +kernel
theorem dX2_contains_5 : decode cX2_contains 5 = .ok (.land, 1) := by decide +kernel
theorem dX2_contains_6 : decode cX2_contains 6 = .ok (.lconst 0, 1) := by decide +kernel
theorem dX2_contains_7 : decode cX2_contains 7 = .ok (.lcmp, 1) := by decide +kernel
theorem dX2_contains_8 : decode cX2_contains 8 = .ok (.ifCond .eq 7, 3) := by decide +kernel
theorem dX2_contains_11 : decode cX2_contains 11 = .ok (.iconst 1, 1) := by decide +kernel
theorem dX2_contains_12 : decode cX2_contains 12 = .ok (.goto 4, 3) := by decide +kernel
theorem dX2_contains_15 : decode cX2_contains 15 = .ok (.iconst 0, 1) := by decide +kernel
theorem dX2_contains_16 : decode cX2_contains 16 = .ok (.ireturn, 1) := by decide +kernel
set_option maxRecDepth 20000 in
theorem ggX2_highestOf_X2_contains : GoodIn wsX2_highestOf wsX2_contains := goodIn_r _ [4, 5, 6, 3, 7] (by decide +kernel) (by decide +kernel)
set_option maxRecDepth 20000 in
theorem gX2_highestOf_X2_contains : GoodIn wsX2_highestOf (va_wsS RX2 174 yX2_contains wsX2_contains) := goodIn_app (goodIn_of _ (by decide +kernel)) ggX2_highestOf_X2_contains
set_option maxRecDepth 20000 in
theorem ggX2_highestOf_X2_setOf : GoodIn wsX2_highestOf wsX2_setOf := goodIn_r _ [7] (by decide +kernel) (by decide +kernel)
set_option maxRecDepth 20000 in
theorem gX2_highestOf_X2_setOf : GoodIn wsX2_highestOf (va_wsS RX2 79 yX2_setOf wsX2_setOf) := goodIn_app (goodIn_of _ (by decide +kernel)) ggX2_highestOf_X2_setOf
theorem dX2_highestOf_0 : decode cX2_highestOf 0 = .ok (.lconst 0, 1) := by decide +kernel
theorem dX2_highestOf_1 : decode cX2_highestOf 1 = .ok (.lstore_n 3, 1) := by decide +kernel
theorem dX2_highestOf_2 : decode cX2_highestOf 2 = .ok (.iload_n 2, 1) := by decide +kernel
theorem dX2_highestOf_3 : decode cX2_highestOf 3 = .ok (.istore 5, 2) := by decide +kernel
theorem dX2_highestOf_5 : decode cX2_highestOf 5 = .ok (.bipush 59, 2) := by decide +kernel
theorem dX2_highestOf_7 : decode cX2_highestOf 7 = .ok (.istore 6, 2) := by decide +kernel
theorem dX2_highestOf_9 : decode cX2_highestOf 9 = .ok (.iload 6, 2) := by decide +kernel
theorem dX2_highestOf_11 : decode cX2_highestOf 11 = .ok (.ifCond .lt 34, 3) := by decide +kernel
theorem dX2_highestOf_14 : decode cX2_highestOf 14 = .ok (.iload 5, 2) := by decide +kernel
theorem dX2_highestOf_16 : decode cX2_highestOf 16 = .ok (.ifCond .le 29, 3) := by decide +kernel
theorem dX2_highestOf_19 : decode cX2_highestOf 19 = .ok (.lload_n 0, 1) := by decide +kernel
theorem dX2_highestOf_20 : decode cX2_highestOf 20 = .ok (.iload 6, 2) := by decide +kernel
theorem dX2_highestOf_22 : decode cX2_highestOf 22 = .ok (.invokestatic 174, 3) := by decide +kernel
theorem dX2_highestOf_25 : decode cX2_highestOf 25 = .ok (.ifCond .eq 14, 3) := by decide +kernel
theorem dX2_highestOf_28 : decode cX2_highestOf 28 = .ok (.lload_n 3, 1) := by decide +kernel
theorem dX2_highestOf_29 : decode cX2_highestOf 29 = .ok (.iload 6, 2) := by decide +kernel
theorem dX2_highestOf_31 : decode cX2_highestOf 31 = .ok (.invokestatic 79, 3) := by decide +kernel
theorem dX2_highestOf_34 : decode cX2_highestOf 34 = .ok (.lor, 1) := by decide +kernel
theorem dX2_highestOf_35 : decode cX2_highestOf 35 = .ok (.lstore_n 3, 1) := by decide +kernel
theorem dX2_highestOf_36 : decode cX2_highestOf 36 = .ok (.iinc 5 (-1), 3) := by decide +kernel
theorem dX2_highestOf_39 : decode cX2_highestOf 39 = .ok (.iinc 6 (-1), 3) := by decide +kernel
theorem dX2_highestOf_42 : decode cX2_highestOf 42 = .ok (.goto (-33), 3) := by decide +kernel
theorem dX2_highestOf_45 : decode cX2_highestOf 45 = .ok (.lload_n 3, 1) := by decide +kernel
theorem dX2_highestOf_46 : decode cX2_highestOf 46 = .ok (.lreturn, 1) := by decide +kernel
end
section
theorem dX3_init_0 : decode cX3_init 0 = .ok (.aload_n 0, 1) := by decide +kernel
theorem dX3_init_1 : decode cX3_init 1 = .ok (.invokespecial 1, 3) := by decide +kernel
theorem dX3_init_4 : decode cX3_init 4 = .ok (.aload_n 0, 1) := by decide +kernel
theorem dX3_init_5 : decode cX3_init 5 = .ok (.bipush 60, 2) := by decide +kernel
theorem dX3_init_7 : decode cX3_init 7 = .ok (.newarray .int, 2) := by decide +kernel
theorem dX3_init_9 : decode cX3_init 9 = .ok (.putfield 7, 3) := by decide +kernel
theorem dX3_init_12 : decode cX3_init 12 = .ok (.aload_n 0, 1) := by decide +kernel
theorem dX3_init_13 : decode cX3_init 13 = .ok (.bipush 60, 2) := by decide +kernel
theorem dX3_init_15 : decode cX3_init 15 = .ok (.newarray .int, 2) := by decide +kernel
theorem dX3_init_17 : decode cX3_init 17 = .ok (.putfield 13, 3) := by decide +kernel
theorem dX3_init_20 : decode cX3_init 20 = .ok (.aload_n 0, 1) := by decide +kernel
theorem dX3_init_21 : decode cX3_init 21 = .ok (.sipush 240, 3) := by decide +kernel
theorem dX3_init_24 : decode cX3_init 24 = .ok (.newarray .int, 2) := by decide +kernel
theorem dX3_init_26 : decode cX3_init 26 = .ok (.putfield 16, 3) := by decide +kernel
theorem dX3_init_29 : decode cX3_init 29 = .ok (.aload_n 0, 1) := by decide +kernel
theorem dX3_init_30 : decode cX3_init 30 = .ok (.bipush 120, 2) := by decide +kernel
theorem dX3_init_32 : decode cX3_init 32 = .ok (.newarray .boolean, 2) := by decide +kernel
theorem dX3_init_34 : decode cX3_init 34 = .ok (.putfield 19, 3) := by decide +kernel
theorem dX3_init_37 : decode cX3_init 37 = .ok (.aload_n 0, 1) := by decide +kernel
theorem dX3_init_38 : decode cX3_init 38 = .ok (.sipush 200, 3) := by decide +kernel
theorem dX3_init_41 : decode cX3_init 41 = .ok (.newarray .boolean, 2) := by decide +kernel
theorem dX3_init_43 : decode cX3_init 43 = .ok (.putfield 23, 3) := by decide +kernel
theorem dX3_init_46 : decode cX3_init 46 = .ok (.aload_n 0, 1) := by decide +kernel
theorem dX3_init_47 : decode cX3_init 47 = .ok (.bipush 8, 2) := by decide +kernel
theorem dX3_init_49 : decode cX3_init 49 = .ok (.newarray .int, 2) := by decide +kernel
theorem dX3_init_51 : decode cX3_init 51 = .ok (.putfield 26, 3) := by decide +kernel
theorem dX3_init_54 : decode cX3_init 54 = .ok (.aload_n 0, 1) := by decide +kernel
theorem dX3_init_55 : decode cX3_init 55 = .ok (.iconst 4, 1) := by decide +kernel
theorem dX3_init_56 : decode cX3_init 56 = .ok (.newarray .boolean, 2) := by decide +kernel
theorem dX3_init_58 : decode cX3_init 58 = .ok (.putfield 29, 3) := by decide +kernel
theorem dX3_init_61 : decode cX3_init 61 = .ok (.aload_n 0, 1) := by decide +kernel
theorem dX3_init_62 : decode cX3_init 62 = .ok (.iconst 3, 1) := by decide +kernel
theorem dX3_init_63 : decode cX3_init 63 = .ok (.newarray .int, 2) := by decide +kernel
theorem dX3_init_65 : decode cX3_init 65 = .ok (.putfield 32, 3) := by decide +kernel
theorem dX3_init_68 : decode cX3_init 68 = .ok (.aload_n 0, 1) := by decide +kernel
theorem dX3_init_69 : decode cX3_init 69 = .ok (.iconst 3, 1) := by decide +kernel
theorem dX3_init_70 : decode cX3_init 70 = .ok (.newarray .int, 2) := by decide +kernel
theorem dX3_init_72 : decode cX3_init 72 = .ok (.putfield 35, 3) := by decide +kernel
theorem dX3_init_75 : decode cX3_init 75 = .ok (.aload_n 0, 1) := by decide +kernel
theorem dX3_init_76 : decode cX3_init 76 = .ok (.iconst 3, 1) := by decide +kernel
theorem dX3_init_77 : decode cX3_init 77 = .ok (.newarray .int, 2) := by decide +kernel
theorem dX3_init_79 : decode cX3_init 79 = .ok (.putfield 38, 3) := by decide +kernel
theorem dX3_init_82 : decode cX3_init 82 = .ok (.aload_n 0, 1) := by decide +kernel
theorem dX3_init_83 : decode cX3_init 83 = .ok (.bipush 60, 2) := by decide +kernel
theorem dX3_init_85 : decode cX3_init 85 = .ok (.newarray .boolean, 2) := by decide +kernel
theorem dX3_init_87 : decode cX3_init 87 = .ok (.putfield 41, 3) := by decide +kernel
theorem dX3_init_90 : decode cX3_init 90 = .ok (.aload_n 0, 1) := by decide +kernel
theorem dX3_init_91 : decode cX3_init 91 = .ok (.bipush 60, 2) := by decide +kernel
theorem dX3_init_93 : decode cX3_init 93 = .ok (.newarray .boolean, 2) := by decide +kernel
theorem dX3_init_95 : decode cX3_init 95 = .ok (.putfield 44, 3) := by decide +kernel
theorem dX3_init_98 : decode cX3_init 98 = .ok (.aload_n 0, 1) := by decide +kernel
theorem dX3_init_99 : decode cX3_init 99 = .ok (.bipush 60, 2) := by decide +kernel
theorem dX3_init_101 : decode cX3_init 101 = .ok (.newarray .boolean, 2) := by decide +kernel
theorem dX3_init_103 : decode cX3_init 103 = .ok (.putfield 47, 3) := by decide +kernel
theorem dX3_init_106 : decode cX3_init 106 = .ok (.aload_n 0, 1) := by decide +kernel
theorem dX3_init_107 : decode cX3_init 107 = .ok (.bipush 60, 2) := by decide +kernel
theorem dX3_init_109 : decode cX3_init 109 = .ok (.newarray .int, 2) := by decide +kernel
theorem dX3_init_111 : decode cX3_init 111 = .ok (.putfield 50, 3) := by decide +kernel
theorem dX3_init_114 : decode cX3_init 114 = .ok (.iconst 0, 1) := by decide +kernel
theorem dX3_init_115 : decode cX3_init 115 = .ok (.istore_n 1, 1) := by decide +kernel
theorem dX3_init_116 : decode cX3_init 116 = .ok (.iload_n 1, 1) := by decide +kernel
theorem dX3_init_117 : decode cX3_init 117 = .ok (.bipush 8, 2) := by decide +kernel
theorem dX3_init_119 : decode cX3_init 119 = .ok (.if_icmp .ge 16, 3) := by decide +kernel
theorem dX3_init_122 : decode cX3_init 122 = .ok (.aload_n 0, 1) := by decide +kernel
theorem dX3_init_123 : decode cX3_init 123 = .ok (.getfield 26, 3) := by decide +kernel
theorem dX3_init_126 : decode cX3_init 126 = .ok (.iload_n 1, 1) := by decide +kernel
theorem dX3_init_127 : decode cX3_init 127 = .ok (.iconst (-1), 1) := by decide +kernel
theorem dX3_init_128 : decode cX3_init 128 = .ok (.iastore, 1) := by decide +kernel
theorem dX3_init_129 : decode cX3_init 129 = .ok (.iinc 1 1, 3) := by decide +kernel
theorem dX3_init_132 : decode cX3_init 132 = .ok (.goto (-16), 3) := by decide +kernel
theorem dX3_init_135 : decode cX3_init 135 = .ok (.return_, 1) := by decide +kernel
theorem dX3_thrown_0 : decode cX3_thrown 0 = .ok (.aload_n 0, 1) := by decide +kernel
theorem dX3_thrown_1 : decode cX3_thrown 1 = .ok (.getfield 53, 3) := by decide +kernel
theorem dX3_thrown_4 : decode cX3_thrown 4 = .ok (.ireturn, 1) := by decide +kernel
theorem dX3_refused_0 : decode cX3_refused 0 = .ok (.aload_n 0, 1) := by decide +kernel
theorem dX3_refused_1 : decode cX3_refused 1 = .ok (.iload_n 1, 1) := by decide +kernel
theorem dX3_refused_2 : decode cX3_refused 2 = .ok (.putfield 53, 3) := by decide +kernel
theorem dX3_refused_5 : decode cX3_refused 5 = .ok (.iload_n 1, 1) := by decide +kernel
theorem dX3_refused_6 : decode cX3_refused 6 = .ok (.ifCond .eq 7, 3) := by decide +kernel
theorem dX3_refused_9 : decode cX3_refused 9 = .ok (.iconst 1, 1) := by decide +kernel
theorem dX3_refused_10 : decode cX3_refused 10 = .ok (.goto 4, 3) := by decide +kernel
theorem dX3_refused_13 : decode cX3_refused 13 = .ok (.iconst 0, 1) := by decide +kernel
theorem dX3_refused_14 : decode cX3_refused 14 = .ok (.ireturn, 1) := by decide +kernel
theorem dX3_fine_0 : decode cX3_fine 0 = .ok (.aload_n 0, 1) := by decide +kernel
theorem dX3_fine_1 : decode cX3_fine 1 = .ok (.iconst 0, 1) := by decide +kernel
theorem dX3_fine_2 : decode cX3_fine 2 = .ok (.putfield 53, 3) := by decide +kernel
theorem dX3_fine_5 : decode cX3_fine 5 = .ok (.iload_n 1, 1) := by decide +kernel
theorem dX3_fine_6 : decode cX3_fine 6 = .ok (.ireturn, 1) := by decide +kernel
theorem dX3_in_0 : decode cX3_in 0 = .ok (.iload_n 0, 1) := by decide +kernel
theorem dX3_in_1 : decode cX3_in 1 = .ok (.iload_n 1, 1) := by decide +kernel
theorem dX3_in_2 : decode cX3_in 2 = .ok (.if_icmp .lt 12, 3) := by decide +kernel
theorem dX3_in_5 : decode cX3_in 5 = .ok (.iload_n 0, 1) := by decide +kernel
theorem dX3_in_6 : decode cX3_in 6 = .ok (.iload_n 2, 1) := by decide +kernel
theorem dX3_in_7 : decode cX3_in 7 = .ok (.if_icmp .gt 7, 3) := by decide +kernel
theorem dX3_in_10 : decode cX3_in 10 = .ok (.iconst 1, 1) := by decide +kernel
theorem dX3_in_11 : decode cX3_in 11 = .ok (.goto 4, 3) := by decide +kernel
theorem dX3_in_14 : decode cX3_in 14 = .ok (.iconst 0, 1) := by decide +kernel
theorem dX3_in_15 : decode cX3_in 15 = .ok (.ireturn, 1) := by decide +kernel
set_option maxRecDepth 20000 in
theorem ggX3_isStore_X3_in : GoodIn wsX3_isStore wsX3_in := goodIn_r _ [4] (by decide +kernel) (by decide +kernel)
set_option maxRecDepth 20000 in
theorem gX3_isStore_X3_in : GoodIn wsX3_isStore (va_wsS RX3 57 yX3_in wsX3_in) := goodIn_app (goodIn_of _ (by decide +kernel)) ggX3_isStore_X3_in
theorem dX3_isStore_0 : decode cX3_isStore 0 = .ok (.iload_n 0, 1) := by decide +kernel
theorem dX3_isStore_1 : decode cX3_isStore 1 = .ok (.iconst 0, 1) := by decide +kernel
theorem dX3_isStore_2 : decode cX3_isStore 2 = .ok (.iconst 1, 1) := by decide +kernel
theorem dX3_isStore_3 : decode cX3_isStore 3 = .ok (.invokestatic 57, 3) := by decide +kernel
theorem dX3_isStore_6 : decode cX3_isStore 6 = .ok (.ireturn, 1) := by decide +kernel
set_option maxRecDepth 20000 in
theorem ggX3_isRef_X3_in : GoodIn wsX3_isRef wsX3_in := goodIn_r _ [4] (by decide +kernel) (by decide +kernel)
set_option maxRecDepth 20000 in
theorem gX3_isRef_X3_in : GoodIn wsX3_isRef (va_wsS RX3 57 yX3_in wsX3_in) := goodIn_app (goodIn_of _ (by decide +kernel)) ggX3_isRef_X3_in
theorem dX3_isRef_0 : decode cX3_isRef 0 = .ok (.iload_n 0, 1) := by decide +kernel
theorem dX3_isRef_1 : decode cX3_isRef 1 = .ok (.iconst 0, 1) := by decide +kernel
theorem dX3_isRef_2 : decode cX3_isRef 2 = .ok (.iconst 3, 1) := by decide +kernel
theorem dX3_isRef_3 : decode cX3_isRef 3 = .ok (.invokestatic 57, 3) := by decide +kernel
theorem dX3_isRef_6 : decode cX3_isRef 6 = .ok (.ireturn, 1) := by decide +kernel
set_option maxRecDepth 20000 in
theorem ggX3_isCommit_X3_in : GoodIn wsX3_isCommit wsX3_in := goodIn_r _ [5] (by decide +kernel) (by decide +kernel)
set_option maxRecDepth 20000 in
theorem gX3_isCommit_X3_in : GoodIn wsX3_isCommit (va_wsS RX3 57 yX3_in wsX3_in) := goodIn_app (goodIn_of _ (by decide +kernel)) ggX3_isCommit_X3_in
theorem dX3_isCommit_0 : decode cX3_isCommit 0 = .ok (.iload_n 1, 1) := by decide +kernel
theorem dX3_isCommit_1 : decode cX3_isCommit 1 = .ok (.iconst 0, 1) := by decide +kernel
theorem dX3_isCommit_2 : decode cX3_isCommit 2 = .ok (.aload_n 0, 1) := by decide +kernel
theorem dX3_isCommit_3 : decode cX3_isCommit 3 = .ok (.getfield 61, 3) := by decide +kernel
theorem dX3_isCommit_6 : decode cX3_isCommit 6 = .ok (.iconst 1, 1) := by decide +kernel
theorem dX3_isCommit_7 : decode cX3_isCommit 7 = .ok (.isub, 1) := by decide +kernel
theorem dX3_isCommit_8 : decode cX3_isCommit 8 = .ok (.invokestatic 57, 3) := by decide +kernel
theorem dX3_isCommit_11 : decode cX3_isCommit 11 = .ok (.ireturn, 1) := by decide +kernel
set_option maxRecDepth 20000 in
theorem ggX3_isIn_X3_isCommit : GoodIn wsX3_isIn wsX3_isCommit := goodIn_r _ [6, 7, 8, 9, 5, 10, 11, 12, 13, 14, 15, 16, 17, 18, 19, 20, 21, 22, 23, 24, 25, 26, 27, 28] (by decide +kernel) (by decide +kernel)
set_option maxRecDepth 20000 in
theorem gX3_isIn_X3_isCommit : GoodIn wsX3_isIn (wsV RX3 64 RX3 yX3_isCommit wsX3_isCommit) := goodIn_app (goodIn_of _ (by decide +kernel)) ggX3_isIn_X3_isCommit
theorem dX3_isIn_0 : decode cX3_isIn 0 = .ok (.aload_n 0, 1) := by decide +kernel
theorem dX3_isIn_1 : decode cX3_isIn 1 = .ok (.iload_n 2, 1) := by decide +kernel
theorem dX3_isIn_2 : decode cX3_isIn 2 = .ok (.invokevirtual 64, 3) := by decide +kernel
theorem dX3_isIn_5 : decode cX3_isIn 5 = .ok (.ifCond .eq 21, 3) := by decide +kernel
theorem dX3_isIn_8 : decode cX3_isIn 8 = .ok (.aload_n 0, 1) := by decide +kernel
theorem dX3_isIn_9 : decode cX3_isIn 9 = .ok (.getfield 19, 3) := by decide +kernel
theorem dX3_isIn_12 : decode cX3_isIn 12 = .ok (.bipush 60, 2) := by decide +kernel
theorem dX3_isIn_14 : decode cX3_isIn 14 = .ok (.iload_n 1, 1) := by decide +kernel
theorem dX3_isIn_15 : decode cX3_isIn 15 = .ok (.imul, 1) := by decide +kernel
theorem dX3_isIn_16 : decode cX3_isIn 16 = .ok (.iload_n 2, 1) := by decide +kernel
theorem dX3_isIn_17 : decode cX3_isIn 17 = .ok (.iadd, 1) := by decide +kernel
theorem dX3_isIn_18 : decode cX3_isIn 18 = .ok (.baload, 1) := by decide +kernel
theorem dX3_isIn_19 : decode cX3_isIn 19 = .ok (.ifCond .eq 7, 3) := by decide +kernel
theorem dX3_isIn_22 : decode cX3_isIn 22 = .ok (.iconst 1, 1) := by decide +kernel
theorem dX3_isIn_23 : decode cX3_isIn 23 = .ok (.goto 4, 3) := by decide +kernel
theorem dX3_isIn_26 : decode cX3_isIn 26 = .ok (.iconst 0, 1) := by decide +kernel
theorem dX3_isIn_27 : decode cX3_isIn 27 = .ok (.ireturn, 1) := by decide +kernel
set_option maxRecDepth 20000 in
theorem ggX3_isInOrNone_X3_isIn : GoodIn wsX3_isInOrNone wsX3_isIn := goodIn_r _ [5, 6, 7, 8, 9, 4, 10, 11, 12, 13, 14, 15, 16, 17, 18, 19, 20, 21, 22, 23, 24, 25, 26, 27, 28, 29, 30, 31, 32] (by decide +kernel) (by decide +kernel)
set_option maxRecDepth 20000 in
theorem gX3_isInOrNone_X3_isIn : GoodIn wsX3_isInOrNone (wsV RX3 68 RX3 yX3_isIn wsX3_isIn) := goodIn_app (goodIn_of _ (by decide +kernel)) ggX3_isInOrNone_X3_isIn
theorem dX3_isInOrNone_0 : decode cX3_isInOrNone 0 = .ok (.iload_n 2, 1) := by decide +kernel
theorem dX3_isInOrNone_1 : decode cX3_isInOrNone 1 = .ok (.iconst (-1), 1) := by decide +kernel
theorem dX3_isInOrNone_2 : decode cX3_isInOrNone 2 = .ok (.if_icmp .eq 12, 3) := by decide +kernel
theorem dX3_isInOrNone_5 : decode cX3_isInOrNone 5 = .ok (.aload_n 0, 1) := by decide +kernel
theorem dX3_isInOrNone_6 : decode cX3_isInOrNone 6 = .ok (.iload_n 1, 1) := by decide +kernel
theorem dX3_isInOrNone_7 : decode cX3_isInOrNone 7 = .ok (.iload_n 2, 1) := by decide +kernel
theorem dX3_isInOrNone_8 : decode cX3_isInOrNone 8 = .ok (.invokevirtual 68, 3) := by decide +kernel
theorem dX3_isInOrNone_11 : decode cX3_isInOrNone 11 = .ok (.ifCond .eq 7, 3) := by decide +kernel
theorem dX3_isInOrNone_14 : decode cX3_isInOrNone 14 = .ok (.iconst 1, 1) := by decide +kernel
theorem dX3_isInOrNone_15 : decode cX3_isInOrNone 15 = .ok (.goto 4, 3) := by decide +kernel
theorem dX3_isInOrNone_18 : decode cX3_isInOrNone 18 = .ok (.iconst 0, 1) := by decide +kernel
theorem dX3_isInOrNone_19 : decode cX3_isInOrNone 19 = .ok (.ireturn, 1) := by decide +kernel
set_option maxRecDepth 20000 in
theorem ggX3_isCommitOrNone_X3_isCommit : GoodIn wsX3_isCommitOrNone wsX3_isCommit := goodIn_r _ [5, 6, 7, 8, 4, 9, 10, 11, 12, 13, 14, 15, 16, 17, 18, 19, 20, 21, 22, 23, 24, 25, 26, 27] (by decide +kernel) (by decide +kernel)
set_option maxRecDepth 20000 in
theorem gX3_isCommitOrNone_X3_isCommit : GoodIn wsX3_isCommitOrNone (wsV RX3 64 RX3 yX3_isCommit wsX3_isCommit) := goodIn_app (goodIn_of _ (by decide +kernel)) ggX3_isCommitOrNone_X3_isCommit
theorem dX3_isCommitOrNone_0 : decode cX3_isCommitOrNone 0 = .ok (.iload_n 1, 1) := by decide +kernel
theorem dX3_isCommitOrNone_1 : decode cX3_isCommitOrNone 1 = .ok (.iconst (-1), 1) := by decide +kernel
theorem dX3_isCommitOrNone_2 : decode cX3_isCommitOrNone 2 = .ok (.if_icmp .eq 11, 3) := by decide +kernel
theorem dX3_isCommitOrNone_5 : decode cX3_isCommitOrNone 5 = .ok (.aload_n 0, 1) := by decide +kernel
theorem dX3_isCommitOrNone_6 : decode cX3_isCommitOrNone 6 = .ok (.iload_n 1, 1) := by decide +kernel
theorem dX3_isCommitOrNone_7 : decode cX3_isCommitOrNone 7 = .ok (.invokevirtual 64, 3) := by decide +kernel
theorem dX3_isCommitOrNone_10 : decode cX3_isCommitOrNone 10 = .ok (.ifCond .eq 7, 3) := by decide +kernel
theorem dX3_isCommitOrNone_13 : decode cX3_isCommitOrNone 13 = .ok (.iconst 1, 1) := by decide +kernel
theorem dX3_isCommitOrNone_14 : decode cX3_isCommitOrNone 14 = .ok (.goto 4, 3) := by decide +kernel
theorem dX3_isCommitOrNone_17 : decode cX3_isCommitOrNone 17 = .ok (.iconst 0, 1) := by decide +kernel
theorem dX3_isCommitOrNone_18 : decode cX3_isCommitOrNone 18 = .ok (.ireturn, 1) := by decide +kernel
set_option maxRecDepth 20000 in
theorem ggX3_make_X3_isStore : GoodIn wsX3_make wsX3_isStore := goodIn_r _ [10, 11, 12, 9, 13] (by decide +kernel) (by decide +kernel)
set_option maxRecDepth 20000 in
theorem gX3_make_X3_isStore : GoodIn wsX3_make (va_wsS RX3 72 yX3_isStore wsX3_isStore) := goodIn_app (goodIn_of _ (by decide +kernel)) ggX3_make_X3_isStore
set_option maxRecDepth 20000 in
theorem ggX3_make_X3_in : GoodIn wsX3_make wsX3_in := goodIn_r _ [13] (by decide +kernel) (by decide +kernel)
set_option maxRecDepth 20000 in
theorem gX3_make_X3_in : GoodIn wsX3_make (va_wsS RX3 57 yX3_in wsX3_in) := goodIn_app (goodIn_of _ (by decide +kernel)) ggX3_make_X3_in
set_option maxRecDepth 20000 in
theorem ggX3_make_X3_isInOrNone : GoodIn wsX3_make wsX3_isInOrNone := goodIn_r _ [17, 18, 19, 20, 9, 21, 5, 22, 23, 24, 25, 1, 11, 12, 13, 31, 32, 33, 34, 35, 36, 37, 38, 39, 40, 41, 42, 43, 44, 45, 46, 47, 48] (by decide +kernel) (by decide +kernel)
set_option maxRecDepth 20000 in
theorem gX3_make_X3_isInOrNone : GoodIn wsX3_make (wsV RX3 75 RX3 yX3_isInOrNone wsX3_isInOrNone) := goodIn_app (goodIn_of _ (by decide +kernel)) ggX3_make_X3_isInOrNone
set_option maxRecDepth 20000 in
theorem ggX3_make_X3_refused : GoodIn wsX3_make wsX3_refused := goodIn_r _ [29, 30, 31, 32, 33, 34, 35, 36, 37, 38, 39, 40, 41, 42, 43, 44, 45, 46, 47, 48] (by decide +kernel) (by decide +kernel)
set_option maxRecDepth 20000 in
theorem gX3_make_X3_refused : GoodIn wsX3_make (wsV RX3 78 RX3 yX3_refused wsX3_refused) := goodIn_app (goodIn_of _ (by decide +kernel)) ggX3_make_X3_refused
theorem dX3_make_0 : decode cX3_make 0 = .ok (.iload_n 1, 1) := by decide +kernel
theorem dX3_make_1 : decode cX3_make 1 = .ok (.invokestatic 72, 3) := by decide +kernel
theorem dX3_make_4 : decode cX3_make 4 = .ok (.ifCond .eq 35, 3) := by decide +kernel
theorem dX3_make_7 : decode cX3_make 7 = .ok (.iload 4, 2) := by decide +kernel
theorem dX3_make_9 : decode cX3_make 9 = .ok (.iconst 0, 1) := by decide +kernel
theorem dX3_make_10 : decode cX3_make 10 = .ok (.iconst 3, 1) := by decide +kernel
theorem dX3_make_11 : decode cX3_make 11 = .ok (.invokestatic 57, 3) := by decide +kernel
theorem dX3_make_14 : decode cX3_make 14 = .ok (.ifCond .eq 25, 3) := by decide +kernel
theorem dX3_make_17 : decode cX3_make 17 = .ok (.aload_n 0, 1) := by decide +kernel
theorem dX3_make_18 : decode cX3_make 18 = .ok (.iload_n 1, 1) := by decide +kernel
theorem dX3_make_19 : decode cX3_make 19 = .ok (.iload_n 2, 1) := by decide +kernel
theorem dX3_make_20 : decode cX3_make 20 = .ok (.invokevirtual 75, 3) := by decide +kernel
theorem dX3_make_23 : decode cX3_make 23 = .ok (.ifCond .eq 16, 3) := by decide +kernel
theorem dX3_make_26 : decode cX3_make 26 = .ok (.aload_n 0, 1) := by decide +kernel
theorem dX3_make_27 : decode cX3_make 27 = .ok (.iload_n 1, 1) := by decide +kernel
theorem dX3_make_28 : decode cX3_make 28 = .ok (.iload_n 3, 1) := by decide +kernel
theorem dX3_make_29 : decode cX3_make 29 = .ok (.invokevirtual 75, 3) := by decide +kernel
theorem dX3_make_32 : decode cX3_make 32 = .ok (.ifCond .eq 7, 3) := by decide +kernel
theorem dX3_make_35 : decode cX3_make 35 = .ok (.iconst 1, 1) := by decide +kernel
theorem dX3_make_36 : decode cX3_make 36 = .ok (.goto 4, 3) := by decide +kernel
theorem dX3_make_39 : decode cX3_make 39 = .ok (.iconst 0, 1) := by decide +kernel
theorem dX3_make_40 : decode cX3_make 40 = .ok (.istore 6, 2) := by decide +kernel
theorem dX3_make_42 : decode cX3_make 42 = .ok (.iload 5, 2) := by decide +kernel
theorem dX3_make_44 : decode cX3_make 44 = .ok (.iconst (-1), 1) := by decide +kernel
theorem dX3_make_45 : decode cX3_make 45 = .ok (.bipush 99, 2) := by decide +kernel
theorem dX3_make_47 : decode cX3_make 47 = .ok (.invokestatic 57, 3) := by decide +kernel
theorem dX3_make_50 : decode cX3_make 50 = .ok (.ifCond .eq 22, 3) := by decide +kernel
theorem dX3_make_53 : decode cX3_make 53 = .ok (.iload_n 3, 1) := by decide +kernel
theorem dX3_make_54 : decode cX3_make 54 = .ok (.iconst (-1), 1) := by decide +kernel
theorem dX3_make_55 : decode cX3_make 55 = .ok (.if_icmp .eq 13, 3) := by decide +kernel
theorem dX3_make_58 : decode cX3_make 58 = .ok (.iload_n 2, 1) := by decide +kernel
theorem dX3_make_59 : decode cX3_make 59 = .ok (.iconst (-1), 1) := by decide +kernel
theorem dX3_make_60 : decode cX3_make 60 = .ok (.if_icmp .eq 12, 3) := by decide +kernel
theorem dX3_make_63 : decode cX3_make 63 = .ok (.iload_n 2, 1) := by decide +kernel
theorem dX3_make_64 : decode cX3_make 64 = .ok (.iload_n 3, 1) := by decide +kernel
theorem dX3_make_65 : decode cX3_make 65 = .ok (.if_icmp .eq 7, 3) := by decide +kernel
theorem dX3_make_68 : decode cX3_make 68 = .ok (.iconst 1, 1) := by decide +kernel
theorem dX3_make_69 : decode cX3_make 69 = .ok (.goto 4, 3) := by decide +kernel
theorem dX3_make_72 : decode cX3_make 72 = .ok (.iconst 0, 1) := by decide +kernel
theorem dX3_make_73 : decode cX3_make 73 = .ok (.istore 7, 2) := by decide +kernel
theorem dX3_make_75 : decode cX3_make 75 = .ok (.aload_n 0, 1) := by decide +kernel
theorem dX3_make_76 : decode cX3_make 76 = .ok (.iload 6, 2) := by decide +kernel
theorem dX3_make_78 : decode cX3_make 78 = .ok (.ifCond .ne 7, 3) := by decide +kernel
theorem dX3_make_81 : decode cX3_make 81 = .ok (.iconst 1, 1) := by decide +kernel
theorem dX3_make_82 : decode cX3_make 82 = .ok (.goto 26, 3) := by decide +kernel
theorem dX3_make_85 : decode cX3_make 85 = .ok (.iload 7, 2) := by decide +kernel
theorem dX3_make_87 : decode cX3_make 87 = .ok (.ifCond .ne 7, 3) := by decide +kernel
theorem dX3_make_90 : decode cX3_make 90 = .ok (.iconst 2, 1) := by decide +kernel
theorem dX3_make_91 : decode cX3_make 91 = .ok (.goto 17, 3) := by decide +kernel
theorem dX3_make_94 : decode cX3_make 94 = .ok (.aload_n 0, 1) := by decide +kernel
theorem dX3_make_95 : decode cX3_make 95 = .ok (.getfield 61, 3) := by decide +kernel
theorem dX3_make_98 : decode cX3_make 98 = .ok (.bipush 60, 2) := by decide +kernel
theorem dX3_make_100 : decode cX3_make 100 = .ok (.if_icmp .ne 7, 3) := by decide +kernel
theorem dX3_make_103 : decode cX3_make 103 = .ok (.iconst 3, 1) := by decide +kernel
theorem dX3_make_104 : decode cX3_make 104 = .ok (.goto 4, 3) := by decide +kernel
theorem dX3_make_107 : decode cX3_make 107 = .ok (.iconst 0, 1) := by decide +kernel
theorem dX3_make_108 : decode cX3_make 108 = .ok (.invokevirtual 78, 3) := by decide +kernel
theorem dX3_make_111 : decode cX3_make 111 = .ok (.ifCond .eq 5, 3) := by decide +kernel
theorem dX3_make_114 : decode cX3_make 114 = .ok (.iconst 0, 1) := by decide +kernel
theorem dX3_make_115 : decode cX3_make 115 = .ok (.ireturn, 1) := by decide +kernel
theorem dX3_make_116 : decode cX3_make 116 = .ok (.aload_n 0, 1) := by decide +kernel
theorem dX3_make_117 : decode cX3_make 117 = .ok (.getfield 7, 3) := by decide +kernel
theorem dX3_make_120 : decode cX3_make 120 = .ok (.aload_n 0, 1) := by decide +kernel
theorem dX3_make_121 : decode cX3_make 121 = .ok (.getfield 61, 3) := by decide +kernel
theorem dX3_make_124 : decode cX3_make 124 = .ok (.iload_n 2, 1) := by decide +kernel
theorem dX3_make_125 : decode cX3_make 125 = .ok (.iastore, 1) := by decide +kernel
theorem dX3_make_126 : decode cX3_make 126 = .ok (.aload_n 0, 1) := by decide +kernel
theorem dX3_make_127 : decode cX3_make 127 = .ok (.getfield 13, 3) := by decide +kernel
theorem dX3_make_130 : decode cX3_make 130 = .ok (.aload_n 0, 1) := by decide +kernel
theorem dX3_make_131 : decode cX3_make 131 = .ok (.getfield 61, 3) := by decide +kernel
theorem dX3_make_134 : decode cX3_make 134 = .ok (.iload_n 3, 1) := by decide +kernel
theorem dX3_make_135 : decode cX3_make 135 = .ok (.iastore, 1) := by decide +kernel
theorem dX3_make_136 : decode cX3_make 136 = .ok (.iconst 0, 1) := by decide +kernel
theorem dX3_make_137 : decode cX3_make 137 = .ok (.istore 8, 2) := by decide +kernel
theorem dX3_make_139 : decode cX3_make 139 = .ok (.iload 8, 2) := by decide +kernel
theorem dX3_make_141 : decode cX3_make 141 = .ok (.iconst 4, 1) := by decide +kernel
theorem dX3_make_142 : decode cX3_make 142 = .ok (.if_icmp .ge 55, 3) := by decide +kernel
theorem dX3_make_145 : decode cX3_make 145 = .ok (.aload_n 0, 1) := by decide +kernel
theorem dX3_make_146 : decode cX3_make 146 = .ok (.getfield 16, 3) := by decide +kernel
theorem dX3_make_149 : decode cX3_make 149 = .ok (.iconst 4, 1) := by decide +kernel
theorem dX3_make_150 : decode cX3_make 150 = .ok (.aload_n 0, 1) := by decide +kernel
theorem dX3_make_151 : decode cX3_make 151 = .ok (.getfield 61, 3) := by decide +kernel
theorem dX3_make_154 : decode cX3_make 154 = .ok (.imul, 1) := by decide +kernel
theorem dX3_make_155 : decode cX3_make 155 = .ok (.iload 8, 2) := by decide +kernel
theorem dX3_make_157 : decode cX3_make 157 = .ok (.iadd, 1) := by decide +kernel
theorem dX3_make_158 : decode cX3_make 158 = .ok (.iload 8, 2) := by decide +kernel
theorem dX3_make_160 : decode cX3_make 160 = .ok (.iload 4, 2) := by decide +kernel
theorem dX3_make_162 : decode cX3_make 162 = .ok (.if_icmp .ne 8, 3) := by decide +kernel
theorem dX3_make_165 : decode cX3_make 165 = .ok (.iload 5, 2) := by decide +kernel
theorem dX3_make_167 : decode cX3_make 167 = .ok (.goto 23, 3) := by decide +kernel
theorem dX3_make_170 : decode cX3_make 170 = .ok (.iload_n 2, 1) := by decide +kernel
theorem dX3_make_171 : decode cX3_make 171 = .ok (.iconst (-1), 1) := by decide +kernel
theorem dX3_make_172 : decode cX3_make 172 = .ok (.if_icmp .ne 7, 3) := by decide +kernel
theorem dX3_make_175 : decode cX3_make 175 = .ok (.iconst (-1), 1) := by decide +kernel
theorem dX3_make_176 : decode cX3_make 176 = .ok (.goto 14, 3) := by decide +kernel
theorem dX3_make_179 : decode cX3_make 179 = .ok (.aload_n 0, 1) := by decide +kernel
theorem dX3_make_180 : decode cX3_make 180 = .ok (.getfield 16, 3) := by decide +kernel
theorem dX3_make_183 : decode cX3_make 183 = .ok (.iconst 4, 1) := by decide +kernel
theorem dX3_make_184 : decode cX3_make 184 = .ok (.iload_n 2, 1) := by decide +kernel
theorem dX3_make_185 : decode cX3_make 185 = .ok (.imul, 1) := by decide +kernel
theorem dX3_make_186 : decode cX3_make 186 = .ok (.iload 8, 2) := by decide +kernel
theorem dX3_make_188 : decode cX3_make 188 = .ok (.iadd, 1) := by decide +kernel
theorem dX3_make_189 : decode cX3_make 189 = .ok (.iaload, 1) := by decide +kernel
theorem dX3_make_190 : decode cX3_make 190 = .ok (.iastore, 1) := by decide +kernel
theorem dX3_make_191 : decode cX3_make 191 = .ok (.iinc 8 1, 3) := by decide +kernel
theorem dX3_make_194 : decode cX3_make 194 = .ok (.goto (-55), 3) := by decide +kernel
theorem dX3_make_197 : decode cX3_make 197 = .ok (.aload_n 0, 1) := by decide +kernel
theorem dX3_make_198 : decode cX3_make 198 = .ok (.getfield 19, 3) := by decide +kernel
theorem dX3_make_201 : decode cX3_make 201 = .ok (.bipush 60, 2) := by decide +kernel
theorem dX3_make_203 : decode cX3_make 203 = .ok (.iload_n 1, 1) := by decide +kernel
theorem dX3_make_204 : decode cX3_make 204 = .ok (.imul, 1) := by decide +kernel
theorem dX3_make_205 : decode cX3_make 205 = .ok (.aload_n 0, 1) := by decide +kernel
theorem dX3_make_206 : decode cX3_make 206 = .ok (.getfield 61, 3) := by decide +kernel
theorem dX3_make_209 : decode cX3_make 209 = .ok (.iadd, 1) := by decide +kernel
theorem dX3_make_210 : decode cX3_make 210 = .ok (.iconst 1, 1) := by decide +kernel
theorem dX3_make_211 : decode cX3_make 211 = .ok (.bastore, 1) := by decide +kernel
theorem dX3_make_212 : decode cX3_make 212 = .ok (.iload 5, 2) := by decide +kernel
theorem dX3_make_214 : decode cX3_make 214 = .ok (.iconst (-1), 1) := by decide +kernel
theorem dX3_make_215 : decode cX3_make 215 = .ok (.if_icmp .eq 16, 3) := by decide +kernel
theorem dX3_make_218 : decode cX3_make 218 = .ok (.aload_n 0, 1) := by decide +kernel
theorem dX3_make_219 : decode cX3_make 219 = .ok (.getfield 23, 3) := by decide +kernel
theorem dX3_make_222 : decode cX3_make 222 = .ok (.bipush 100, 2) := by decide +kernel
theorem dX3_make_224 : decode cX3_make 224 = .ok (.iload_n 1, 1) := by decide +kernel
theorem dX3_make_225 : decode cX3_make 225 = .ok (.imul, 1) := by decide +kernel
theorem dX3_make_226 : decode cX3_make 226 = .ok (.iload 5, 2) := by decide +kernel
theorem dX3_make_228 : decode cX3_make 228 = .ok (.iadd, 1) := by decide +kernel
theorem dX3_make_229 : decode cX3_make 229 = .ok (.iconst 1, 1) := by decide +kernel
theorem dX3_make_230 : decode cX3_make 230 = .ok (.bastore, 1) := by decide +kernel
theorem dX3_make_231 : decode cX3_make 231 = .ok (.aload_n 0, 1) := by decide +kernel
theorem dX3_make_232 : decode cX3_make 232 = .ok (.dup, 1) := by decide +kernel
theorem dX3_make_233 : decode cX3_make 233 = .ok (.getfield 61, 3) := by decide +kernel
theorem dX3_make_236 : decode cX3_make 236 = .ok (.iconst 1, 1) := by decide +kernel
theorem dX3_make_237 : decode cX3_make 237 = .ok (.iadd, 1) := by decide +kernel
theorem dX3_make_238 : decode cX3_make 238 = .ok (.putfield 61, 3) := by decide +kernel
theorem dX3_make_241 : decode cX3_make 241 = .ok (.aload_n 0, 1) := by decide +kernel
theorem dX3_make_242 : decode cX3_make 242 = .ok (.getfield 61, 3) := by decide +kernel
theorem dX3_make_245 : decode cX3_make 245 = .ok (.iconst 1, 1) := by decide +kernel
theorem dX3_make_246 : decode cX3_make 246 = .ok (.isub, 1) := by decide +kernel
theorem dX3_make_247 : decode cX3_make 247 = .ok (.ireturn, 1) := by decide +kernel
set_option maxRecDepth 20000 in
theorem ggX3_setRef_X3_isStore : GoodIn wsX3_setRef wsX3_isStore := goodIn_r _ [5, 6, 7, 4, 8] (by decide +kernel) (by decide +kernel)
set_option maxRecDepth 20000 in
theorem gX3_setRef_X3_isStore : GoodIn wsX3_setRef (va_wsS RX3 72 yX3_isStore wsX3_isStore) := goodIn_app (goodIn_of _ (by decide +kernel)) ggX3_setRef_X3_isStore
set_option maxRecDepth 20000 in
theorem ggX3_setRef_X3_isRef : GoodIn wsX3_setRef wsX3_isRef := goodIn_r _ [11, 6, 7, 4, 8] (by decide +kernel) (by decide +kernel)
set_option maxRecDepth 20000 in
theorem gX3_setRef_X3_isRef : GoodIn wsX3_setRef (va_wsS RX3 81 yX3_isRef wsX3_isRef) := goodIn_app (goodIn_of _ (by decide +kernel)) ggX3_setRef_X3_isRef
set_option maxRecDepth 20000 in
theorem ggX3_setRef_X3_isInOrNone : GoodIn wsX3_setRef wsX3_isInOrNone := goodIn_r _ [15, 16, 17, 18, 4, 19, 20, 21, 22, 23, 24, 25, 6, 7, 8, 31, 32, 33, 34, 35, 36, 37, 38, 39, 40, 41, 42, 43, 44, 45, 46, 47, 48] (by decide +kernel) (by decide +kernel)
set_option maxRecDepth 20000 in
theorem gX3_setRef_X3_isInOrNone : GoodIn wsX3_setRef (wsV RX3 75 RX3 yX3_isInOrNone wsX3_isInOrNone) := goodIn_app (goodIn_of _ (by decide +kernel)) ggX3_setRef_X3_isInOrNone
set_option maxRecDepth 20000 in
theorem ggX3_setRef_X3_refused : GoodIn wsX3_setRef wsX3_refused := goodIn_r _ [29, 30, 31, 32, 33, 34, 35, 36, 37, 38, 39, 40, 41, 42, 43, 44, 45, 46, 47, 48] (by decide +kernel) (by decide +kernel)
set_option maxRecDepth 20000 in
theorem gX3_setRef_X3_refused : GoodIn wsX3_setRef (wsV RX3 78 RX3 yX3_refused wsX3_refused) := goodIn_app (goodIn_of _ (by decide +kernel)) ggX3_setRef_X3_refused
theorem dX3_setRef_0 : decode cX3_setRef 0 = .ok (.iload_n 1, 1) := by decide +kernel
theorem dX3_setRef_1 : decode cX3_setRef 1 = .ok (.invokestatic 72, 3) := by decide +kernel
theorem dX3_setRef_4 : decode cX3_setRef 4 = .ok (.ifCond .eq 23, 3) := by decide +kernel
theorem dX3_setRef_7 : decode cX3_setRef 7 = .ok (.iload_n 2, 1) := by decide +kernel
theorem dX3_setRef_8 : decode cX3_setRef 8 = .ok (.invokestatic 81, 3) := by decide +kernel
theorem dX3_setRef_11 : decode cX3_setRef 11 = .ok (.ifCond .eq 16, 3) := by decide +kernel
theorem dX3_setRef_14 : decode cX3_setRef 14 = .ok (.aload_n 0, 1) := by decide +kernel
theorem dX3_setRef_15 : decode cX3_setRef 15 = .ok (.iload_n 1, 1) := by decide +kernel
theorem dX3_setRef_16 : decode cX3_setRef 16 = .ok (.iload_n 3, 1) := by decide +kernel
theorem dX3_setRef_17 : decode cX3_setRef 17 = .ok (.invokevirtual 75, 3) := by decide +kernel
theorem dX3_setRef_20 : decode cX3_setRef 20 = .ok (.ifCond .eq 7, 3) := by decide +kernel
theorem dX3_setRef_23 : decode cX3_setRef 23 = .ok (.iconst 1, 1) := by decide +kernel
theorem dX3_setRef_24 : decode cX3_setRef 24 = .ok (.goto 4, 3) := by decide +kernel
theorem dX3_setRef_27 : decode cX3_setRef 27 = .ok (.iconst 0, 1) := by decide +kernel
theorem dX3_setRef_28 : decode cX3_setRef 28 = .ok (.istore 4, 2) := by decide +kernel
theorem dX3_setRef_30 : decode cX3_setRef 30 = .ok (.aload_n 0, 1) := by decide +kernel
theorem dX3_setRef_31 : decode cX3_setRef 31 = .ok (.iload 4, 2) := by decide +kernel
theorem dX3_setRef_33 : decode cX3_setRef 33 = .ok (.ifCond .eq 7, 3) := by decide +kernel
theorem dX3_setRef_36 : decode cX3_setRef 36 = .ok (.iconst 0, 1) := by decide +kernel
theorem dX3_setRef_37 : decode cX3_setRef 37 = .ok (.goto 4, 3) := by decide +kernel
theorem dX3_setRef_40 : decode cX3_setRef 40 = .ok (.iconst 1, 1) := by decide +kernel
theorem dX3_setRef_41 : decode cX3_setRef 41 = .ok (.invokevirtual 78, 3) := by decide +kernel
theorem dX3_setRef_44 : decode cX3_setRef 44 = .ok (.ifCond .eq 5, 3) := by decide +kernel
theorem dX3_setRef_47 : decode cX3_setRef 47 = .ok (.iconst 0, 1) := by decide +kernel
theorem dX3_setRef_48 : decode cX3_setRef 48 = .ok (.ireturn, 1) := by decide +kernel
theorem dX3_setRef_49 : decode cX3_setRef 49 = .ok (.aload_n 0, 1) := by decide +kernel
theorem dX3_setRef_50 : decode cX3_setRef 50 = .ok (.getfield 26, 3) := by decide +kernel
theorem dX3_setRef_53 : decode cX3_setRef 53 = .ok (.iconst 4, 1) := by decide +kernel
theorem dX3_setRef_54 : decode cX3_setRef 54 = .ok (.iload_n 1, 1) := by decide +kernel
theorem dX3_setRef_55 : decode cX3_setRef 55 = .ok (.imul, 1) := by decide +kernel
theorem dX3_setRef_56 : decode cX3_setRef 56 = .ok (.iload_n 2, 1) := by decide +kernel
theorem dX3_setRef_57 : decode cX3_setRef 57 = .ok (.iadd, 1) := by decide +kernel
theorem dX3_setRef_58 : decode cX3_setRef 58 = .ok (.iaload, 1) := by decide +kernel
theorem dX3_setRef_59 : decode cX3_setRef 59 = .ok (.istore 5, 2) := by decide +kernel
theorem dX3_setRef_61 : decode cX3_setRef 61 = .ok (.aload_n 0, 1) := by decide +kernel
theorem dX3_setRef_62 : decode cX3_setRef 62 = .ok (.getfield 26, 3) := by decide +kernel
theorem dX3_setRef_65 : decode cX3_setRef 65 = .ok (.iconst 4, 1) := by decide +kernel
theorem dX3_setRef_66 : decode cX3_setRef 66 = .ok (.iload_n 1, 1) := by decide +kernel
theorem dX3_setRef_67 : decode cX3_setRef 67 = .ok (.imul, 1) := by decide +kernel
theorem dX3_setRef_68 : decode cX3_setRef 68 = .ok (.iload_n 2, 1) := by decide +kernel
theorem dX3_setRef_69 : decode cX3_setRef 69 = .ok (.iadd, 1) := by decide +kernel
theorem dX3_setRef_70 : decode cX3_setRef 70 = .ok (.iload_n 3, 1) := by decide +kernel
theorem dX3_setRef_71 : decode cX3_setRef 71 = .ok (.iastore, 1) := by decide +kernel
theorem dX3_setRef_72 : decode cX3_setRef 72 = .ok (.iload 5, 2) := by decide +kernel
theorem dX3_setRef_74 : decode cX3_setRef 74 = .ok (.ireturn, 1) := by decide +kernel
set_option maxRecDepth 20000 in
theorem ggX3_ref_X3_isStore : GoodIn wsX3_ref wsX3_isStore := goodIn_r _ [5, 6, 7, 4, 8] (by decide +kernel) (by decide +kernel)
set_option maxRecDepth 20000 in
theorem gX3_ref_X3_isStore : GoodIn wsX3_ref (va_wsS RX3 72 yX3_isStore wsX3_isStore) := goodIn_app (goodIn_of _ (by decide +kernel)) ggX3_ref_X3_isStore
set_option maxRecDepth 20000 in
theorem ggX3_ref_X3_isRef : GoodIn wsX3_ref wsX3_isRef := goodIn_r _ [11, 6, 7, 4, 8] (by decide +kernel) (by decide +kernel)
set_option maxRecDepth 20000 in
theorem gX3_ref_X3_isRef : GoodIn wsX3_ref (va_wsS RX3 81 yX3_isRef wsX3_isRef) := goodIn_app (goodIn_of _ (by decide +kernel)) ggX3_ref_X3_isRef
set_option maxRecDepth 20000 in
theorem ggX3_ref_X3_refused : GoodIn wsX3_ref wsX3_refused := goodIn_r _ [15, 16, 17, 18, 19, 20, 21, 22, 23, 24, 25, 26, 27, 28, 29, 30, 31, 32, 33, 34] (by decide +kernel) (by decide +kernel)
set_option maxRecDepth 20000 in
theorem gX3_ref_X3_refused : GoodIn wsX3_ref (wsV RX3 78 RX3 yX3_refused wsX3_refused) := goodIn_app (goodIn_of _ (by decide +kernel)) ggX3_ref_X3_refused
theorem dX3_ref_0 : decode cX3_ref 0 = .ok (.aload_n 0, 1) := by decide +kernel
theorem dX3_ref_1 : decode cX3_ref 1 = .ok (.iload_n 1, 1) := by decide +kernel
theorem dX3_ref_2 : decode cX3_ref 2 = .ok (.invokestatic 72, 3) := by decide +kernel
theorem dX3_ref_5 : decode cX3_ref 5 = .ok (.ifCond .eq 14, 3) := by decide +kernel
theorem dX3_ref_8 : decode cX3_ref 8 = .ok (.iload_n 2, 1) := by decide +kernel
theorem dX3_ref_9 : decode cX3_ref 9 = .ok (.invokestatic 81, 3) := by decide +kernel
theorem dX3_ref_12 : decode cX3_ref 12 = .ok (.ifCond .eq 7, 3) := by decide +kernel
theorem dX3_ref_15 : decode cX3_ref 15 = .ok (.iconst 0, 1) := by decide +kernel
theorem dX3_ref_16 : decode cX3_ref 16 = .ok (.goto 4, 3) := by decide +kernel
theorem dX3_ref_19 : decode cX3_ref 19 = .ok (.iconst 1, 1) := by decide +kernel
theorem dX3_ref_20 : decode cX3_ref 20 = .ok (.invokevirtual 78, 3) := by decide +kernel
theorem dX3_ref_23 : decode cX3_ref 23 = .ok (.ifCond .eq 7, 3) := by decide +kernel
theorem dX3_ref_26 : decode cX3_ref 26 = .ok (.iconst 0, 1) := by decide +kernel
theorem dX3_ref_27 : decode cX3_ref 27 = .ok (.goto 13, 3) := by decide +kernel
theorem dX3_ref_30 : decode cX3_ref 30 = .ok (.aload_n 0, 1) := by decide +kernel
theorem dX3_ref_31 : decode cX3_ref 31 = .ok (.getfield 26, 3) := by decide +kernel
theorem dX3_ref_34 : decode cX3_ref 34 = .ok (.iconst 4, 1) := by decide +kernel
theorem dX3_ref_35 : decode cX3_ref 35 = .ok (.iload_n 1, 1) := by decide +kernel
theorem dX3_ref_36 : decode cX3_ref 36 = .ok (.imul, 1) := by decide +kernel
theorem dX3_ref_37 : decode cX3_ref 37 = .ok (.iload_n 2, 1) := by decide +kernel
theorem dX3_ref_38 : decode cX3_ref 38 = .ok (.iadd, 1) := by decide +kernel
theorem dX3_ref_39 : decode cX3_ref 39 = .ok (.iaload, 1) := by decide +kernel
theorem dX3_ref_40 : decode cX3_ref 40 = .ok (.ireturn, 1) := by decide +kernel
set_option maxRecDepth 20000 in
theorem ggX3_fileAt_X3_isCommit : GoodIn wsX3_fileAt wsX3_isCommit := goodIn_r _ [6, 7, 8, 9, 5, 10, 16, 17, 18, 19, 20, 21, 22, 23, 24, 25, 26, 27, 28, 29, 30, 31, 32, 33] (by decide +kernel) (by decide +kernel)
set_option maxRecDepth 20000 in
theorem gX3_fileAt_X3_isCommit : GoodIn wsX3_fileAt (wsV RX3 64 RX3 yX3_isCommit wsX3_isCommit) := goodIn_app (goodIn_of _ (by decide +kernel)) ggX3_fileAt_X3_isCommit
set_option maxRecDepth 20000 in
theorem ggX3_fileAt_X3_in : GoodIn wsX3_fileAt wsX3_in := goodIn_r _ [10] (by decide +kernel) (by decide +kernel)
set_option maxRecDepth 20000 in
theorem gX3_fileAt_X3_in : GoodIn wsX3_fileAt (va_wsS RX3 57 yX3_in wsX3_in) := goodIn_app (goodIn_of _ (by decide +kernel)) ggX3_fileAt_X3_in
set_option maxRecDepth 20000 in
theorem ggX3_fileAt_X3_refused : GoodIn wsX3_fileAt wsX3_refused := goodIn_r _ [14, 15, 16, 17, 18, 19, 20, 21, 22, 23, 24, 25, 26, 27, 28, 29, 30, 31, 32, 33] (by decide +kernel) (by decide +kernel)
set_option maxRecDepth 20000 in
theorem gX3_fileAt_X3_refused : GoodIn wsX3_fileAt (wsV RX3 78 RX3 yX3_refused wsX3_refused) := goodIn_app (goodIn_of _ (by decide +kernel)) ggX3_fileAt_X3_refused
theorem dX3_fileAt_0 : decode cX3_fileAt 0 = .ok (.aload_n 0, 1) := by decide +kernel
theorem dX3_fileAt_1 : decode cX3_fileAt 1 = .ok (.aload_n 0, 1) := by decide +kernel
theorem dX3_fileAt_2 : decode cX3_fileAt 2 = .ok (.iload_n 1, 1) := by decide +kernel
theorem dX3_fileAt_3 : decode cX3_fileAt 3 = .ok (.invokevirtual 64, 3) := by decide +kernel
theorem dX3_fileAt_6 : decode cX3_fileAt 6 = .ok (.ifCond .eq 16, 3) := by decide +kernel
theorem dX3_fileAt_9 : decode cX3_fileAt 9 = .ok (.iload_n 2, 1) := by decide +kernel
theorem dX3_fileAt_10 : decode cX3_fileAt 10 = .ok (.iconst 0, 1) := by decide +kernel
theorem dX3_fileAt_11 : decode cX3_fileAt 11 = .ok (.iconst 3, 1) := by decide +kernel
theorem dX3_fileAt_12 : decode cX3_fileAt 12 = .ok (.invokestatic 57, 3) := by decide +kernel
theorem dX3_fileAt_15 : decode cX3_fileAt 15 = .ok (.ifCond .eq 7, 3) := by decide +kernel
theorem dX3_fileAt_18 : decode cX3_fileAt 18 = .ok (.iconst 0, 1) := by decide +kernel
theorem dX3_fileAt_19 : decode cX3_fileAt 19 = .ok (.goto 4, 3) := by decide +kernel
theorem dX3_fileAt_22 : decode cX3_fileAt 22 = .ok (.iconst 1, 1) := by decide +kernel
theorem dX3_fileAt_23 : decode cX3_fileAt 23 = .ok (.invokevirtual 78, 3) := by decide +kernel
theorem dX3_fileAt_26 : decode cX3_fileAt 26 = .ok (.ifCond .eq 7, 3) := by decide +kernel
theorem dX3_fileAt_29 : decode cX3_fileAt 29 = .ok (.iconst 0, 1) := by decide +kernel
theorem dX3_fileAt_30 : decode cX3_fileAt 30 = .ok (.goto 13, 3) := by decide +kernel
theorem dX3_fileAt_33 : decode cX3_fileAt 33 = .ok (.aload_n 0, 1) := by decide +kernel
theorem dX3_fileAt_34 : decode cX3_fileAt 34 = .ok (.getfield 16, 3) := by decide +kernel
theorem dX3_fileAt_37 : decode cX3_fileAt 37 = .ok (.iconst 4, 1) := by decide +kernel
theorem dX3_fileAt_38 : decode cX3_fileAt 38 = .ok (.iload_n 1, 1) := by decide +kernel
theorem dX3_fileAt_39 : decode cX3_fileAt 39 = .ok (.imul, 1) := by decide +kernel
theorem dX3_fileAt_40 : decode cX3_fileAt 40 = .ok (.iload_n 2, 1) := by decide +kernel
theorem dX3_fileAt_41 : decode cX3_fileAt 41 = .ok (.iadd, 1) := by decide +kernel
theorem dX3_fileAt_42 : decode cX3_fileAt 42 = .ok (.iaload, 1) := by decide +kernel
theorem dX3_fileAt_43 : decode cX3_fileAt 43 = .ok (.ireturn, 1) := by decide +kernel
set_option maxRecDepth 20000 in
theorem ggX3_lacksParent_X3_isIn : GoodIn wsX3_lacksParent wsX3_isIn := goodIn_r _ [7, 8, 9, 10, 11, 6, 12, 13, 14, 15, 16, 17, 18, 19, 20, 21, 22, 23, 24, 25, 26, 27, 28, 29, 30, 31, 32, 33, 34] (by decide +kernel) (by decide +kernel)
set_option maxRecDepth 20000 in
theorem gX3_lacksParent_X3_isIn : GoodIn wsX3_lacksParent (wsV RX3 68 RX3 yX3_isIn wsX3_isIn) := goodIn_app (goodIn_of _ (by decide +kernel)) ggX3_lacksParent_X3_isIn
theorem dX3_lacksParent_0 : decode cX3_lacksParent 0 = .ok (.aload_n 0, 1) := by decide +kernel
theorem dX3_lacksParent_1 : decode cX3_lacksParent 1 = .ok (.getfield 7, 3) := by decide +kernel
theorem dX3_lacksParent_4 : decode cX3_lacksParent 4 = .ok (.iload_n 2, 1) := by decide +kernel
theorem dX3_lacksParent_5 : decode cX3_lacksParent 5 = .ok (.iaload, 1) := by decide +kernel
theorem dX3_lacksParent_6 : decode cX3_lacksParent 6 = .ok (.iconst (-1), 1) := by decide +kernel
theorem dX3_lacksParent_7 : decode cX3_lacksParent 7 = .ok (.if_icmp .eq 17, 3) := by decide +kernel
theorem dX3_lacksParent_10 : decode cX3_lacksParent 10 = .ok (.aload_n 0, 1) := by decide +kernel
theorem dX3_lacksParent_11 : decode cX3_lacksParent 11 = .ok (.iload_n 1, 1) := by decide +kernel
theorem dX3_lacksParent_12 : decode cX3_lacksParent 12 = .ok (.aload_n 0, 1) := by decide +kernel
theorem dX3_lacksParent_13 : decode cX3_lacksParent 13 = .ok (.getfield 7, 3) := by decide +kernel
theorem dX3_lacksParent_16 : decode cX3_lacksParent 16 = .ok (.iload_n 2, 1) := by decide +kernel
theorem dX3_lacksParent_17 : decode cX3_lacksParent 17 = .ok (.iaload, 1) := by decide +kernel
theorem dX3_lacksParent_18 : decode cX3_lacksParent 18 = .ok (.invokevirtual 68, 3) := by decide +kernel
theorem dX3_lacksParent_21 : decode cX3_lacksParent 21 = .ok (.ifCond .eq 27, 3) := by decide +kernel
theorem dX3_lacksParent_24 : decode cX3_lacksParent 24 = .ok (.aload_n 0, 1) := by decide +kernel
theorem dX3_lacksParent_25 : decode cX3_lacksParent 25 = .ok (.getfield 13, 3) := by decide +kernel
theorem dX3_lacksParent_28 : decode cX3_lacksParent 28 = .ok (.iload_n 2, 1) := by decide +kernel
theorem dX3_lacksParent_29 : decode cX3_lacksParent 29 = .ok (.iaload, 1) := by decide +kernel
theorem dX3_lacksParent_30 : decode cX3_lacksParent 30 = .ok (.iconst (-1), 1) := by decide +kernel
end
section
theorem dX3_lacksParent_31 : decode cX3_lacksParent 31 = .ok (.if_icmp .eq 21, 3) := by decide +kernel
theorem dX3_lacksParent_34 : decode cX3_lacksParent 34 = .ok (.aload_n 0, 1) := by decide +kernel
theorem dX3_lacksParent_35 : decode cX3_lacksParent 35 = .ok (.iload_n 1, 1) := by decide +kernel
theorem dX3_lacksParent_36 : decode cX3_lacksParent 36 = .ok (.aload_n 0, 1) := by decide +kernel
theorem dX3_lacksParent_37 : decode cX3_lacksParent 37 = .ok (.getfield 13, 3) := by decide +kernel
theorem dX3_lacksParent_40 : decode cX3_lacksParent 40 = .ok (.iload_n 2, 1) := by decide +kernel
theorem dX3_lacksParent_41 : decode cX3_lacksParent 41 = .ok (.iaload, 1) := by decide +kernel
theorem dX3_lacksParent_42 : decode cX3_lacksParent 42 = .ok (.invokevirtual 68, 3) := by decide +kernel
theorem dX3_lacksParent_45 : decode cX3_lacksParent 45 = .ok (.ifCond .ne 7, 3) := by decide +kernel
theorem dX3_lacksParent_48 : decode cX3_lacksParent 48 = .ok (.iconst 1, 1) := by decide +kernel
theorem dX3_lacksParent_49 : decode cX3_lacksParent 49 = .ok (.goto 4, 3) := by decide +kernel
theorem dX3_lacksParent_52 : decode cX3_lacksParent 52 = .ok (.iconst 0, 1) := by decide +kernel
theorem dX3_lacksParent_53 : decode cX3_lacksParent 53 = .ok (.ireturn, 1) := by decide +kernel
set_option maxRecDepth 20000 in
theorem ggX3_shallow_X3_isIn : GoodIn wsX3_shallow wsX3_isIn := goodIn_r _ [5, 6, 7, 8, 9, 4, 10, 11, 12, 13, 14, 21, 22, 23, 24, 25, 26, 27, 28, 29, 30, 31, 32, 33, 34, 35, 36, 37, 38] (by decide +kernel) (by decide +kernel)
set_option maxRecDepth 20000 in
theorem gX3_shallow_X3_isIn : GoodIn wsX3_shallow (wsV RX3 68 RX3 yX3_isIn wsX3_isIn) := goodIn_app (goodIn_of _ (by decide +kernel)) ggX3_shallow_X3_isIn
set_option maxRecDepth 20000 in
theorem ggX3_shallow_X3_lacksParent : GoodIn wsX3_shallow wsX3_lacksParent := goodIn_r _ [18, 19, 20, 1, 2, 3, 4, 5, 6, 7, 8, 9, 10, 11, 12, 13, 14, 21, 22, 23, 24, 25, 26, 27, 28, 29, 30, 31, 32, 33, 34, 35, 36, 37, 38] (by decide +kernel) (by decide +kernel)
set_option maxRecDepth 20000 in
theorem gX3_shallow_X3_lacksParent : GoodIn wsX3_shallow (wsV RX3 84 RX3 yX3_lacksParent wsX3_lacksParent) := goodIn_app (goodIn_of _ (by decide +kernel)) ggX3_shallow_X3_lacksParent
theorem dX3_shallow_0 : decode cX3_shallow 0 = .ok (.aload_n 0, 1) := by decide +kernel
theorem dX3_shallow_1 : decode cX3_shallow 1 = .ok (.iconst 1, 1) := by decide +kernel
theorem dX3_shallow_2 : decode cX3_shallow 2 = .ok (.iload_n 1, 1) := by decide +kernel
theorem dX3_shallow_3 : decode cX3_shallow 3 = .ok (.invokevirtual 68, 3) := by decide +kernel
theorem dX3_shallow_6 : decode cX3_shallow 6 = .ok (.ifCond .eq 16, 3) := by decide +kernel
theorem dX3_shallow_9 : decode cX3_shallow 9 = .ok (.aload_n 0, 1) := by decide +kernel
theorem dX3_shallow_10 : decode cX3_shallow 10 = .ok (.iconst 1, 1) := by decide +kernel
theorem dX3_shallow_11 : decode cX3_shallow 11 = .ok (.iload_n 1, 1) := by decide +kernel
theorem dX3_shallow_12 : decode cX3_shallow 12 = .ok (.invokevirtual 84, 3) := by decide +kernel
theorem dX3_shallow_15 : decode cX3_shallow 15 = .ok (.ifCond .eq 7, 3) := by decide +kernel
theorem dX3_shallow_18 : decode cX3_shallow 18 = .ok (.iconst 1, 1) := by decide +kernel
theorem dX3_shallow_19 : decode cX3_shallow 19 = .ok (.goto 4, 3) := by decide +kernel
theorem dX3_shallow_22 : decode cX3_shallow 22 = .ok (.iconst 0, 1) := by decide +kernel
theorem dX3_shallow_23 : decode cX3_shallow 23 = .ok (.ireturn, 1) := by decide +kernel
set_option maxRecDepth 20000 in
theorem ggX3_markOn_X3_shallow : GoodIn wsX3_markOn wsX3_shallow := goodIn_r _ [9, 10, 11, 12, 8, 13, 14, 15, 16, 17, 18, 1, 19, 20, 21, 22, 23, 24, 25, 3, 4, 30, 31, 32, 33, 34, 35, 36, 37, 38, 39, 40, 41, 42, 43, 44, 45, 46, 47] (by decide +kernel) (by decide +kernel)
set_option maxRecDepth 20000 in
theorem gX3_markOn_X3_shallow : GoodIn wsX3_markOn (wsV RX3 87 RX3 yX3_shallow wsX3_shallow) := goodIn_app (goodIn_of _ (by decide +kernel)) ggX3_markOn_X3_shallow
set_option maxRecDepth 20000 in
theorem ggX3_markOn_X3_mark : GoodIn wsX3_markOn wsX3_mark := goodIn_r _ [29, 2, 10, 11, 12, 8, 13, 14, 15, 16, 17, 18, 1, 19, 20, 21, 30, 31, 32, 33, 34, 35, 36, 37, 38, 39, 40, 41, 42, 43, 44, 45, 46, 47] (by decide +kernel) (by decide +kernel)
set_option maxRecDepth 20000 in
theorem gX3_markOn_X3_mark : GoodIn wsX3_markOn (wsV RX3 90 RX3 yX3_mark wsX3_mark) := goodIn_app (goodIn_of _ (by decide +kernel)) ggX3_markOn_X3_mark
theorem dX3_markOn_0 : decode cX3_markOn 0 = .ok (.aload_n 0, 1) := by decide +kernel
theorem dX3_markOn_1 : decode cX3_markOn 1 = .ok (.getfield 61, 3) := by decide +kernel
theorem dX3_markOn_4 : decode cX3_markOn 4 = .ok (.iconst 1, 1) := by decide +kernel
theorem dX3_markOn_5 : decode cX3_markOn 5 = .ok (.isub, 1) := by decide +kernel
theorem dX3_markOn_6 : decode cX3_markOn 6 = .ok (.istore_n 2, 1) := by decide +kernel
theorem dX3_markOn_7 : decode cX3_markOn 7 = .ok (.iload_n 2, 1) := by decide +kernel
theorem dX3_markOn_8 : decode cX3_markOn 8 = .ok (.ifCond .lt 53, 3) := by decide +kernel
theorem dX3_markOn_11 : decode cX3_markOn 11 = .ok (.aload_n 0, 1) := by decide +kernel
theorem dX3_markOn_12 : decode cX3_markOn 12 = .ok (.getfield 41, 3) := by decide +kernel
theorem dX3_markOn_15 : decode cX3_markOn 15 = .ok (.iload_n 2, 1) := by decide +kernel
theorem dX3_markOn_16 : decode cX3_markOn 16 = .ok (.baload, 1) := by decide +kernel
theorem dX3_markOn_17 : decode cX3_markOn 17 = .ok (.ifCond .eq 38, 3) := by decide +kernel
theorem dX3_markOn_20 : decode cX3_markOn 20 = .ok (.iload_n 1, 1) := by decide +kernel
theorem dX3_markOn_21 : decode cX3_markOn 21 = .ok (.iconst 1, 1) := by decide +kernel
theorem dX3_markOn_22 : decode cX3_markOn 22 = .ok (.if_icmp .ne 11, 3) := by decide +kernel
theorem dX3_markOn_25 : decode cX3_markOn 25 = .ok (.aload_n 0, 1) := by decide +kernel
theorem dX3_markOn_26 : decode cX3_markOn 26 = .ok (.iload_n 2, 1) := by decide +kernel
theorem dX3_markOn_27 : decode cX3_markOn 27 = .ok (.invokevirtual 87, 3) := by decide +kernel
theorem dX3_markOn_30 : decode cX3_markOn 30 = .ok (.ifCond .ne 25, 3) := by decide +kernel
theorem dX3_markOn_33 : decode cX3_markOn 33 = .ok (.aload_n 0, 1) := by decide +kernel
theorem dX3_markOn_34 : decode cX3_markOn 34 = .ok (.iload_n 1, 1) := by decide +kernel
theorem dX3_markOn_35 : decode cX3_markOn 35 = .ok (.aload_n 0, 1) := by decide +kernel
theorem dX3_markOn_36 : decode cX3_markOn 36 = .ok (.getfield 7, 3) := by decide +kernel
theorem dX3_markOn_39 : decode cX3_markOn 39 = .ok (.iload_n 2, 1) := by decide +kernel
theorem dX3_markOn_40 : decode cX3_markOn 40 = .ok (.iaload, 1) := by decide +kernel
theorem dX3_markOn_41 : decode cX3_markOn 41 = .ok (.invokevirtual 90, 3) := by decide +kernel
theorem dX3_markOn_44 : decode cX3_markOn 44 = .ok (.aload_n 0, 1) := by decide +kernel
theorem dX3_markOn_45 : decode cX3_markOn 45 = .ok (.iload_n 1, 1) := by decide +kernel
theorem dX3_markOn_46 : decode cX3_markOn 46 = .ok (.aload_n 0, 1) := by decide +kernel
theorem dX3_markOn_47 : decode cX3_markOn 47 = .ok (.getfield 13, 3) := by decide +kernel
theorem dX3_markOn_50 : decode cX3_markOn 50 = .ok (.iload_n 2, 1) := by decide +kernel
theorem dX3_markOn_51 : decode cX3_markOn 51 = .ok (.iaload, 1) := by decide +kernel
theorem dX3_markOn_52 : decode cX3_markOn 52 = .ok (.invokevirtual 90, 3) := by decide +kernel
theorem dX3_markOn_55 : decode cX3_markOn 55 = .ok (.iinc 2 (-1), 3) := by decide +kernel
theorem dX3_markOn_58 : decode cX3_markOn 58 = .ok (.goto (-51), 3) := by decide +kernel
theorem dX3_markOn_61 : decode cX3_markOn 61 = .ok (.return_, 1) := by decide +kernel
set_option maxRecDepth 20000 in
theorem ggX3_mark_X3_isIn : GoodIn wsX3_mark wsX3_isIn := goodIn_r _ [6, 7, 8, 9, 10, 5, 11, 12, 13, 14, 15, 16, 17, 18, 19, 20, 21, 22, 23, 24, 25, 26, 27, 28, 29, 30, 31, 32, 33] (by decide +kernel) (by decide +kernel)
set_option maxRecDepth 20000 in
theorem gX3_mark_X3_isIn : GoodIn wsX3_mark (wsV RX3 68 RX3 yX3_isIn wsX3_isIn) := goodIn_app (goodIn_of _ (by decide +kernel)) ggX3_mark_X3_isIn
theorem dX3_mark_0 : decode cX3_mark 0 = .ok (.aload_n 0, 1) := by decide +kernel
theorem dX3_mark_1 : decode cX3_mark 1 = .ok (.iload_n 1, 1) := by decide +kernel
theorem dX3_mark_2 : decode cX3_mark 2 = .ok (.iload_n 2, 1) := by decide +kernel
theorem dX3_mark_3 : decode cX3_mark 3 = .ok (.invokevirtual 68, 3) := by decide +kernel
theorem dX3_mark_6 : decode cX3_mark 6 = .ok (.ifCond .eq 10, 3) := by decide +kernel
theorem dX3_mark_9 : decode cX3_mark 9 = .ok (.aload_n 0, 1) := by decide +kernel
theorem dX3_mark_10 : decode cX3_mark 10 = .ok (.getfield 41, 3) := by decide +kernel
theorem dX3_mark_13 : decode cX3_mark 13 = .ok (.iload_n 2, 1) := by decide +kernel
theorem dX3_mark_14 : decode cX3_mark 14 = .ok (.iconst 1, 1) := by decide +kernel
theorem dX3_mark_15 : decode cX3_mark 15 = .ok (.bastore, 1) := by decide +kernel
theorem dX3_mark_16 : decode cX3_mark 16 = .ok (.return_, 1) := by decide +kernel
theorem dX3_clear_0 : decode cX3_clear 0 = .ok (.iconst 0, 1) := by decide +kernel
theorem dX3_clear_1 : decode cX3_clear 1 = .ok (.istore_n 1, 1) := by decide +kernel
theorem dX3_clear_2 : decode cX3_clear 2 = .ok (.iload_n 1, 1) := by decide +kernel
theorem dX3_clear_3 : decode cX3_clear 3 = .ok (.bipush 60, 2) := by decide +kernel
theorem dX3_clear_5 : decode cX3_clear 5 = .ok (.if_icmp .ge 16, 3) := by decide +kernel
theorem dX3_clear_8 : decode cX3_clear 8 = .ok (.aload_n 0, 1) := by decide +kernel
theorem dX3_clear_9 : decode cX3_clear 9 = .ok (.getfield 41, 3) := by decide +kernel
theorem dX3_clear_12 : decode cX3_clear 12 = .ok (.iload_n 1, 1) := by decide +kernel
theorem dX3_clear_13 : decode cX3_clear 13 = .ok (.iconst 0, 1) := by decide +kernel
theorem dX3_clear_14 : decode cX3_clear 14 = .ok (.bastore, 1) := by decide +kernel
theorem dX3_clear_15 : decode cX3_clear 15 = .ok (.iinc 1 1, 3) := by decide +kernel
theorem dX3_clear_18 : decode cX3_clear 18 = .ok (.goto (-16), 3) := by decide +kernel
theorem dX3_clear_21 : decode cX3_clear 21 = .ok (.return_, 1) := by decide +kernel
set_option maxRecDepth 20000 in
theorem ggX3_markFrom_X3_clear : GoodIn wsX3_markFrom wsX3_clear := goodIn_r _ [5, 6, 38, 39, 40, 41, 42, 43, 44, 45, 46, 47, 48, 49, 50, 51, 52, 53, 54, 55] (by decide +kernel) (by decide +kernel)
set_option maxRecDepth 20000 in
theorem gX3_markFrom_X3_clear : GoodIn wsX3_markFrom (wsV RX3 94 RX3 yX3_clear wsX3_clear) := goodIn_app (goodIn_of _ (by decide +kernel)) ggX3_markFrom_X3_clear
set_option maxRecDepth 20000 in
theorem ggX3_markFrom_X3_mark : GoodIn wsX3_markFrom wsX3_mark := goodIn_r _ [10, 6, 11, 12, 13, 4, 14, 15, 16, 17, 18, 19, 20, 21, 22, 23, 38, 39, 40, 41, 42, 43, 44, 45, 46, 47, 48, 49, 50, 51, 52, 53, 54, 55] (by decide +kernel) (by decide +kernel)
set_option maxRecDepth 20000 in
theorem gX3_markFrom_X3_mark : GoodIn wsX3_markFrom (wsV RX3 90 RX3 yX3_mark wsX3_mark) := goodIn_app (goodIn_of _ (by decide +kernel)) ggX3_markFrom_X3_mark
set_option maxRecDepth 20000 in
theorem ggX3_markFrom_X3_markOn : GoodIn wsX3_markFrom wsX3_markOn := goodIn_r _ [27, 20, 6, 28, 29, 30, 31, 32, 4, 33, 11, 12, 13, 14, 15, 16, 17, 18, 19, 21, 22, 23, 34, 35, 36, 37, 7, 8, 9, 10, 38, 39, 40, 41, 42, 43, 44, 45, 46, 47, 48, 49, 50, 51, 52, 53, 54, 55] (by decide +kernel) (by decide +kernel)
set_option maxRecDepth 20000 in
theorem gX3_markFrom_X3_markOn : GoodIn wsX3_markFrom (wsV RX3 97 RX3 yX3_markOn wsX3_markOn) := goodIn_app (goodIn_of _ (by decide +kernel)) ggX3_markFrom_X3_markOn
theorem dX3_markFrom_0 : decode cX3_markFrom 0 = .ok (.aload_n 0, 1) := by decide +kernel
theorem dX3_markFrom_1 : decode cX3_markFrom 1 = .ok (.invokevirtual 94, 3) := by decide +kernel
theorem dX3_markFrom_4 : decode cX3_markFrom 4 = .ok (.aload_n 0, 1) := by decide +kernel
theorem dX3_markFrom_5 : decode cX3_markFrom 5 = .ok (.iload_n 1, 1) := by decide +kernel
theorem dX3_markFrom_6 : decode cX3_markFrom 6 = .ok (.iload_n 2, 1) := by decide +kernel
theorem dX3_markFrom_7 : decode cX3_markFrom 7 = .ok (.invokevirtual 90, 3) := by decide +kernel
theorem dX3_markFrom_10 : decode cX3_markFrom 10 = .ok (.aload_n 0, 1) := by decide +kernel
theorem dX3_markFrom_11 : decode cX3_markFrom 11 = .ok (.iload_n 1, 1) := by decide +kernel
theorem dX3_markFrom_12 : decode cX3_markFrom 12 = .ok (.invokevirtual 97, 3) := by decide +kernel
theorem dX3_markFrom_15 : decode cX3_markFrom 15 = .ok (.return_, 1) := by decide +kernel
set_option maxRecDepth 20000 in
theorem ggX3_talk_X3_tell : GoodIn wsX3_talk wsX3_tell := goodIn_r _ [8, 9, 2, 3, 10, 11, 12, 13, 7, 14, 15, 16, 17, 18, 19, 20, 21, 22, 23, 24, 25, 26, 27, 28, 29, 30, 31, 32, 33, 34, 35, 36, 37, 38, 39, 40, 41, 42, 43, 44, 45, 46, 47, 48, 49, 50, 51, 52, 53, 54, 55, 56, 57, 58, 59, 60, 61, 62] (by decide +kernel) (by decide +kernel)
set_option maxRecDepth 20000 in
theorem gX3_talk_X3_tell : GoodIn wsX3_talk (wsV RX3 104 RX3 yX3_tell wsX3_tell) := goodIn_app (goodIn_of _ (by decide +kernel)) ggX3_talk_X3_tell
theorem dX3_talk_0 : decode cX3_talk 0 = .ok (.aload_n 0, 1) := by decide +kernel
theorem dX3_talk_1 : decode cX3_talk 1 = .ok (.iconst 0, 1) := by decide +kernel
theorem dX3_talk_2 : decode cX3_talk 2 = .ok (.putfield 101, 3) := by decide +kernel
theorem dX3_talk_5 : decode cX3_talk 5 = .ok (.iconst 0, 1) := by decide +kernel
theorem dX3_talk_6 : decode cX3_talk 6 = .ok (.istore_n 1, 1) := by decide +kernel
theorem dX3_talk_7 : decode cX3_talk 7 = .ok (.iload_n 1, 1) := by decide +kernel
theorem dX3_talk_8 : decode cX3_talk 8 = .ok (.bipush 60, 2) := by decide +kernel
theorem dX3_talk_10 : decode cX3_talk 10 = .ok (.if_icmp .ge 23, 3) := by decide +kernel
theorem dX3_talk_13 : decode cX3_talk 13 = .ok (.aload_n 0, 1) := by decide +kernel
theorem dX3_talk_14 : decode cX3_talk 14 = .ok (.getfield 44, 3) := by decide +kernel
theorem dX3_talk_17 : decode cX3_talk 17 = .ok (.iload_n 1, 1) := by decide +kernel
theorem dX3_talk_18 : decode cX3_talk 18 = .ok (.iconst 0, 1) := by decide +kernel
theorem dX3_talk_19 : decode cX3_talk 19 = .ok (.bastore, 1) := by decide +kernel
theorem dX3_talk_20 : decode cX3_talk 20 = .ok (.aload_n 0, 1) := by decide +kernel
theorem dX3_talk_21 : decode cX3_talk 21 = .ok (.getfield 47, 3) := by decide +kernel
theorem dX3_talk_24 : decode cX3_talk 24 = .ok (.iload_n 1, 1) := by decide +kernel
theorem dX3_talk_25 : decode cX3_talk 25 = .ok (.iconst 0, 1) := by decide +kernel
theorem dX3_talk_26 : decode cX3_talk 26 = .ok (.bastore, 1) := by decide +kernel
theorem dX3_talk_27 : decode cX3_talk 27 = .ok (.iinc 1 1, 3) := by decide +kernel
theorem dX3_talk_30 : decode cX3_talk 30 = .ok (.goto (-23), 3) := by decide +kernel
theorem dX3_talk_33 : decode cX3_talk 33 = .ok (.aload_n 0, 1) := by decide +kernel
theorem dX3_talk_34 : decode cX3_talk 34 = .ok (.invokevirtual 104, 3) := by decide +kernel
theorem dX3_talk_37 : decode cX3_talk 37 = .ok (.ifCond .le 16, 3) := by decide +kernel
theorem dX3_talk_40 : decode cX3_talk 40 = .ok (.aload_n 0, 1) := by decide +kernel
theorem dX3_talk_41 : decode cX3_talk 41 = .ok (.dup, 1) := by decide +kernel
theorem dX3_talk_42 : decode cX3_talk 42 = .ok (.getfield 101, 3) := by decide +kernel
theorem dX3_talk_45 : decode cX3_talk 45 = .ok (.iconst 1, 1) := by decide +kernel
theorem dX3_talk_46 : decode cX3_talk 46 = .ok (.iadd, 1) := by decide +kernel
theorem dX3_talk_47 : decode cX3_talk 47 = .ok (.putfield 101, 3) := by decide +kernel
theorem dX3_talk_50 : decode cX3_talk 50 = .ok (.goto (-17), 3) := by decide +kernel
theorem dX3_talk_53 : decode cX3_talk 53 = .ok (.return_, 1) := by decide +kernel
set_option maxRecDepth 20000 in
theorem ggX3_tell_X3_clear : GoodIn wsX3_tell wsX3_clear := goodIn_r _ [9, 4, 40, 41, 42, 43, 44, 45, 46, 47, 48, 49, 50, 51, 52, 53, 54, 55, 56, 57] (by decide +kernel) (by decide +kernel)
set_option maxRecDepth 20000 in
theorem gX3_tell_X3_clear : GoodIn wsX3_tell (wsV RX3 94 RX3 yX3_clear wsX3_clear) := goodIn_app (goodIn_of _ (by decide +kernel)) ggX3_tell_X3_clear
set_option maxRecDepth 20000 in
theorem ggX3_tell_X3_isIn : GoodIn wsX3_tell wsX3_isIn := goodIn_r _ [13, 14, 15, 16, 17, 8, 18, 1, 19, 20, 21, 40, 41, 42, 43, 44, 45, 46, 47, 48, 49, 50, 51, 52, 53, 54, 55, 56, 57] (by decide +kernel) (by decide +kernel)
set_option maxRecDepth 20000 in
theorem gX3_tell_X3_isIn : GoodIn wsX3_tell (wsV RX3 68 RX3 yX3_isIn wsX3_isIn) := goodIn_app (goodIn_of _ (by decide +kernel)) ggX3_tell_X3_isIn
set_option maxRecDepth 20000 in
theorem ggX3_tell_X3_markOn : GoodIn wsX3_tell wsX3_markOn := goodIn_r _ [25, 1, 4, 26, 27, 28, 29, 30, 8, 31, 10, 11, 12, 13, 14, 15, 16, 17, 18, 19, 20, 21, 32, 33, 34, 35, 36, 37, 38, 39, 40, 41, 42, 43, 44, 45, 46, 47, 48, 49, 50, 51, 52, 53, 54, 55, 56, 57] (by decide +kernel) (by decide +kernel)
set_option maxRecDepth 20000 in
theorem gX3_tell_X3_markOn : GoodIn wsX3_tell (wsV RX3 97 RX3 yX3_markOn wsX3_markOn) := goodIn_app (goodIn_of _ (by decide +kernel)) ggX3_tell_X3_markOn
theorem dX3_tell_0 : decode cX3_tell 0 = .ok (.iconst 0, 1) := by decide +kernel
theorem dX3_tell_1 : decode cX3_tell 1 = .ok (.istore_n 1, 1) := by decide +kernel
theorem dX3_tell_2 : decode cX3_tell 2 = .ok (.aload_n 0, 1) := by decide +kernel
theorem dX3_tell_3 : decode cX3_tell 3 = .ok (.invokevirtual 94, 3) := by decide +kernel
theorem dX3_tell_6 : decode cX3_tell 6 = .ok (.aload_n 0, 1) := by decide +kernel
theorem dX3_tell_7 : decode cX3_tell 7 = .ok (.getfield 61, 3) := by decide +kernel
theorem dX3_tell_10 : decode cX3_tell 10 = .ok (.iconst 1, 1) := by decide +kernel
theorem dX3_tell_11 : decode cX3_tell 11 = .ok (.isub, 1) := by decide +kernel
theorem dX3_tell_12 : decode cX3_tell 12 = .ok (.istore_n 2, 1) := by decide +kernel
theorem dX3_tell_13 : decode cX3_tell 13 = .ok (.iload_n 2, 1) := by decide +kernel
theorem dX3_tell_14 : decode cX3_tell 14 = .ok (.ifCond .lt 63, 3) := by decide +kernel
theorem dX3_tell_17 : decode cX3_tell 17 = .ok (.iload_n 1, 1) := by decide +kernel
theorem dX3_tell_18 : decode cX3_tell 18 = .ok (.iconst 4, 1) := by decide +kernel
theorem dX3_tell_19 : decode cX3_tell 19 = .ok (.if_icmp .ge 58, 3) := by decide +kernel
theorem dX3_tell_22 : decode cX3_tell 22 = .ok (.aload_n 0, 1) := by decide +kernel
theorem dX3_tell_23 : decode cX3_tell 23 = .ok (.iconst 1, 1) := by decide +kernel
theorem dX3_tell_24 : decode cX3_tell 24 = .ok (.iload_n 2, 1) := by decide +kernel
theorem dX3_tell_25 : decode cX3_tell 25 = .ok (.invokevirtual 68, 3) := by decide +kernel
theorem dX3_tell_28 : decode cX3_tell 28 = .ok (.ifCond .eq 43, 3) := by decide +kernel
theorem dX3_tell_31 : decode cX3_tell 31 = .ok (.aload_n 0, 1) := by decide +kernel
theorem dX3_tell_32 : decode cX3_tell 32 = .ok (.getfield 44, 3) := by decide +kernel
theorem dX3_tell_35 : decode cX3_tell 35 = .ok (.iload_n 2, 1) := by decide +kernel
theorem dX3_tell_36 : decode cX3_tell 36 = .ok (.baload, 1) := by decide +kernel
theorem dX3_tell_37 : decode cX3_tell 37 = .ok (.ifCond .ne 34, 3) := by decide +kernel
theorem dX3_tell_40 : decode cX3_tell 40 = .ok (.aload_n 0, 1) := by decide +kernel
theorem dX3_tell_41 : decode cX3_tell 41 = .ok (.getfield 47, 3) := by decide +kernel
theorem dX3_tell_44 : decode cX3_tell 44 = .ok (.iload_n 2, 1) := by decide +kernel
theorem dX3_tell_45 : decode cX3_tell 45 = .ok (.baload, 1) := by decide +kernel
theorem dX3_tell_46 : decode cX3_tell 46 = .ok (.ifCond .ne 25, 3) := by decide +kernel
theorem dX3_tell_49 : decode cX3_tell 49 = .ok (.aload_n 0, 1) := by decide +kernel
theorem dX3_tell_50 : decode cX3_tell 50 = .ok (.getfield 47, 3) := by decide +kernel
theorem dX3_tell_53 : decode cX3_tell 53 = .ok (.iload_n 2, 1) := by decide +kernel
theorem dX3_tell_54 : decode cX3_tell 54 = .ok (.iconst 1, 1) := by decide +kernel
theorem dX3_tell_55 : decode cX3_tell 55 = .ok (.bastore, 1) := by decide +kernel
theorem dX3_tell_56 : decode cX3_tell 56 = .ok (.aload_n 0, 1) := by decide +kernel
theorem dX3_tell_57 : decode cX3_tell 57 = .ok (.getfield 41, 3) := by decide +kernel
theorem dX3_tell_60 : decode cX3_tell 60 = .ok (.iload_n 2, 1) := by decide +kernel
theorem dX3_tell_61 : decode cX3_tell 61 = .ok (.aload_n 0, 1) := by decide +kernel
theorem dX3_tell_62 : decode cX3_tell 62 = .ok (.iconst 0, 1) := by decide +kernel
theorem dX3_tell_63 : decode cX3_tell 63 = .ok (.iload_n 2, 1) := by decide +kernel
theorem dX3_tell_64 : decode cX3_tell 64 = .ok (.invokevirtual 68, 3) := by decide +kernel
theorem dX3_tell_67 : decode cX3_tell 67 = .ok (.bastore, 1) := by decide +kernel
theorem dX3_tell_68 : decode cX3_tell 68 = .ok (.iinc 1 1, 3) := by decide +kernel
theorem dX3_tell_71 : decode cX3_tell 71 = .ok (.iinc 2 (-1), 3) := by decide +kernel
theorem dX3_tell_74 : decode cX3_tell 74 = .ok (.goto (-61), 3) := by decide +kernel
theorem dX3_tell_77 : decode cX3_tell 77 = .ok (.aload_n 0, 1) := by decide +kernel
theorem dX3_tell_78 : decode cX3_tell 78 = .ok (.iconst 1, 1) := by decide +kernel
theorem dX3_tell_79 : decode cX3_tell 79 = .ok (.invokevirtual 97, 3) := by decide +kernel
theorem dX3_tell_82 : decode cX3_tell 82 = .ok (.iconst 0, 1) := by decide +kernel
theorem dX3_tell_83 : decode cX3_tell 83 = .ok (.istore_n 2, 1) := by decide +kernel
theorem dX3_tell_84 : decode cX3_tell 84 = .ok (.iload_n 2, 1) := by decide +kernel
theorem dX3_tell_85 : decode cX3_tell 85 = .ok (.bipush 60, 2) := by decide +kernel
theorem dX3_tell_87 : decode cX3_tell 87 = .ok (.if_icmp .ge 38, 3) := by decide +kernel
theorem dX3_tell_90 : decode cX3_tell 90 = .ok (.aload_n 0, 1) := by decide +kernel
theorem dX3_tell_91 : decode cX3_tell 91 = .ok (.getfield 44, 3) := by decide +kernel
theorem dX3_tell_94 : decode cX3_tell 94 = .ok (.iload_n 2, 1) := by decide +kernel
theorem dX3_tell_95 : decode cX3_tell 95 = .ok (.aload_n 0, 1) := by decide +kernel
theorem dX3_tell_96 : decode cX3_tell 96 = .ok (.getfield 44, 3) := by decide +kernel
theorem dX3_tell_99 : decode cX3_tell 99 = .ok (.iload_n 2, 1) := by decide +kernel
theorem dX3_tell_100 : decode cX3_tell 100 = .ok (.baload, 1) := by decide +kernel
theorem dX3_tell_101 : decode cX3_tell 101 = .ok (.ifCond .ne 12, 3) := by decide +kernel
theorem dX3_tell_104 : decode cX3_tell 104 = .ok (.aload_n 0, 1) := by decide +kernel
theorem dX3_tell_105 : decode cX3_tell 105 = .ok (.getfield 41, 3) := by decide +kernel
theorem dX3_tell_108 : decode cX3_tell 108 = .ok (.iload_n 2, 1) := by decide +kernel
theorem dX3_tell_109 : decode cX3_tell 109 = .ok (.baload, 1) := by decide +kernel
theorem dX3_tell_110 : decode cX3_tell 110 = .ok (.ifCond .eq 7, 3) := by decide +kernel
theorem dX3_tell_113 : decode cX3_tell 113 = .ok (.iconst 1, 1) := by decide +kernel
theorem dX3_tell_114 : decode cX3_tell 114 = .ok (.goto 4, 3) := by decide +kernel
theorem dX3_tell_117 : decode cX3_tell 117 = .ok (.iconst 0, 1) := by decide +kernel
theorem dX3_tell_118 : decode cX3_tell 118 = .ok (.bastore, 1) := by decide +kernel
theorem dX3_tell_119 : decode cX3_tell 119 = .ok (.iinc 2 1, 3) := by decide +kernel
theorem dX3_tell_122 : decode cX3_tell 122 = .ok (.goto (-38), 3) := by decide +kernel
theorem dX3_tell_125 : decode cX3_tell 125 = .ok (.iload_n 1, 1) := by decide +kernel
theorem dX3_tell_126 : decode cX3_tell 126 = .ok (.ireturn, 1) := by decide +kernel
set_option maxRecDepth 20000 in
theorem ggX3_reach_X3_markFrom : GoodIn wsX3_reach wsX3_markFrom := goodIn_r _ [9, 10, 11, 12, 8, 13, 4, 14, 15, 16, 17, 18, 19, 20, 21, 22, 23, 24, 25, 26, 27, 28, 29, 30, 31, 32, 33, 34, 2, 3, 35, 36, 37, 38, 39, 40, 41, 42, 47, 48, 49, 50, 51, 52, 53, 54, 55, 56, 57, 58, 59, 60, 61, 62, 63, 64] (by decide +kernel) (by decide +kernel)
set_option maxRecDepth 20000 in
theorem gX3_reach_X3_markFrom : GoodIn wsX3_reach (wsV RX3 108 RX3 yX3_markFrom wsX3_markFrom) := goodIn_app (goodIn_of _ (by decide +kernel)) ggX3_reach_X3_markFrom
set_option maxRecDepth 20000 in
theorem ggX3_reach_X3_near : GoodIn wsX3_reach wsX3_near := goodIn_r _ [46, 1, 47, 48, 49, 50, 51, 52, 53, 54, 55, 56, 57, 58, 59, 60, 61, 62, 63, 64] (by decide +kernel) (by decide +kernel)
set_option maxRecDepth 20000 in
theorem gX3_reach_X3_near : GoodIn wsX3_reach (wsV RX3 111 RX3 yX3_near wsX3_near) := goodIn_app (goodIn_of _ (by decide +kernel)) ggX3_reach_X3_near
theorem dX3_reach_0 : decode cX3_reach 0 = .ok (.aload_n 0, 1) := by decide +kernel
theorem dX3_reach_1 : decode cX3_reach 1 = .ok (.iconst 0, 1) := by decide +kernel
theorem dX3_reach_2 : decode cX3_reach 2 = .ok (.iload_n 1, 1) := by decide +kernel
theorem dX3_reach_3 : decode cX3_reach 3 = .ok (.invokevirtual 108, 3) := by decide +kernel
theorem dX3_reach_6 : decode cX3_reach 6 = .ok (.iconst 0, 1) := by decide +kernel
theorem dX3_reach_7 : decode cX3_reach 7 = .ok (.istore_n 3, 1) := by decide +kernel
theorem dX3_reach_8 : decode cX3_reach 8 = .ok (.iload_n 3, 1) := by decide +kernel
theorem dX3_reach_9 : decode cX3_reach 9 = .ok (.bipush 60, 2) := by decide +kernel
theorem dX3_reach_11 : decode cX3_reach 11 = .ok (.if_icmp .ge 17, 3) := by decide +kernel
theorem dX3_reach_14 : decode cX3_reach 14 = .ok (.aload_n 0, 1) := by decide +kernel
theorem dX3_reach_15 : decode cX3_reach 15 = .ok (.getfield 50, 3) := by decide +kernel
theorem dX3_reach_18 : decode cX3_reach 18 = .ok (.iload_n 3, 1) := by decide +kernel
theorem dX3_reach_19 : decode cX3_reach 19 = .ok (.bipush 60, 2) := by decide +kernel
theorem dX3_reach_21 : decode cX3_reach 21 = .ok (.iastore, 1) := by decide +kernel
theorem dX3_reach_22 : decode cX3_reach 22 = .ok (.iinc 3 1, 3) := by decide +kernel
theorem dX3_reach_25 : decode cX3_reach 25 = .ok (.goto (-17), 3) := by decide +kernel
theorem dX3_reach_28 : decode cX3_reach 28 = .ok (.aload_n 0, 1) := by decide +kernel
theorem dX3_reach_29 : decode cX3_reach 29 = .ok (.getfield 50, 3) := by decide +kernel
theorem dX3_reach_32 : decode cX3_reach 32 = .ok (.iload_n 1, 1) := by decide +kernel
theorem dX3_reach_33 : decode cX3_reach 33 = .ok (.iconst 0, 1) := by decide +kernel
theorem dX3_reach_34 : decode cX3_reach 34 = .ok (.iastore, 1) := by decide +kernel
theorem dX3_reach_35 : decode cX3_reach 35 = .ok (.iload_n 1, 1) := by decide +kernel
theorem dX3_reach_36 : decode cX3_reach 36 = .ok (.istore_n 3, 1) := by decide +kernel
theorem dX3_reach_37 : decode cX3_reach 37 = .ok (.iload_n 3, 1) := by decide +kernel
theorem dX3_reach_38 : decode cX3_reach 38 = .ok (.ifCond .lt 79, 3) := by decide +kernel
theorem dX3_reach_41 : decode cX3_reach 41 = .ok (.aload_n 0, 1) := by decide +kernel
theorem dX3_reach_42 : decode cX3_reach 42 = .ok (.aload_n 0, 1) := by decide +kernel
theorem dX3_reach_43 : decode cX3_reach 43 = .ok (.getfield 7, 3) := by decide +kernel
theorem dX3_reach_46 : decode cX3_reach 46 = .ok (.iload_n 3, 1) := by decide +kernel
theorem dX3_reach_47 : decode cX3_reach 47 = .ok (.iaload, 1) := by decide +kernel
theorem dX3_reach_48 : decode cX3_reach 48 = .ok (.aload_n 0, 1) := by decide +kernel
theorem dX3_reach_49 : decode cX3_reach 49 = .ok (.getfield 50, 3) := by decide +kernel
theorem dX3_reach_52 : decode cX3_reach 52 = .ok (.iload_n 3, 1) := by decide +kernel
theorem dX3_reach_53 : decode cX3_reach 53 = .ok (.iaload, 1) := by decide +kernel
theorem dX3_reach_54 : decode cX3_reach 54 = .ok (.iconst 1, 1) := by decide +kernel
theorem dX3_reach_55 : decode cX3_reach 55 = .ok (.iadd, 1) := by decide +kernel
theorem dX3_reach_56 : decode cX3_reach 56 = .ok (.invokevirtual 111, 3) := by decide +kernel
theorem dX3_reach_59 : decode cX3_reach 59 = .ok (.aload_n 0, 1) := by decide +kernel
theorem dX3_reach_60 : decode cX3_reach 60 = .ok (.aload_n 0, 1) := by decide +kernel
theorem dX3_reach_61 : decode cX3_reach 61 = .ok (.getfield 13, 3) := by decide +kernel
theorem dX3_reach_64 : decode cX3_reach 64 = .ok (.iload_n 3, 1) := by decide +kernel
theorem dX3_reach_65 : decode cX3_reach 65 = .ok (.iaload, 1) := by decide +kernel
theorem dX3_reach_66 : decode cX3_reach 66 = .ok (.aload_n 0, 1) := by decide +kernel
theorem dX3_reach_67 : decode cX3_reach 67 = .ok (.getfield 50, 3) := by decide +kernel
theorem dX3_reach_70 : decode cX3_reach 70 = .ok (.iload_n 3, 1) := by decide +kernel
theorem dX3_reach_71 : decode cX3_reach 71 = .ok (.iaload, 1) := by decide +kernel
theorem dX3_reach_72 : decode cX3_reach 72 = .ok (.iconst 1, 1) := by decide +kernel
theorem dX3_reach_73 : decode cX3_reach 73 = .ok (.iadd, 1) := by decide +kernel
theorem dX3_reach_74 : decode cX3_reach 74 = .ok (.invokevirtual 111, 3) := by decide +kernel
theorem dX3_reach_77 : decode cX3_reach 77 = .ok (.aload_n 0, 1) := by decide +kernel
theorem dX3_reach_78 : decode cX3_reach 78 = .ok (.getfield 41, 3) := by decide +kernel
theorem dX3_reach_81 : decode cX3_reach 81 = .ok (.iload_n 3, 1) := by decide +kernel
theorem dX3_reach_82 : decode cX3_reach 82 = .ok (.aload_n 0, 1) := by decide +kernel
theorem dX3_reach_83 : decode cX3_reach 83 = .ok (.getfield 41, 3) := by decide +kernel
theorem dX3_reach_86 : decode cX3_reach 86 = .ok (.iload_n 3, 1) := by decide +kernel
theorem dX3_reach_87 : decode cX3_reach 87 = .ok (.baload, 1) := by decide +kernel
theorem dX3_reach_88 : decode cX3_reach 88 = .ok (.ifCond .eq 21, 3) := by decide +kernel
theorem dX3_reach_91 : decode cX3_reach 91 = .ok (.iload_n 2, 1) := by decide +kernel
theorem dX3_reach_92 : decode cX3_reach 92 = .ok (.ifCond .eq 13, 3) := by decide +kernel
theorem dX3_reach_95 : decode cX3_reach 95 = .ok (.aload_n 0, 1) := by decide +kernel
theorem dX3_reach_96 : decode cX3_reach 96 = .ok (.getfield 50, 3) := by decide +kernel
theorem dX3_reach_99 : decode cX3_reach 99 = .ok (.iload_n 3, 1) := by decide +kernel
theorem dX3_reach_100 : decode cX3_reach 100 = .ok (.iaload, 1) := by decide +kernel
theorem dX3_reach_101 : decode cX3_reach 101 = .ok (.iload_n 2, 1) := by decide +kernel
theorem dX3_reach_102 : decode cX3_reach 102 = .ok (.if_icmp .ge 7, 3) := by decide +kernel
theorem dX3_reach_105 : decode cX3_reach 105 = .ok (.iconst 1, 1) := by decide +kernel
theorem dX3_reach_106 : decode cX3_reach 106 = .ok (.goto 4, 3) := by decide +kernel
theorem dX3_reach_109 : decode cX3_reach 109 = .ok (.iconst 0, 1) := by decide +kernel
theorem dX3_reach_110 : decode cX3_reach 110 = .ok (.bastore, 1) := by decide +kernel
theorem dX3_reach_111 : decode cX3_reach 111 = .ok (.iinc 3 (-1), 3) := by decide +kernel
theorem dX3_reach_114 : decode cX3_reach 114 = .ok (.goto (-77), 3) := by decide +kernel
theorem dX3_reach_117 : decode cX3_reach 117 = .ok (.return_, 1) := by decide +kernel
theorem dX3_near_0 : decode cX3_near 0 = .ok (.iload_n 1, 1) := by decide +kernel
theorem dX3_near_1 : decode cX3_near 1 = .ok (.iconst (-1), 1) := by decide +kernel
theorem dX3_near_2 : decode cX3_near 2 = .ok (.if_icmp .eq 20, 3) := by decide +kernel
theorem dX3_near_5 : decode cX3_near 5 = .ok (.iload_n 2, 1) := by decide +kernel
theorem dX3_near_6 : decode cX3_near 6 = .ok (.aload_n 0, 1) := by decide +kernel
theorem dX3_near_7 : decode cX3_near 7 = .ok (.getfield 50, 3) := by decide +kernel
theorem dX3_near_10 : decode cX3_near 10 = .ok (.iload_n 1, 1) := by decide +kernel
theorem dX3_near_11 : decode cX3_near 11 = .ok (.iaload, 1) := by decide +kernel
theorem dX3_near_12 : decode cX3_near 12 = .ok (.if_icmp .ge 10, 3) := by decide +kernel
theorem dX3_near_15 : decode cX3_near 15 = .ok (.aload_n 0, 1) := by decide +kernel
theorem dX3_near_16 : decode cX3_near 16 = .ok (.getfield 50, 3) := by decide +kernel
theorem dX3_near_19 : decode cX3_near 19 = .ok (.iload_n 1, 1) := by decide +kernel
theorem dX3_near_20 : decode cX3_near 20 = .ok (.iload_n 2, 1) := by decide +kernel
theorem dX3_near_21 : decode cX3_near 21 = .ok (.iastore, 1) := by decide +kernel
theorem dX3_near_22 : decode cX3_near 22 = .ok (.return_, 1) := by decide +kernel
set_option maxRecDepth 20000 in
theorem ggX3_noFetch_X3_isRef : GoodIn wsX3_noFetch wsX3_isRef := goodIn_r _ [5, 6, 7, 4, 8] (by decide +kernel) (by decide +kernel)
set_option maxRecDepth 20000 in
theorem gX3_noFetch_X3_isRef : GoodIn wsX3_noFetch (va_wsS RX3 81 yX3_isRef wsX3_isRef) := goodIn_app (goodIn_of _ (by decide +kernel)) ggX3_noFetch_X3_isRef
set_option maxRecDepth 20000 in
theorem ggX3_noFetch_X3_in : GoodIn wsX3_noFetch wsX3_in := goodIn_r _ [8] (by decide +kernel) (by decide +kernel)
set_option maxRecDepth 20000 in
theorem gX3_noFetch_X3_in : GoodIn wsX3_noFetch (va_wsS RX3 57 yX3_in wsX3_in) := goodIn_app (goodIn_of _ (by decide +kernel)) ggX3_noFetch_X3_in
set_option maxRecDepth 20000 in
theorem ggX3_noFetch_X3_refused : GoodIn wsX3_noFetch wsX3_refused := goodIn_r _ [12, 13, 14, 15, 16, 17, 18, 19, 20, 21, 22, 23, 24, 25, 26, 27, 28, 29, 30, 31] (by decide +kernel) (by decide +kernel)
set_option maxRecDepth 20000 in
theorem gX3_noFetch_X3_refused : GoodIn wsX3_noFetch (wsV RX3 78 RX3 yX3_refused wsX3_refused) := goodIn_app (goodIn_of _ (by decide +kernel)) ggX3_noFetch_X3_refused
theorem dX3_noFetch_0 : decode cX3_noFetch 0 = .ok (.iload_n 1, 1) := by decide +kernel
theorem dX3_noFetch_1 : decode cX3_noFetch 1 = .ok (.invokestatic 81, 3) := by decide +kernel
theorem dX3_noFetch_4 : decode cX3_noFetch 4 = .ok (.ifCond .eq 17, 3) := by decide +kernel
theorem dX3_noFetch_7 : decode cX3_noFetch 7 = .ok (.aload_n 0, 1) := by decide +kernel
theorem dX3_noFetch_8 : decode cX3_noFetch 8 = .ok (.getfield 26, 3) := by decide +kernel
theorem dX3_noFetch_11 : decode cX3_noFetch 11 = .ok (.iload_n 1, 1) := by decide +kernel
theorem dX3_noFetch_12 : decode cX3_noFetch 12 = .ok (.iaload, 1) := by decide +kernel
theorem dX3_noFetch_13 : decode cX3_noFetch 13 = .ok (.iconst (-1), 1) := by decide +kernel
theorem dX3_noFetch_14 : decode cX3_noFetch 14 = .ok (.if_icmp .eq 7, 3) := by decide +kernel
theorem dX3_noFetch_17 : decode cX3_noFetch 17 = .ok (.iconst 1, 1) := by decide +kernel
theorem dX3_noFetch_18 : decode cX3_noFetch 18 = .ok (.goto 4, 3) := by decide +kernel
theorem dX3_noFetch_21 : decode cX3_noFetch 21 = .ok (.iconst 0, 1) := by decide +kernel
theorem dX3_noFetch_22 : decode cX3_noFetch 22 = .ok (.istore_n 3, 1) := by decide +kernel
theorem dX3_noFetch_23 : decode cX3_noFetch 23 = .ok (.aload_n 0, 1) := by decide +kernel
theorem dX3_noFetch_24 : decode cX3_noFetch 24 = .ok (.iload_n 1, 1) := by decide +kernel
theorem dX3_noFetch_25 : decode cX3_noFetch 25 = .ok (.invokestatic 81, 3) := by decide +kernel
theorem dX3_noFetch_28 : decode cX3_noFetch 28 = .ok (.ifCond .ne 7, 3) := by decide +kernel
theorem dX3_noFetch_31 : decode cX3_noFetch 31 = .ok (.iconst 1, 1) := by decide +kernel
theorem dX3_noFetch_32 : decode cX3_noFetch 32 = .ok (.goto 26, 3) := by decide +kernel
theorem dX3_noFetch_35 : decode cX3_noFetch 35 = .ok (.iload_n 2, 1) := by decide +kernel
theorem dX3_noFetch_36 : decode cX3_noFetch 36 = .ok (.iconst 0, 1) := by decide +kernel
theorem dX3_noFetch_37 : decode cX3_noFetch 37 = .ok (.bipush 60, 2) := by decide +kernel
theorem dX3_noFetch_39 : decode cX3_noFetch 39 = .ok (.invokestatic 57, 3) := by decide +kernel
theorem dX3_noFetch_42 : decode cX3_noFetch 42 = .ok (.ifCond .ne 7, 3) := by decide +kernel
theorem dX3_noFetch_45 : decode cX3_noFetch 45 = .ok (.iconst 2, 1) := by decide +kernel
theorem dX3_noFetch_46 : decode cX3_noFetch 46 = .ok (.goto 12, 3) := by decide +kernel
theorem dX3_noFetch_49 : decode cX3_noFetch 49 = .ok (.iload_n 3, 1) := by decide +kernel
theorem dX3_noFetch_50 : decode cX3_noFetch 50 = .ok (.ifCond .eq 7, 3) := by decide +kernel
theorem dX3_noFetch_53 : decode cX3_noFetch 53 = .ok (.iconst 0, 1) := by decide +kernel
theorem dX3_noFetch_54 : decode cX3_noFetch 54 = .ok (.goto 4, 3) := by decide +kernel
theorem dX3_noFetch_57 : decode cX3_noFetch 57 = .ok (.iconst 3, 1) := by decide +kernel
theorem dX3_noFetch_58 : decode cX3_noFetch 58 = .ok (.invokevirtual 78, 3) := by decide +kernel
theorem dX3_noFetch_61 : decode cX3_noFetch 61 = .ok (.ireturn, 1) := by decide +kernel
set_option maxRecDepth 20000 in
theorem ggX3_fetch_X3_noFetch : GoodIn wsX3_fetch wsX3_noFetch := goodIn_r _ [10, 1, 11, 12, 9, 13, 14, 15, 16, 17, 18, 19, 20, 21, 81, 82, 83, 84, 85, 86, 87, 88, 89, 90, 91, 92, 93, 94, 95, 96, 97, 98] (by decide +kernel) (by decide +kernel)
set_option maxRecDepth 20000 in
theorem gX3_fetch_X3_noFetch : GoodIn wsX3_fetch (wsV RX3 114 RX3 yX3_noFetch wsX3_noFetch) := goodIn_app (goodIn_of _ (by decide +kernel)) ggX3_fetch_X3_noFetch
set_option maxRecDepth 20000 in
theorem ggX3_fetch_X3_talk : GoodIn wsX3_fetch wsX3_talk := goodIn_r _ [25, 26, 4, 27, 28, 29, 30, 9, 31, 2, 3, 32, 33, 34, 35, 36, 37, 38, 39, 5, 40, 41, 42, 43, 14, 15, 16, 44, 45, 46, 47, 48, 49, 50, 51, 52, 53, 54, 55, 56, 57, 58, 59, 60, 61, 81, 82, 83, 84, 85, 86, 87, 88, 89, 90, 91, 92, 93, 94, 95, 96, 97, 98] (by decide +kernel) (by decide +kernel)
set_option maxRecDepth 20000 in
theorem gX3_fetch_X3_talk : GoodIn wsX3_fetch (wsV RX3 117 RX3 yX3_talk wsX3_talk) := goodIn_app (goodIn_of _ (by decide +kernel)) ggX3_fetch_X3_talk
set_option maxRecDepth 20000 in
theorem ggX3_fetch_X3_reach : GoodIn wsX3_fetch wsX3_reach := goodIn_r _ [65, 66, 48, 49, 3, 67, 68, 69, 9, 70, 32, 33, 34, 35, 58, 59, 60, 61, 36, 37, 38, 39, 5, 40, 41, 42, 43, 2, 14, 15, 16, 44, 45, 46, 47, 50, 51, 52, 53, 54, 55, 56, 57, 71, 72, 73, 74, 81, 82, 83, 84, 85, 86, 87, 88, 89, 90, 91, 92, 93, 94, 95, 96, 97, 98] (by decide +kernel) (by decide +kernel)
set_option maxRecDepth 20000 in
theorem gX3_fetch_X3_reach : GoodIn wsX3_fetch (wsV RX3 120 RX3 yX3_reach wsX3_reach) := goodIn_app (goodIn_of _ (by decide +kernel)) ggX3_fetch_X3_reach
set_option maxRecDepth 20000 in
theorem ggX3_fetch_X3_isIn : GoodIn wsX3_fetch wsX3_isIn := goodIn_r _ [39, 5, 40, 41, 42, 9, 43, 2, 14, 15, 16, 81, 82, 83, 84, 85, 86, 87, 88, 89, 90, 91, 92, 93, 94, 95, 96, 97, 98] (by decide +kernel) (by decide +kernel)
set_option maxRecDepth 20000 in
theorem gX3_fetch_X3_isIn : GoodIn wsX3_fetch (wsV RX3 68 RX3 yX3_isIn wsX3_isIn) := goodIn_app (goodIn_of _ (by decide +kernel)) ggX3_fetch_X3_isIn
set_option maxRecDepth 20000 in
theorem ggX3_fetch_X3_bring : GoodIn wsX3_fetch wsX3_bring := goodIn_r _ [78, 79, 80, 81, 82, 83, 84, 85, 86, 87, 88, 89, 90, 91, 92, 93, 94, 95, 96, 97, 98] (by decide +kernel) (by decide +kernel)
set_option maxRecDepth 20000 in
theorem gX3_fetch_X3_bring : GoodIn wsX3_fetch (wsV RX3 123 RX3 yX3_bring wsX3_bring) := goodIn_app (goodIn_of _ (by decide +kernel)) ggX3_fetch_X3_bring
theorem dX3_fetch_0 : decode cX3_fetch 0 = .ok (.aload_n 0, 1) := by decide +kernel
theorem dX3_fetch_1 : decode cX3_fetch 1 = .ok (.iload_n 1, 1) := by decide +kernel
theorem dX3_fetch_2 : decode cX3_fetch 2 = .ok (.iload_n 2, 1) := by decide +kernel
theorem dX3_fetch_3 : decode cX3_fetch 3 = .ok (.invokevirtual 114, 3) := by decide +kernel
theorem dX3_fetch_6 : decode cX3_fetch 6 = .ok (.ifCond .eq 5, 3) := by decide +kernel
theorem dX3_fetch_9 : decode cX3_fetch 9 = .ok (.iconst 0, 1) := by decide +kernel
theorem dX3_fetch_10 : decode cX3_fetch 10 = .ok (.ireturn, 1) := by decide +kernel
theorem dX3_fetch_11 : decode cX3_fetch 11 = .ok (.aload_n 0, 1) := by decide +kernel
theorem dX3_fetch_12 : decode cX3_fetch 12 = .ok (.invokevirtual 117, 3) := by decide +kernel
theorem dX3_fetch_15 : decode cX3_fetch 15 = .ok (.aload_n 0, 1) := by decide +kernel
theorem dX3_fetch_16 : decode cX3_fetch 16 = .ok (.aload_n 0, 1) := by decide +kernel
theorem dX3_fetch_17 : decode cX3_fetch 17 = .ok (.getfield 26, 3) := by decide +kernel
theorem dX3_fetch_20 : decode cX3_fetch 20 = .ok (.iload_n 1, 1) := by decide +kernel
theorem dX3_fetch_21 : decode cX3_fetch 21 = .ok (.iaload, 1) := by decide +kernel
theorem dX3_fetch_22 : decode cX3_fetch 22 = .ok (.iload_n 2, 1) := by decide +kernel
theorem dX3_fetch_23 : decode cX3_fetch 23 = .ok (.invokevirtual 120, 3) := by decide +kernel
theorem dX3_fetch_26 : decode cX3_fetch 26 = .ok (.iconst 0, 1) := by decide +kernel
theorem dX3_fetch_27 : decode cX3_fetch 27 = .ok (.istore 4, 2) := by decide +kernel
theorem dX3_fetch_29 : decode cX3_fetch 29 = .ok (.iconst 0, 1) := by decide +kernel
theorem dX3_fetch_30 : decode cX3_fetch 30 = .ok (.istore 5, 2) := by decide +kernel
theorem dX3_fetch_32 : decode cX3_fetch 32 = .ok (.iload 5, 2) := by decide +kernel
theorem dX3_fetch_34 : decode cX3_fetch 34 = .ok (.aload_n 0, 1) := by decide +kernel
theorem dX3_fetch_35 : decode cX3_fetch 35 = .ok (.getfield 61, 3) := by decide +kernel
theorem dX3_fetch_38 : decode cX3_fetch 38 = .ok (.if_icmp .ge 69, 3) := by decide +kernel
theorem dX3_fetch_41 : decode cX3_fetch 41 = .ok (.aload_n 0, 1) := by decide +kernel
theorem dX3_fetch_42 : decode cX3_fetch 42 = .ok (.getfield 41, 3) := by decide +kernel
theorem dX3_fetch_45 : decode cX3_fetch 45 = .ok (.iload 5, 2) := by decide +kernel
theorem dX3_fetch_47 : decode cX3_fetch 47 = .ok (.baload, 1) := by decide +kernel
theorem dX3_fetch_48 : decode cX3_fetch 48 = .ok (.ifCond .eq 53, 3) := by decide +kernel
theorem dX3_fetch_51 : decode cX3_fetch 51 = .ok (.aload_n 0, 1) := by decide +kernel
theorem dX3_fetch_52 : decode cX3_fetch 52 = .ok (.getfield 44, 3) := by decide +kernel
theorem dX3_fetch_55 : decode cX3_fetch 55 = .ok (.iload 5, 2) := by decide +kernel
theorem dX3_fetch_57 : decode cX3_fetch 57 = .ok (.baload, 1) := by decide +kernel
theorem dX3_fetch_58 : decode cX3_fetch 58 = .ok (.ifCond .ne 43, 3) := by decide +kernel
theorem dX3_fetch_61 : decode cX3_fetch 61 = .ok (.iload 4, 2) := by decide +kernel
theorem dX3_fetch_63 : decode cX3_fetch 63 = .ok (.aload_n 0, 1) := by decide +kernel
theorem dX3_fetch_64 : decode cX3_fetch 64 = .ok (.iconst 1, 1) := by decide +kernel
theorem dX3_fetch_65 : decode cX3_fetch 65 = .ok (.iload 5, 2) := by decide +kernel
theorem dX3_fetch_67 : decode cX3_fetch 67 = .ok (.invokevirtual 68, 3) := by decide +kernel
theorem dX3_fetch_70 : decode cX3_fetch 70 = .ok (.ifCond .eq 7, 3) := by decide +kernel
theorem dX3_fetch_73 : decode cX3_fetch 73 = .ok (.iconst 0, 1) := by decide +kernel
theorem dX3_fetch_74 : decode cX3_fetch 74 = .ok (.goto 4, 3) := by decide +kernel
theorem dX3_fetch_77 : decode cX3_fetch 77 = .ok (.iconst 1, 1) := by decide +kernel
theorem dX3_fetch_78 : decode cX3_fetch 78 = .ok (.iadd, 1) := by decide +kernel
theorem dX3_fetch_79 : decode cX3_fetch 79 = .ok (.istore 4, 2) := by decide +kernel
theorem dX3_fetch_81 : decode cX3_fetch 81 = .ok (.aload_n 0, 1) := by decide +kernel
theorem dX3_fetch_82 : decode cX3_fetch 82 = .ok (.getfield 19, 3) := by decide +kernel
theorem dX3_fetch_85 : decode cX3_fetch 85 = .ok (.bipush 60, 2) := by decide +kernel
theorem dX3_fetch_87 : decode cX3_fetch 87 = .ok (.iload 5, 2) := by decide +kernel
theorem dX3_fetch_89 : decode cX3_fetch 89 = .ok (.iadd, 1) := by decide +kernel
theorem dX3_fetch_90 : decode cX3_fetch 90 = .ok (.iconst 1, 1) := by decide +kernel
theorem dX3_fetch_91 : decode cX3_fetch 91 = .ok (.bastore, 1) := by decide +kernel
theorem dX3_fetch_92 : decode cX3_fetch 92 = .ok (.aload_n 0, 1) := by decide +kernel
theorem dX3_fetch_93 : decode cX3_fetch 93 = .ok (.iconst 0, 1) := by decide +kernel
theorem dX3_fetch_94 : decode cX3_fetch 94 = .ok (.iconst 1, 1) := by decide +kernel
theorem dX3_fetch_95 : decode cX3_fetch 95 = .ok (.iload 5, 2) := by decide +kernel
theorem dX3_fetch_97 : decode cX3_fetch 97 = .ok (.iload_n 3, 1) := by decide +kernel
theorem dX3_fetch_98 : decode cX3_fetch 98 = .ok (.invokevirtual 123, 3) := by decide +kernel
theorem dX3_fetch_101 : decode cX3_fetch 101 = .ok (.iinc 5 1, 3) := by decide +kernel
theorem dX3_fetch_104 : decode cX3_fetch 104 = .ok (.goto (-72), 3) := by decide +kernel
theorem dX3_fetch_107 : decode cX3_fetch 107 = .ok (.aload_n 0, 1) := by decide +kernel
theorem dX3_fetch_108 : decode cX3_fetch 108 = .ok (.getfield 26, 3) := by decide +kernel
theorem dX3_fetch_111 : decode cX3_fetch 111 = .ok (.iconst 4, 1) := by decide +kernel
theorem dX3_fetch_112 : decode cX3_fetch 112 = .ok (.iload_n 1, 1) := by decide +kernel
theorem dX3_fetch_113 : decode cX3_fetch 113 = .ok (.iadd, 1) := by decide +kernel
theorem dX3_fetch_114 : decode cX3_fetch 114 = .ok (.aload_n 0, 1) := by decide +kernel
theorem dX3_fetch_115 : decode cX3_fetch 115 = .ok (.getfield 26, 3) := by decide +kernel
theorem dX3_fetch_118 : decode cX3_fetch 118 = .ok (.iload_n 1, 1) := by decide +kernel
theorem dX3_fetch_119 : decode cX3_fetch 119 = .ok (.iaload, 1) := by decide +kernel
theorem dX3_fetch_120 : decode cX3_fetch 120 = .ok (.iastore, 1) := by decide +kernel
theorem dX3_fetch_121 : decode cX3_fetch 121 = .ok (.iload 4, 2) := by decide +kernel
theorem dX3_fetch_123 : decode cX3_fetch 123 = .ok (.ireturn, 1) := by decide +kernel
theorem dX3_bring_0 : decode cX3_bring 0 = .ok (.iconst 4, 1) := by decide +kernel
theorem dX3_bring_1 : decode cX3_bring 1 = .ok (.iload_n 3, 1) := by decide +kernel
theorem dX3_bring_2 : decode cX3_bring 2 = .ok (.imul, 1) := by decide +kernel
theorem dX3_bring_3 : decode cX3_bring 3 = .ok (.istore 5, 2) := by decide +kernel
theorem dX3_bring_5 : decode cX3_bring 5 = .ok (.iload 5, 2) := by decide +kernel
theorem dX3_bring_7 : decode cX3_bring 7 = .ok (.iconst 4, 1) := by decide +kernel
theorem dX3_bring_8 : decode cX3_bring 8 = .ok (.iload_n 3, 1) := by decide +kernel
theorem dX3_bring_9 : decode cX3_bring 9 = .ok (.imul, 1) := by decide +kernel
theorem dX3_bring_10 : decode cX3_bring 10 = .ok (.iconst 4, 1) := by decide +kernel
theorem dX3_bring_11 : decode cX3_bring 11 = .ok (.iadd, 1) := by decide +kernel
theorem dX3_bring_12 : decode cX3_bring 12 = .ok (.if_icmp .ge 63, 3) := by decide +kernel
theorem dX3_bring_15 : decode cX3_bring 15 = .ok (.iload 4, 2) := by decide +kernel
end
section
theorem dX3_bring_17 : decode cX3_bring 17 = .ok (.ifCond .eq 52, 3) := by decide +kernel
theorem dX3_bring_20 : decode cX3_bring 20 = .ok (.aload_n 0, 1) := by decide +kernel
theorem dX3_bring_21 : decode cX3_bring 21 = .ok (.getfield 16, 3) := by decide +kernel
theorem dX3_bring_24 : decode cX3_bring 24 = .ok (.iload 5, 2) := by decide +kernel
theorem dX3_bring_26 : decode cX3_bring 26 = .ok (.iaload, 1) := by decide +kernel
theorem dX3_bring_27 : decode cX3_bring 27 = .ok (.iconst (-1), 1) := by decide +kernel
theorem dX3_bring_28 : decode cX3_bring 28 = .ok (.if_icmp .eq 41, 3) := by decide +kernel
theorem dX3_bring_31 : decode cX3_bring 31 = .ok (.aload_n 0, 1) := by decide +kernel
theorem dX3_bring_32 : decode cX3_bring 32 = .ok (.getfield 23, 3) := by decide +kernel
theorem dX3_bring_35 : decode cX3_bring 35 = .ok (.bipush 100, 2) := by decide +kernel
theorem dX3_bring_37 : decode cX3_bring 37 = .ok (.iload_n 1, 1) := by decide +kernel
theorem dX3_bring_38 : decode cX3_bring 38 = .ok (.imul, 1) := by decide +kernel
theorem dX3_bring_39 : decode cX3_bring 39 = .ok (.aload_n 0, 1) := by decide +kernel
theorem dX3_bring_40 : decode cX3_bring 40 = .ok (.getfield 16, 3) := by decide +kernel
theorem dX3_bring_43 : decode cX3_bring 43 = .ok (.iload 5, 2) := by decide +kernel
theorem dX3_bring_45 : decode cX3_bring 45 = .ok (.iaload, 1) := by decide +kernel
theorem dX3_bring_46 : decode cX3_bring 46 = .ok (.iadd, 1) := by decide +kernel
theorem dX3_bring_47 : decode cX3_bring 47 = .ok (.baload, 1) := by decide +kernel
theorem dX3_bring_48 : decode cX3_bring 48 = .ok (.ifCond .eq 21, 3) := by decide +kernel
theorem dX3_bring_51 : decode cX3_bring 51 = .ok (.aload_n 0, 1) := by decide +kernel
theorem dX3_bring_52 : decode cX3_bring 52 = .ok (.getfield 23, 3) := by decide +kernel
theorem dX3_bring_55 : decode cX3_bring 55 = .ok (.bipush 100, 2) := by decide +kernel
theorem dX3_bring_57 : decode cX3_bring 57 = .ok (.iload_n 2, 1) := by decide +kernel
theorem dX3_bring_58 : decode cX3_bring 58 = .ok (.imul, 1) := by decide +kernel
theorem dX3_bring_59 : decode cX3_bring 59 = .ok (.aload_n 0, 1) := by decide +kernel
theorem dX3_bring_60 : decode cX3_bring 60 = .ok (.getfield 16, 3) := by decide +kernel
theorem dX3_bring_63 : decode cX3_bring 63 = .ok (.iload 5, 2) := by decide +kernel
theorem dX3_bring_65 : decode cX3_bring 65 = .ok (.iaload, 1) := by decide +kernel
theorem dX3_bring_66 : decode cX3_bring 66 = .ok (.iadd, 1) := by decide +kernel
theorem dX3_bring_67 : decode cX3_bring 67 = .ok (.iconst 1, 1) := by decide +kernel
theorem dX3_bring_68 : decode cX3_bring 68 = .ok (.bastore, 1) := by decide +kernel
theorem dX3_bring_69 : decode cX3_bring 69 = .ok (.iinc 5 1, 3) := by decide +kernel
theorem dX3_bring_72 : decode cX3_bring 72 = .ok (.goto (-67), 3) := by decide +kernel
theorem dX3_bring_75 : decode cX3_bring 75 = .ok (.return_, 1) := by decide +kernel
set_option maxRecDepth 20000 in
theorem ggX3_wouldFetch_X3_noFetch : GoodIn wsX3_wouldFetch wsX3_noFetch := goodIn_r _ [8, 1, 9, 10, 7, 11, 12, 13, 14, 15, 16, 17, 18, 19, 64, 65, 66, 67, 68, 69, 70, 71, 72, 73, 74, 75, 76, 77, 78, 79, 80, 81] (by decide +kernel) (by decide +kernel)
set_option maxRecDepth 20000 in
theorem gX3_wouldFetch_X3_noFetch : GoodIn wsX3_wouldFetch (wsV RX3 114 RX3 yX3_noFetch wsX3_noFetch) := goodIn_app (goodIn_of _ (by decide +kernel)) ggX3_wouldFetch_X3_noFetch
set_option maxRecDepth 20000 in
theorem ggX3_wouldFetch_X3_reach : GoodIn wsX3_wouldFetch wsX3_reach := goodIn_r _ [23, 24, 25, 26, 3, 27, 28, 29, 7, 30, 31, 32, 33, 34, 35, 36, 37, 38, 39, 40, 41, 42, 43, 44, 45, 46, 47, 2, 12, 13, 14, 48, 49, 50, 51, 52, 53, 54, 55, 56, 57, 58, 59, 60, 61, 62, 63, 64, 65, 66, 67, 68, 69, 70, 71, 72, 73, 74, 75, 76, 77, 78, 79, 80, 81] (by decide +kernel) (by decide +kernel)
set_option maxRecDepth 20000 in
theorem gX3_wouldFetch_X3_reach : GoodIn wsX3_wouldFetch (wsV RX3 120 RX3 yX3_reach wsX3_reach) := goodIn_app (goodIn_of _ (by decide +kernel)) ggX3_wouldFetch_X3_reach
set_option maxRecDepth 20000 in
theorem ggX3_wouldFetch_X3_isIn : GoodIn wsX3_wouldFetch wsX3_isIn := goodIn_r _ [42, 43, 44, 45, 46, 7, 47, 2, 12, 13, 14, 64, 65, 66, 67, 68, 69, 70, 71, 72, 73, 74, 75, 76, 77, 78, 79, 80, 81] (by decide +kernel) (by decide +kernel)
set_option maxRecDepth 20000 in
theorem gX3_wouldFetch_X3_isIn : GoodIn wsX3_wouldFetch (wsV RX3 68 RX3 yX3_isIn wsX3_isIn) := goodIn_app (goodIn_of _ (by decide +kernel)) ggX3_wouldFetch_X3_isIn
theorem dX3_wouldFetch_0 : decode cX3_wouldFetch 0 = .ok (.aload_n 0, 1) := by decide +kernel
theorem dX3_wouldFetch_1 : decode cX3_wouldFetch 1 = .ok (.iload_n 1, 1) := by decide +kernel
theorem dX3_wouldFetch_2 : decode cX3_wouldFetch 2 = .ok (.iload_n 2, 1) := by decide +kernel
theorem dX3_wouldFetch_3 : decode cX3_wouldFetch 3 = .ok (.invokevirtual 114, 3) := by decide +kernel
theorem dX3_wouldFetch_6 : decode cX3_wouldFetch 6 = .ok (.ifCond .eq 5, 3) := by decide +kernel
theorem dX3_wouldFetch_9 : decode cX3_wouldFetch 9 = .ok (.iconst 0, 1) := by decide +kernel
theorem dX3_wouldFetch_10 : decode cX3_wouldFetch 10 = .ok (.ireturn, 1) := by decide +kernel
theorem dX3_wouldFetch_11 : decode cX3_wouldFetch 11 = .ok (.aload_n 0, 1) := by decide +kernel
theorem dX3_wouldFetch_12 : decode cX3_wouldFetch 12 = .ok (.aload_n 0, 1) := by decide +kernel
theorem dX3_wouldFetch_13 : decode cX3_wouldFetch 13 = .ok (.getfield 26, 3) := by decide +kernel
theorem dX3_wouldFetch_16 : decode cX3_wouldFetch 16 = .ok (.iload_n 1, 1) := by decide +kernel
theorem dX3_wouldFetch_17 : decode cX3_wouldFetch 17 = .ok (.iaload, 1) := by decide +kernel
theorem dX3_wouldFetch_18 : decode cX3_wouldFetch 18 = .ok (.iload_n 2, 1) := by decide +kernel
theorem dX3_wouldFetch_19 : decode cX3_wouldFetch 19 = .ok (.invokevirtual 120, 3) := by decide +kernel
theorem dX3_wouldFetch_22 : decode cX3_wouldFetch 22 = .ok (.iconst 0, 1) := by decide +kernel
theorem dX3_wouldFetch_23 : decode cX3_wouldFetch 23 = .ok (.istore_n 3, 1) := by decide +kernel
theorem dX3_wouldFetch_24 : decode cX3_wouldFetch 24 = .ok (.iconst 0, 1) := by decide +kernel
theorem dX3_wouldFetch_25 : decode cX3_wouldFetch 25 = .ok (.istore 4, 2) := by decide +kernel
theorem dX3_wouldFetch_27 : decode cX3_wouldFetch 27 = .ok (.iload 4, 2) := by decide +kernel
theorem dX3_wouldFetch_29 : decode cX3_wouldFetch 29 = .ok (.aload_n 0, 1) := by decide +kernel
theorem dX3_wouldFetch_30 : decode cX3_wouldFetch 30 = .ok (.getfield 61, 3) := by decide +kernel
theorem dX3_wouldFetch_33 : decode cX3_wouldFetch 33 = .ok (.if_icmp .ge 37, 3) := by decide +kernel
theorem dX3_wouldFetch_36 : decode cX3_wouldFetch 36 = .ok (.iload_n 3, 1) := by decide +kernel
theorem dX3_wouldFetch_37 : decode cX3_wouldFetch 37 = .ok (.aload_n 0, 1) := by decide +kernel
theorem dX3_wouldFetch_38 : decode cX3_wouldFetch 38 = .ok (.getfield 41, 3) := by decide +kernel
theorem dX3_wouldFetch_41 : decode cX3_wouldFetch 41 = .ok (.iload 4, 2) := by decide +kernel
theorem dX3_wouldFetch_43 : decode cX3_wouldFetch 43 = .ok (.baload, 1) := by decide +kernel
theorem dX3_wouldFetch_44 : decode cX3_wouldFetch 44 = .ok (.ifCond .eq 17, 3) := by decide +kernel
theorem dX3_wouldFetch_47 : decode cX3_wouldFetch 47 = .ok (.aload_n 0, 1) := by decide +kernel
theorem dX3_wouldFetch_48 : decode cX3_wouldFetch 48 = .ok (.iconst 1, 1) := by decide +kernel
theorem dX3_wouldFetch_49 : decode cX3_wouldFetch 49 = .ok (.iload 4, 2) := by decide +kernel
theorem dX3_wouldFetch_51 : decode cX3_wouldFetch 51 = .ok (.invokevirtual 68, 3) := by decide +kernel
theorem dX3_wouldFetch_54 : decode cX3_wouldFetch 54 = .ok (.ifCond .ne 7, 3) := by decide +kernel
theorem dX3_wouldFetch_57 : decode cX3_wouldFetch 57 = .ok (.iconst 1, 1) := by decide +kernel
theorem dX3_wouldFetch_58 : decode cX3_wouldFetch 58 = .ok (.goto 4, 3) := by decide +kernel
theorem dX3_wouldFetch_61 : decode cX3_wouldFetch 61 = .ok (.iconst 0, 1) := by decide +kernel
theorem dX3_wouldFetch_62 : decode cX3_wouldFetch 62 = .ok (.iadd, 1) := by decide +kernel
theorem dX3_wouldFetch_63 : decode cX3_wouldFetch 63 = .ok (.istore_n 3, 1) := by decide +kernel
theorem dX3_wouldFetch_64 : decode cX3_wouldFetch 64 = .ok (.iinc 4 1, 3) := by decide +kernel
theorem dX3_wouldFetch_67 : decode cX3_wouldFetch 67 = .ok (.goto (-40), 3) := by decide +kernel
theorem dX3_wouldFetch_70 : decode cX3_wouldFetch 70 = .ok (.iload_n 3, 1) := by decide +kernel
theorem dX3_wouldFetch_71 : decode cX3_wouldFetch 71 = .ok (.ireturn, 1) := by decide +kernel
set_option maxRecDepth 20000 in
theorem ggX3_rounds_X3_fine : GoodIn wsX3_rounds wsX3_fine := goodIn_r _ [6, 7, 8, 9, 10, 11, 12, 13, 14, 15, 16, 17, 18, 19, 20, 21, 22, 23, 24, 25] (by decide +kernel) (by decide +kernel)
set_option maxRecDepth 20000 in
theorem gX3_rounds_X3_fine : GoodIn wsX3_rounds (wsV RX3 127 RX3 yX3_fine wsX3_fine) := goodIn_app (goodIn_of _ (by decide +kernel)) ggX3_rounds_X3_fine
theorem dX3_rounds_0 : decode cX3_rounds 0 = .ok (.aload_n 0, 1) := by decide +kernel
theorem dX3_rounds_1 : decode cX3_rounds 1 = .ok (.aload_n 0, 1) := by decide +kernel
theorem dX3_rounds_2 : decode cX3_rounds 2 = .ok (.getfield 101, 3) := by decide +kernel
theorem dX3_rounds_5 : decode cX3_rounds 5 = .ok (.invokevirtual 127, 3) := by decide +kernel
theorem dX3_rounds_8 : decode cX3_rounds 8 = .ok (.ireturn, 1) := by decide +kernel
set_option maxRecDepth 20000 in
theorem ggX3_load_X3_in : GoodIn wsX3_load wsX3_in := goodIn_r _ [5] (by decide +kernel) (by decide +kernel)
set_option maxRecDepth 20000 in
theorem gX3_load_X3_in : GoodIn wsX3_load (va_wsS RX3 57 yX3_in wsX3_in) := goodIn_app (goodIn_of _ (by decide +kernel)) ggX3_load_X3_in
set_option maxRecDepth 20000 in
theorem ggX3_load_X3_refused : GoodIn wsX3_load wsX3_refused := goodIn_r _ [9, 10, 11, 12, 13, 14, 15, 16, 17, 18, 19, 20, 21, 22, 23, 24, 25, 26, 27, 28] (by decide +kernel) (by decide +kernel)
set_option maxRecDepth 20000 in
theorem gX3_load_X3_refused : GoodIn wsX3_load (wsV RX3 78 RX3 yX3_refused wsX3_refused) := goodIn_app (goodIn_of _ (by decide +kernel)) ggX3_load_X3_refused
theorem dX3_load_0 : decode cX3_load 0 = .ok (.iload_n 1, 1) := by decide +kernel
theorem dX3_load_1 : decode cX3_load 1 = .ok (.iconst 0, 1) := by decide +kernel
theorem dX3_load_2 : decode cX3_load 2 = .ok (.bipush 99, 2) := by decide +kernel
theorem dX3_load_4 : decode cX3_load 4 = .ok (.invokestatic 57, 3) := by decide +kernel
theorem dX3_load_7 : decode cX3_load 7 = .ok (.istore_n 2, 1) := by decide +kernel
theorem dX3_load_8 : decode cX3_load 8 = .ok (.aload_n 0, 1) := by decide +kernel
theorem dX3_load_9 : decode cX3_load 9 = .ok (.iload_n 2, 1) := by decide +kernel
theorem dX3_load_10 : decode cX3_load 10 = .ok (.ifCond .ne 7, 3) := by decide +kernel
theorem dX3_load_13 : decode cX3_load 13 = .ok (.iconst 1, 1) := by decide +kernel
theorem dX3_load_14 : decode cX3_load 14 = .ok (.goto 17, 3) := by decide +kernel
theorem dX3_load_17 : decode cX3_load 17 = .ok (.aload_n 0, 1) := by decide +kernel
theorem dX3_load_18 : decode cX3_load 18 = .ok (.getfield 23, 3) := by decide +kernel
theorem dX3_load_21 : decode cX3_load 21 = .ok (.iload_n 1, 1) := by decide +kernel
theorem dX3_load_22 : decode cX3_load 22 = .ok (.baload, 1) := by decide +kernel
theorem dX3_load_23 : decode cX3_load 23 = .ok (.ifCond .eq 7, 3) := by decide +kernel
theorem dX3_load_26 : decode cX3_load 26 = .ok (.iconst 0, 1) := by decide +kernel
theorem dX3_load_27 : decode cX3_load 27 = .ok (.goto 4, 3) := by decide +kernel
theorem dX3_load_30 : decode cX3_load 30 = .ok (.iconst 2, 1) := by decide +kernel
theorem dX3_load_31 : decode cX3_load 31 = .ok (.invokevirtual 78, 3) := by decide +kernel
theorem dX3_load_34 : decode cX3_load 34 = .ok (.ifCond .eq 5, 3) := by decide +kernel
theorem dX3_load_37 : decode cX3_load 37 = .ok (.iconst 0, 1) := by decide +kernel
theorem dX3_load_38 : decode cX3_load 38 = .ok (.ireturn, 1) := by decide +kernel
theorem dX3_load_39 : decode cX3_load 39 = .ok (.aload_n 0, 1) := by decide +kernel
theorem dX3_load_40 : decode cX3_load 40 = .ok (.getfield 23, 3) := by decide +kernel
theorem dX3_load_43 : decode cX3_load 43 = .ok (.bipush 100, 2) := by decide +kernel
theorem dX3_load_45 : decode cX3_load 45 = .ok (.iload_n 1, 1) := by decide +kernel
theorem dX3_load_46 : decode cX3_load 46 = .ok (.iadd, 1) := by decide +kernel
theorem dX3_load_47 : decode cX3_load 47 = .ok (.baload, 1) := by decide +kernel
theorem dX3_load_48 : decode cX3_load 48 = .ok (.istore_n 3, 1) := by decide +kernel
theorem dX3_load_49 : decode cX3_load 49 = .ok (.aload_n 0, 1) := by decide +kernel
theorem dX3_load_50 : decode cX3_load 50 = .ok (.getfield 23, 3) := by decide +kernel
theorem dX3_load_53 : decode cX3_load 53 = .ok (.bipush 100, 2) := by decide +kernel
theorem dX3_load_55 : decode cX3_load 55 = .ok (.iload_n 1, 1) := by decide +kernel
theorem dX3_load_56 : decode cX3_load 56 = .ok (.iadd, 1) := by decide +kernel
theorem dX3_load_57 : decode cX3_load 57 = .ok (.iconst 1, 1) := by decide +kernel
theorem dX3_load_58 : decode cX3_load 58 = .ok (.bastore, 1) := by decide +kernel
theorem dX3_load_59 : decode cX3_load 59 = .ok (.iload_n 3, 1) := by decide +kernel
theorem dX3_load_60 : decode cX3_load 60 = .ok (.ifCond .ne 7, 3) := by decide +kernel
theorem dX3_load_63 : decode cX3_load 63 = .ok (.iconst 1, 1) := by decide +kernel
theorem dX3_load_64 : decode cX3_load 64 = .ok (.goto 4, 3) := by decide +kernel
theorem dX3_load_67 : decode cX3_load 67 = .ok (.iconst 0, 1) := by decide +kernel
theorem dX3_load_68 : decode cX3_load 68 = .ok (.ireturn, 1) := by decide +kernel
set_option maxRecDepth 20000 in
theorem ggX3_isNeeded_X3_isIn : GoodIn wsX3_isNeeded wsX3_isIn := goodIn_r _ [7, 8, 9, 10, 11, 6, 12, 1, 13, 14, 15, 16, 17, 18, 19, 20, 21, 22, 23, 24, 25, 26, 27, 28, 29, 30, 31, 32, 33] (by decide +kernel) (by decide +kernel)
set_option maxRecDepth 20000 in
theorem gX3_isNeeded_X3_isIn : GoodIn wsX3_isNeeded (wsV RX3 68 RX3 yX3_isIn wsX3_isIn) := goodIn_app (goodIn_of _ (by decide +kernel)) ggX3_isNeeded_X3_isIn
theorem dX3_isNeeded_0 : decode cX3_isNeeded 0 = .ok (.iconst 0, 1) := by decide +kernel
theorem dX3_isNeeded_1 : decode cX3_isNeeded 1 = .ok (.istore_n 3, 1) := by decide +kernel
theorem dX3_isNeeded_2 : decode cX3_isNeeded 2 = .ok (.iconst 0, 1) := by decide +kernel
theorem dX3_isNeeded_3 : decode cX3_isNeeded 3 = .ok (.istore 4, 2) := by decide +kernel
theorem dX3_isNeeded_5 : decode cX3_isNeeded 5 = .ok (.iload 4, 2) := by decide +kernel
theorem dX3_isNeeded_7 : decode cX3_isNeeded 7 = .ok (.iconst 4, 1) := by decide +kernel
theorem dX3_isNeeded_8 : decode cX3_isNeeded 8 = .ok (.aload_n 0, 1) := by decide +kernel
theorem dX3_isNeeded_9 : decode cX3_isNeeded 9 = .ok (.getfield 61, 3) := by decide +kernel
theorem dX3_isNeeded_12 : decode cX3_isNeeded 12 = .ok (.imul, 1) := by decide +kernel
theorem dX3_isNeeded_13 : decode cX3_isNeeded 13 = .ok (.if_icmp .ge 42, 3) := by decide +kernel
theorem dX3_isNeeded_16 : decode cX3_isNeeded 16 = .ok (.iload_n 3, 1) := by decide +kernel
theorem dX3_isNeeded_17 : decode cX3_isNeeded 17 = .ok (.ifCond .ne 26, 3) := by decide +kernel
theorem dX3_isNeeded_20 : decode cX3_isNeeded 20 = .ok (.aload_n 0, 1) := by decide +kernel
theorem dX3_isNeeded_21 : decode cX3_isNeeded 21 = .ok (.getfield 16, 3) := by decide +kernel
theorem dX3_isNeeded_24 : decode cX3_isNeeded 24 = .ok (.iload 4, 2) := by decide +kernel
theorem dX3_isNeeded_26 : decode cX3_isNeeded 26 = .ok (.iaload, 1) := by decide +kernel
theorem dX3_isNeeded_27 : decode cX3_isNeeded 27 = .ok (.iload_n 2, 1) := by decide +kernel
theorem dX3_isNeeded_28 : decode cX3_isNeeded 28 = .ok (.if_icmp .ne 19, 3) := by decide +kernel
theorem dX3_isNeeded_31 : decode cX3_isNeeded 31 = .ok (.aload_n 0, 1) := by decide +kernel
theorem dX3_isNeeded_32 : decode cX3_isNeeded 32 = .ok (.iload_n 1, 1) := by decide +kernel
theorem dX3_isNeeded_33 : decode cX3_isNeeded 33 = .ok (.iload 4, 2) := by decide +kernel
theorem dX3_isNeeded_35 : decode cX3_isNeeded 35 = .ok (.iconst 4, 1) := by decide +kernel
theorem dX3_isNeeded_36 : decode cX3_isNeeded 36 = .ok (.idiv, 1) := by decide +kernel
theorem dX3_isNeeded_37 : decode cX3_isNeeded 37 = .ok (.invokevirtual 68, 3) := by decide +kernel
theorem dX3_isNeeded_40 : decode cX3_isNeeded 40 = .ok (.ifCond .eq 7, 3) := by decide +kernel
theorem dX3_isNeeded_43 : decode cX3_isNeeded 43 = .ok (.iconst 1, 1) := by decide +kernel
theorem dX3_isNeeded_44 : decode cX3_isNeeded 44 = .ok (.goto 4, 3) := by decide +kernel
theorem dX3_isNeeded_47 : decode cX3_isNeeded 47 = .ok (.iconst 0, 1) := by decide +kernel
theorem dX3_isNeeded_48 : decode cX3_isNeeded 48 = .ok (.istore_n 3, 1) := by decide +kernel
theorem dX3_isNeeded_49 : decode cX3_isNeeded 49 = .ok (.iinc 4 1, 3) := by decide +kernel
theorem dX3_isNeeded_52 : decode cX3_isNeeded 52 = .ok (.goto (-47), 3) := by decide +kernel
theorem dX3_isNeeded_55 : decode cX3_isNeeded 55 = .ok (.iload_n 3, 1) := by decide +kernel
theorem dX3_isNeeded_56 : decode cX3_isNeeded 56 = .ok (.ireturn, 1) := by decide +kernel
set_option maxRecDepth 20000 in
theorem ggX3_missing_X3_isNeeded : GoodIn wsX3_missing wsX3_isNeeded := goodIn_r _ [6, 7, 8, 9, 10, 11, 5, 12, 13, 14, 15, 16, 17, 18, 19, 20, 26, 27, 28, 29, 30, 31, 32, 33, 34, 35, 36, 37, 38, 39, 40, 41, 42, 43] (by decide +kernel) (by decide +kernel)
set_option maxRecDepth 20000 in
theorem gX3_missing_X3_isNeeded : GoodIn wsX3_missing (wsV RX3 131 RX3 yX3_isNeeded wsX3_isNeeded) := goodIn_app (goodIn_of _ (by decide +kernel)) ggX3_missing_X3_isNeeded
set_option maxRecDepth 20000 in
theorem ggX3_missing_X3_fine : GoodIn wsX3_missing wsX3_fine := goodIn_r _ [24, 25, 26, 27, 28, 29, 30, 31, 32, 33, 34, 35, 36, 37, 38, 39, 40, 41, 42, 43] (by decide +kernel) (by decide +kernel)
set_option maxRecDepth 20000 in
theorem gX3_missing_X3_fine : GoodIn wsX3_missing (wsV RX3 127 RX3 yX3_fine wsX3_fine) := goodIn_app (goodIn_of _ (by decide +kernel)) ggX3_missing_X3_fine
theorem dX3_missing_0 : decode cX3_missing 0 = .ok (.iconst 0, 1) := by decide +kernel
theorem dX3_missing_1 : decode cX3_missing 1 = .ok (.istore_n 1, 1) := by decide +kernel
theorem dX3_missing_2 : decode cX3_missing 2 = .ok (.iconst 0, 1) := by decide +kernel
theorem dX3_missing_3 : decode cX3_missing 3 = .ok (.istore_n 2, 1) := by decide +kernel
theorem dX3_missing_4 : decode cX3_missing 4 = .ok (.iload_n 2, 1) := by decide +kernel
theorem dX3_missing_5 : decode cX3_missing 5 = .ok (.bipush 100, 2) := by decide +kernel
theorem dX3_missing_7 : decode cX3_missing 7 = .ok (.if_icmp .ge 38, 3) := by decide +kernel
theorem dX3_missing_10 : decode cX3_missing 10 = .ok (.iload_n 1, 1) := by decide +kernel
theorem dX3_missing_11 : decode cX3_missing 11 = .ok (.aload_n 0, 1) := by decide +kernel
theorem dX3_missing_12 : decode cX3_missing 12 = .ok (.getfield 23, 3) := by decide +kernel
theorem dX3_missing_15 : decode cX3_missing 15 = .ok (.bipush 100, 2) := by decide +kernel
theorem dX3_missing_17 : decode cX3_missing 17 = .ok (.iload_n 2, 1) := by decide +kernel
theorem dX3_missing_18 : decode cX3_missing 18 = .ok (.iadd, 1) := by decide +kernel
theorem dX3_missing_19 : decode cX3_missing 19 = .ok (.baload, 1) := by decide +kernel
theorem dX3_missing_20 : decode cX3_missing 20 = .ok (.ifCond .ne 16, 3) := by decide +kernel
theorem dX3_missing_23 : decode cX3_missing 23 = .ok (.aload_n 0, 1) := by decide +kernel
theorem dX3_missing_24 : decode cX3_missing 24 = .ok (.iconst 1, 1) := by decide +kernel
theorem dX3_missing_25 : decode cX3_missing 25 = .ok (.iload_n 2, 1) := by decide +kernel
theorem dX3_missing_26 : decode cX3_missing 26 = .ok (.invokevirtual 131, 3) := by decide +kernel
theorem dX3_missing_29 : decode cX3_missing 29 = .ok (.ifCond .eq 7, 3) := by decide +kernel
theorem dX3_missing_32 : decode cX3_missing 32 = .ok (.iconst 1, 1) := by decide +kernel
theorem dX3_missing_33 : decode cX3_missing 33 = .ok (.goto 4, 3) := by decide +kernel
theorem dX3_missing_36 : decode cX3_missing 36 = .ok (.iconst 0, 1) := by decide +kernel
theorem dX3_missing_37 : decode cX3_missing 37 = .ok (.iadd, 1) := by decide +kernel
theorem dX3_missing_38 : decode cX3_missing 38 = .ok (.istore_n 1, 1) := by decide +kernel
theorem dX3_missing_39 : decode cX3_missing 39 = .ok (.iinc 2 1, 3) := by decide +kernel
theorem dX3_missing_42 : decode cX3_missing 42 = .ok (.goto (-38), 3) := by decide +kernel
theorem dX3_missing_45 : decode cX3_missing 45 = .ok (.aload_n 0, 1) := by decide +kernel
theorem dX3_missing_46 : decode cX3_missing 46 = .ok (.iload_n 1, 1) := by decide +kernel
theorem dX3_missing_47 : decode cX3_missing 47 = .ok (.invokevirtual 127, 3) := by decide +kernel
theorem dX3_missing_50 : decode cX3_missing 50 = .ok (.ireturn, 1) := by decide +kernel
set_option maxRecDepth 20000 in
theorem ggX3_protect_X3_isRef : GoodIn wsX3_protect wsX3_isRef := goodIn_r _ [5, 6, 7, 4, 8] (by decide +kernel) (by decide +kernel)
set_option maxRecDepth 20000 in
theorem gX3_protect_X3_isRef : GoodIn wsX3_protect (va_wsS RX3 81 yX3_isRef wsX3_isRef) := goodIn_app (goodIn_of _ (by decide +kernel)) ggX3_protect_X3_isRef
set_option maxRecDepth 20000 in
theorem ggX3_protect_X3_refused : GoodIn wsX3_protect wsX3_refused := goodIn_r _ [12, 13, 14, 15, 16, 17, 18, 19, 20, 21, 22, 23, 24, 25, 26, 27, 28, 29, 30, 31] (by decide +kernel) (by decide +kernel)
set_option maxRecDepth 20000 in
theorem gX3_protect_X3_refused : GoodIn wsX3_protect (wsV RX3 78 RX3 yX3_refused wsX3_refused) := goodIn_app (goodIn_of _ (by decide +kernel)) ggX3_protect_X3_refused
theorem dX3_protect_0 : decode cX3_protect 0 = .ok (.aload_n 0, 1) := by decide +kernel
theorem dX3_protect_1 : decode cX3_protect 1 = .ok (.iload_n 1, 1) := by decide +kernel
theorem dX3_protect_2 : decode cX3_protect 2 = .ok (.invokestatic 81, 3) := by decide +kernel
theorem dX3_protect_5 : decode cX3_protect 5 = .ok (.ifCond .eq 7, 3) := by decide +kernel
theorem dX3_protect_8 : decode cX3_protect 8 = .ok (.iconst 0, 1) := by decide +kernel
theorem dX3_protect_9 : decode cX3_protect 9 = .ok (.goto 4, 3) := by decide +kernel
theorem dX3_protect_12 : decode cX3_protect 12 = .ok (.iconst 1, 1) := by decide +kernel
theorem dX3_protect_13 : decode cX3_protect 13 = .ok (.invokevirtual 78, 3) := by decide +kernel
theorem dX3_protect_16 : decode cX3_protect 16 = .ok (.ifCond .eq 5, 3) := by decide +kernel
theorem dX3_protect_19 : decode cX3_protect 19 = .ok (.iconst 0, 1) := by decide +kernel
theorem dX3_protect_20 : decode cX3_protect 20 = .ok (.ireturn, 1) := by decide +kernel
theorem dX3_protect_21 : decode cX3_protect 21 = .ok (.aload_n 0, 1) := by decide +kernel
theorem dX3_protect_22 : decode cX3_protect 22 = .ok (.getfield 29, 3) := by decide +kernel
theorem dX3_protect_25 : decode cX3_protect 25 = .ok (.iload_n 1, 1) := by decide +kernel
theorem dX3_protect_26 : decode cX3_protect 26 = .ok (.baload, 1) := by decide +kernel
theorem dX3_protect_27 : decode cX3_protect 27 = .ok (.iload_n 2, 1) := by decide +kernel
theorem dX3_protect_28 : decode cX3_protect 28 = .ok (.if_icmp .eq 7, 3) := by decide +kernel
theorem dX3_protect_31 : decode cX3_protect 31 = .ok (.iconst 1, 1) := by decide +kernel
theorem dX3_protect_32 : decode cX3_protect 32 = .ok (.goto 4, 3) := by decide +kernel
theorem dX3_protect_35 : decode cX3_protect 35 = .ok (.iconst 0, 1) := by decide +kernel
theorem dX3_protect_36 : decode cX3_protect 36 = .ok (.istore_n 3, 1) := by decide +kernel
theorem dX3_protect_37 : decode cX3_protect 37 = .ok (.aload_n 0, 1) := by decide +kernel
theorem dX3_protect_38 : decode cX3_protect 38 = .ok (.getfield 29, 3) := by decide +kernel
theorem dX3_protect_41 : decode cX3_protect 41 = .ok (.iload_n 1, 1) := by decide +kernel
theorem dX3_protect_42 : decode cX3_protect 42 = .ok (.iload_n 2, 1) := by decide +kernel
theorem dX3_protect_43 : decode cX3_protect 43 = .ok (.bastore, 1) := by decide +kernel
theorem dX3_protect_44 : decode cX3_protect 44 = .ok (.iload_n 3, 1) := by decide +kernel
theorem dX3_protect_45 : decode cX3_protect 45 = .ok (.ireturn, 1) := by decide +kernel
set_option maxRecDepth 20000 in
theorem ggX3_move_X3_isRef : GoodIn wsX3_move wsX3_isRef := goodIn_r _ [8, 9, 10, 7, 11] (by decide +kernel) (by decide +kernel)
set_option maxRecDepth 20000 in
theorem gX3_move_X3_isRef : GoodIn wsX3_move (va_wsS RX3 81 yX3_isRef wsX3_isRef) := goodIn_app (goodIn_of _ (by decide +kernel)) ggX3_move_X3_isRef
set_option maxRecDepth 20000 in
theorem ggX3_move_X3_isCommitOrNone : GoodIn wsX3_move wsX3_isCommitOrNone := goodIn_r _ [15, 16, 17, 18, 7, 19, 20, 9, 10, 11, 26, 27, 28, 29, 30, 31, 32, 33, 34, 35, 36, 37, 38, 39, 40, 41, 42, 43] (by decide +kernel) (by decide +kernel)
set_option maxRecDepth 20000 in
theorem gX3_move_X3_isCommitOrNone : GoodIn wsX3_move (wsV RX3 134 RX3 yX3_isCommitOrNone wsX3_isCommitOrNone) := goodIn_app (goodIn_of _ (by decide +kernel)) ggX3_move_X3_isCommitOrNone
set_option maxRecDepth 20000 in
theorem ggX3_move_X3_refused : GoodIn wsX3_move wsX3_refused := goodIn_r _ [24, 25, 26, 27, 28, 29, 30, 31, 32, 33, 34, 35, 36, 37, 38, 39, 40, 41, 42, 43] (by decide +kernel) (by decide +kernel)
set_option maxRecDepth 20000 in
theorem gX3_move_X3_refused : GoodIn wsX3_move (wsV RX3 78 RX3 yX3_refused wsX3_refused) := goodIn_app (goodIn_of _ (by decide +kernel)) ggX3_move_X3_refused
theorem dX3_move_0 : decode cX3_move 0 = .ok (.iload_n 1, 1) := by decide +kernel
theorem dX3_move_1 : decode cX3_move 1 = .ok (.invokestatic 81, 3) := by decide +kernel
theorem dX3_move_4 : decode cX3_move 4 = .ok (.ifCond .eq 23, 3) := by decide +kernel
theorem dX3_move_7 : decode cX3_move 7 = .ok (.aload_n 0, 1) := by decide +kernel
theorem dX3_move_8 : decode cX3_move 8 = .ok (.iload_n 2, 1) := by decide +kernel
theorem dX3_move_9 : decode cX3_move 9 = .ok (.invokevirtual 134, 3) := by decide +kernel
theorem dX3_move_12 : decode cX3_move 12 = .ok (.ifCond .eq 15, 3) := by decide +kernel
theorem dX3_move_15 : decode cX3_move 15 = .ok (.aload_n 0, 1) := by decide +kernel
theorem dX3_move_16 : decode cX3_move 16 = .ok (.iload_n 3, 1) := by decide +kernel
theorem dX3_move_17 : decode cX3_move 17 = .ok (.invokevirtual 134, 3) := by decide +kernel
theorem dX3_move_20 : decode cX3_move 20 = .ok (.ifCond .eq 7, 3) := by decide +kernel
theorem dX3_move_23 : decode cX3_move 23 = .ok (.iconst 1, 1) := by decide +kernel
theorem dX3_move_24 : decode cX3_move 24 = .ok (.goto 4, 3) := by decide +kernel
theorem dX3_move_27 : decode cX3_move 27 = .ok (.iconst 0, 1) := by decide +kernel
theorem dX3_move_28 : decode cX3_move 28 = .ok (.istore 4, 2) := by decide +kernel
theorem dX3_move_30 : decode cX3_move 30 = .ok (.aload_n 0, 1) := by decide +kernel
theorem dX3_move_31 : decode cX3_move 31 = .ok (.iload 4, 2) := by decide +kernel
theorem dX3_move_33 : decode cX3_move 33 = .ok (.ifCond .ne 7, 3) := by decide +kernel
theorem dX3_move_36 : decode cX3_move 36 = .ok (.iconst 1, 1) := by decide +kernel
theorem dX3_move_37 : decode cX3_move 37 = .ok (.goto 16, 3) := by decide +kernel
theorem dX3_move_40 : decode cX3_move 40 = .ok (.aload_n 0, 1) := by decide +kernel
theorem dX3_move_41 : decode cX3_move 41 = .ok (.getfield 137, 3) := by decide +kernel
theorem dX3_move_44 : decode cX3_move 44 = .ok (.iconst 3, 1) := by decide +kernel
theorem dX3_move_45 : decode cX3_move 45 = .ok (.if_icmp .ne 7, 3) := by decide +kernel
theorem dX3_move_48 : decode cX3_move 48 = .ok (.iconst 2, 1) := by decide +kernel
theorem dX3_move_49 : decode cX3_move 49 = .ok (.goto 4, 3) := by decide +kernel
theorem dX3_move_52 : decode cX3_move 52 = .ok (.iconst 0, 1) := by decide +kernel
theorem dX3_move_53 : decode cX3_move 53 = .ok (.invokevirtual 78, 3) := by decide +kernel
theorem dX3_move_56 : decode cX3_move 56 = .ok (.ifCond .eq 5, 3) := by decide +kernel
theorem dX3_move_59 : decode cX3_move 59 = .ok (.iconst 0, 1) := by decide +kernel
theorem dX3_move_60 : decode cX3_move 60 = .ok (.ireturn, 1) := by decide +kernel
theorem dX3_move_61 : decode cX3_move 61 = .ok (.aload_n 0, 1) := by decide +kernel
theorem dX3_move_62 : decode cX3_move 62 = .ok (.getfield 32, 3) := by decide +kernel
theorem dX3_move_65 : decode cX3_move 65 = .ok (.aload_n 0, 1) := by decide +kernel
theorem dX3_move_66 : decode cX3_move 66 = .ok (.getfield 137, 3) := by decide +kernel
theorem dX3_move_69 : decode cX3_move 69 = .ok (.iload_n 1, 1) := by decide +kernel
theorem dX3_move_70 : decode cX3_move 70 = .ok (.iastore, 1) := by decide +kernel
theorem dX3_move_71 : decode cX3_move 71 = .ok (.aload_n 0, 1) := by decide +kernel
theorem dX3_move_72 : decode cX3_move 72 = .ok (.getfield 35, 3) := by decide +kernel
theorem dX3_move_75 : decode cX3_move 75 = .ok (.aload_n 0, 1) := by decide +kernel
theorem dX3_move_76 : decode cX3_move 76 = .ok (.getfield 137, 3) := by decide +kernel
theorem dX3_move_79 : decode cX3_move 79 = .ok (.iload_n 2, 1) := by decide +kernel
theorem dX3_move_80 : decode cX3_move 80 = .ok (.iastore, 1) := by decide +kernel
theorem dX3_move_81 : decode cX3_move 81 = .ok (.aload_n 0, 1) := by decide +kernel
theorem dX3_move_82 : decode cX3_move 82 = .ok (.getfield 38, 3) := by decide +kernel
theorem dX3_move_85 : decode cX3_move 85 = .ok (.aload_n 0, 1) := by decide +kernel
theorem dX3_move_86 : decode cX3_move 86 = .ok (.getfield 137, 3) := by decide +kernel
theorem dX3_move_89 : decode cX3_move 89 = .ok (.iload_n 3, 1) := by decide +kernel
theorem dX3_move_90 : decode cX3_move 90 = .ok (.iastore, 1) := by decide +kernel
theorem dX3_move_91 : decode cX3_move 91 = .ok (.aload_n 0, 1) := by decide +kernel
theorem dX3_move_92 : decode cX3_move 92 = .ok (.dup, 1) := by decide +kernel
theorem dX3_move_93 : decode cX3_move 93 = .ok (.getfield 137, 3) := by decide +kernel
theorem dX3_move_96 : decode cX3_move 96 = .ok (.iconst 1, 1) := by decide +kernel
theorem dX3_move_97 : decode cX3_move 97 = .ok (.iadd, 1) := by decide +kernel
theorem dX3_move_98 : decode cX3_move 98 = .ok (.putfield 137, 3) := by decide +kernel
theorem dX3_move_101 : decode cX3_move 101 = .ok (.aload_n 0, 1) := by decide +kernel
theorem dX3_move_102 : decode cX3_move 102 = .ok (.getfield 137, 3) := by decide +kernel
theorem dX3_move_105 : decode cX3_move 105 = .ok (.ireturn, 1) := by decide +kernel
set_option maxRecDepth 20000 in
theorem ggX3_barred_X3_markFrom : GoodIn wsX3_barred wsX3_markFrom := goodIn_r _ [12, 13, 14, 15, 11, 16, 6, 17, 18, 19, 20, 21, 22, 23, 24, 25, 26, 27, 28, 29, 7, 30, 31, 32, 33, 34, 35, 36, 37, 38, 39, 40, 41, 42, 43, 44, 45, 46, 47, 48, 49, 50, 51, 52, 53, 54, 55, 56, 57, 58, 59, 60, 61, 62, 63, 64] (by decide +kernel) (by decide +kernel)
set_option maxRecDepth 20000 in
theorem gX3_barred_X3_markFrom : GoodIn wsX3_barred (wsV RX3 108 RX3 yX3_markFrom wsX3_markFrom) := goodIn_app (goodIn_of _ (by decide +kernel)) ggX3_barred_X3_markFrom
set_option maxRecDepth 20000 in
theorem ggX3_barred_X3_isIn : GoodIn wsX3_barred wsX3_isIn := goodIn_r _ [24, 25, 26, 27, 28, 11, 29, 7, 30, 31, 32, 47, 48, 49, 50, 51, 52, 53, 54, 55, 56, 57, 58, 59, 60, 61, 62, 63, 64] (by decide +kernel) (by decide +kernel)
set_option maxRecDepth 20000 in
theorem gX3_barred_X3_isIn : GoodIn wsX3_barred (wsV RX3 68 RX3 yX3_isIn wsX3_isIn) := goodIn_app (goodIn_of _ (by decide +kernel)) ggX3_barred_X3_isIn
set_option maxRecDepth 20000 in
theorem ggX3_barred_X3_shallow : GoodIn wsX3_barred wsX3_shallow := goodIn_r _ [42, 21, 22, 23, 11, 24, 25, 26, 27, 28, 29, 7, 30, 31, 32, 43, 44, 45, 46, 37, 38, 47, 48, 49, 50, 51, 52, 53, 54, 55, 56, 57, 58, 59, 60, 61, 62, 63, 64] (by decide +kernel) (by decide +kernel)
set_option maxRecDepth 20000 in
theorem gX3_barred_X3_shallow : GoodIn wsX3_barred (wsV RX3 87 RX3 yX3_shallow wsX3_shallow) := goodIn_app (goodIn_of _ (by decide +kernel)) ggX3_barred_X3_shallow
theorem dX3_barred_0 : decode cX3_barred 0 = .ok (.aload_n 0, 1) := by decide +kernel
theorem dX3_barred_1 : decode cX3_barred 1 = .ok (.getfield 35, 3) := by decide +kernel
theorem dX3_barred_4 : decode cX3_barred 4 = .ok (.iload_n 1, 1) := by decide +kernel
theorem dX3_barred_5 : decode cX3_barred 5 = .ok (.iaload, 1) := by decide +kernel
theorem dX3_barred_6 : decode cX3_barred 6 = .ok (.istore_n 2, 1) := by decide +kernel
theorem dX3_barred_7 : decode cX3_barred 7 = .ok (.aload_n 0, 1) := by decide +kernel
theorem dX3_barred_8 : decode cX3_barred 8 = .ok (.getfield 38, 3) := by decide +kernel
theorem dX3_barred_11 : decode cX3_barred 11 = .ok (.iload_n 1, 1) := by decide +kernel
theorem dX3_barred_12 : decode cX3_barred 12 = .ok (.iaload, 1) := by decide +kernel
theorem dX3_barred_13 : decode cX3_barred 13 = .ok (.istore_n 3, 1) := by decide +kernel
theorem dX3_barred_14 : decode cX3_barred 14 = .ok (.aload_n 0, 1) := by decide +kernel
theorem dX3_barred_15 : decode cX3_barred 15 = .ok (.getfield 26, 3) := by decide +kernel
theorem dX3_barred_18 : decode cX3_barred 18 = .ok (.aload_n 0, 1) := by decide +kernel
theorem dX3_barred_19 : decode cX3_barred 19 = .ok (.getfield 32, 3) := by decide +kernel
theorem dX3_barred_22 : decode cX3_barred 22 = .ok (.iload_n 1, 1) := by decide +kernel
theorem dX3_barred_23 : decode cX3_barred 23 = .ok (.iaload, 1) := by decide +kernel
theorem dX3_barred_24 : decode cX3_barred 24 = .ok (.iaload, 1) := by decide +kernel
theorem dX3_barred_25 : decode cX3_barred 25 = .ok (.iload_n 2, 1) := by decide +kernel
theorem dX3_barred_26 : decode cX3_barred 26 = .ok (.if_icmp .eq 6, 3) := by decide +kernel
theorem dX3_barred_29 : decode cX3_barred 29 = .ok (.bipush (-2), 2) := by decide +kernel
theorem dX3_barred_31 : decode cX3_barred 31 = .ok (.ireturn, 1) := by decide +kernel
theorem dX3_barred_32 : decode cX3_barred 32 = .ok (.aload_n 0, 1) := by decide +kernel
theorem dX3_barred_33 : decode cX3_barred 33 = .ok (.iconst 1, 1) := by decide +kernel
theorem dX3_barred_34 : decode cX3_barred 34 = .ok (.iload_n 3, 1) := by decide +kernel
theorem dX3_barred_35 : decode cX3_barred 35 = .ok (.invokevirtual 108, 3) := by decide +kernel
theorem dX3_barred_38 : decode cX3_barred 38 = .ok (.aload_n 0, 1) := by decide +kernel
theorem dX3_barred_39 : decode cX3_barred 39 = .ok (.getfield 29, 3) := by decide +kernel
theorem dX3_barred_42 : decode cX3_barred 42 = .ok (.aload_n 0, 1) := by decide +kernel
theorem dX3_barred_43 : decode cX3_barred 43 = .ok (.getfield 32, 3) := by decide +kernel
theorem dX3_barred_46 : decode cX3_barred 46 = .ok (.iload_n 1, 1) := by decide +kernel
theorem dX3_barred_47 : decode cX3_barred 47 = .ok (.iaload, 1) := by decide +kernel
theorem dX3_barred_48 : decode cX3_barred 48 = .ok (.baload, 1) := by decide +kernel
theorem dX3_barred_49 : decode cX3_barred 49 = .ok (.ifCond .eq 20, 3) := by decide +kernel
theorem dX3_barred_52 : decode cX3_barred 52 = .ok (.iload_n 2, 1) := by decide +kernel
theorem dX3_barred_53 : decode cX3_barred 53 = .ok (.iconst (-1), 1) := by decide +kernel
theorem dX3_barred_54 : decode cX3_barred 54 = .ok (.if_icmp .eq 15, 3) := by decide +kernel
theorem dX3_barred_57 : decode cX3_barred 57 = .ok (.aload_n 0, 1) := by decide +kernel
theorem dX3_barred_58 : decode cX3_barred 58 = .ok (.getfield 41, 3) := by decide +kernel
theorem dX3_barred_61 : decode cX3_barred 61 = .ok (.iload_n 2, 1) := by decide +kernel
theorem dX3_barred_62 : decode cX3_barred 62 = .ok (.baload, 1) := by decide +kernel
theorem dX3_barred_63 : decode cX3_barred 63 = .ok (.ifCond .ne 6, 3) := by decide +kernel
theorem dX3_barred_66 : decode cX3_barred 66 = .ok (.bipush (-3), 2) := by decide +kernel
theorem dX3_barred_68 : decode cX3_barred 68 = .ok (.ireturn, 1) := by decide +kernel
theorem dX3_barred_69 : decode cX3_barred 69 = .ok (.iload_n 3, 1) := by decide +kernel
theorem dX3_barred_70 : decode cX3_barred 70 = .ok (.iconst (-1), 1) := by decide +kernel
theorem dX3_barred_71 : decode cX3_barred 71 = .ok (.if_icmp .eq 16, 3) := by decide +kernel
theorem dX3_barred_74 : decode cX3_barred 74 = .ok (.aload_n 0, 1) := by decide +kernel
theorem dX3_barred_75 : decode cX3_barred 75 = .ok (.iconst 1, 1) := by decide +kernel
theorem dX3_barred_76 : decode cX3_barred 76 = .ok (.iload_n 3, 1) := by decide +kernel
theorem dX3_barred_77 : decode cX3_barred 77 = .ok (.invokevirtual 68, 3) := by decide +kernel
theorem dX3_barred_80 : decode cX3_barred 80 = .ok (.ifCond .ne 7, 3) := by decide +kernel
theorem dX3_barred_83 : decode cX3_barred 83 = .ok (.iconst 1, 1) := by decide +kernel
theorem dX3_barred_84 : decode cX3_barred 84 = .ok (.goto 4, 3) := by decide +kernel
theorem dX3_barred_87 : decode cX3_barred 87 = .ok (.iconst 0, 1) := by decide +kernel
theorem dX3_barred_88 : decode cX3_barred 88 = .ok (.istore 4, 2) := by decide +kernel
theorem dX3_barred_90 : decode cX3_barred 90 = .ok (.iconst 0, 1) := by decide +kernel
theorem dX3_barred_91 : decode cX3_barred 91 = .ok (.istore 5, 2) := by decide +kernel
theorem dX3_barred_93 : decode cX3_barred 93 = .ok (.iload 5, 2) := by decide +kernel
theorem dX3_barred_95 : decode cX3_barred 95 = .ok (.aload_n 0, 1) := by decide +kernel
theorem dX3_barred_96 : decode cX3_barred 96 = .ok (.getfield 61, 3) := by decide +kernel
theorem dX3_barred_99 : decode cX3_barred 99 = .ok (.if_icmp .ge 50, 3) := by decide +kernel
theorem dX3_barred_102 : decode cX3_barred 102 = .ok (.iload 4, 2) := by decide +kernel
theorem dX3_barred_104 : decode cX3_barred 104 = .ok (.ifCond .ne 32, 3) := by decide +kernel
theorem dX3_barred_107 : decode cX3_barred 107 = .ok (.aload_n 0, 1) := by decide +kernel
theorem dX3_barred_108 : decode cX3_barred 108 = .ok (.getfield 41, 3) := by decide +kernel
theorem dX3_barred_111 : decode cX3_barred 111 = .ok (.iload 5, 2) := by decide +kernel
theorem dX3_barred_113 : decode cX3_barred 113 = .ok (.baload, 1) := by decide +kernel
theorem dX3_barred_114 : decode cX3_barred 114 = .ok (.ifCond .eq 26, 3) := by decide +kernel
theorem dX3_barred_117 : decode cX3_barred 117 = .ok (.aload_n 0, 1) := by decide +kernel
theorem dX3_barred_118 : decode cX3_barred 118 = .ok (.iload 5, 2) := by decide +kernel
theorem dX3_barred_120 : decode cX3_barred 120 = .ok (.invokevirtual 87, 3) := by decide +kernel
theorem dX3_barred_123 : decode cX3_barred 123 = .ok (.ifCond .eq 17, 3) := by decide +kernel
theorem dX3_barred_126 : decode cX3_barred 126 = .ok (.aload_n 0, 1) := by decide +kernel
theorem dX3_barred_127 : decode cX3_barred 127 = .ok (.iconst 0, 1) := by decide +kernel
theorem dX3_barred_128 : decode cX3_barred 128 = .ok (.iload 5, 2) := by decide +kernel
theorem dX3_barred_130 : decode cX3_barred 130 = .ok (.invokevirtual 68, 3) := by decide +kernel
theorem dX3_barred_133 : decode cX3_barred 133 = .ok (.ifCond .ne 7, 3) := by decide +kernel
theorem dX3_barred_136 : decode cX3_barred 136 = .ok (.iconst 1, 1) := by decide +kernel
theorem dX3_barred_137 : decode cX3_barred 137 = .ok (.goto 4, 3) := by decide +kernel
theorem dX3_barred_140 : decode cX3_barred 140 = .ok (.iconst 0, 1) := by decide +kernel
theorem dX3_barred_141 : decode cX3_barred 141 = .ok (.istore 4, 2) := by decide +kernel
theorem dX3_barred_143 : decode cX3_barred 143 = .ok (.iinc 5 1, 3) := by decide +kernel
theorem dX3_barred_146 : decode cX3_barred 146 = .ok (.goto (-53), 3) := by decide +kernel
theorem dX3_barred_149 : decode cX3_barred 149 = .ok (.iload 4, 2) := by decide +kernel
theorem dX3_barred_151 : decode cX3_barred 151 = .ok (.ifCond .eq 8, 3) := by decide +kernel
theorem dX3_barred_154 : decode cX3_barred 154 = .ok (.bipush (-4), 2) := by decide +kernel
theorem dX3_barred_156 : decode cX3_barred 156 = .ok (.goto 4, 3) := by decide +kernel
theorem dX3_barred_159 : decode cX3_barred 159 = .ok (.iconst 0, 1) := by decide +kernel
theorem dX3_barred_160 : decode cX3_barred 160 = .ok (.ireturn, 1) := by decide +kernel
set_option maxRecDepth 20000 in
theorem ggX3_push_X3_barred : GoodIn wsX3_push wsX3_barred := goodIn_r _ [13, 14, 3, 7, 8, 15, 5, 4, 16, 17, 18, 12, 19, 20, 21, 22, 23, 24, 25, 26, 27, 28, 29, 30, 31, 6, 32, 33, 34, 35, 36, 37, 38, 39, 40, 41, 42, 43, 44, 45, 46, 47, 48, 49, 50, 51, 52, 59, 60, 61, 62, 63, 64, 65, 66, 67, 68, 69, 70, 71, 72, 73, 74, 75, 76] (by decide +kernel) (by decide +kernel)
set_option maxRecDepth 20000 in
theorem gX3_push_X3_barred : GoodIn wsX3_push (wsV RX3 140 RX3 yX3_barred wsX3_barred) := goodIn_app (goodIn_of _ (by decide +kernel)) ggX3_push_X3_barred
set_option maxRecDepth 20000 in
theorem ggX3_push_X3_markFrom : GoodIn wsX3_push wsX3_markFrom := goodIn_r _ [19, 20, 21, 22, 12, 23, 5, 24, 25, 26, 27, 28, 29, 30, 31, 6, 32, 33, 34, 35, 4, 36, 37, 38, 39, 40, 41, 42, 43, 44, 45, 46, 47, 48, 49, 50, 51, 52, 59, 60, 61, 62, 63, 64, 65, 66, 67, 68, 69, 70, 71, 72, 73, 74, 75, 76] (by decide +kernel) (by decide +kernel)
set_option maxRecDepth 20000 in
theorem gX3_push_X3_markFrom : GoodIn wsX3_push (wsV RX3 108 RX3 yX3_markFrom wsX3_markFrom) := goodIn_app (goodIn_of _ (by decide +kernel)) ggX3_push_X3_markFrom
set_option maxRecDepth 20000 in
theorem ggX3_push_X3_isIn : GoodIn wsX3_push wsX3_isIn := goodIn_r _ [31, 6, 32, 33, 34, 12, 35, 4, 36, 37, 38, 59, 60, 61, 62, 63, 64, 65, 66, 67, 68, 69, 70, 71, 72, 73, 74, 75, 76] (by decide +kernel) (by decide +kernel)
set_option maxRecDepth 20000 in
theorem gX3_push_X3_isIn : GoodIn wsX3_push (wsV RX3 68 RX3 yX3_isIn wsX3_isIn) := goodIn_app (goodIn_of _ (by decide +kernel)) ggX3_push_X3_isIn
set_option maxRecDepth 20000 in
theorem ggX3_push_X3_bring : GoodIn wsX3_push wsX3_bring := goodIn_r _ [56, 57, 58, 59, 60, 61, 62, 63, 64, 65, 66, 67, 68, 69, 70, 71, 72, 73, 74, 75, 76] (by decide +kernel) (by decide +kernel)
set_option maxRecDepth 20000 in
theorem gX3_push_X3_bring : GoodIn wsX3_push (wsV RX3 123 RX3 yX3_bring wsX3_bring) := goodIn_app (goodIn_of _ (by decide +kernel)) ggX3_push_X3_bring
theorem dX3_push_0 : decode cX3_push 0 = .ok (.aload_n 0, 1) := by decide +kernel
theorem dX3_push_1 : decode cX3_push 1 = .ok (.iconst 0, 1) := by decide +kernel
theorem dX3_push_2 : decode cX3_push 2 = .ok (.putfield 53, 3) := by decide +kernel
theorem dX3_push_5 : decode cX3_push 5 = .ok (.aload_n 0, 1) := by decide +kernel
theorem dX3_push_6 : decode cX3_push 6 = .ok (.getfield 137, 3) := by decide +kernel
theorem dX3_push_9 : decode cX3_push 9 = .ok (.istore_n 1, 1) := by decide +kernel
theorem dX3_push_10 : decode cX3_push 10 = .ok (.aload_n 0, 1) := by decide +kernel
theorem dX3_push_11 : decode cX3_push 11 = .ok (.iconst 0, 1) := by decide +kernel
theorem dX3_push_12 : decode cX3_push 12 = .ok (.putfield 137, 3) := by decide +kernel
theorem dX3_push_15 : decode cX3_push 15 = .ok (.iconst 0, 1) := by decide +kernel
theorem dX3_push_16 : decode cX3_push 16 = .ok (.istore_n 2, 1) := by decide +kernel
theorem dX3_push_17 : decode cX3_push 17 = .ok (.iload_n 2, 1) := by decide +kernel
theorem dX3_push_18 : decode cX3_push 18 = .ok (.iload_n 1, 1) := by decide +kernel
theorem dX3_push_19 : decode cX3_push 19 = .ok (.if_icmp .ge 21, 3) := by decide +kernel
theorem dX3_push_22 : decode cX3_push 22 = .ok (.aload_n 0, 1) := by decide +kernel
theorem dX3_push_23 : decode cX3_push 23 = .ok (.iload_n 2, 1) := by decide +kernel
theorem dX3_push_24 : decode cX3_push 24 = .ok (.invokevirtual 140, 3) := by decide +kernel
theorem dX3_push_27 : decode cX3_push 27 = .ok (.istore_n 3, 1) := by decide +kernel
theorem dX3_push_28 : decode cX3_push 28 = .ok (.iload_n 3, 1) := by decide +kernel
theorem dX3_push_29 : decode cX3_push 29 = .ok (.ifCond .eq 5, 3) := by decide +kernel
theorem dX3_push_32 : decode cX3_push 32 = .ok (.iload_n 3, 1) := by decide +kernel
theorem dX3_push_33 : decode cX3_push 33 = .ok (.ireturn, 1) := by decide +kernel
theorem dX3_push_34 : decode cX3_push 34 = .ok (.iinc 2 1, 3) := by decide +kernel
theorem dX3_push_37 : decode cX3_push 37 = .ok (.goto (-20), 3) := by decide +kernel
theorem dX3_push_40 : decode cX3_push 40 = .ok (.iconst 0, 1) := by decide +kernel
theorem dX3_push_41 : decode cX3_push 41 = .ok (.istore_n 2, 1) := by decide +kernel
theorem dX3_push_42 : decode cX3_push 42 = .ok (.iconst 0, 1) := by decide +kernel
theorem dX3_push_43 : decode cX3_push 43 = .ok (.istore_n 3, 1) := by decide +kernel
theorem dX3_push_44 : decode cX3_push 44 = .ok (.iload_n 3, 1) := by decide +kernel
theorem dX3_push_45 : decode cX3_push 45 = .ok (.iload_n 1, 1) := by decide +kernel
theorem dX3_push_46 : decode cX3_push 46 = .ok (.if_icmp .ge 100, 3) := by decide +kernel
theorem dX3_push_49 : decode cX3_push 49 = .ok (.aload_n 0, 1) := by decide +kernel
theorem dX3_push_50 : decode cX3_push 50 = .ok (.iconst 1, 1) := by decide +kernel
theorem dX3_push_51 : decode cX3_push 51 = .ok (.aload_n 0, 1) := by decide +kernel
theorem dX3_push_52 : decode cX3_push 52 = .ok (.getfield 38, 3) := by decide +kernel
theorem dX3_push_55 : decode cX3_push 55 = .ok (.iload_n 3, 1) := by decide +kernel
theorem dX3_push_56 : decode cX3_push 56 = .ok (.iaload, 1) := by decide +kernel
theorem dX3_push_57 : decode cX3_push 57 = .ok (.invokevirtual 108, 3) := by decide +kernel
theorem dX3_push_60 : decode cX3_push 60 = .ok (.iconst 0, 1) := by decide +kernel
theorem dX3_push_61 : decode cX3_push 61 = .ok (.istore 4, 2) := by decide +kernel
theorem dX3_push_63 : decode cX3_push 63 = .ok (.iload 4, 2) := by decide +kernel
theorem dX3_push_65 : decode cX3_push 65 = .ok (.aload_n 0, 1) := by decide +kernel
theorem dX3_push_66 : decode cX3_push 66 = .ok (.getfield 61, 3) := by decide +kernel
theorem dX3_push_69 : decode cX3_push 69 = .ok (.if_icmp .ge 54, 3) := by decide +kernel
theorem dX3_push_72 : decode cX3_push 72 = .ok (.aload_n 0, 1) := by decide +kernel
theorem dX3_push_73 : decode cX3_push 73 = .ok (.getfield 41, 3) := by decide +kernel
end
section
theorem dX3_push_76 : decode cX3_push 76 = .ok (.iload 4, 2) := by decide +kernel
theorem dX3_push_78 : decode cX3_push 78 = .ok (.baload, 1) := by decide +kernel
theorem dX3_push_79 : decode cX3_push 79 = .ok (.ifCond .eq 38, 3) := by decide +kernel
theorem dX3_push_82 : decode cX3_push 82 = .ok (.iload_n 2, 1) := by decide +kernel
theorem dX3_push_83 : decode cX3_push 83 = .ok (.aload_n 0, 1) := by decide +kernel
theorem dX3_push_84 : decode cX3_push 84 = .ok (.iconst 0, 1) := by decide +kernel
theorem dX3_push_85 : decode cX3_push 85 = .ok (.iload 4, 2) := by decide +kernel
theorem dX3_push_87 : decode cX3_push 87 = .ok (.invokevirtual 68, 3) := by decide +kernel
theorem dX3_push_90 : decode cX3_push 90 = .ok (.ifCond .eq 7, 3) := by decide +kernel
theorem dX3_push_93 : decode cX3_push 93 = .ok (.iconst 0, 1) := by decide +kernel
theorem dX3_push_94 : decode cX3_push 94 = .ok (.goto 4, 3) := by decide +kernel
theorem dX3_push_97 : decode cX3_push 97 = .ok (.iconst 1, 1) := by decide +kernel
theorem dX3_push_98 : decode cX3_push 98 = .ok (.iadd, 1) := by decide +kernel
theorem dX3_push_99 : decode cX3_push 99 = .ok (.istore_n 2, 1) := by decide +kernel
theorem dX3_push_100 : decode cX3_push 100 = .ok (.aload_n 0, 1) := by decide +kernel
theorem dX3_push_101 : decode cX3_push 101 = .ok (.getfield 19, 3) := by decide +kernel
theorem dX3_push_104 : decode cX3_push 104 = .ok (.iload 4, 2) := by decide +kernel
theorem dX3_push_106 : decode cX3_push 106 = .ok (.iconst 1, 1) := by decide +kernel
theorem dX3_push_107 : decode cX3_push 107 = .ok (.bastore, 1) := by decide +kernel
theorem dX3_push_108 : decode cX3_push 108 = .ok (.aload_n 0, 1) := by decide +kernel
theorem dX3_push_109 : decode cX3_push 109 = .ok (.iconst 1, 1) := by decide +kernel
theorem dX3_push_110 : decode cX3_push 110 = .ok (.iconst 0, 1) := by decide +kernel
theorem dX3_push_111 : decode cX3_push 111 = .ok (.iload 4, 2) := by decide +kernel
theorem dX3_push_113 : decode cX3_push 113 = .ok (.iconst 1, 1) := by decide +kernel
theorem dX3_push_114 : decode cX3_push 114 = .ok (.invokevirtual 123, 3) := by decide +kernel
theorem dX3_push_117 : decode cX3_push 117 = .ok (.iinc 4 1, 3) := by decide +kernel
theorem dX3_push_120 : decode cX3_push 120 = .ok (.goto (-57), 3) := by decide +kernel
theorem dX3_push_123 : decode cX3_push 123 = .ok (.aload_n 0, 1) := by decide +kernel
theorem dX3_push_124 : decode cX3_push 124 = .ok (.getfield 26, 3) := by decide +kernel
theorem dX3_push_127 : decode cX3_push 127 = .ok (.aload_n 0, 1) := by decide +kernel
theorem dX3_push_128 : decode cX3_push 128 = .ok (.getfield 32, 3) := by decide +kernel
theorem dX3_push_131 : decode cX3_push 131 = .ok (.iload_n 3, 1) := by decide +kernel
theorem dX3_push_132 : decode cX3_push 132 = .ok (.iaload, 1) := by decide +kernel
theorem dX3_push_133 : decode cX3_push 133 = .ok (.aload_n 0, 1) := by decide +kernel
theorem dX3_push_134 : decode cX3_push 134 = .ok (.getfield 38, 3) := by decide +kernel
theorem dX3_push_137 : decode cX3_push 137 = .ok (.iload_n 3, 1) := by decide +kernel
theorem dX3_push_138 : decode cX3_push 138 = .ok (.iaload, 1) := by decide +kernel
theorem dX3_push_139 : decode cX3_push 139 = .ok (.iastore, 1) := by decide +kernel
theorem dX3_push_140 : decode cX3_push 140 = .ok (.iinc 3 1, 3) := by decide +kernel
theorem dX3_push_143 : decode cX3_push 143 = .ok (.goto (-99), 3) := by decide +kernel
theorem dX3_push_146 : decode cX3_push 146 = .ok (.iload_n 2, 1) := by decide +kernel
theorem dX3_push_147 : decode cX3_push 147 = .ok (.ireturn, 1) := by decide +kernel
set_option maxRecDepth 20000 in
theorem ggX3_collect_X3_isStore : GoodIn wsX3_collect wsX3_isStore := goodIn_r _ [9, 10, 11, 8, 12] (by decide +kernel) (by decide +kernel)
set_option maxRecDepth 20000 in
theorem gX3_collect_X3_isStore : GoodIn wsX3_collect (va_wsS RX3 72 yX3_isStore wsX3_isStore) := goodIn_app (goodIn_of _ (by decide +kernel)) ggX3_collect_X3_isStore
set_option maxRecDepth 20000 in
theorem ggX3_collect_X3_refused : GoodIn wsX3_collect wsX3_refused := goodIn_r _ [16, 17, 53, 54, 55, 56, 57, 58, 59, 60, 61, 62, 63, 64, 65, 66, 67, 68, 69, 70] (by decide +kernel) (by decide +kernel)
set_option maxRecDepth 20000 in
theorem gX3_collect_X3_refused : GoodIn wsX3_collect (wsV RX3 78 RX3 yX3_refused wsX3_refused) := goodIn_app (goodIn_of _ (by decide +kernel)) ggX3_collect_X3_refused
set_option maxRecDepth 20000 in
theorem ggX3_collect_X3_clear : GoodIn wsX3_collect wsX3_clear := goodIn_r _ [21, 3, 53, 54, 55, 56, 57, 58, 59, 60, 61, 62, 63, 64, 65, 66, 67, 68, 69, 70] (by decide +kernel) (by decide +kernel)
set_option maxRecDepth 20000 in
theorem gX3_collect_X3_clear : GoodIn wsX3_collect (wsV RX3 94 RX3 yX3_clear wsX3_clear) := goodIn_app (goodIn_of _ (by decide +kernel)) ggX3_collect_X3_clear
set_option maxRecDepth 20000 in
theorem ggX3_collect_X3_mark : GoodIn wsX3_collect wsX3_mark := goodIn_r _ [25, 3, 26, 27, 28, 8, 29, 4, 30, 31, 32, 33, 2, 10, 11, 12, 53, 54, 55, 56, 57, 58, 59, 60, 61, 62, 63, 64, 65, 66, 67, 68, 69, 70] (by decide +kernel) (by decide +kernel)
set_option maxRecDepth 20000 in
theorem gX3_collect_X3_mark : GoodIn wsX3_collect (wsV RX3 90 RX3 yX3_mark wsX3_mark) := goodIn_app (goodIn_of _ (by decide +kernel)) ggX3_collect_X3_mark
set_option maxRecDepth 20000 in
theorem ggX3_collect_X3_markOn : GoodIn wsX3_collect wsX3_markOn := goodIn_r _ [37, 2, 3, 38, 39, 40, 41, 42, 8, 43, 26, 27, 28, 29, 4, 30, 31, 32, 33, 10, 11, 12, 44, 45, 46, 47, 22, 23, 24, 25, 53, 54, 55, 56, 57, 58, 59, 60, 61, 62, 63, 64, 65, 66, 67, 68, 69, 70] (by decide +kernel) (by decide +kernel)
set_option maxRecDepth 20000 in
theorem gX3_collect_X3_markOn : GoodIn wsX3_collect (wsV RX3 97 RX3 yX3_markOn wsX3_markOn) := goodIn_app (goodIn_of _ (by decide +kernel)) ggX3_collect_X3_markOn
set_option maxRecDepth 20000 in
theorem ggX3_collect_X3_isIn : GoodIn wsX3_collect wsX3_isIn := goodIn_r _ [29, 4, 30, 31, 32, 8, 33, 2, 10, 11, 12, 53, 54, 55, 56, 57, 58, 59, 60, 61, 62, 63, 64, 65, 66, 67, 68, 69, 70] (by decide +kernel) (by decide +kernel)
set_option maxRecDepth 20000 in
theorem gX3_collect_X3_isIn : GoodIn wsX3_collect (wsV RX3 68 RX3 yX3_isIn wsX3_isIn) := goodIn_app (goodIn_of _ (by decide +kernel)) ggX3_collect_X3_isIn
set_option maxRecDepth 20000 in
theorem ggX3_collect_X3_isNeeded : GoodIn wsX3_collect wsX3_isNeeded := goodIn_r _ [51, 2, 52, 26, 27, 28, 8, 29, 4, 30, 31, 32, 33, 10, 11, 12, 53, 54, 55, 56, 57, 58, 59, 60, 61, 62, 63, 64, 65, 66, 67, 68, 69, 70] (by decide +kernel) (by decide +kernel)
set_option maxRecDepth 20000 in
theorem gX3_collect_X3_isNeeded : GoodIn wsX3_collect (wsV RX3 131 RX3 yX3_isNeeded wsX3_isNeeded) := goodIn_app (goodIn_of _ (by decide +kernel)) ggX3_collect_X3_isNeeded
theorem dX3_collect_0 : decode cX3_collect 0 = .ok (.aload_n 0, 1) := by decide +kernel
theorem dX3_collect_1 : decode cX3_collect 1 = .ok (.iload_n 1, 1) := by decide +kernel
theorem dX3_collect_2 : decode cX3_collect 2 = .ok (.invokestatic 72, 3) := by decide +kernel
theorem dX3_collect_5 : decode cX3_collect 5 = .ok (.ifCond .eq 7, 3) := by decide +kernel
theorem dX3_collect_8 : decode cX3_collect 8 = .ok (.iconst 0, 1) := by decide +kernel
theorem dX3_collect_9 : decode cX3_collect 9 = .ok (.goto 4, 3) := by decide +kernel
theorem dX3_collect_12 : decode cX3_collect 12 = .ok (.iconst 1, 1) := by decide +kernel
theorem dX3_collect_13 : decode cX3_collect 13 = .ok (.invokevirtual 78, 3) := by decide +kernel
theorem dX3_collect_16 : decode cX3_collect 16 = .ok (.ifCond .eq 5, 3) := by decide +kernel
theorem dX3_collect_19 : decode cX3_collect 19 = .ok (.iconst 0, 1) := by decide +kernel
theorem dX3_collect_20 : decode cX3_collect 20 = .ok (.ireturn, 1) := by decide +kernel
theorem dX3_collect_21 : decode cX3_collect 21 = .ok (.aload_n 0, 1) := by decide +kernel
theorem dX3_collect_22 : decode cX3_collect 22 = .ok (.invokevirtual 94, 3) := by decide +kernel
theorem dX3_collect_25 : decode cX3_collect 25 = .ok (.iconst 0, 1) := by decide +kernel
theorem dX3_collect_26 : decode cX3_collect 26 = .ok (.istore_n 2, 1) := by decide +kernel
theorem dX3_collect_27 : decode cX3_collect 27 = .ok (.iload_n 2, 1) := by decide +kernel
theorem dX3_collect_28 : decode cX3_collect 28 = .ok (.iconst 4, 1) := by decide +kernel
theorem dX3_collect_29 : decode cX3_collect 29 = .ok (.if_icmp .ge 24, 3) := by decide +kernel
theorem dX3_collect_32 : decode cX3_collect 32 = .ok (.aload_n 0, 1) := by decide +kernel
theorem dX3_collect_33 : decode cX3_collect 33 = .ok (.iload_n 1, 1) := by decide +kernel
theorem dX3_collect_34 : decode cX3_collect 34 = .ok (.aload_n 0, 1) := by decide +kernel
theorem dX3_collect_35 : decode cX3_collect 35 = .ok (.getfield 26, 3) := by decide +kernel
theorem dX3_collect_38 : decode cX3_collect 38 = .ok (.iconst 4, 1) := by decide +kernel
theorem dX3_collect_39 : decode cX3_collect 39 = .ok (.iload_n 1, 1) := by decide +kernel
theorem dX3_collect_40 : decode cX3_collect 40 = .ok (.imul, 1) := by decide +kernel
theorem dX3_collect_41 : decode cX3_collect 41 = .ok (.iload_n 2, 1) := by decide +kernel
theorem dX3_collect_42 : decode cX3_collect 42 = .ok (.iadd, 1) := by decide +kernel
theorem dX3_collect_43 : decode cX3_collect 43 = .ok (.iaload, 1) := by decide +kernel
theorem dX3_collect_44 : decode cX3_collect 44 = .ok (.invokevirtual 90, 3) := by decide +kernel
theorem dX3_collect_47 : decode cX3_collect 47 = .ok (.iinc 2 1, 3) := by decide +kernel
theorem dX3_collect_50 : decode cX3_collect 50 = .ok (.goto (-23), 3) := by decide +kernel
theorem dX3_collect_53 : decode cX3_collect 53 = .ok (.aload_n 0, 1) := by decide +kernel
theorem dX3_collect_54 : decode cX3_collect 54 = .ok (.iload_n 1, 1) := by decide +kernel
theorem dX3_collect_55 : decode cX3_collect 55 = .ok (.invokevirtual 97, 3) := by decide +kernel
theorem dX3_collect_58 : decode cX3_collect 58 = .ok (.iconst 0, 1) := by decide +kernel
theorem dX3_collect_59 : decode cX3_collect 59 = .ok (.istore_n 2, 1) := by decide +kernel
theorem dX3_collect_60 : decode cX3_collect 60 = .ok (.iconst 0, 1) := by decide +kernel
theorem dX3_collect_61 : decode cX3_collect 61 = .ok (.istore_n 3, 1) := by decide +kernel
theorem dX3_collect_62 : decode cX3_collect 62 = .ok (.iload_n 3, 1) := by decide +kernel
theorem dX3_collect_63 : decode cX3_collect 63 = .ok (.aload_n 0, 1) := by decide +kernel
theorem dX3_collect_64 : decode cX3_collect 64 = .ok (.getfield 61, 3) := by decide +kernel
theorem dX3_collect_67 : decode cX3_collect 67 = .ok (.if_icmp .ge 52, 3) := by decide +kernel
theorem dX3_collect_70 : decode cX3_collect 70 = .ok (.iload_n 2, 1) := by decide +kernel
theorem dX3_collect_71 : decode cX3_collect 71 = .ok (.aload_n 0, 1) := by decide +kernel
theorem dX3_collect_72 : decode cX3_collect 72 = .ok (.iload_n 1, 1) := by decide +kernel
theorem dX3_collect_73 : decode cX3_collect 73 = .ok (.iload_n 3, 1) := by decide +kernel
theorem dX3_collect_74 : decode cX3_collect 74 = .ok (.invokevirtual 68, 3) := by decide +kernel
theorem dX3_collect_77 : decode cX3_collect 77 = .ok (.ifCond .eq 16, 3) := by decide +kernel
theorem dX3_collect_80 : decode cX3_collect 80 = .ok (.aload_n 0, 1) := by decide +kernel
theorem dX3_collect_81 : decode cX3_collect 81 = .ok (.getfield 41, 3) := by decide +kernel
theorem dX3_collect_84 : decode cX3_collect 84 = .ok (.iload_n 3, 1) := by decide +kernel
theorem dX3_collect_85 : decode cX3_collect 85 = .ok (.baload, 1) := by decide +kernel
theorem dX3_collect_86 : decode cX3_collect 86 = .ok (.ifCond .ne 7, 3) := by decide +kernel
theorem dX3_collect_89 : decode cX3_collect 89 = .ok (.iconst 1, 1) := by decide +kernel
theorem dX3_collect_90 : decode cX3_collect 90 = .ok (.goto 4, 3) := by decide +kernel
theorem dX3_collect_93 : decode cX3_collect 93 = .ok (.iconst 0, 1) := by decide +kernel
theorem dX3_collect_94 : decode cX3_collect 94 = .ok (.iadd, 1) := by decide +kernel
theorem dX3_collect_95 : decode cX3_collect 95 = .ok (.istore_n 2, 1) := by decide +kernel
theorem dX3_collect_96 : decode cX3_collect 96 = .ok (.aload_n 0, 1) := by decide +kernel
theorem dX3_collect_97 : decode cX3_collect 97 = .ok (.getfield 19, 3) := by decide +kernel
theorem dX3_collect_100 : decode cX3_collect 100 = .ok (.bipush 60, 2) := by decide +kernel
theorem dX3_collect_102 : decode cX3_collect 102 = .ok (.iload_n 1, 1) := by decide +kernel
theorem dX3_collect_103 : decode cX3_collect 103 = .ok (.imul, 1) := by decide +kernel
theorem dX3_collect_104 : decode cX3_collect 104 = .ok (.iload_n 3, 1) := by decide +kernel
theorem dX3_collect_105 : decode cX3_collect 105 = .ok (.iadd, 1) := by decide +kernel
theorem dX3_collect_106 : decode cX3_collect 106 = .ok (.aload_n 0, 1) := by decide +kernel
theorem dX3_collect_107 : decode cX3_collect 107 = .ok (.getfield 41, 3) := by decide +kernel
theorem dX3_collect_110 : decode cX3_collect 110 = .ok (.iload_n 3, 1) := by decide +kernel
theorem dX3_collect_111 : decode cX3_collect 111 = .ok (.baload, 1) := by decide +kernel
theorem dX3_collect_112 : decode cX3_collect 112 = .ok (.bastore, 1) := by decide +kernel
theorem dX3_collect_113 : decode cX3_collect 113 = .ok (.iinc 3 1, 3) := by decide +kernel
theorem dX3_collect_116 : decode cX3_collect 116 = .ok (.goto (-54), 3) := by decide +kernel
theorem dX3_collect_119 : decode cX3_collect 119 = .ok (.iconst 0, 1) := by decide +kernel
theorem dX3_collect_120 : decode cX3_collect 120 = .ok (.istore_n 3, 1) := by decide +kernel
theorem dX3_collect_121 : decode cX3_collect 121 = .ok (.iload_n 3, 1) := by decide +kernel
theorem dX3_collect_122 : decode cX3_collect 122 = .ok (.bipush 100, 2) := by decide +kernel
theorem dX3_collect_124 : decode cX3_collect 124 = .ok (.if_icmp .ge 48, 3) := by decide +kernel
theorem dX3_collect_127 : decode cX3_collect 127 = .ok (.aload_n 0, 1) := by decide +kernel
theorem dX3_collect_128 : decode cX3_collect 128 = .ok (.getfield 23, 3) := by decide +kernel
theorem dX3_collect_131 : decode cX3_collect 131 = .ok (.bipush 100, 2) := by decide +kernel
theorem dX3_collect_133 : decode cX3_collect 133 = .ok (.iload_n 1, 1) := by decide +kernel
theorem dX3_collect_134 : decode cX3_collect 134 = .ok (.imul, 1) := by decide +kernel
theorem dX3_collect_135 : decode cX3_collect 135 = .ok (.iload_n 3, 1) := by decide +kernel
theorem dX3_collect_136 : decode cX3_collect 136 = .ok (.iadd, 1) := by decide +kernel
theorem dX3_collect_137 : decode cX3_collect 137 = .ok (.aload_n 0, 1) := by decide +kernel
theorem dX3_collect_138 : decode cX3_collect 138 = .ok (.getfield 23, 3) := by decide +kernel
theorem dX3_collect_141 : decode cX3_collect 141 = .ok (.bipush 100, 2) := by decide +kernel
theorem dX3_collect_143 : decode cX3_collect 143 = .ok (.iload_n 1, 1) := by decide +kernel
theorem dX3_collect_144 : decode cX3_collect 144 = .ok (.imul, 1) := by decide +kernel
theorem dX3_collect_145 : decode cX3_collect 145 = .ok (.iload_n 3, 1) := by decide +kernel
theorem dX3_collect_146 : decode cX3_collect 146 = .ok (.iadd, 1) := by decide +kernel
theorem dX3_collect_147 : decode cX3_collect 147 = .ok (.baload, 1) := by decide +kernel
theorem dX3_collect_148 : decode cX3_collect 148 = .ok (.ifCond .eq 16, 3) := by decide +kernel
theorem dX3_collect_151 : decode cX3_collect 151 = .ok (.aload_n 0, 1) := by decide +kernel
theorem dX3_collect_152 : decode cX3_collect 152 = .ok (.iload_n 1, 1) := by decide +kernel
theorem dX3_collect_153 : decode cX3_collect 153 = .ok (.iload_n 3, 1) := by decide +kernel
theorem dX3_collect_154 : decode cX3_collect 154 = .ok (.invokevirtual 131, 3) := by decide +kernel
theorem dX3_collect_157 : decode cX3_collect 157 = .ok (.ifCond .eq 7, 3) := by decide +kernel
theorem dX3_collect_160 : decode cX3_collect 160 = .ok (.iconst 1, 1) := by decide +kernel
theorem dX3_collect_161 : decode cX3_collect 161 = .ok (.goto 4, 3) := by decide +kernel
theorem dX3_collect_164 : decode cX3_collect 164 = .ok (.iconst 0, 1) := by decide +kernel
theorem dX3_collect_165 : decode cX3_collect 165 = .ok (.bastore, 1) := by decide +kernel
theorem dX3_collect_166 : decode cX3_collect 166 = .ok (.iinc 3 1, 3) := by decide +kernel
theorem dX3_collect_169 : decode cX3_collect 169 = .ok (.goto (-48), 3) := by decide +kernel
theorem dX3_collect_172 : decode cX3_collect 172 = .ok (.iload_n 2, 1) := by decide +kernel
theorem dX3_collect_173 : decode cX3_collect 173 = .ok (.ireturn, 1) := by decide +kernel
set_option maxRecDepth 20000 in
theorem ggX3_commits_X3_fine : GoodIn wsX3_commits wsX3_fine := goodIn_r _ [6, 7, 8, 9, 10, 11, 12, 13, 14, 15, 16, 17, 18, 19, 20, 21, 22, 23, 24, 25] (by decide +kernel) (by decide +kernel)
set_option maxRecDepth 20000 in
theorem gX3_commits_X3_fine : GoodIn wsX3_commits (wsV RX3 127 RX3 yX3_fine wsX3_fine) := goodIn_app (goodIn_of _ (by decide +kernel)) ggX3_commits_X3_fine
theorem dX3_commits_0 : decode cX3_commits 0 = .ok (.aload_n 0, 1) := by decide +kernel
theorem dX3_commits_1 : decode cX3_commits 1 = .ok (.aload_n 0, 1) := by decide +kernel
theorem dX3_commits_2 : decode cX3_commits 2 = .ok (.getfield 61, 3) := by decide +kernel
theorem dX3_commits_5 : decode cX3_commits 5 = .ok (.invokevirtual 127, 3) := by decide +kernel
theorem dX3_commits_8 : decode cX3_commits 8 = .ok (.ireturn, 1) := by decide +kernel
set_option maxRecDepth 20000 in
theorem ggX3_has_X3_isStore : GoodIn wsX3_has wsX3_isStore := goodIn_r _ [4, 5, 6, 3, 7] (by decide +kernel) (by decide +kernel)
set_option maxRecDepth 20000 in
theorem gX3_has_X3_isStore : GoodIn wsX3_has (va_wsS RX3 72 yX3_isStore wsX3_isStore) := goodIn_app (goodIn_of _ (by decide +kernel)) ggX3_has_X3_isStore
set_option maxRecDepth 20000 in
theorem ggX3_has_X3_isCommit : GoodIn wsX3_has wsX3_isCommit := goodIn_r _ [11, 12, 5, 6, 3, 7, 23, 24, 25, 26, 27, 28, 29, 30, 31, 32, 33, 34, 35, 36, 37, 38, 39, 40] (by decide +kernel) (by decide +kernel)
set_option maxRecDepth 20000 in
theorem gX3_has_X3_isCommit : GoodIn wsX3_has (wsV RX3 64 RX3 yX3_isCommit wsX3_isCommit) := goodIn_app (goodIn_of _ (by decide +kernel)) ggX3_has_X3_isCommit
set_option maxRecDepth 20000 in
theorem ggX3_has_X3_refused : GoodIn wsX3_has wsX3_refused := goodIn_r _ [16, 17, 23, 24, 25, 26, 27, 28, 29, 30, 31, 32, 33, 34, 35, 36, 37, 38, 39, 40] (by decide +kernel) (by decide +kernel)
set_option maxRecDepth 20000 in
theorem gX3_has_X3_refused : GoodIn wsX3_has (wsV RX3 78 RX3 yX3_refused wsX3_refused) := goodIn_app (goodIn_of _ (by decide +kernel)) ggX3_has_X3_refused
set_option maxRecDepth 20000 in
theorem ggX3_has_X3_isIn : GoodIn wsX3_has wsX3_isIn := goodIn_r _ [21, 22, 8, 9, 10, 3, 11, 12, 5, 6, 7, 23, 24, 25, 26, 27, 28, 29, 30, 31, 32, 33, 34, 35, 36, 37, 38, 39, 40] (by decide +kernel) (by decide +kernel)
set_option maxRecDepth 20000 in
theorem gX3_has_X3_isIn : GoodIn wsX3_has (wsV RX3 68 RX3 yX3_isIn wsX3_isIn) := goodIn_app (goodIn_of _ (by decide +kernel)) ggX3_has_X3_isIn
theorem dX3_has_0 : decode cX3_has 0 = .ok (.aload_n 0, 1) := by decide +kernel
theorem dX3_has_1 : decode cX3_has 1 = .ok (.iload_n 1, 1) := by decide +kernel
theorem dX3_has_2 : decode cX3_has 2 = .ok (.invokestatic 72, 3) := by decide +kernel
theorem dX3_has_5 : decode cX3_has 5 = .ok (.ifCond .eq 15, 3) := by decide +kernel
theorem dX3_has_8 : decode cX3_has 8 = .ok (.aload_n 0, 1) := by decide +kernel
theorem dX3_has_9 : decode cX3_has 9 = .ok (.iload_n 2, 1) := by decide +kernel
theorem dX3_has_10 : decode cX3_has 10 = .ok (.invokevirtual 64, 3) := by decide +kernel
theorem dX3_has_13 : decode cX3_has 13 = .ok (.ifCond .eq 7, 3) := by decide +kernel
theorem dX3_has_16 : decode cX3_has 16 = .ok (.iconst 0, 1) := by decide +kernel
theorem dX3_has_17 : decode cX3_has 17 = .ok (.goto 4, 3) := by decide +kernel
theorem dX3_has_20 : decode cX3_has 20 = .ok (.iconst 1, 1) := by decide +kernel
theorem dX3_has_21 : decode cX3_has 21 = .ok (.invokevirtual 78, 3) := by decide +kernel
theorem dX3_has_24 : decode cX3_has 24 = .ok (.ifCond .ne 16, 3) := by decide +kernel
theorem dX3_has_27 : decode cX3_has 27 = .ok (.aload_n 0, 1) := by decide +kernel
theorem dX3_has_28 : decode cX3_has 28 = .ok (.iload_n 1, 1) := by decide +kernel
theorem dX3_has_29 : decode cX3_has 29 = .ok (.iload_n 2, 1) := by decide +kernel
theorem dX3_has_30 : decode cX3_has 30 = .ok (.invokevirtual 68, 3) := by decide +kernel
theorem dX3_has_33 : decode cX3_has 33 = .ok (.ifCond .eq 7, 3) := by decide +kernel
theorem dX3_has_36 : decode cX3_has 36 = .ok (.iconst 1, 1) := by decide +kernel
theorem dX3_has_37 : decode cX3_has 37 = .ok (.goto 4, 3) := by decide +kernel
theorem dX3_has_40 : decode cX3_has 40 = .ok (.iconst 0, 1) := by decide +kernel
theorem dX3_has_41 : decode cX3_has 41 = .ok (.ireturn, 1) := by decide +kernel
set_option maxRecDepth 20000 in
theorem ggX3_hasFile_X3_isStore : GoodIn wsX3_hasFile wsX3_isStore := goodIn_r _ [5, 6, 7, 4, 8] (by decide +kernel) (by decide +kernel)
set_option maxRecDepth 20000 in
theorem gX3_hasFile_X3_isStore : GoodIn wsX3_hasFile (va_wsS RX3 72 yX3_isStore wsX3_isStore) := goodIn_app (goodIn_of _ (by decide +kernel)) ggX3_hasFile_X3_isStore
set_option maxRecDepth 20000 in
theorem ggX3_hasFile_X3_in : GoodIn wsX3_hasFile wsX3_in := goodIn_r _ [8] (by decide +kernel) (by decide +kernel)
set_option maxRecDepth 20000 in
theorem gX3_hasFile_X3_in : GoodIn wsX3_hasFile (va_wsS RX3 57 yX3_in wsX3_in) := goodIn_app (goodIn_of _ (by decide +kernel)) ggX3_hasFile_X3_in
set_option maxRecDepth 20000 in
theorem ggX3_hasFile_X3_refused : GoodIn wsX3_hasFile wsX3_refused := goodIn_r _ [12, 13, 14, 15, 16, 17, 18, 19, 20, 21, 22, 23, 24, 25, 26, 27, 28, 29, 30, 31] (by decide +kernel) (by decide +kernel)
set_option maxRecDepth 20000 in
theorem gX3_hasFile_X3_refused : GoodIn wsX3_hasFile (wsV RX3 78 RX3 yX3_refused wsX3_refused) := goodIn_app (goodIn_of _ (by decide +kernel)) ggX3_hasFile_X3_refused
theorem dX3_hasFile_0 : decode cX3_hasFile 0 = .ok (.aload_n 0, 1) := by decide +kernel
theorem dX3_hasFile_1 : decode cX3_hasFile 1 = .ok (.iload_n 1, 1) := by decide +kernel
theorem dX3_hasFile_2 : decode cX3_hasFile 2 = .ok (.invokestatic 72, 3) := by decide +kernel
theorem dX3_hasFile_5 : decode cX3_hasFile 5 = .ok (.ifCond .ne 7, 3) := by decide +kernel
theorem dX3_hasFile_8 : decode cX3_hasFile 8 = .ok (.iconst 1, 1) := by decide +kernel
theorem dX3_hasFile_9 : decode cX3_hasFile 9 = .ok (.goto 18, 3) := by decide +kernel
theorem dX3_hasFile_12 : decode cX3_hasFile 12 = .ok (.iload_n 2, 1) := by decide +kernel
theorem dX3_hasFile_13 : decode cX3_hasFile 13 = .ok (.iconst 0, 1) := by decide +kernel
theorem dX3_hasFile_14 : decode cX3_hasFile 14 = .ok (.bipush 99, 2) := by decide +kernel
theorem dX3_hasFile_16 : decode cX3_hasFile 16 = .ok (.invokestatic 57, 3) := by decide +kernel
theorem dX3_hasFile_19 : decode cX3_hasFile 19 = .ok (.ifCond .eq 7, 3) := by decide +kernel
theorem dX3_hasFile_22 : decode cX3_hasFile 22 = .ok (.iconst 0, 1) := by decide +kernel
theorem dX3_hasFile_23 : decode cX3_hasFile 23 = .ok (.goto 4, 3) := by decide +kernel
theorem dX3_hasFile_26 : decode cX3_hasFile 26 = .ok (.iconst 2, 1) := by decide +kernel
theorem dX3_hasFile_27 : decode cX3_hasFile 27 = .ok (.invokevirtual 78, 3) := by decide +kernel
theorem dX3_hasFile_30 : decode cX3_hasFile 30 = .ok (.ifCond .ne 21, 3) := by decide +kernel
theorem dX3_hasFile_33 : decode cX3_hasFile 33 = .ok (.aload_n 0, 1) := by decide +kernel
theorem dX3_hasFile_34 : decode cX3_hasFile 34 = .ok (.getfield 23, 3) := by decide +kernel
theorem dX3_hasFile_37 : decode cX3_hasFile 37 = .ok (.bipush 100, 2) := by decide +kernel
theorem dX3_hasFile_39 : decode cX3_hasFile 39 = .ok (.iload_n 1, 1) := by decide +kernel
theorem dX3_hasFile_40 : decode cX3_hasFile 40 = .ok (.imul, 1) := by decide +kernel
theorem dX3_hasFile_41 : decode cX3_hasFile 41 = .ok (.iload_n 2, 1) := by decide +kernel
theorem dX3_hasFile_42 : decode cX3_hasFile 42 = .ok (.iadd, 1) := by decide +kernel
theorem dX3_hasFile_43 : decode cX3_hasFile 43 = .ok (.baload, 1) := by decide +kernel
theorem dX3_hasFile_44 : decode cX3_hasFile 44 = .ok (.ifCond .eq 7, 3) := by decide +kernel
theorem dX3_hasFile_47 : decode cX3_hasFile 47 = .ok (.iconst 1, 1) := by decide +kernel
theorem dX3_hasFile_48 : decode cX3_hasFile 48 = .ok (.goto 4, 3) := by decide +kernel
theorem dX3_hasFile_51 : decode cX3_hasFile 51 = .ok (.iconst 0, 1) := by decide +kernel
theorem dX3_hasFile_52 : decode cX3_hasFile 52 = .ok (.ireturn, 1) := by decide +kernel
set_option maxRecDepth 20000 in
theorem ggX3_isShallow_X3_isCommit : GoodIn wsX3_isShallow wsX3_isCommit := goodIn_r _ [5, 6, 7, 8, 4, 9, 30, 31, 32, 33, 34, 35, 36, 37, 38, 39, 40, 41, 42, 43, 44, 45, 46, 47] (by decide +kernel) (by decide +kernel)
set_option maxRecDepth 20000 in
theorem gX3_isShallow_X3_isCommit : GoodIn wsX3_isShallow (wsV RX3 64 RX3 yX3_isCommit wsX3_isCommit) := goodIn_app (goodIn_of _ (by decide +kernel)) ggX3_isShallow_X3_isCommit
set_option maxRecDepth 20000 in
theorem ggX3_isShallow_X3_refused : GoodIn wsX3_isShallow wsX3_refused := goodIn_r _ [13, 14, 30, 31, 32, 33, 34, 35, 36, 37, 38, 39, 40, 41, 42, 43, 44, 45, 46, 47] (by decide +kernel) (by decide +kernel)
set_option maxRecDepth 20000 in
theorem gX3_isShallow_X3_refused : GoodIn wsX3_isShallow (wsV RX3 78 RX3 yX3_refused wsX3_refused) := goodIn_app (goodIn_of _ (by decide +kernel)) ggX3_isShallow_X3_refused
set_option maxRecDepth 20000 in
theorem ggX3_isShallow_X3_shallow : GoodIn wsX3_isShallow wsX3_shallow := goodIn_r _ [18, 19, 20, 21, 4, 22, 23, 1, 2, 3, 5, 6, 7, 8, 9, 24, 25, 26, 27, 28, 29, 30, 31, 32, 33, 34, 35, 36, 37, 38, 39, 40, 41, 42, 43, 44, 45, 46, 47] (by decide +kernel) (by decide +kernel)
set_option maxRecDepth 20000 in
theorem gX3_isShallow_X3_shallow : GoodIn wsX3_isShallow (wsV RX3 87 RX3 yX3_shallow wsX3_shallow) := goodIn_app (goodIn_of _ (by decide +kernel)) ggX3_isShallow_X3_shallow
theorem dX3_isShallow_0 : decode cX3_isShallow 0 = .ok (.aload_n 0, 1) := by decide +kernel
theorem dX3_isShallow_1 : decode cX3_isShallow 1 = .ok (.aload_n 0, 1) := by decide +kernel
theorem dX3_isShallow_2 : decode cX3_isShallow 2 = .ok (.iload_n 1, 1) := by decide +kernel
theorem dX3_isShallow_3 : decode cX3_isShallow 3 = .ok (.invokevirtual 64, 3) := by decide +kernel
theorem dX3_isShallow_6 : decode cX3_isShallow 6 = .ok (.ifCond .eq 7, 3) := by decide +kernel
theorem dX3_isShallow_9 : decode cX3_isShallow 9 = .ok (.iconst 0, 1) := by decide +kernel
theorem dX3_isShallow_10 : decode cX3_isShallow 10 = .ok (.goto 4, 3) := by decide +kernel
theorem dX3_isShallow_13 : decode cX3_isShallow 13 = .ok (.iconst 1, 1) := by decide +kernel
theorem dX3_isShallow_14 : decode cX3_isShallow 14 = .ok (.invokevirtual 78, 3) := by decide +kernel
theorem dX3_isShallow_17 : decode cX3_isShallow 17 = .ok (.ifCond .ne 15, 3) := by decide +kernel
theorem dX3_isShallow_20 : decode cX3_isShallow 20 = .ok (.aload_n 0, 1) := by decide +kernel
theorem dX3_isShallow_21 : decode cX3_isShallow 21 = .ok (.iload_n 1, 1) := by decide +kernel
theorem dX3_isShallow_22 : decode cX3_isShallow 22 = .ok (.invokevirtual 87, 3) := by decide +kernel
theorem dX3_isShallow_25 : decode cX3_isShallow 25 = .ok (.ifCond .eq 7, 3) := by decide +kernel
theorem dX3_isShallow_28 : decode cX3_isShallow 28 = .ok (.iconst 1, 1) := by decide +kernel
theorem dX3_isShallow_29 : decode cX3_isShallow 29 = .ok (.goto 4, 3) := by decide +kernel
theorem dX3_isShallow_32 : decode cX3_isShallow 32 = .ok (.iconst 0, 1) := by decide +kernel
theorem dX3_isShallow_33 : decode cX3_isShallow 33 = .ok (.ireturn, 1) := by decide +kernel
set_option maxRecDepth 20000 in
theorem ggX3_isAncestor_X3_isStore : GoodIn wsX3_isAncestor wsX3_isStore := goodIn_r _ [5, 6, 7, 4, 8] (by decide +kernel) (by decide +kernel)
set_option maxRecDepth 20000 in
theorem gX3_isAncestor_X3_isStore : GoodIn wsX3_isAncestor (va_wsS RX3 72 yX3_isStore wsX3_isStore) := goodIn_app (goodIn_of _ (by decide +kernel)) ggX3_isAncestor_X3_isStore
set_option maxRecDepth 20000 in
theorem ggX3_isAncestor_X3_isCommit : GoodIn wsX3_isAncestor wsX3_isCommit := goodIn_r _ [12, 13, 6, 7, 4, 8, 50, 51, 52, 53, 54, 55, 56, 57, 58, 59, 60, 61, 62, 63, 64, 65, 66, 67] (by decide +kernel) (by decide +kernel)
set_option maxRecDepth 20000 in
theorem gX3_isAncestor_X3_isCommit : GoodIn wsX3_isAncestor (wsV RX3 64 RX3 yX3_isCommit wsX3_isCommit) := goodIn_app (goodIn_of _ (by decide +kernel)) ggX3_isAncestor_X3_isCommit
set_option maxRecDepth 20000 in
theorem ggX3_isAncestor_X3_refused : GoodIn wsX3_isAncestor wsX3_refused := goodIn_r _ [17, 18, 50, 51, 52, 53, 54, 55, 56, 57, 58, 59, 60, 61, 62, 63, 64, 65, 66, 67] (by decide +kernel) (by decide +kernel)
set_option maxRecDepth 20000 in
theorem gX3_isAncestor_X3_refused : GoodIn wsX3_isAncestor (wsV RX3 78 RX3 yX3_refused wsX3_refused) := goodIn_app (goodIn_of _ (by decide +kernel)) ggX3_isAncestor_X3_refused
set_option maxRecDepth 20000 in
theorem ggX3_isAncestor_X3_markFrom : GoodIn wsX3_isAncestor wsX3_markFrom := goodIn_r _ [22, 23, 24, 25, 4, 26, 1, 27, 28, 29, 30, 31, 32, 33, 34, 35, 9, 10, 11, 12, 13, 6, 7, 8, 36, 37, 38, 39, 40, 41, 42, 43, 44, 45, 46, 47, 48, 49, 50, 51, 52, 53, 54, 55, 56, 57, 58, 59, 60, 61, 62, 63, 64, 65, 66, 67] (by decide +kernel) (by decide +kernel)
set_option maxRecDepth 20000 in
theorem gX3_isAncestor_X3_markFrom : GoodIn wsX3_isAncestor (wsV RX3 108 RX3 yX3_markFrom wsX3_markFrom) := goodIn_app (goodIn_of _ (by decide +kernel)) ggX3_isAncestor_X3_markFrom
theorem dX3_isAncestor_0 : decode cX3_isAncestor 0 = .ok (.iload_n 1, 1) := by decide +kernel
theorem dX3_isAncestor_1 : decode cX3_isAncestor 1 = .ok (.invokestatic 72, 3) := by decide +kernel
theorem dX3_isAncestor_4 : decode cX3_isAncestor 4 = .ok (.ifCond .eq 23, 3) := by decide +kernel
theorem dX3_isAncestor_7 : decode cX3_isAncestor 7 = .ok (.aload_n 0, 1) := by decide +kernel
theorem dX3_isAncestor_8 : decode cX3_isAncestor 8 = .ok (.iload_n 2, 1) := by decide +kernel
theorem dX3_isAncestor_9 : decode cX3_isAncestor 9 = .ok (.invokevirtual 64, 3) := by decide +kernel
theorem dX3_isAncestor_12 : decode cX3_isAncestor 12 = .ok (.ifCond .eq 15, 3) := by decide +kernel
theorem dX3_isAncestor_15 : decode cX3_isAncestor 15 = .ok (.aload_n 0, 1) := by decide +kernel
theorem dX3_isAncestor_16 : decode cX3_isAncestor 16 = .ok (.iload_n 3, 1) := by decide +kernel
theorem dX3_isAncestor_17 : decode cX3_isAncestor 17 = .ok (.invokevirtual 64, 3) := by decide +kernel
theorem dX3_isAncestor_20 : decode cX3_isAncestor 20 = .ok (.ifCond .eq 7, 3) := by decide +kernel
theorem dX3_isAncestor_23 : decode cX3_isAncestor 23 = .ok (.iconst 1, 1) := by decide +kernel
theorem dX3_isAncestor_24 : decode cX3_isAncestor 24 = .ok (.goto 4, 3) := by decide +kernel
theorem dX3_isAncestor_27 : decode cX3_isAncestor 27 = .ok (.iconst 0, 1) := by decide +kernel
theorem dX3_isAncestor_28 : decode cX3_isAncestor 28 = .ok (.istore 4, 2) := by decide +kernel
theorem dX3_isAncestor_30 : decode cX3_isAncestor 30 = .ok (.aload_n 0, 1) := by decide +kernel
theorem dX3_isAncestor_31 : decode cX3_isAncestor 31 = .ok (.iload 4, 2) := by decide +kernel
theorem dX3_isAncestor_33 : decode cX3_isAncestor 33 = .ok (.ifCond .eq 7, 3) := by decide +kernel
theorem dX3_isAncestor_36 : decode cX3_isAncestor 36 = .ok (.iconst 0, 1) := by decide +kernel
theorem dX3_isAncestor_37 : decode cX3_isAncestor 37 = .ok (.goto 4, 3) := by decide +kernel
theorem dX3_isAncestor_40 : decode cX3_isAncestor 40 = .ok (.iconst 1, 1) := by decide +kernel
theorem dX3_isAncestor_41 : decode cX3_isAncestor 41 = .ok (.invokevirtual 78, 3) := by decide +kernel
theorem dX3_isAncestor_44 : decode cX3_isAncestor 44 = .ok (.ifCond .eq 5, 3) := by decide +kernel
theorem dX3_isAncestor_47 : decode cX3_isAncestor 47 = .ok (.iconst 0, 1) := by decide +kernel
theorem dX3_isAncestor_48 : decode cX3_isAncestor 48 = .ok (.ireturn, 1) := by decide +kernel
theorem dX3_isAncestor_49 : decode cX3_isAncestor 49 = .ok (.aload_n 0, 1) := by decide +kernel
theorem dX3_isAncestor_50 : decode cX3_isAncestor 50 = .ok (.iload_n 1, 1) := by decide +kernel
theorem dX3_isAncestor_51 : decode cX3_isAncestor 51 = .ok (.iload_n 3, 1) := by decide +kernel
theorem dX3_isAncestor_52 : decode cX3_isAncestor 52 = .ok (.invokevirtual 108, 3) := by decide +kernel
theorem dX3_isAncestor_55 : decode cX3_isAncestor 55 = .ok (.aload_n 0, 1) := by decide +kernel
theorem dX3_isAncestor_56 : decode cX3_isAncestor 56 = .ok (.getfield 41, 3) := by decide +kernel
theorem dX3_isAncestor_59 : decode cX3_isAncestor 59 = .ok (.iload_n 2, 1) := by decide +kernel
theorem dX3_isAncestor_60 : decode cX3_isAncestor 60 = .ok (.baload, 1) := by decide +kernel
theorem dX3_isAncestor_61 : decode cX3_isAncestor 61 = .ok (.ireturn, 1) := by decide +kernel
end
section
theorem dJ13_bitCount_95d88_0 : decode cJ13_bitCount_95d88 0 = .ok (.lload_n 0, 1) := by decide +kernel
theorem dJ13_bitCount_95d88_1 : decode cJ13_bitCount_95d88 1 = .ok (.lload_n 0, 1) := by decide +kernel
theorem dJ13_bitCount_95d88_2 : decode cJ13_bitCount_95d88 2 = .ok (.iconst 1, 1) := by decide +kernel
theorem dJ13_bitCount_95d88_3 : decode cJ13_bitCount_95d88 3 = .ok (.lushr, 1) := by decide +kernel
theorem dJ13_bitCount_95d88_4 : decode cJ13_bitCount_95d88 4 = .ok (.ldc2_w 314, 3) := by decide +kernel
theorem dJ13_bitCount_95d88_7 : decode cJ13_bitCount_95d88 7 = .ok (.land, 1) := by decide +kernel
theorem dJ13_bitCount_95d88_8 : decode cJ13_bitCount_95d88 8 = .ok (.lsub, 1) := by decide +kernel
theorem dJ13_bitCount_95d88_9 : decode cJ13_bitCount_95d88 9 = .ok (.lstore_n 0, 1) := by decide +kernel
theorem dJ13_bitCount_95d88_10 : decode cJ13_bitCount_95d88 10 = .ok (.lload_n 0, 1) := by decide +kernel
theorem dJ13_bitCount_95d88_11 : decode cJ13_bitCount_95d88 11 = .ok (.ldc2_w 316, 3) := by decide +kernel
theorem dJ13_bitCount_95d88_14 : decode cJ13_bitCount_95d88 14 = .ok (.land, 1) := by decide +kernel
theorem dJ13_bitCount_95d88_15 : decode cJ13_bitCount_95d88 15 = .ok (.lload_n 0, 1) := by decide +kernel
theorem dJ13_bitCount_95d88_16 : decode cJ13_bitCount_95d88 16 = .ok (.iconst 2, 1) := by decide +kernel
theorem dJ13_bitCount_95d88_17 : decode cJ13_bitCount_95d88 17 = .ok (.lushr, 1) := by decide +kernel
theorem dJ13_bitCount_95d88_18 : decode cJ13_bitCount_95d88 18 = .ok (.ldc2_w 316, 3) := by decide +kernel
theorem dJ13_bitCount_95d88_21 : decode cJ13_bitCount_95d88 21 = .ok (.land, 1) := by decide +kernel
theorem dJ13_bitCount_95d88_22 : decode cJ13_bitCount_95d88 22 = .ok (.ladd, 1) := by decide +kernel
theorem dJ13_bitCount_95d88_23 : decode cJ13_bitCount_95d88 23 = .ok (.lstore_n 0, 1) := by decide +kernel
theorem dJ13_bitCount_95d88_24 : decode cJ13_bitCount_95d88 24 = .ok (.lload_n 0, 1) := by decide +kernel
theorem dJ13_bitCount_95d88_25 : decode cJ13_bitCount_95d88 25 = .ok (.lload_n 0, 1) := by decide +kernel
theorem dJ13_bitCount_95d88_26 : decode cJ13_bitCount_95d88 26 = .ok (.iconst 4, 1) := by decide +kernel
theorem dJ13_bitCount_95d88_27 : decode cJ13_bitCount_95d88 27 = .ok (.lushr, 1) := by decide +kernel
theorem dJ13_bitCount_95d88_28 : decode cJ13_bitCount_95d88 28 = .ok (.ladd, 1) := by decide +kernel
theorem dJ13_bitCount_95d88_29 : decode cJ13_bitCount_95d88 29 = .ok (.ldc2_w 318, 3) := by decide +kernel
theorem dJ13_bitCount_95d88_32 : decode cJ13_bitCount_95d88 32 = .ok (.land, 1) := by decide +kernel
theorem dJ13_bitCount_95d88_33 : decode cJ13_bitCount_95d88 33 = .ok (.lstore_n 0, 1) := by decide +kernel
theorem dJ13_bitCount_95d88_34 : decode cJ13_bitCount_95d88 34 = .ok (.lload_n 0, 1) := by decide +kernel
theorem dJ13_bitCount_95d88_35 : decode cJ13_bitCount_95d88 35 = .ok (.lload_n 0, 1) := by decide +kernel
theorem dJ13_bitCount_95d88_36 : decode cJ13_bitCount_95d88 36 = .ok (.bipush 8, 2) := by decide +kernel
theorem dJ13_bitCount_95d88_38 : decode cJ13_bitCount_95d88 38 = .ok (.lushr, 1) := by decide +kernel
theorem dJ13_bitCount_95d88_39 : decode cJ13_bitCount_95d88 39 = .ok (.ladd, 1) := by decide +kernel
theorem dJ13_bitCount_95d88_40 : decode cJ13_bitCount_95d88 40 = .ok (.lstore_n 0, 1) := by decide +kernel
theorem dJ13_bitCount_95d88_41 : decode cJ13_bitCount_95d88 41 = .ok (.lload_n 0, 1) := by decide +kernel
theorem dJ13_bitCount_95d88_42 : decode cJ13_bitCount_95d88 42 = .ok (.lload_n 0, 1) := by decide +kernel
theorem dJ13_bitCount_95d88_43 : decode cJ13_bitCount_95d88 43 = .ok (.bipush 16, 2) := by decide +kernel
theorem dJ13_bitCount_95d88_45 : decode cJ13_bitCount_95d88 45 = .ok (.lushr, 1) := by decide +kernel
theorem dJ13_bitCount_95d88_46 : decode cJ13_bitCount_95d88 46 = .ok (.ladd, 1) := by decide +kernel
theorem dJ13_bitCount_95d88_47 : decode cJ13_bitCount_95d88 47 = .ok (.lstore_n 0, 1) := by decide +kernel
theorem dJ13_bitCount_95d88_48 : decode cJ13_bitCount_95d88 48 = .ok (.lload_n 0, 1) := by decide +kernel
theorem dJ13_bitCount_95d88_49 : decode cJ13_bitCount_95d88 49 = .ok (.lload_n 0, 1) := by decide +kernel
theorem dJ13_bitCount_95d88_50 : decode cJ13_bitCount_95d88 50 = .ok (.bipush 32, 2) := by decide +kernel
theorem dJ13_bitCount_95d88_52 : decode cJ13_bitCount_95d88 52 = .ok (.lushr, 1) := by decide +kernel
theorem dJ13_bitCount_95d88_53 : decode cJ13_bitCount_95d88 53 = .ok (.ladd, 1) := by decide +kernel
theorem dJ13_bitCount_95d88_54 : decode cJ13_bitCount_95d88 54 = .ok (.lstore_n 0, 1) := by decide +kernel
theorem dJ13_bitCount_95d88_55 : decode cJ13_bitCount_95d88 55 = .ok (.lload_n 0, 1) := by decide +kernel
theorem dJ13_bitCount_95d88_56 : decode cJ13_bitCount_95d88 56 = .ok (.l2i, 1) := by decide +kernel
theorem dJ13_bitCount_95d88_57 : decode cJ13_bitCount_95d88 57 = .ok (.bipush 127, 2) := by decide +kernel
theorem dJ13_bitCount_95d88_59 : decode cJ13_bitCount_95d88 59 = .ok (.iand, 1) := by decide +kernel
theorem dJ13_bitCount_95d88_60 : decode cJ13_bitCount_95d88 60 = .ok (.ireturn, 1) := by decide +kernel
end
section
theorem dJ7_fill_53178_0 : decode cJ7_fill_53178 0 = .ok (.iconst 0, 1) := by decide +kernel
theorem dJ7_fill_53178_1 : decode cJ7_fill_53178 1 = .ok (.istore_n 2, 1) := by decide +kernel
theorem dJ7_fill_53178_2 : decode cJ7_fill_53178 2 = .ok (.aload_n 0, 1) := by decide +kernel
theorem dJ7_fill_53178_3 : decode cJ7_fill_53178 3 = .ok (.arraylength, 1) := by decide +kernel
theorem dJ7_fill_53178_4 : decode cJ7_fill_53178 4 = .ok (.istore_n 3, 1) := by decide +kernel
theorem dJ7_fill_53178_5 : decode cJ7_fill_53178 5 = .ok (.iload_n 2, 1) := by decide +kernel
theorem dJ7_fill_53178_6 : decode cJ7_fill_53178 6 = .ok (.iload_n 3, 1) := by decide +kernel
theorem dJ7_fill_53178_7 : decode cJ7_fill_53178 7 = .ok (.if_icmp .ge 13, 3) := by decide +kernel
theorem dJ7_fill_53178_10 : decode cJ7_fill_53178 10 = .ok (.aload_n 0, 1) := by decide +kernel
theorem dJ7_fill_53178_11 : decode cJ7_fill_53178 11 = .ok (.iload_n 2, 1) := by decide +kernel
theorem dJ7_fill_53178_12 : decode cJ7_fill_53178 12 = .ok (.iload_n 1, 1) := by decide +kernel
theorem dJ7_fill_53178_13 : decode cJ7_fill_53178 13 = .ok (.iastore, 1) := by decide +kernel
theorem dJ7_fill_53178_14 : decode cJ7_fill_53178 14 = .ok (.iinc 2 1, 3) := by decide +kernel
theorem dJ7_fill_53178_17 : decode cJ7_fill_53178 17 = .ok (.goto (-12), 3) := by decide +kernel
theorem dJ7_fill_53178_20 : decode cJ7_fill_53178 20 = .ok (.return_, 1) := by decide +kernel
end
section
/-! THE LAYER: contracts that say the answer and the new state as functions of the old one; the world is read off a state by wd -/
section GL0
variable {Sg : Type}
def gPc (D : va_G) (tys : List (ClassId × FieldType)) (wd : Sg → va_W) (E : State → Prop) (av : List Value) (u : Sg) (sz : Nat) : Array Value → State → Prop :=
  va_Pc av (fun U => U.heap.size = sz ∧ E U ∧ va_P D vwCl (wd u) U.heap ∧ va_K D vwCl tys U ∧ va_D (fun _ => True) (wd u))
def gQc (D : va_G) (wd : Sg → va_W) (rv : Option Value) (u' : Sg) (A : Nat → Prop) : Array Value → State → Outcome → State → Prop :=
  fun _ st oc t => (oc = .returned rv ∧ va_P D vwCl (wd u') t.heap ∧ va_D A (wd u')) ∧ va_F A st t
/-- method y, called with av at the state u, answers rv and leaves u' -/
def gM (l : Launch) (y : MethodName) (ws : List Cond) (rm : Room) (D : va_G) (tys : List (ClassId × FieldType)) (wd : Sg → va_W) (E : State → Prop) (av : List Value) (u : Sg) (rv : Option Value) (u' : Sg) : Prop :=
  ∀ sz : Nat, Met l y ws rm (gPc D tys wd E av u sz) (gQc D wd rv u' (va_A (wd u) sz)) 0 0 (va_A (wd u) sz)
/-- method y, called with av at the state u, throws En and changes nothing -/
def gXc (D : va_G) (wd : Sg → va_W) (u : Sg) (A : Nat → Prop) (En : String) : String → State → State → Prop := fun E st t => (E = En ∧ va_P D vwCl (wd u) t.heap ∧ va_D A (wd u)) ∧ va_F A st t
def gX (l : Launch) (y : MethodName) (ws : List Cond) (rm : Room) (D : va_G) (tys : List (ClassId × FieldType)) (wd : Sg → va_W) (E : State → Prop) (T : (Nat → Prop) → State → Heap → Prop) (av : List Value) (u : Sg) (En : String) : Prop :=
  ∀ sz : Nat, vx_Met l y ws rm (fun a U => gPc D tys wd E av u sz a U ∧ T (va_A (wd u) sz) U U.heap) (fun _ _ _ _ => False) (gXc D wd u (va_A (wd u) sz) En) 1 6 (va_A (wd u) sz)
/-- a premise that moves with the machine -/
def gEM (E : State → Prop) : Prop := ∀ U U' : State, U.WarmedH U'.vm → E U → E U'
def gTM (T : (Nat → Prop) → State → Heap → Prop) : Prop := (∀ (A : Nat → Prop) (U U' : State) (H : Heap), U.WarmedH U'.vm → T A U H → T A U' H) ∧ (∀ (A : Nat → Prop) (U : State) (H H1 : Heap), T A U H → (∀ a : Nat, a < H.size → ¬ A a → H1[a]? = H[a]?) → T A U H1) ∧ (∀ (A B : Nat → Prop) (U : State) (H : Heap), T A U H → (∀ q, B q → A q) → T B U H)
theorem gEM_true : gEM (fun _ => True) := fun _ _ _ _ => trivial
theorem gPc_blind {D : va_G} {tys : List (ClassId × FieldType)} {wd : Sg → va_W} {E : State → Prop} {av : List Value} {u : Sg} {sz : Nat} (hE : gEM E) : FrameBlind (gPc D tys wd E av u sz) := by
  intro a U g mk h
  obtain ⟨h1, h2, h3, h4, h5, h6⟩ := h
  exact ⟨h1, h2, hE U _ (State.WarmedH.refl U) h3, h4, va_K.moved (u := U) (U := U.calling g mk a) (Vm.Alike.refl U.vm) h5, h6⟩
end GL0
section GL1
variable {Sg : Type} {l : Launch} {y : MethodName} {ws ws' : List Cond} {rm : Room} {D : va_G} {tys : List (ClassId × FieldType)} {wd : Sg → va_W} {E : State → Prop} {av : List Value} {u u' : Sg} {rv : Option Value} {cc : ByteArray} {maxL : Nat} {ret : Option FieldType}
theorem g_start (hy : plainName y.cls = true) (hw : ws = Cond.code y cc maxL ret :: ws') (hlen : (lg_sl av).length ≤ maxL)
    (body : ∀ (p : Program) (e : Env) (s : State) (m : MethodId) (below : List Frame) (meth : Method) (c : Code) (A : Nat → Prop) (ls : Array Slot) (Q : State → Prop),
      p.tables.exec = Jvm.exec → c.code = cc → c.maxLocals = maxL → meth.sig.returnType = ret → (∀ w ∈ ws, w.before av.toArray s = true) → s.vm.findClass y.cls = some m.cls → meth.locks = false → E s → va_P D vwCl (wd u) s.heap → va_K D vwCl tys s → va_D A (wd u) → (∀ q, s.heap.size ≤ q → A q) → lv_has ls maxL (lv_args 0 av) →
      Q = MQ below (gQc D wd rv u' A) av.toArray s 0 0 A → va_S A s.heap s.heap [] → W p l e rm s m av.toArray below meth c s.heap [] 0 0 Q (F0 m 0 ls [])) : gM l y ws rm D tys wd E av u rv u' := by
  intro sz
  refine Met.ofW (cc := cc) (maxL := maxL) (ret := ret) hy hw ?_
  intro p e s m args below meth c s₁ B hml hv
  obtain ⟨rfl, hsz, hE, hP, hK, hD0⟩ := hv
  have hl := lv_entry av (n := maxL) hlen
  rw [lg_entry_eq]
  generalize (lg_sl av ++ List.replicate (maxL - (lg_sl av).length) Slot.unset).toArray = ls at hl ⊢
  subst hsz
  exact body p e s m below meth c (va_A (wd u) s.heap.size) ls _ B.exec B.bytes hml B.returns (atoms_spec (ws := ws) B.pre) (findClass_of_methodNamed B.named) B.notSynchronized hE hP hK hD0.self (fun q h => Or.inr h) hl rfl va_S.rf
theorem g_startX {T : (Nat → Prop) → State → Heap → Prop} {En : String} (hy : plainName y.cls = true) (hw : ws = Cond.code y cc maxL ret :: ws') (hlen : (lg_sl av).length ≤ maxL)
    (body : ∀ (p : Program) (e : Env) (s : State) (m : MethodId) (below : List Frame) (meth : Method) (c : Code) (A : Nat → Prop) (ls : Array Slot) (Q : State → Prop),
      p.tables.exec = Jvm.exec → c.code = cc → c.maxLocals = maxL → meth.sig.returnType = ret → (∀ w ∈ ws, w.before av.toArray s = true) → s.vm.findClass y.cls = some m.cls → meth.locks = false → E s → va_P D vwCl (wd u) s.heap → va_K D vwCl tys s → va_D A (wd u) → (∀ q, s.heap.size ≤ q → A q) → lv_has ls maxL (lv_args 0 av) →
      Q = vx_MQ below (fun _ _ _ _ => False) (gXc D wd u A En) av.toArray s 1 6 A → va_S A s.heap s.heap [] → T A s s.heap → (∀ x ∈ c.exceptionTable.toList, False) → W p l e rm s m av.toArray below meth c s.heap [] 0 0 Q (F0 m 0 ls [])) : gX l y ws rm D tys wd E T av u En := by
  intro sz
  refine vx_ofW (cc := cc) (maxL := maxL) (ret := ret) hy hw ?_
  intro p e s m args below meth c s₁ B hml htab hv
  obtain ⟨⟨rfl, hsz, hE, hP, hK, hD0⟩, hT⟩ := hv
  have hl := lv_entry av (n := maxL) hlen
  rw [lg_entry_eq]
  generalize (lg_sl av ++ List.replicate (maxL - (lg_sl av).length) Slot.unset).toArray = ls at hl ⊢
  subst hsz
  exact body p e s m below meth c (va_A (wd u) s.heap.size) ls _ B.exec B.bytes hml B.returns (atoms_spec (ws := ws) B.pre) (findClass_of_methodNamed B.named) B.notSynchronized hE hP hK hD0.self (fun q h => Or.inr h) hl rfl va_S.rf hT htab
end GL1
section GL2
variable {Sg : Type} {p : Program} {l : Launch} {e : Env} {R : Room} {s : State} {m : MethodId} {args : Array Value} {below : List Frame} {meth : Method} {c : Code} {H : Heap} {locs : List Loc} {cells slots : Nat} {Q : State → Prop}
variable {D : va_G} {tys : List (ClassId × FieldType)} {wd : Sg → va_W} {E E2 : State → Prop} {u u' u1 : Sg} {rv : Option Value} {cc : ByteArray} {pc : Nat} {ls : Array Slot} {A : Nat → Prop}
theorem g_iret {v : Int32} (hx : p.tables.exec = Jvm.exec) (hb : c.code = cc) (hr : meth.sig.returnType = some .int) (hlk : meth.locks = false) (hQ : Q = MQ below (gQc D wd rv u' A) args s 0 0 A) (hP : va_P D vwCl (wd u1) H) (hD : va_D A (wd u1)) (hS : va_S A s.heap H locs)
    (hdg : decode cc pc = .ok (.ireturn, 1)) (hv : some (Value.int v) = rv) (hu : wd u1 = wd u') : W p l e R s m args below meth c H locs 0 0 Q (F0 m pc ls [.int v]) := by
  subst hQ; subst hv; rw [hu] at hP hD
  exact W.iret (v := v) hx hb hr (fun t ht hW => ⟨⟨rfl, by rw [ht]; exact hP, hD⟩, hS.F ht⟩) hS.2.2 hdg hlk
theorem g_zret {v : Int32} {ty : FieldType} (hx : p.tables.exec = Jvm.exec) (hb : c.code = cc) (hr : meth.sig.returnType = some ty) (hlk : meth.locks = false) (hQ : Q = MQ below (gQc D wd rv u' A) args s 0 0 A) (hP : va_P D vwCl (wd u1) H) (hD : va_D A (wd u1)) (hS : va_S A s.heap H locs)
    (hdg : decode cc pc = .ok (.ireturn, 1)) (hn : narrow ty (.int v) = .int v) (hv : some (Value.int v) = rv) (hu : wd u1 = wd u') : W p l e R s m args below meth c H locs 0 0 Q (F0 m pc ls [.int v]) := by
  subst hQ; subst hv; rw [hu] at hP hD
  exact W.zret (v := v) hx hb hr hn (fun t ht hW => ⟨⟨rfl, by rw [ht]; exact hP, hD⟩, hS.F ht⟩) hS.2.2 hdg hlk
theorem g_lret {v : Int64} (hx : p.tables.exec = Jvm.exec) (hb : c.code = cc) (hr : meth.sig.returnType = some .long) (hlk : meth.locks = false) (hQ : Q = MQ below (gQc D wd rv u' A) args s 0 0 A) (hP : va_P D vwCl (wd u1) H) (hD : va_D A (wd u1)) (hS : va_S A s.heap H locs)
    (hdg : decode cc pc = .ok (.lreturn, 1)) (hv : some (Value.long v) = rv) (hu : wd u1 = wd u') : W p l e R s m args below meth c H locs 0 0 Q (F0 m pc ls [.long v]) := by
  subst hQ; subst hv; rw [hu] at hP hD
  exact W.lret (v := v) hx hb hr (fun t ht hW => ⟨⟨rfl, by rw [ht]; exact hP, hD⟩, hS.F ht⟩) hS.2.2 hdg hlk
theorem g_aret {a : Nat} {rt : FieldType} (hx : p.tables.exec = Jvm.exec) (hb : c.code = cc) (hr : meth.sig.returnType = some rt) (hrt : (∃ n, rt = .object n) ∨ ∃ t, rt = .array t) (hlk : meth.locks = false) (hQ : Q = MQ below (gQc D wd rv u' A) args s 0 0 A) (hP : va_P D vwCl (wd u1) H) (hD : va_D A (wd u1)) (hS : va_S A s.heap H locs)
    (hdg : decode cc pc = .ok (.areturn, 1)) (hv : some (Value.ref a) = rv) (hu : wd u1 = wd u') : W p l e R s m args below meth c H locs 0 0 Q (F0 m pc ls [.ref a]) := by
  subst hQ; subst hv; rw [hu] at hP hD
  exact W.aret (v := .ref a) hx hb hr hrt (Or.inr ⟨a, rfl⟩) (fun t ht hW => ⟨⟨rfl, by rw [ht]; exact hP, hD⟩, hS.F ht⟩) hS.2.2 hdg hlk
theorem g_vret (hx : p.tables.exec = Jvm.exec) (hb : c.code = cc) (hr : meth.sig.returnType = none) (hlk : meth.locks = false) (hQ : Q = MQ below (gQc D wd rv u' A) args s 0 0 A) (hP : va_P D vwCl (wd u1) H) (hD : va_D A (wd u1)) (hS : va_S A s.heap H locs)
    (hdg : decode cc pc = .ok (.return_, 1)) (hv : (none : Option Value) = rv) (hu : wd u1 = wd u') : W p l e R s m args below meth c H locs 0 0 Q (F0 m pc ls []) := by
  subst hQ; subst hv; rw [hu] at hP hD
  exact W.vret hx hb hr (fun t ht hW => ⟨⟨rfl, by rw [ht]; exact hP, hD⟩, hS.F ht⟩) hS.2.2 hdg hlk
end GL2
section GL3
variable {Sg : Type} {p : Program} {l : Launch} {e : Env} {R : Room} {s : State} {m : MethodId} {args : Array Value} {below : List Frame} {meth : Method} {c : Code} {H : Heap} {locs : List Loc} {cells slots : Nat} {Q : State → Prop}
variable {D : va_G} {tys : List (ClassId × FieldType)} {wd : Sg → va_W} {E2 : State → Prop} {u u' : Sg} {rv : Option Value} {cc bytes : ByteArray} {pc : Nat} {ls : Array Slot} {A0 : Nat → Prop} {H0 : Heap}
variable {y : MethodName} {ws Ts : List Cond} {rm : Room} {maxL nL n index : Nat} {ret : Option FieldType} {own C host : String} {b : Nat} {As rest st0 : List Value}
theorem g_free {ws0 : va_W} (hD : va_D A0 ws0) (hS : va_S A0 H0 H locs) (hA : ∀ q, H0.size ≤ q → A0 q) : ∀ q, va_A ws0 H.size q → A0 q := by
  intro q h
  rcases h with ⟨k, e, h⟩ | h
  · exact hD.2 k (q, e) h
  · exact hA q (Nat.le_trans hS.1 h)
/-- behind a call of the same world -/
theorem g_after {g : JFrame} {aa : Array Value} (hr : va_Run p l e R s m args below meth c H locs cells slots 0 0 g rest (gQc D wd rv u' (va_A (wd u) H.size) aa) (va_A (wd u) H.size)) (hS : va_S A0 H0 H locs) (hf : ∀ q, va_A (wd u) H.size q → A0 q)
    (kk : ∀ (H1 : Heap) (locs1 : List Loc), va_P D vwCl (wd u') H1 → va_D A0 (wd u') → va_S A0 H0 H1 locs1 → W p l e R s m args below meth c H1 locs1 cells slots Q { g with pc := g.pc + 3, stack := rv.toList ++ rest }) : W p l e R s m args below meth c H locs cells slots Q g := by
  intro T hT X
  obtain ⟨v, st₀, t, T', L, h0, X', hL, e1, e2, ⟨⟨hv, hP1, hD1⟩, hz, hk⟩, st⟩ := hr T hT X
  cases hv
  rw [h0] at hz hk
  obtain ⟨t2, a1, b1⟩ := kk T'.heap (locs ++ L) (by rw [e1]; exact hP1) (hD1.weaken (fun k q _ h => hf q.1 h))
    ⟨Nat.le_trans hS.1 (by rw [e1]; exact hz), fun q h1 h2 => by rw [e1, hk q (Nat.lt_of_lt_of_le h1 hS.1) (fun z => h2 (hf q z))]; exact hS.2.1 q h1 h2, fun q hq => by
      rcases List.mem_append.mp hq with h | h
      · exact hS.2.2 q h
      · exact hf _ (hL q h)⟩ T' rfl X'
  exact ⟨t2, st t2 a1, b1⟩
/-- behind a call that touches no world -/
theorem g_after0 {g : JFrame} {wa : va_W} {Qa : State → Outcome → State → Prop} (hr : va_Run p l e R s m args below meth c H locs cells slots 0 0 g rest Qa (va_A [] H.size)) (hQa : ∀ st oc t, Qa st oc t → oc = .returned rv ∧ va_F (va_A [] H.size) st t) (hP : va_P D vwCl wa H) (hS : va_S A0 H0 H locs) (hA : ∀ q, H0.size ≤ q → A0 q)
    (kk : ∀ (H1 : Heap) (locs1 : List Loc), va_P D vwCl wa H1 → va_S A0 H0 H1 locs1 → W p l e R s m args below meth c H1 locs1 cells slots Q { g with pc := g.pc + 3, stack := rv.toList ++ rest }) : W p l e R s m args below meth c H locs cells slots Q g := by
  have hn : ∀ q : Nat, q < H.size → ¬ va_A [] H.size q := by
    intro q h1 h2
    rcases h2 with ⟨k, e, h⟩ | h
    · simp at h
    · omega
  have hf : ∀ q, va_A [] H.size q → A0 q := by
    intro q h2
    rcases h2 with ⟨k, e, h⟩ | h
    · simp at h
    · exact hA q (Nat.le_trans hS.1 h)
  intro T hT X
  obtain ⟨v, st₀, t, T', L, h0, X', hL, e1, e2, hq, st⟩ := hr T hT X
  obtain ⟨hv, hz, hk⟩ := hQa _ _ _ hq
  cases hv
  rw [h0] at hz hk
  obtain ⟨t2, a1, b1⟩ := kk T'.heap (locs ++ L) (hP.kept (fun k q h => by rw [e1]; exact hk q.1 (hP k q h).lt (hn q.1 (hP k q h).lt)))
    ⟨Nat.le_trans hS.1 (by rw [e1]; exact hz), fun q h1 h2 => by rw [e1, hk q (Nat.lt_of_lt_of_le h1 hS.1) (fun z => h2 (hf q z))]; exact hS.2.1 q h1 h2, fun q hq => by
      rcases List.mem_append.mp hq with h | h
      · exact hS.2.2 q h
      · exact hf _ (hL q h)⟩ T' rfl X'
  exact ⟨t2, st t2 a1, b1⟩
theorem g_callV {ws' : List Cond} {ci N : Nat} {T : u_T} {fs : List Value} (hx : p.tables.exec = Jvm.exec) (hb : c.code = cc) (hml : c.maxLocals = nL) (hown : s.vm.findClass own = some m.cls) (hts : ∀ w ∈ Ts, w.before args s = true)
    (hM : gM l y ws rm D tys wd E2 (.ref b :: As) u rv u') (hT : GoodIn Ts (wsV own index C y ws)) (hw : ws = Cond.code y bytes maxL ret :: ws') (hrc : rm.cells = 0) (hrs : rm.slots = 0)
    (hd : y.cls = C ∧ y.cls ≠ "java/lang/invoke/MethodHandle" ∧ y.cls ≠ "java/lang/invoke/VarHandle" ∧ (parseMethodDescriptor y.desc).map (fun d => d.parameters.length) = some n) (hR : rm.frames + 1 ≤ R.frames ∧ 8 + (maxL + 11) + rm.locals ≤ R.locals)
    (hE2 : gEM E2) (hE : E2 s) (hP : va_P D vwCl (wd u) H) (hK : va_K D vwCl tys s) (hD : va_D A0 (wd u)) (hS : va_S A0 H0 H locs) (hA : ∀ q, H0.size ≤ q → A0 q)
    (q0 : Nat) (he : (wd u)[q0]? = some (b, .inr (ci, fs))) (hc : vwCl[ci]? = some (C, T, N)) (hn : As.length = n) (hsz : ls.size = nL) (hst : st0 = As.reverse ++ .ref b :: rest) (hr : (rest.map fun v => v.category).sum ≤ 8)
    (hdg : decode cc pc = .ok (.invokevirtual index, 3)) (hcs : cells ≤ R.cells ∧ slots ≤ R.slots)
    (kk : ∀ (H : Heap) (locs : List Loc), va_P D vwCl (wd u') H → va_D A0 (wd u') → va_S A0 H0 H locs → W p l e R s m args below meth c H locs cells slots Q (F0 m (pc + 3) ls (rv.toList ++ rest))) : W p l e R s m args below meth c H locs cells slots Q (F0 m pc ls st0) := by
  refine g_after (aa := (Value.ref b :: As).toArray) (va_runV (As := As) (rest := rest) ⟨hx, hb, hml, hown, hts⟩ (hM H.size) (cwV n hts hT hw hrc hrs hd hR) ⟨gPc_blind hE2, va_recv (q := (C, T, N)) hK hP hc he, fun U hU hW => ⟨rfl, by rw [hU], hE2 _ _ hW hE, by rw [hU]; exact hP, va_K.moved hW.alike hK, hD.weaken (fun _ _ _ _ => trivial)⟩⟩ rfl hn hsz hst (lv_room hr) hdg hcs) hS (g_free hD hS hA) kk
theorem g_callS {ws' : List Cond} (hx : p.tables.exec = Jvm.exec) (hb : c.code = cc) (hml : c.maxLocals = nL) (hown : s.vm.findClass own = some m.cls) (hts : ∀ w ∈ Ts, w.before args s = true)
    (hM : gM l y ws rm D tys wd E2 As u rv u') (hT : GoodIn Ts (va_wsS own index y ws)) (hw : ws = Cond.code y bytes maxL ret :: ws') (hrc : rm.cells = 0) (hrs : rm.slots = 0)
    (hd : y.cls ≠ "java/lang/invoke/MethodHandle" ∧ y.cls ≠ "java/lang/invoke/VarHandle" ∧ (parseMethodDescriptor y.desc).map (fun d => d.parameters.length) = some n) (hR : rm.frames + 1 ≤ R.frames ∧ 8 + (maxL + 11) + rm.locals ≤ R.locals)
    (hE2 : gEM E2) (hE : E2 s) (hP : va_P D vwCl (wd u) H) (hK : va_K D vwCl tys s) (hD : va_D A0 (wd u)) (hS : va_S A0 H0 H locs) (hA : ∀ q, H0.size ≤ q → A0 q)
    (hn : As.length = n) (hsz : ls.size = nL) (hst : st0 = As.reverse ++ rest) (hr : (rest.map fun v => v.category).sum ≤ 8)
    (hdg : decode cc pc = .ok (.invokestatic index, 3)) (hcs : cells ≤ R.cells ∧ slots ≤ R.slots)
    (kk : ∀ (H : Heap) (locs : List Loc), va_P D vwCl (wd u') H → va_D A0 (wd u') → va_S A0 H0 H locs → W p l e R s m args below meth c H locs cells slots Q (F0 m (pc + 3) ls (rv.toList ++ rest))) : W p l e R s m args below meth c H locs cells slots Q (F0 m pc ls st0) := by
  refine g_after (aa := As.toArray) (va_runS (As := As) (rest := rest) ⟨hx, hb, hml, hown, hts⟩ (hM H.size) (va_cwS n hts hT hw hrc hrs hd hR) ⟨gPc_blind hE2, fun U hU hW => ⟨rfl, by rw [hU], hE2 _ _ hW hE, by rw [hU]; exact hP, va_K.moved hW.alike hK, hD.weaken (fun _ _ _ _ => trivial)⟩⟩ rfl hn hsz hst (lv_room hr) hdg hcs) hS (g_free hD hS hA) kk
/-- the world of a method that touches no cell -/
abbrev w0 : Unit → va_W := fun _ => []
theorem w0_P {H : Heap} : va_P D vwCl (w0 ()) H := fun k q h => by simp at h
theorem w0_D {A : Nat → Prop} : va_D A (w0 ()) := ⟨fun i j p q h => by simp at h, fun k q h => by simp at h⟩
theorem g_callS0 {ws' : List Cond} {wa : va_W} (hx : p.tables.exec = Jvm.exec) (hb : c.code = cc) (hml : c.maxLocals = nL) (hown : s.vm.findClass own = some m.cls) (hts : ∀ w ∈ Ts, w.before args s = true)
    (hM : gM l y ws rm D tys w0 E2 As () rv ()) (hT : GoodIn Ts (va_wsS own index y ws)) (hw : ws = Cond.code y bytes maxL ret :: ws') (hrc : rm.cells = 0) (hrs : rm.slots = 0)
    (hd : y.cls ≠ "java/lang/invoke/MethodHandle" ∧ y.cls ≠ "java/lang/invoke/VarHandle" ∧ (parseMethodDescriptor y.desc).map (fun d => d.parameters.length) = some n) (hR : rm.frames + 1 ≤ R.frames ∧ 8 + (maxL + 11) + rm.locals ≤ R.locals)
    (hE2 : gEM E2) (hE : E2 s) (hP : va_P D vwCl wa H) (hK : va_K D vwCl tys s) (hS : va_S A0 H0 H locs) (hA : ∀ q, H0.size ≤ q → A0 q)
    (hn : As.length = n) (hsz : ls.size = nL) (hst : st0 = As.reverse ++ rest) (hr : (rest.map fun v => v.category).sum ≤ 8)
    (hdg : decode cc pc = .ok (.invokestatic index, 3)) (hcs : cells ≤ R.cells ∧ slots ≤ R.slots)
    (kk : ∀ (H : Heap) (locs : List Loc), va_P D vwCl wa H → va_S A0 H0 H locs → W p l e R s m args below meth c H locs cells slots Q (F0 m (pc + 3) ls (rv.toList ++ rest))) : W p l e R s m args below meth c H locs cells slots Q (F0 m pc ls st0) := by
  refine g_after0 (va_runS (As := As) (rest := rest) ⟨hx, hb, hml, hown, hts⟩ (hM H.size) (va_cwS n hts hT hw hrc hrs hd hR) ⟨gPc_blind hE2, fun U hU hW => ⟨rfl, by rw [hU], hE2 _ _ hW hE, w0_P, va_K.moved hW.alike hK, w0_D⟩⟩ rfl hn hsz hst (lv_room hr) hdg hcs) (fun st oc t h => ⟨h.1.1, h.2⟩) hP hS hA kk
theorem g_callN0 {ws' : List Cond} {wa : va_W} (hx : p.tables.exec = Jvm.exec) (hb : c.code = cc) (hml : c.maxLocals = nL) (hown : s.vm.findClass own = some m.cls) (hts : ∀ w ∈ Ts, w.before args s = true)
    (hM : gM l y ws rm D tys w0 E2 As () rv ()) (hT : GoodIn Ts ws) (hw : ws = Cond.code y bytes maxL ret :: ws') (hrc : rm.cells = 0) (hrs : rm.slots = 0) (hl : va_Nw (.methodLinkNest own index y host) s) (hini : (Cond.initialized y.cls).before args s = true) (hstc : (Cond.static y).before args s = true)
    (hd : y.cls ≠ "java/lang/invoke/MethodHandle" ∧ y.cls ≠ "java/lang/invoke/VarHandle" ∧ (parseMethodDescriptor y.desc).map (fun d => d.parameters.length) = some n) (hR : rm.frames + 1 ≤ R.frames ∧ 8 + (maxL + 11) + rm.locals ≤ R.locals)
    (hE2 : gEM E2) (hE : E2 s) (hP : va_P D vwCl wa H) (hK : va_K D vwCl tys s) (hS : va_S A0 H0 H locs) (hA : ∀ q, H0.size ≤ q → A0 q)
    (hn : As.length = n) (hsz : ls.size = nL) (hst : st0 = As.reverse ++ rest) (hr : (rest.map fun v => v.category).sum ≤ 8)
    (hdg : decode cc pc = .ok (.invokestatic index, 3)) (hcs : cells ≤ R.cells ∧ slots ≤ R.slots)
    (kk : ∀ (H : Heap) (locs : List Loc), va_P D vwCl wa H → va_S A0 H0 H locs → W p l e R s m args below meth c H locs cells slots Q (F0 m (pc + 3) ls (rv.toList ++ rest))) : W p l e R s m args below meth c H locs cells slots Q (F0 m pc ls st0) := by
  refine g_after0 (va_runSN (As := As) (rest := rest) ⟨hx, hb, hml, hown, hts⟩ (hM H.size) ⟨va_cnB n hts hT hw hrc hrs hl hini hd hR, hstc, trivial⟩ ⟨gPc_blind hE2, fun U hU hW => ⟨rfl, by rw [hU], hE2 _ _ hW hE, w0_P, va_K.moved hW.alike hK, w0_D⟩⟩ rfl hn hsz hst (lv_room hr) hdg hcs) (fun st oc t h => ⟨h.1.1, h.2⟩) hP hS hA kk
end GL3
section GL4
variable {Sg : Type} {p : Program} {l : Launch} {e : Env} {R : Room} {s : State} {m : MethodId} {args : Array Value} {below : List Frame} {meth : Method} {c : Code} {H : Heap} {locs : List Loc} {cells slots : Nat} {Q : State → Prop}
variable {D : va_G} {tys : List (ClassId × FieldType)} {wd : Sg → va_W} {u u' : Sg} {cc : ByteArray} {pc : Nat} {ls : Array Slot} {A : Nat → Prop} {H0 : Heap} {a : Nat} {rest : List Value} {cA : ClassId} {n : Nat} {f : Nat → Int32}
theorem g_iald (hx : p.tables.exec = Jvm.exec) (hb : c.code = cc) (hK : va_K D vwCl tys s) (hP : va_P D vwCl (wd u) H) (q0 t0 : Nat) (ha : (wd u)[q0]? = some (a, .inl (cA, n, .inl f))) (ht : tys[t0]? = some (cA, .int)) {i : Int32} (k : Nat) (hk : k < n) (hn : n < 2 ^ 31) (hi : i = nI k) (hdg : decode cc pc = .ok (.iaload, 1))
    (kk : W p l e R s m args below meth c H locs cells slots Q (F0 m (pc + 1) ls (.int (f k) :: rest))) : W p l e R s m args below meth c H locs cells slots Q (F0 m pc ls (.int i :: .ref a :: rest)) := by
  subst hi
  refine va_iald hx hb hK hP q0 t0 ha ht (vp_in_nI hk hn) hdg ?_
  rw [nI_clamp (by omega)]
  exact kk
theorem g_zald (hx : p.tables.exec = Jvm.exec) (hb : c.code = cc) (hK : va_K D vwCl tys s) (hP : va_P D vwCl (wd u) H) (q0 t0 : Nat) (ha : (wd u)[q0]? = some (a, .inl (cA, n, .inl f))) (ht : tys[t0]? = some (cA, .boolean)) {i : Int32} (k : Nat) (hk : k < n) (hn : n < 2 ^ 31) (hi : i = nI k) (hdg : decode cc pc = .ok (.baload, 1))
    (kk : W p l e R s m args below meth c H locs cells slots Q (F0 m (pc + 1) ls (.int (f k) :: rest))) : W p l e R s m args below meth c H locs cells slots Q (F0 m pc ls (.int i :: .ref a :: rest)) := by
  subst hi
  refine va_zald hx hb hK hP q0 t0 ha ht (vp_in_nI hk hn) hdg ?_
  rw [nI_clamp (by omega)]
  exact kk
theorem g_iast (hx : p.tables.exec = Jvm.exec) (hb : c.code = cc) (hK : va_K D vwCl tys s) (hP : va_P D vwCl (wd u) H) (hD : va_D A (wd u)) (hS : va_S A H0 H locs) (q0 t0 : Nat) (ha : (wd u)[q0]? = some (a, .inl (cA, n, .inl f))) (ht : tys[t0]? = some (cA, .int)) {i x : Int32} (k : Nat) (hk : k < n) (hn : n < 2 ^ 31) (hi : i = nI k) (hset : (wd u).set q0 (a, .inl (cA, n, .inl (upd f k x))) = wd u') (hdg : decode cc pc = .ok (.iastore, 1))
    (kk : ∀ (H : Heap) (locs : List Loc), va_P D vwCl (wd u') H → va_D A (wd u') → va_S A H0 H locs → W p l e R s m args below meth c H locs cells slots Q (F0 m (pc + 1) ls rest)) : W p l e R s m args below meth c H locs cells slots Q (F0 m pc ls (.int x :: .int i :: .ref a :: rest)) := by
  subst hi
  refine va_iast hx hb hK hP hD hS q0 t0 ha ht (vp_in_nI hk hn) hdg ?_
  rw [nI_clamp (by omega), hset]
  exact kk
theorem g_zast (hx : p.tables.exec = Jvm.exec) (hb : c.code = cc) (hK : va_K D vwCl tys s) (hP : va_P D vwCl (wd u) H) (hD : va_D A (wd u)) (hS : va_S A H0 H locs) (q0 t0 : Nat) (ha : (wd u)[q0]? = some (a, .inl (cA, n, .inl f))) (ht : tys[t0]? = some (cA, .boolean)) {i x : Int32} (k : Nat) (hk : k < n) (hn : n < 2 ^ 31) (hi : i = nI k) (hz : vp_nar .boolean x = x) (hset : (wd u).set q0 (a, .inl (cA, n, .inl (upd f k x))) = wd u') (hdg : decode cc pc = .ok (.bastore, 1))
    (kk : ∀ (H : Heap) (locs : List Loc), va_P D vwCl (wd u') H → va_D A (wd u') → va_S A H0 H locs → W p l e R s m args below meth c H locs cells slots Q (F0 m (pc + 1) ls rest)) : W p l e R s m args below meth c H locs cells slots Q (F0 m pc ls (.int x :: .int i :: .ref a :: rest)) := by
  subst hi
  refine va_zast hx hb hK hP hD hS q0 t0 ha ht (vp_in_nI hk hn) hdg ?_
  rw [nI_clamp (by omega), hz, hset]
  exact kk
theorem g_cmp0 (x y : Int64) : lg_cmp x y = 0 ↔ x = y := by
  unfold lg_cmp
  by_cases h2 : x > y
  · rw [if_pos h2]
    refine ⟨fun h => absurd h (by decide), fun h => ?_⟩
    subst h
    rw [gt_iff_lt, Int64.lt_iff_toInt_lt] at h2
    omega
  · rw [if_neg h2]
    by_cases h1 : x = y
    · simp [h1]
    · rw [if_neg h1]
      exact ⟨fun h => absurd h (by decide), fun h => absurd h h1⟩
theorem g_lcmpE {x y : Int64} (hx : p.tables.exec = Jvm.exec) (hb : c.code = cc) {off : Int} {tgt : Nat} (d1 : decode cc pc = .ok (.lcmp, 1)) (d2 : decode cc (pc + 1) = .ok (.ifCond .eq off, 3)) (ht : ((pc + 1 : Nat) : Int) + off = (tgt : Int))
    (kt : x = y → W p l e R s m args below meth c H locs cells slots Q (F0 m tgt ls rest)) (kf : ¬ x = y → W p l e R s m args below meth c H locs cells slots Q (F0 m (pc + 1 + 3) ls rest)) : W p l e R s m args below meth c H locs cells slots Q (F0 m pc ls (.long y :: .long x :: rest)) := by
  refine W.lcmp hx hb d1 ?_
  have key : lg_cmp x y = 0 ↔ x = y := g_cmp0 x y
  refine lv_if_eq hx hb d2 ht (fun h => kt (key.mp h)) (fun h => kf (fun q => h (key.mpr q)))
theorem g_lcmpN {x y : Int64} (hx : p.tables.exec = Jvm.exec) (hb : c.code = cc) {off : Int} {tgt : Nat} (d1 : decode cc pc = .ok (.lcmp, 1)) (d2 : decode cc (pc + 1) = .ok (.ifCond .ne off, 3)) (ht : ((pc + 1 : Nat) : Int) + off = (tgt : Int))
    (kt : ¬ x = y → W p l e R s m args below meth c H locs cells slots Q (F0 m tgt ls rest)) (kf : x = y → W p l e R s m args below meth c H locs cells slots Q (F0 m (pc + 1 + 3) ls rest)) : W p l e R s m args below meth c H locs cells slots Q (F0 m pc ls (.long y :: .long x :: rest)) := by
  refine W.lcmp hx hb d1 ?_
  have key : lg_cmp x y = 0 ↔ x = y := g_cmp0 x y
  exact lv_if_ne hx hb d2 ht (fun h => kt (fun q => h (key.mpr q))) (fun h => kf (key.mp h))
end GL4
end
section
/-! THE STATES. The class's: arrays and ints by number (0 firstParents, 1 secondParents, 2 slotFiles, 3 fewestSteps, 4 foundFiles, 5 the server's files, 6 its refs, 7 the client's files, 8 its refs, 9 protectedRefs, 10 movedRefs, 11 oldCommits, 12 newCommits; ints at place 0: 13 waitingMoves, 14 latestRounds, 15 made), longs by number (0 the server's commits, 1 the client's) -/
abbrev SX : Type := (Nat → Nat → Int32) × (Nat → Int64)
def gS (u : SX) (k : Nat) (f : Nat → Int32) : SX := (va_up u.1 k f, u.2)
def gL (u : SX) (k : Nat) (v : Int64) : SX := (u.1, va_up u.2 k v)
def XW (cI cZ : ClassId) (q : Nat → Nat) (u : SX) : va_W := [
  (q 0, .inr (2, [.ref (q 1), .ref (q 2), .ref (q 3), .ref (q 13), .ref (q 14), .ref (q 15), .ref (q 16), .int (u.1 13 0), .int (u.1 14 0)])),
  (q 1, .inr (0, [.ref (q 4), .ref (q 5), .ref (q 6), .ref (q 7), .ref (q 8), .int (u.1 15 0)])),
  (q 2, .inr (1, [.long (u.2 0), .ref (q 9), .ref (q 10)])),
  (q 3, .inr (1, [.long (u.2 1), .ref (q 11), .ref (q 12)])),
  (q 4, .inl (cI, 60, .inl (u.1 0))),
  (q 5, .inl (cI, 60, .inl (u.1 1))),
  (q 6, .inl (cI, 240, .inl (u.1 2))),
  (q 7, .inl (cI, 60, .inl (u.1 3))),
  (q 8, .inl (cZ, 100, .inl (u.1 4))),
  (q 9, .inl (cZ, 100, .inl (u.1 5))),
  (q 10, .inl (cI, 4, .inl (u.1 6))),
  (q 11, .inl (cZ, 100, .inl (u.1 7))),
  (q 12, .inl (cI, 4, .inl (u.1 8))),
  (q 13, .inl (cZ, 4, .inl (u.1 9))),
  (q 14, .inl (cI, 3, .inl (u.1 10))),
  (q 15, .inl (cI, 3, .inl (u.1 11))),
  (q 16, .inl (cI, 3, .inl (u.1 12)))]
/-- the reference's: arrays 0 firsts, 1 seconds, 2 slots, 3 hasCommit, 4 hasFile, 5 refs, 6 isProtected, 7 moveRefs, 8 moveOlds, 9 moveNews, 10 marks, 11 isCommon, 12 wasTold, 13 steps; ints 14 refusal, 15 made, 16 waiting, 17 rounds -/
abbrev SM : Type := Nat → Nat → Int32
def mS (u : SM) (k : Nat) (f : Nat → Int32) : SM := va_up u k f
def MW (cI cZ : ClassId) (q : Nat → Nat) (u : SM) : va_W := [
  (q 0, .inr (3, [.int (u 14 0), .int (u 15 0), .ref (q 1), .ref (q 2), .ref (q 3), .ref (q 4), .ref (q 5), .ref (q 6), .ref (q 7), .int (u 16 0), .ref (q 8), .ref (q 9), .ref (q 10), .int (u 17 0), .ref (q 11), .ref (q 12), .ref (q 13), .ref (q 14)])),
  (q 1, .inl (cI, 60, .inl (u 0))),
  (q 2, .inl (cI, 60, .inl (u 1))),
  (q 3, .inl (cI, 240, .inl (u 2))),
  (q 4, .inl (cZ, 120, .inl (u 3))),
  (q 5, .inl (cZ, 200, .inl (u 4))),
  (q 6, .inl (cI, 8, .inl (u 5))),
  (q 7, .inl (cZ, 4, .inl (u 6))),
  (q 8, .inl (cI, 3, .inl (u 7))),
  (q 9, .inl (cI, 3, .inl (u 8))),
  (q 10, .inl (cI, 3, .inl (u 9))),
  (q 11, .inl (cZ, 60, .inl (u 10))),
  (q 12, .inl (cZ, 60, .inl (u 11))),
  (q 13, .inl (cZ, 60, .inl (u 12))),
  (q 14, .inl (cI, 60, .inl (u 13)))]
/-- words of the class that a method needs beside its own list: nest mates, and the casts of a throw -/
def XBw : List Cond := [.fieldLinkNest RX2 75 RX1 "heldCommits" "J" "FetchHouse", .methodLinkNest RX2 9 yX0_init "FetchHouse", .methodLinkNest RX0 44 yX2_isSlot "FetchHouse", .methodLinkNest RX0 47 yX2_contains "FetchHouse", .methodLinkNest RX0 55 yX2_isFile "FetchHouse", .methodLinkNest RX0 58 yX2_setOf "FetchHouse", .methodLinkNest RX1 25 yX2_isRef "FetchHouse", .methodLinkNest RX1 29 yX2_setOf "FetchHouse", .methodLinkNest RX1 33 yX2_isFile "FetchHouse", .castable "java/lang/IndexOutOfBoundsException" "java/lang/IndexOutOfBoundsException", .castable "java/lang/IllegalArgumentException" "java/lang/IllegalArgumentException", .castable "java/lang/IllegalStateException" "java/lang/IllegalStateException"]
def XStr : List (Nat × String) := [(139, "the server does not have the file"), (151, "3 moves wait"), (182, "a depth is 0 to 60"), (184, "the server's ref is for none"), (203, "no such store"), (209, "no such commit"), (211, "the store has no such commit"), (216, "a slot is 0 to 3"), (221, "a ref is 0 to 3"), (226, "a file is 0 to 99"), (57, "a second parent needs another first one"), (68, "60 commits were made")]
def XG (U : State) : Prop := (∀ w ∈ XBw, va_Nw w U) ∧ ∀ z ∈ XStr, ∃ a, vk_R RX2 z.1 z.2 a U
theorem XG_em : gEM XG := by
  intro U U' hW h
  refine ⟨fun w hw => ?_, fun z hz => ?_⟩
  · have h1 := h.1 w hw
    simp only [XBw, List.mem_cons, List.not_mem_nil, or_false] at hw
    rcases hw with rfl | rfl | rfl | rfl | rfl | rfl | rfl | rfl | rfl | rfl | rfl | rfl <;> first | exact va_Nw.warmF hW h1 | exact va_Nw.warmM hW h1 | exact va_Nw.warmC hW h1
  · obtain ⟨a, ha⟩ := h.2 z hz
    exact ⟨a, ha.warm hW⟩
theorem g_leI {x y : Int32} {a b : Nat} (hx : x = nI a) (hy : y = nI b) (ha : a < 2 ^ 31) (hb : b < 2 ^ 31) : x ≤ y ↔ a ≤ b := by subst hx; subst hy; exact nI_leI ha hb
theorem g_ltI {x y : Int32} {a b : Nat} (hx : x = nI a) (hy : y = nI b) (ha : a < 2 ^ 31) (hb : b < 2 ^ 31) : x < y ↔ a < b := by subst hx; subst hy; exact nI_ltI ha hb
theorem g_eqI {x y : Int32} {a b : Nat} (hx : x = nI a) (hy : y = nI b) (ha : a < 2 ^ 31) (hb : b < 2 ^ 31) : x = y ↔ a = b := by subst hx; subst hy; exact nI_eq ha hb
theorem g_addE {x y : Int32} {a b : Nat} (hx : x = nI a) (hy : y = nI b) : x + y = nI (a + b) := by subst hx; subst hy; exact nI_add a b
theorem g_mulE {x y : Int32} {a b : Nat} (hx : x = nI a) (hy : y = nI b) : x * y = nI (a * b) := by subst hx; subst hy; exact pk_mul a b
theorem g_dec1 (x : Int32) : x + Int32.ofInt (-1) = x - 1 := by
  rw [Int32.sub_eq_add_neg]; rfl
def itU {α : Type} (f : Nat → α → α) : Nat → Nat → α → α
  | 0, _, a => a
  | n + 1, i, a => itU f n (i + 1) (f i a)
def itD {α : Type} (f : Nat → α → α) : Nat → α → α
  | 0, a => a
  | n + 1, a => itD f n (f n a)
/-! what the class's small methods answer -/
def xRange (c n : Int32) : Int32 := if c < 0 then 0 else if n ≤ c then 0 else 1
def xSet (c : Int32) : Int64 := if c < 0 then 0 else if 60 ≤ c then 0 else (1 : Int64) <<< ((Int32.toInt64 c) &&& 63)
def xCon (s : Int64) (c : Int32) : Int32 := if s &&& xSet c = 0 then 0 else 1
def xFileIn (n : Nat) (sf : Nat → Int32) (c t : Int32) : Int32 := if xRange c (nI n) = 0 then -1 else if xRange t 4 = 0 then -1 else sf (c.toNatClampNeg * 4 + t.toNatClampNeg)
def xPar (n : Nat) (fp sp : Nat → Int32) (c : Int32) : Int64 := if xRange c (nI n) = 0 then 0 else xSet (fp c.toNatClampNeg) ||| xSet (sp c.toNatClampNeg)
theorem xRange_01 (c n : Int32) : xRange c n = 0 ∨ xRange c n = 1 := by unfold xRange; split; exact Or.inl rfl; split; exact Or.inl rfl; exact Or.inr rfl
theorem xCon_01 (s : Int64) (c : Int32) : xCon s c = 0 ∨ xCon s c = 1 := by unfold xCon; split; exact Or.inl rfl; exact Or.inr rfl
/-- in range: a number -/
theorem xRange_ne {c m : Int32} {n : Nat} (hm : m = nI n) (hn : n < 2 ^ 31) (h : ¬ xRange c m = 0) : ∃ j : Nat, j < n ∧ c = nI j := by
  subst hm
  unfold xRange at h
  rcases pk_ix c hn with h1 | h1 | h1
  · rw [if_pos h1] at h; exact absurd rfl h
  · by_cases h2 : c < 0
    · rw [if_pos h2] at h; exact absurd rfl h
    · rw [if_neg h2, if_pos h1] at h; exact absurd rfl h
  · exact h1
theorem xRange_in {j n : Nat} (h : j < n) (hn : n < 2 ^ 31) : xRange (nI j) (nI n) = 1 := by
  unfold xRange
  rw [if_neg (nI_pos (by omega)), if_neg (nI_ge h hn)]
theorem g_nar01 (v : Int32) (h : v = 0 ∨ v = 1) : narrow .boolean (.int v) = .int v := by rcases h with h | h <;> subst h <;> rfl
/-! calls: a method's class, its parameters -/
theorem hdX0_isFull : yX0_isFull.cls = RX0 ∧ yX0_isFull.cls ≠ "java/lang/invoke/MethodHandle" ∧ yX0_isFull.cls ≠ "java/lang/invoke/VarHandle" ∧ (parseMethodDescriptor yX0_isFull.desc).map (fun d => d.parameters.length) = some 0 := by decide +kernel
theorem hdX0_fileIn : yX0_fileIn.cls = RX0 ∧ yX0_fileIn.cls ≠ "java/lang/invoke/MethodHandle" ∧ yX0_fileIn.cls ≠ "java/lang/invoke/VarHandle" ∧ (parseMethodDescriptor yX0_fileIn.desc).map (fun d => d.parameters.length) = some 2 := by decide +kernel
theorem hdX0_isCommit : yX0_isCommit.cls = RX0 ∧ yX0_isCommit.cls ≠ "java/lang/invoke/MethodHandle" ∧ yX0_isCommit.cls ≠ "java/lang/invoke/VarHandle" ∧ (parseMethodDescriptor yX0_isCommit.desc).map (fun d => d.parameters.length) = some 1 := by decide +kernel
theorem hdX2_isSlot : yX2_isSlot.cls ≠ "java/lang/invoke/MethodHandle" ∧ yX2_isSlot.cls ≠ "java/lang/invoke/VarHandle" ∧ (parseMethodDescriptor yX2_isSlot.desc).map (fun d => d.parameters.length) = some 1 := by decide +kernel
theorem hdX2_contains : yX2_contains.cls ≠ "java/lang/invoke/MethodHandle" ∧ yX2_contains.cls ≠ "java/lang/invoke/VarHandle" ∧ (parseMethodDescriptor yX2_contains.desc).map (fun d => d.parameters.length) = some 2 := by decide +kernel
theorem hdX0_findFilesOf : yX0_findFilesOf.cls = RX0 ∧ yX0_findFilesOf.cls ≠ "java/lang/invoke/MethodHandle" ∧ yX0_findFilesOf.cls ≠ "java/lang/invoke/VarHandle" ∧ (parseMethodDescriptor yX0_findFilesOf.desc).map (fun d => d.parameters.length) = some 1 := by decide +kernel
theorem hdX2_isFile : yX2_isFile.cls ≠ "java/lang/invoke/MethodHandle" ∧ yX2_isFile.cls ≠ "java/lang/invoke/VarHandle" ∧ (parseMethodDescriptor yX2_isFile.desc).map (fun d => d.parameters.length) = some 1 := by decide +kernel
theorem hdX2_setOf : yX2_setOf.cls ≠ "java/lang/invoke/MethodHandle" ∧ yX2_setOf.cls ≠ "java/lang/invoke/VarHandle" ∧ (parseMethodDescriptor yX2_setOf.desc).map (fun d => d.parameters.length) = some 1 := by decide +kernel
theorem hdX0_parentsOf : yX0_parentsOf.cls = RX0 ∧ yX0_parentsOf.cls ≠ "java/lang/invoke/MethodHandle" ∧ yX0_parentsOf.cls ≠ "java/lang/invoke/VarHandle" ∧ (parseMethodDescriptor yX0_parentsOf.desc).map (fun d => d.parameters.length) = some 1 := by decide +kernel
theorem hdX0_shallowOf : yX0_shallowOf.cls = RX0 ∧ yX0_shallowOf.cls ≠ "java/lang/invoke/MethodHandle" ∧ yX0_shallowOf.cls ≠ "java/lang/invoke/VarHandle" ∧ (parseMethodDescriptor yX0_shallowOf.desc).map (fun d => d.parameters.length) = some 1 := by decide +kernel
theorem hdJ7_fill_53178 : yJ7_fill_53178.cls ≠ "java/lang/invoke/MethodHandle" ∧ yJ7_fill_53178.cls ≠ "java/lang/invoke/VarHandle" ∧ (parseMethodDescriptor yJ7_fill_53178.desc).map (fun d => d.parameters.length) = some 2 := by decide +kernel
theorem hdX0_comeTo : yX0_comeTo.cls = RX0 ∧ yX0_comeTo.cls ≠ "java/lang/invoke/MethodHandle" ∧ yX0_comeTo.cls ≠ "java/lang/invoke/VarHandle" ∧ (parseMethodDescriptor yX0_comeTo.desc).map (fun d => d.parameters.length) = some 2 := by decide +kernel
theorem hdX2_isRef : yX2_isRef.cls ≠ "java/lang/invoke/MethodHandle" ∧ yX2_isRef.cls ≠ "java/lang/invoke/VarHandle" ∧ (parseMethodDescriptor yX2_isRef.desc).map (fun d => d.parameters.length) = some 1 := by decide +kernel
theorem hdX1_holdsFile : yX1_holdsFile.cls = RX1 ∧ yX1_holdsFile.cls ≠ "java/lang/invoke/MethodHandle" ∧ yX1_holdsFile.cls ≠ "java/lang/invoke/VarHandle" ∧ (parseMethodDescriptor yX1_holdsFile.desc).map (fun d => d.parameters.length) = some 1 := by decide +kernel
theorem hdX2_storeOf : yX2_storeOf.cls = RX2 ∧ yX2_storeOf.cls ≠ "java/lang/invoke/MethodHandle" ∧ yX2_storeOf.cls ≠ "java/lang/invoke/VarHandle" ∧ (parseMethodDescriptor yX2_storeOf.desc).map (fun d => d.parameters.length) = some 1 := by decide +kernel
theorem hdX2_checkSlot : yX2_checkSlot.cls ≠ "java/lang/invoke/MethodHandle" ∧ yX2_checkSlot.cls ≠ "java/lang/invoke/VarHandle" ∧ (parseMethodDescriptor yX2_checkSlot.desc).map (fun d => d.parameters.length) = some 1 := by decide +kernel
theorem hdX2_checkHeldOrNone : yX2_checkHeldOrNone.cls ≠ "java/lang/invoke/MethodHandle" ∧ yX2_checkHeldOrNone.cls ≠ "java/lang/invoke/VarHandle" ∧ (parseMethodDescriptor yX2_checkHeldOrNone.desc).map (fun d => d.parameters.length) = some 2 := by decide +kernel
theorem hdX2_checkFile : yX2_checkFile.cls ≠ "java/lang/invoke/MethodHandle" ∧ yX2_checkFile.cls ≠ "java/lang/invoke/VarHandle" ∧ (parseMethodDescriptor yX2_checkFile.desc).map (fun d => d.parameters.length) = some 1 := by decide +kernel
theorem hdX0_append : yX0_append.cls = RX0 ∧ yX0_append.cls ≠ "java/lang/invoke/MethodHandle" ∧ yX0_append.cls ≠ "java/lang/invoke/VarHandle" ∧ (parseMethodDescriptor yX0_append.desc).map (fun d => d.parameters.length) = some 4 := by decide +kernel
theorem hdX1_addFile : yX1_addFile.cls = RX1 ∧ yX1_addFile.cls ≠ "java/lang/invoke/MethodHandle" ∧ yX1_addFile.cls ≠ "java/lang/invoke/VarHandle" ∧ (parseMethodDescriptor yX1_addFile.desc).map (fun d => d.parameters.length) = some 1 := by decide +kernel
theorem hdX2_checkRef : yX2_checkRef.cls ≠ "java/lang/invoke/MethodHandle" ∧ yX2_checkRef.cls ≠ "java/lang/invoke/VarHandle" ∧ (parseMethodDescriptor yX2_checkRef.desc).map (fun d => d.parameters.length) = some 1 := by decide +kernel
theorem hdX1_commitOfRef : yX1_commitOfRef.cls = RX1 ∧ yX1_commitOfRef.cls ≠ "java/lang/invoke/MethodHandle" ∧ yX1_commitOfRef.cls ≠ "java/lang/invoke/VarHandle" ∧ (parseMethodDescriptor yX1_commitOfRef.desc).map (fun d => d.parameters.length) = some 1 := by decide +kernel
theorem hdX1_pointRef : yX1_pointRef.cls = RX1 ∧ yX1_pointRef.cls ≠ "java/lang/invoke/MethodHandle" ∧ yX1_pointRef.cls ≠ "java/lang/invoke/VarHandle" ∧ (parseMethodDescriptor yX1_pointRef.desc).map (fun d => d.parameters.length) = some 2 := by decide +kernel
theorem hdX2_checkCommit : yX2_checkCommit.cls = RX2 ∧ yX2_checkCommit.cls ≠ "java/lang/invoke/MethodHandle" ∧ yX2_checkCommit.cls ≠ "java/lang/invoke/VarHandle" ∧ (parseMethodDescriptor yX2_checkCommit.desc).map (fun d => d.parameters.length) = some 1 := by decide +kernel
theorem hdX2_commitToFetch : yX2_commitToFetch.cls = RX2 ∧ yX2_commitToFetch.cls ≠ "java/lang/invoke/MethodHandle" ∧ yX2_commitToFetch.cls ≠ "java/lang/invoke/VarHandle" ∧ (parseMethodDescriptor yX2_commitToFetch.desc).map (fun d => d.parameters.length) = some 2 := by decide +kernel
theorem hdX2_talk : yX2_talk.cls = RX2 ∧ yX2_talk.cls ≠ "java/lang/invoke/MethodHandle" ∧ yX2_talk.cls ≠ "java/lang/invoke/VarHandle" ∧ (parseMethodDescriptor yX2_talk.desc).map (fun d => d.parameters.length) = some 0 := by decide +kernel
theorem hdX0_reachOf : yX0_reachOf.cls = RX0 ∧ yX0_reachOf.cls ≠ "java/lang/invoke/MethodHandle" ∧ yX0_reachOf.cls ≠ "java/lang/invoke/VarHandle" ∧ (parseMethodDescriptor yX0_reachOf.desc).map (fun d => d.parameters.length) = some 2 := by decide +kernel
theorem hdX0_filesOf : yX0_filesOf.cls = RX0 ∧ yX0_filesOf.cls ≠ "java/lang/invoke/MethodHandle" ∧ yX0_filesOf.cls ≠ "java/lang/invoke/VarHandle" ∧ (parseMethodDescriptor yX0_filesOf.desc).map (fun d => d.parameters.length) = some 1 := by decide +kernel
theorem hdX1_addFiles : yX1_addFiles.cls = RX1 ∧ yX1_addFiles.cls ≠ "java/lang/invoke/MethodHandle" ∧ yX1_addFiles.cls ≠ "java/lang/invoke/VarHandle" ∧ (parseMethodDescriptor yX1_addFiles.desc).map (fun d => d.parameters.length) = some 2 := by decide +kernel
theorem hdJ13_bitCount_95d88 : yJ13_bitCount_95d88.cls ≠ "java/lang/invoke/MethodHandle" ∧ yJ13_bitCount_95d88.cls ≠ "java/lang/invoke/VarHandle" ∧ (parseMethodDescriptor yJ13_bitCount_95d88.desc).map (fun d => d.parameters.length) = some 1 := by decide +kernel
theorem hdX1_countLacking : yX1_countLacking.cls = RX1 ∧ yX1_countLacking.cls ≠ "java/lang/invoke/MethodHandle" ∧ yX1_countLacking.cls ≠ "java/lang/invoke/VarHandle" ∧ (parseMethodDescriptor yX1_countLacking.desc).map (fun d => d.parameters.length) = some 1 := by decide +kernel
theorem hdX2_checkCommitOrNone : yX2_checkCommitOrNone.cls = RX2 ∧ yX2_checkCommitOrNone.cls ≠ "java/lang/invoke/MethodHandle" ∧ yX2_checkCommitOrNone.cls ≠ "java/lang/invoke/VarHandle" ∧ (parseMethodDescriptor yX2_checkCommitOrNone.desc).map (fun d => d.parameters.length) = some 1 := by decide +kernel
theorem hdX2_firstRefusal : yX2_firstRefusal.cls = RX2 ∧ yX2_firstRefusal.cls ≠ "java/lang/invoke/MethodHandle" ∧ yX2_firstRefusal.cls ≠ "java/lang/invoke/VarHandle" ∧ (parseMethodDescriptor yX2_firstRefusal.desc).map (fun d => d.parameters.length) = some 0 := by decide +kernel
theorem hdX2_doMoves : yX2_doMoves.cls = RX2 ∧ yX2_doMoves.cls ≠ "java/lang/invoke/MethodHandle" ∧ yX2_doMoves.cls ≠ "java/lang/invoke/VarHandle" ∧ (parseMethodDescriptor yX2_doMoves.desc).map (fun d => d.parameters.length) = some 0 := by decide +kernel
theorem hdX1_commitsOfRefs : yX1_commitsOfRefs.cls = RX1 ∧ yX1_commitsOfRefs.cls ≠ "java/lang/invoke/MethodHandle" ∧ yX1_commitsOfRefs.cls ≠ "java/lang/invoke/VarHandle" ∧ (parseMethodDescriptor yX1_commitsOfRefs.desc).map (fun d => d.parameters.length) = some 0 := by decide +kernel
theorem hdX0_ancestorsOf : yX0_ancestorsOf.cls = RX0 ∧ yX0_ancestorsOf.cls ≠ "java/lang/invoke/MethodHandle" ∧ yX0_ancestorsOf.cls ≠ "java/lang/invoke/VarHandle" ∧ (parseMethodDescriptor yX0_ancestorsOf.desc).map (fun d => d.parameters.length) = some 2 := by decide +kernel
theorem hdX1_keepOnlyFiles : yX1_keepOnlyFiles.cls = RX1 ∧ yX1_keepOnlyFiles.cls ≠ "java/lang/invoke/MethodHandle" ∧ yX1_keepOnlyFiles.cls ≠ "java/lang/invoke/VarHandle" ∧ (parseMethodDescriptor yX1_keepOnlyFiles.desc).map (fun d => d.parameters.length) = some 1 := by decide +kernel
theorem hdX0_size : yX0_size.cls = RX0 ∧ yX0_size.cls ≠ "java/lang/invoke/MethodHandle" ∧ yX0_size.cls ≠ "java/lang/invoke/VarHandle" ∧ (parseMethodDescriptor yX0_size.desc).map (fun d => d.parameters.length) = some 0 := by decide +kernel
theorem hdX2_highestOf : yX2_highestOf.cls ≠ "java/lang/invoke/MethodHandle" ∧ yX2_highestOf.cls ≠ "java/lang/invoke/VarHandle" ∧ (parseMethodDescriptor yX2_highestOf.desc).map (fun d => d.parameters.length) = some 2 := by decide +kernel
theorem hdX2_refusalOf : yX2_refusalOf.cls = RX2 ∧ yX2_refusalOf.cls ≠ "java/lang/invoke/MethodHandle" ∧ yX2_refusalOf.cls ≠ "java/lang/invoke/VarHandle" ∧ (parseMethodDescriptor yX2_refusalOf.desc).map (fun d => d.parameters.length) = some 3 := by decide +kernel
theorem hdX2_isProtectedRef : yX2_isProtectedRef.cls = RX2 ∧ yX2_isProtectedRef.cls ≠ "java/lang/invoke/MethodHandle" ∧ yX2_isProtectedRef.cls ≠ "java/lang/invoke/VarHandle" ∧ (parseMethodDescriptor yX2_isProtectedRef.desc).map (fun d => d.parameters.length) = some 1 := by decide +kernel
theorem hdX2_endsBeyondServer : yX2_endsBeyondServer.cls = RX2 ∧ yX2_endsBeyondServer.cls ≠ "java/lang/invoke/MethodHandle" ∧ yX2_endsBeyondServer.cls ≠ "java/lang/invoke/VarHandle" ∧ (parseMethodDescriptor yX2_endsBeyondServer.desc).map (fun d => d.parameters.length) = some 1 := by decide +kernel
theorem hdX3_in : yX3_in.cls ≠ "java/lang/invoke/MethodHandle" ∧ yX3_in.cls ≠ "java/lang/invoke/VarHandle" ∧ (parseMethodDescriptor yX3_in.desc).map (fun d => d.parameters.length) = some 3 := by decide +kernel
theorem hdX3_isCommit : yX3_isCommit.cls = RX3 ∧ yX3_isCommit.cls ≠ "java/lang/invoke/MethodHandle" ∧ yX3_isCommit.cls ≠ "java/lang/invoke/VarHandle" ∧ (parseMethodDescriptor yX3_isCommit.desc).map (fun d => d.parameters.length) = some 1 := by decide +kernel
theorem hdX3_isIn : yX3_isIn.cls = RX3 ∧ yX3_isIn.cls ≠ "java/lang/invoke/MethodHandle" ∧ yX3_isIn.cls ≠ "java/lang/invoke/VarHandle" ∧ (parseMethodDescriptor yX3_isIn.desc).map (fun d => d.parameters.length) = some 2 := by decide +kernel
theorem hdX3_isStore : yX3_isStore.cls ≠ "java/lang/invoke/MethodHandle" ∧ yX3_isStore.cls ≠ "java/lang/invoke/VarHandle" ∧ (parseMethodDescriptor yX3_isStore.desc).map (fun d => d.parameters.length) = some 1 := by decide +kernel
theorem hdX3_isInOrNone : yX3_isInOrNone.cls = RX3 ∧ yX3_isInOrNone.cls ≠ "java/lang/invoke/MethodHandle" ∧ yX3_isInOrNone.cls ≠ "java/lang/invoke/VarHandle" ∧ (parseMethodDescriptor yX3_isInOrNone.desc).map (fun d => d.parameters.length) = some 2 := by decide +kernel
theorem hdX3_refused : yX3_refused.cls = RX3 ∧ yX3_refused.cls ≠ "java/lang/invoke/MethodHandle" ∧ yX3_refused.cls ≠ "java/lang/invoke/VarHandle" ∧ (parseMethodDescriptor yX3_refused.desc).map (fun d => d.parameters.length) = some 1 := by decide +kernel
theorem hdX3_isRef : yX3_isRef.cls ≠ "java/lang/invoke/MethodHandle" ∧ yX3_isRef.cls ≠ "java/lang/invoke/VarHandle" ∧ (parseMethodDescriptor yX3_isRef.desc).map (fun d => d.parameters.length) = some 1 := by decide +kernel
theorem hdX3_lacksParent : yX3_lacksParent.cls = RX3 ∧ yX3_lacksParent.cls ≠ "java/lang/invoke/MethodHandle" ∧ yX3_lacksParent.cls ≠ "java/lang/invoke/VarHandle" ∧ (parseMethodDescriptor yX3_lacksParent.desc).map (fun d => d.parameters.length) = some 2 := by decide +kernel
theorem hdX3_shallow : yX3_shallow.cls = RX3 ∧ yX3_shallow.cls ≠ "java/lang/invoke/MethodHandle" ∧ yX3_shallow.cls ≠ "java/lang/invoke/VarHandle" ∧ (parseMethodDescriptor yX3_shallow.desc).map (fun d => d.parameters.length) = some 1 := by decide +kernel
theorem hdX3_mark : yX3_mark.cls = RX3 ∧ yX3_mark.cls ≠ "java/lang/invoke/MethodHandle" ∧ yX3_mark.cls ≠ "java/lang/invoke/VarHandle" ∧ (parseMethodDescriptor yX3_mark.desc).map (fun d => d.parameters.length) = some 2 := by decide +kernel
theorem hdX3_clear : yX3_clear.cls = RX3 ∧ yX3_clear.cls ≠ "java/lang/invoke/MethodHandle" ∧ yX3_clear.cls ≠ "java/lang/invoke/VarHandle" ∧ (parseMethodDescriptor yX3_clear.desc).map (fun d => d.parameters.length) = some 0 := by decide +kernel
theorem hdX3_markOn : yX3_markOn.cls = RX3 ∧ yX3_markOn.cls ≠ "java/lang/invoke/MethodHandle" ∧ yX3_markOn.cls ≠ "java/lang/invoke/VarHandle" ∧ (parseMethodDescriptor yX3_markOn.desc).map (fun d => d.parameters.length) = some 1 := by decide +kernel
theorem hdX3_tell : yX3_tell.cls = RX3 ∧ yX3_tell.cls ≠ "java/lang/invoke/MethodHandle" ∧ yX3_tell.cls ≠ "java/lang/invoke/VarHandle" ∧ (parseMethodDescriptor yX3_tell.desc).map (fun d => d.parameters.length) = some 0 := by decide +kernel
theorem hdX3_markFrom : yX3_markFrom.cls = RX3 ∧ yX3_markFrom.cls ≠ "java/lang/invoke/MethodHandle" ∧ yX3_markFrom.cls ≠ "java/lang/invoke/VarHandle" ∧ (parseMethodDescriptor yX3_markFrom.desc).map (fun d => d.parameters.length) = some 2 := by decide +kernel
theorem hdX3_near : yX3_near.cls = RX3 ∧ yX3_near.cls ≠ "java/lang/invoke/MethodHandle" ∧ yX3_near.cls ≠ "java/lang/invoke/VarHandle" ∧ (parseMethodDescriptor yX3_near.desc).map (fun d => d.parameters.length) = some 2 := by decide +kernel
theorem hdX3_noFetch : yX3_noFetch.cls = RX3 ∧ yX3_noFetch.cls ≠ "java/lang/invoke/MethodHandle" ∧ yX3_noFetch.cls ≠ "java/lang/invoke/VarHandle" ∧ (parseMethodDescriptor yX3_noFetch.desc).map (fun d => d.parameters.length) = some 2 := by decide +kernel
theorem hdX3_talk : yX3_talk.cls = RX3 ∧ yX3_talk.cls ≠ "java/lang/invoke/MethodHandle" ∧ yX3_talk.cls ≠ "java/lang/invoke/VarHandle" ∧ (parseMethodDescriptor yX3_talk.desc).map (fun d => d.parameters.length) = some 0 := by decide +kernel
theorem hdX3_reach : yX3_reach.cls = RX3 ∧ yX3_reach.cls ≠ "java/lang/invoke/MethodHandle" ∧ yX3_reach.cls ≠ "java/lang/invoke/VarHandle" ∧ (parseMethodDescriptor yX3_reach.desc).map (fun d => d.parameters.length) = some 2 := by decide +kernel
theorem hdX3_bring : yX3_bring.cls = RX3 ∧ yX3_bring.cls ≠ "java/lang/invoke/MethodHandle" ∧ yX3_bring.cls ≠ "java/lang/invoke/VarHandle" ∧ (parseMethodDescriptor yX3_bring.desc).map (fun d => d.parameters.length) = some 4 := by decide +kernel
theorem hdX3_fine : yX3_fine.cls = RX3 ∧ yX3_fine.cls ≠ "java/lang/invoke/MethodHandle" ∧ yX3_fine.cls ≠ "java/lang/invoke/VarHandle" ∧ (parseMethodDescriptor yX3_fine.desc).map (fun d => d.parameters.length) = some 1 := by decide +kernel
theorem hdX3_isNeeded : yX3_isNeeded.cls = RX3 ∧ yX3_isNeeded.cls ≠ "java/lang/invoke/MethodHandle" ∧ yX3_isNeeded.cls ≠ "java/lang/invoke/VarHandle" ∧ (parseMethodDescriptor yX3_isNeeded.desc).map (fun d => d.parameters.length) = some 2 := by decide +kernel
theorem hdX3_isCommitOrNone : yX3_isCommitOrNone.cls = RX3 ∧ yX3_isCommitOrNone.cls ≠ "java/lang/invoke/MethodHandle" ∧ yX3_isCommitOrNone.cls ≠ "java/lang/invoke/VarHandle" ∧ (parseMethodDescriptor yX3_isCommitOrNone.desc).map (fun d => d.parameters.length) = some 1 := by decide +kernel
theorem hdX3_barred : yX3_barred.cls = RX3 ∧ yX3_barred.cls ≠ "java/lang/invoke/MethodHandle" ∧ yX3_barred.cls ≠ "java/lang/invoke/VarHandle" ∧ (parseMethodDescriptor yX3_barred.desc).map (fun d => d.parameters.length) = some 1 := by decide +kernel
theorem hdX2_make : yX2_make.cls = RX2 ∧ yX2_make.cls ≠ "java/lang/invoke/MethodHandle" ∧ yX2_make.cls ≠ "java/lang/invoke/VarHandle" ∧ (parseMethodDescriptor yX2_make.desc).map (fun d => d.parameters.length) = some 5 := by decide +kernel
theorem hdX2_setRef : yX2_setRef.cls = RX2 ∧ yX2_setRef.cls ≠ "java/lang/invoke/MethodHandle" ∧ yX2_setRef.cls ≠ "java/lang/invoke/VarHandle" ∧ (parseMethodDescriptor yX2_setRef.desc).map (fun d => d.parameters.length) = some 3 := by decide +kernel
theorem hdX2_ref : yX2_ref.cls = RX2 ∧ yX2_ref.cls ≠ "java/lang/invoke/MethodHandle" ∧ yX2_ref.cls ≠ "java/lang/invoke/VarHandle" ∧ (parseMethodDescriptor yX2_ref.desc).map (fun d => d.parameters.length) = some 2 := by decide +kernel
theorem hdX2_fileAt : yX2_fileAt.cls = RX2 ∧ yX2_fileAt.cls ≠ "java/lang/invoke/MethodHandle" ∧ yX2_fileAt.cls ≠ "java/lang/invoke/VarHandle" ∧ (parseMethodDescriptor yX2_fileAt.desc).map (fun d => d.parameters.length) = some 2 := by decide +kernel
theorem hdX2_fetch : yX2_fetch.cls = RX2 ∧ yX2_fetch.cls ≠ "java/lang/invoke/MethodHandle" ∧ yX2_fetch.cls ≠ "java/lang/invoke/VarHandle" ∧ (parseMethodDescriptor yX2_fetch.desc).map (fun d => d.parameters.length) = some 3 := by decide +kernel
theorem hdX2_wouldFetch : yX2_wouldFetch.cls = RX2 ∧ yX2_wouldFetch.cls ≠ "java/lang/invoke/MethodHandle" ∧ yX2_wouldFetch.cls ≠ "java/lang/invoke/VarHandle" ∧ (parseMethodDescriptor yX2_wouldFetch.desc).map (fun d => d.parameters.length) = some 2 := by decide +kernel
theorem hdX2_load : yX2_load.cls = RX2 ∧ yX2_load.cls ≠ "java/lang/invoke/MethodHandle" ∧ yX2_load.cls ≠ "java/lang/invoke/VarHandle" ∧ (parseMethodDescriptor yX2_load.desc).map (fun d => d.parameters.length) = some 1 := by decide +kernel
theorem hdX2_protect : yX2_protect.cls = RX2 ∧ yX2_protect.cls ≠ "java/lang/invoke/MethodHandle" ∧ yX2_protect.cls ≠ "java/lang/invoke/VarHandle" ∧ (parseMethodDescriptor yX2_protect.desc).map (fun d => d.parameters.length) = some 2 := by decide +kernel
theorem hdX2_move : yX2_move.cls = RX2 ∧ yX2_move.cls ≠ "java/lang/invoke/MethodHandle" ∧ yX2_move.cls ≠ "java/lang/invoke/VarHandle" ∧ (parseMethodDescriptor yX2_move.desc).map (fun d => d.parameters.length) = some 3 := by decide +kernel
theorem hdX2_collect : yX2_collect.cls = RX2 ∧ yX2_collect.cls ≠ "java/lang/invoke/MethodHandle" ∧ yX2_collect.cls ≠ "java/lang/invoke/VarHandle" ∧ (parseMethodDescriptor yX2_collect.desc).map (fun d => d.parameters.length) = some 1 := by decide +kernel
theorem hdX2_has : yX2_has.cls = RX2 ∧ yX2_has.cls ≠ "java/lang/invoke/MethodHandle" ∧ yX2_has.cls ≠ "java/lang/invoke/VarHandle" ∧ (parseMethodDescriptor yX2_has.desc).map (fun d => d.parameters.length) = some 2 := by decide +kernel
theorem hdX2_hasFile : yX2_hasFile.cls = RX2 ∧ yX2_hasFile.cls ≠ "java/lang/invoke/MethodHandle" ∧ yX2_hasFile.cls ≠ "java/lang/invoke/VarHandle" ∧ (parseMethodDescriptor yX2_hasFile.desc).map (fun d => d.parameters.length) = some 2 := by decide +kernel
theorem hdX2_isShallow : yX2_isShallow.cls = RX2 ∧ yX2_isShallow.cls ≠ "java/lang/invoke/MethodHandle" ∧ yX2_isShallow.cls ≠ "java/lang/invoke/VarHandle" ∧ (parseMethodDescriptor yX2_isShallow.desc).map (fun d => d.parameters.length) = some 1 := by decide +kernel
theorem hdX2_isAncestor : yX2_isAncestor.cls = RX2 ∧ yX2_isAncestor.cls ≠ "java/lang/invoke/MethodHandle" ∧ yX2_isAncestor.cls ≠ "java/lang/invoke/VarHandle" ∧ (parseMethodDescriptor yX2_isAncestor.desc).map (fun d => d.parameters.length) = some 3 := by decide +kernel
theorem hdL_make : yL_make.cls ≠ "java/lang/invoke/MethodHandle" ∧ yL_make.cls ≠ "java/lang/invoke/VarHandle" ∧ (parseMethodDescriptor yL_make.desc).map (fun d => d.parameters.length) = some 7 := by decide +kernel
theorem hdX3_make : yX3_make.cls = RX3 ∧ yX3_make.cls ≠ "java/lang/invoke/MethodHandle" ∧ yX3_make.cls ≠ "java/lang/invoke/VarHandle" ∧ (parseMethodDescriptor yX3_make.desc).map (fun d => d.parameters.length) = some 5 := by decide +kernel
theorem hdX3_thrown : yX3_thrown.cls = RX3 ∧ yX3_thrown.cls ≠ "java/lang/invoke/MethodHandle" ∧ yX3_thrown.cls ≠ "java/lang/invoke/VarHandle" ∧ (parseMethodDescriptor yX3_thrown.desc).map (fun d => d.parameters.length) = some 0 := by decide +kernel
theorem hdL_setRef : yL_setRef.cls ≠ "java/lang/invoke/MethodHandle" ∧ yL_setRef.cls ≠ "java/lang/invoke/VarHandle" ∧ (parseMethodDescriptor yL_setRef.desc).map (fun d => d.parameters.length) = some 5 := by decide +kernel
theorem hdX3_setRef : yX3_setRef.cls = RX3 ∧ yX3_setRef.cls ≠ "java/lang/invoke/MethodHandle" ∧ yX3_setRef.cls ≠ "java/lang/invoke/VarHandle" ∧ (parseMethodDescriptor yX3_setRef.desc).map (fun d => d.parameters.length) = some 3 := by decide +kernel
theorem hdL_ref : yL_ref.cls ≠ "java/lang/invoke/MethodHandle" ∧ yL_ref.cls ≠ "java/lang/invoke/VarHandle" ∧ (parseMethodDescriptor yL_ref.desc).map (fun d => d.parameters.length) = some 4 := by decide +kernel
theorem hdX3_ref : yX3_ref.cls = RX3 ∧ yX3_ref.cls ≠ "java/lang/invoke/MethodHandle" ∧ yX3_ref.cls ≠ "java/lang/invoke/VarHandle" ∧ (parseMethodDescriptor yX3_ref.desc).map (fun d => d.parameters.length) = some 2 := by decide +kernel
theorem hdL_fileAt : yL_fileAt.cls ≠ "java/lang/invoke/MethodHandle" ∧ yL_fileAt.cls ≠ "java/lang/invoke/VarHandle" ∧ (parseMethodDescriptor yL_fileAt.desc).map (fun d => d.parameters.length) = some 4 := by decide +kernel
theorem hdX3_fileAt : yX3_fileAt.cls = RX3 ∧ yX3_fileAt.cls ≠ "java/lang/invoke/MethodHandle" ∧ yX3_fileAt.cls ≠ "java/lang/invoke/VarHandle" ∧ (parseMethodDescriptor yX3_fileAt.desc).map (fun d => d.parameters.length) = some 2 := by decide +kernel
theorem hdL_fetch : yL_fetch.cls ≠ "java/lang/invoke/MethodHandle" ∧ yL_fetch.cls ≠ "java/lang/invoke/VarHandle" ∧ (parseMethodDescriptor yL_fetch.desc).map (fun d => d.parameters.length) = some 5 := by decide +kernel
theorem hdX3_fetch : yX3_fetch.cls = RX3 ∧ yX3_fetch.cls ≠ "java/lang/invoke/MethodHandle" ∧ yX3_fetch.cls ≠ "java/lang/invoke/VarHandle" ∧ (parseMethodDescriptor yX3_fetch.desc).map (fun d => d.parameters.length) = some 3 := by decide +kernel
theorem hdL_wouldFetch : yL_wouldFetch.cls ≠ "java/lang/invoke/MethodHandle" ∧ yL_wouldFetch.cls ≠ "java/lang/invoke/VarHandle" ∧ (parseMethodDescriptor yL_wouldFetch.desc).map (fun d => d.parameters.length) = some 4 := by decide +kernel
theorem hdX3_wouldFetch : yX3_wouldFetch.cls = RX3 ∧ yX3_wouldFetch.cls ≠ "java/lang/invoke/MethodHandle" ∧ yX3_wouldFetch.cls ≠ "java/lang/invoke/VarHandle" ∧ (parseMethodDescriptor yX3_wouldFetch.desc).map (fun d => d.parameters.length) = some 2 := by decide +kernel
theorem hdX2_rounds : yX2_rounds.cls = RX2 ∧ yX2_rounds.cls ≠ "java/lang/invoke/MethodHandle" ∧ yX2_rounds.cls ≠ "java/lang/invoke/VarHandle" ∧ (parseMethodDescriptor yX2_rounds.desc).map (fun d => d.parameters.length) = some 0 := by decide +kernel
theorem hdX3_rounds : yX3_rounds.cls = RX3 ∧ yX3_rounds.cls ≠ "java/lang/invoke/MethodHandle" ∧ yX3_rounds.cls ≠ "java/lang/invoke/VarHandle" ∧ (parseMethodDescriptor yX3_rounds.desc).map (fun d => d.parameters.length) = some 0 := by decide +kernel
theorem hdL_load : yL_load.cls ≠ "java/lang/invoke/MethodHandle" ∧ yL_load.cls ≠ "java/lang/invoke/VarHandle" ∧ (parseMethodDescriptor yL_load.desc).map (fun d => d.parameters.length) = some 3 := by decide +kernel
theorem hdX3_load : yX3_load.cls = RX3 ∧ yX3_load.cls ≠ "java/lang/invoke/MethodHandle" ∧ yX3_load.cls ≠ "java/lang/invoke/VarHandle" ∧ (parseMethodDescriptor yX3_load.desc).map (fun d => d.parameters.length) = some 1 := by decide +kernel
theorem hdX2_missing : yX2_missing.cls = RX2 ∧ yX2_missing.cls ≠ "java/lang/invoke/MethodHandle" ∧ yX2_missing.cls ≠ "java/lang/invoke/VarHandle" ∧ (parseMethodDescriptor yX2_missing.desc).map (fun d => d.parameters.length) = some 0 := by decide +kernel
theorem hdX3_missing : yX3_missing.cls = RX3 ∧ yX3_missing.cls ≠ "java/lang/invoke/MethodHandle" ∧ yX3_missing.cls ≠ "java/lang/invoke/VarHandle" ∧ (parseMethodDescriptor yX3_missing.desc).map (fun d => d.parameters.length) = some 0 := by decide +kernel
theorem hdL_protect : yL_protect.cls ≠ "java/lang/invoke/MethodHandle" ∧ yL_protect.cls ≠ "java/lang/invoke/VarHandle" ∧ (parseMethodDescriptor yL_protect.desc).map (fun d => d.parameters.length) = some 4 := by decide +kernel
theorem hdX3_protect : yX3_protect.cls = RX3 ∧ yX3_protect.cls ≠ "java/lang/invoke/MethodHandle" ∧ yX3_protect.cls ≠ "java/lang/invoke/VarHandle" ∧ (parseMethodDescriptor yX3_protect.desc).map (fun d => d.parameters.length) = some 2 := by decide +kernel
theorem hdL_move : yL_move.cls ≠ "java/lang/invoke/MethodHandle" ∧ yL_move.cls ≠ "java/lang/invoke/VarHandle" ∧ (parseMethodDescriptor yL_move.desc).map (fun d => d.parameters.length) = some 5 := by decide +kernel
theorem hdX3_move : yX3_move.cls = RX3 ∧ yX3_move.cls ≠ "java/lang/invoke/MethodHandle" ∧ yX3_move.cls ≠ "java/lang/invoke/VarHandle" ∧ (parseMethodDescriptor yX3_move.desc).map (fun d => d.parameters.length) = some 3 := by decide +kernel
theorem hdX2_push : yX2_push.cls = RX2 ∧ yX2_push.cls ≠ "java/lang/invoke/MethodHandle" ∧ yX2_push.cls ≠ "java/lang/invoke/VarHandle" ∧ (parseMethodDescriptor yX2_push.desc).map (fun d => d.parameters.length) = some 0 := by decide +kernel
theorem hdX3_push : yX3_push.cls = RX3 ∧ yX3_push.cls ≠ "java/lang/invoke/MethodHandle" ∧ yX3_push.cls ≠ "java/lang/invoke/VarHandle" ∧ (parseMethodDescriptor yX3_push.desc).map (fun d => d.parameters.length) = some 0 := by decide +kernel
theorem hdL_collect : yL_collect.cls ≠ "java/lang/invoke/MethodHandle" ∧ yL_collect.cls ≠ "java/lang/invoke/VarHandle" ∧ (parseMethodDescriptor yL_collect.desc).map (fun d => d.parameters.length) = some 3 := by decide +kernel
theorem hdX3_collect : yX3_collect.cls = RX3 ∧ yX3_collect.cls ≠ "java/lang/invoke/MethodHandle" ∧ yX3_collect.cls ≠ "java/lang/invoke/VarHandle" ∧ (parseMethodDescriptor yX3_collect.desc).map (fun d => d.parameters.length) = some 1 := by decide +kernel
theorem hdX2_commits : yX2_commits.cls = RX2 ∧ yX2_commits.cls ≠ "java/lang/invoke/MethodHandle" ∧ yX2_commits.cls ≠ "java/lang/invoke/VarHandle" ∧ (parseMethodDescriptor yX2_commits.desc).map (fun d => d.parameters.length) = some 0 := by decide +kernel
theorem hdX3_commits : yX3_commits.cls = RX3 ∧ yX3_commits.cls ≠ "java/lang/invoke/MethodHandle" ∧ yX3_commits.cls ≠ "java/lang/invoke/VarHandle" ∧ (parseMethodDescriptor yX3_commits.desc).map (fun d => d.parameters.length) = some 0 := by decide +kernel
theorem hdL_has : yL_has.cls ≠ "java/lang/invoke/MethodHandle" ∧ yL_has.cls ≠ "java/lang/invoke/VarHandle" ∧ (parseMethodDescriptor yL_has.desc).map (fun d => d.parameters.length) = some 4 := by decide +kernel
theorem hdX3_has : yX3_has.cls = RX3 ∧ yX3_has.cls ≠ "java/lang/invoke/MethodHandle" ∧ yX3_has.cls ≠ "java/lang/invoke/VarHandle" ∧ (parseMethodDescriptor yX3_has.desc).map (fun d => d.parameters.length) = some 2 := by decide +kernel
theorem hdL_hasFile : yL_hasFile.cls ≠ "java/lang/invoke/MethodHandle" ∧ yL_hasFile.cls ≠ "java/lang/invoke/VarHandle" ∧ (parseMethodDescriptor yL_hasFile.desc).map (fun d => d.parameters.length) = some 4 := by decide +kernel
theorem hdX3_hasFile : yX3_hasFile.cls = RX3 ∧ yX3_hasFile.cls ≠ "java/lang/invoke/MethodHandle" ∧ yX3_hasFile.cls ≠ "java/lang/invoke/VarHandle" ∧ (parseMethodDescriptor yX3_hasFile.desc).map (fun d => d.parameters.length) = some 2 := by decide +kernel
theorem hdL_isShallow : yL_isShallow.cls ≠ "java/lang/invoke/MethodHandle" ∧ yL_isShallow.cls ≠ "java/lang/invoke/VarHandle" ∧ (parseMethodDescriptor yL_isShallow.desc).map (fun d => d.parameters.length) = some 3 := by decide +kernel
theorem hdX3_isShallow : yX3_isShallow.cls = RX3 ∧ yX3_isShallow.cls ≠ "java/lang/invoke/MethodHandle" ∧ yX3_isShallow.cls ≠ "java/lang/invoke/VarHandle" ∧ (parseMethodDescriptor yX3_isShallow.desc).map (fun d => d.parameters.length) = some 1 := by decide +kernel
theorem hdL_isAncestor : yL_isAncestor.cls ≠ "java/lang/invoke/MethodHandle" ∧ yL_isAncestor.cls ≠ "java/lang/invoke/VarHandle" ∧ (parseMethodDescriptor yL_isAncestor.desc).map (fun d => d.parameters.length) = some 5 := by decide +kernel
theorem hdX3_isAncestor : yX3_isAncestor.cls = RX3 ∧ yX3_isAncestor.cls ≠ "java/lang/invoke/MethodHandle" ∧ yX3_isAncestor.cls ≠ "java/lang/invoke/VarHandle" ∧ (parseMethodDescriptor yX3_isAncestor.desc).map (fun d => d.parameters.length) = some 3 := by decide +kernel
end
section
def xShStep (n : Nat) (fp sp : Nat → Int32) (held : Int64) (k : Nat) (sh : Int64) : Int64 := if xCon held (nI k) = 0 then sh else if (xPar n fp sp (nI k) &&& (held ^^^ (-1))) = 0 then sh else sh ||| xSet (nI k)
def xShallow (n : Nat) (fp sp : Nat → Int32) (held : Int64) : Int64 := itU (xShStep n fp sp held) n 0 0
def xAncStep (n : Nat) (fp sp : Nat → Int32) (uf : Int64) (k : Nat) (fd : Int64) : Int64 := if xCon (fd &&& (uf ^^^ (-1))) (nI k) = 0 then fd else fd ||| xPar n fp sp (nI k)
def xAnc (n : Nat) (fp sp : Nat → Int32) (starts held : Int64) : Int64 := itD (xAncStep n fp sp (xShallow n fp sp held)) n (starts &&& held)
def xFindStep (n : Nat) (sf : Nat → Int32) (c : Int32) (k : Nat) (ff : Nat → Int32) : Nat → Int32 := if xRange (xFileIn n sf c (nI k)) 100 = 0 then ff else upd ff (xFileIn n sf c (nI k)).toNatClampNeg 1
def xFind (n : Nat) (sf : Nat → Int32) (c : Int32) (ff : Nat → Int32) : Nat → Int32 := itU (xFindStep n sf c) 4 0 ff
def xClrStep (k : Nat) (ff : Nat → Int32) : Nat → Int32 := upd ff k 0
def xClr (ff : Nat → Int32) : Nat → Int32 := itU xClrStep 100 0 ff
def xFilesStep (n : Nat) (sf : Nat → Int32) (cs : Int64) (k : Nat) (ff : Nat → Int32) : Nat → Int32 := if xCon cs (nI k) = 0 then ff else xFind n sf (nI k) ff
def xFiles (n : Nat) (sf : Nat → Int32) (cs : Int64) (ff : Nat → Int32) : Nat → Int32 := itU (xFilesStep n sf cs) n 0 (xClr ff)
def xSlotStep (n : Nat) (first slot file : Int32) (k : Nat) (sf : Nat → Int32) : Nat → Int32 := if nI k = slot then upd sf ((n * 4) + k) file else upd sf ((n * 4) + k) (xFileIn n sf first (nI k))
def xSlots (n : Nat) (first slot file : Int32) (sf : Nat → Int32) : Nat → Int32 := itU (xSlotStep n first slot file) 4 0 sf
def xFill (v : Int32) (f : Nat → Int32) : Nat → Int32 := itU (fun k f => upd f k v) 60 0 f
def xCome (n : Nat) (fs : Nat → Int32) (c s : Int32) : Nat → Int32 := if xRange c (nI n) = 0 then fs else if fs c.toNatClampNeg ≤ s then fs else upd fs c.toNatClampNeg s
def xFar (depth : Int32) : Int32 := if depth = 0 then 60 else depth
def xReachStep (n : Nat) (fp sp : Nat → Int32) (tf : Int32) (k : Nat) (z : Int64 × (Nat → Int32)) : Int64 × (Nat → Int32) := if tf ≤ z.2 k then z else (z.1 ||| xSet (nI k), xCome n (xCome n z.2 (fp k) (z.2 k + 1)) (sp k) (z.2 k + 1))
def xReach (n : Nat) (fp sp fs : Nat → Int32) (start depth : Int32) : Int64 × (Nat → Int32) := if xRange start (nI n) = 0 then (0, fs) else itD (xReachStep n fp sp (xFar depth)) (start.toNatClampNeg + 1) (0, upd (xFill (xFar depth) fs) start.toNatClampNeg 0)
abbrev rmX2_isSlot : Room := { frames := 0, cells := 0, slots := 0, locals := 0 }
set_option maxHeartbeats 4000000 in
set_option maxRecDepth 100000 in
theorem ctX2_isSlot (l : Launch) (D : va_G) (cI cZ : ClassId) (q : Nat → Nat) (p0 : Int32) : gM l yX2_isSlot wsX2_isSlot rmX2_isSlot D [(cI, .int), (cZ, .boolean)] w0 (fun _ => True) [.int p0] () (some (.int (xRange p0 4))) () := by
  refine g_start (cc := cX2_isSlot) (maxL := 1) (ret := (some .boolean)) (by decide) rfl (Nat.le_of_ble_eq_true rfl) ?_
  intro p e s m below meth c A ls Q hx hb hml hret hts hown hlk hE hP hK hD hA hl hQ hS
  have hown : s.vm.findClass RX2 = some m.cls := hown
  have hl : lv_has ls 1 [(0, .int p0)] := hl
  refine lv_iload_n hx hb dX2_isSlot_0 rfl (lv_at hl 0 rfl) ?_
  refine lv_if_lt (tgt := 13) hx hb dX2_isSlot_1 (by decide) (fun c_1 => ?_) (fun c_1 => ?_)
  · refine lv_iconst (v := 0) hx hb dX2_isSlot_13 (by decide +kernel) ?_
    refine g_zret hx hb hret hlk hQ hP hD hS dX2_isSlot_14 ?_ ?_ ?_
    · exact rfl
    · exact by simp only [xRange, c_1, ↓reduceIte, not_true_eq_false, not_false_eq_true]
    · exact rfl
  · refine lv_iload_n hx hb dX2_isSlot_4 rfl (lv_at hl 0 rfl) ?_
    refine lv_iconst (v := 4) hx hb dX2_isSlot_5 (by decide +kernel) ?_
    refine lv_icmp_ge (tgt := 13) hx hb dX2_isSlot_6 (by decide) (fun c_6 => ?_) (fun c_6 => ?_)
    · refine lv_iconst (v := 0) hx hb dX2_isSlot_13 (by decide +kernel) ?_
      refine g_zret hx hb hret hlk hQ hP hD hS dX2_isSlot_14 ?_ ?_ ?_
      · exact rfl
      · exact by simp only [xRange, c_1, c_6, ↓reduceIte, not_true_eq_false, not_false_eq_true]
      · exact rfl
    · refine lv_iconst (v := 1) hx hb dX2_isSlot_9 (by decide +kernel) ?_
      refine lv_goto (tgt := 14) hx hb dX2_isSlot_10 (by decide) ?_
      refine g_zret hx hb hret hlk hQ hP hD hS dX2_isSlot_14 ?_ ?_ ?_
      · exact rfl
      · exact by simp only [xRange, c_1, c_6, ↓reduceIte, not_true_eq_false, not_false_eq_true]
      · exact rfl
abbrev rmX2_isRef : Room := { frames := 0, cells := 0, slots := 0, locals := 0 }
set_option maxHeartbeats 4000000 in
set_option maxRecDepth 100000 in
theorem ctX2_isRef (l : Launch) (D : va_G) (cI cZ : ClassId) (q : Nat → Nat) (p0 : Int32) : gM l yX2_isRef wsX2_isRef rmX2_isRef D [(cI, .int), (cZ, .boolean)] w0 (fun _ => True) [.int p0] () (some (.int (xRange p0 4))) () := by
  refine g_start (cc := cX2_isRef) (maxL := 1) (ret := (some .boolean)) (by decide) rfl (Nat.le_of_ble_eq_true rfl) ?_
  intro p e s m below meth c A ls Q hx hb hml hret hts hown hlk hE hP hK hD hA hl hQ hS
  have hown : s.vm.findClass RX2 = some m.cls := hown
  have hl : lv_has ls 1 [(0, .int p0)] := hl
  refine lv_iload_n hx hb dX2_isRef_0 rfl (lv_at hl 0 rfl) ?_
  refine lv_if_lt (tgt := 13) hx hb dX2_isRef_1 (by decide) (fun c_1 => ?_) (fun c_1 => ?_)
  · refine lv_iconst (v := 0) hx hb dX2_isRef_13 (by decide +kernel) ?_
    refine g_zret hx hb hret hlk hQ hP hD hS dX2_isRef_14 ?_ ?_ ?_
    · exact rfl
    · exact by simp only [xRange, c_1, ↓reduceIte, not_true_eq_false, not_false_eq_true]
    · exact rfl
  · refine lv_iload_n hx hb dX2_isRef_4 rfl (lv_at hl 0 rfl) ?_
    refine lv_iconst (v := 4) hx hb dX2_isRef_5 (by decide +kernel) ?_
    refine lv_icmp_ge (tgt := 13) hx hb dX2_isRef_6 (by decide) (fun c_6 => ?_) (fun c_6 => ?_)
    · refine lv_iconst (v := 0) hx hb dX2_isRef_13 (by decide +kernel) ?_
      refine g_zret hx hb hret hlk hQ hP hD hS dX2_isRef_14 ?_ ?_ ?_
      · exact rfl
      · exact by simp only [xRange, c_1, c_6, ↓reduceIte, not_true_eq_false, not_false_eq_true]
      · exact rfl
    · refine lv_iconst (v := 1) hx hb dX2_isRef_9 (by decide +kernel) ?_
      refine lv_goto (tgt := 14) hx hb dX2_isRef_10 (by decide) ?_
      refine g_zret hx hb hret hlk hQ hP hD hS dX2_isRef_14 ?_ ?_ ?_
      · exact rfl
      · exact by simp only [xRange, c_1, c_6, ↓reduceIte, not_true_eq_false, not_false_eq_true]
      · exact rfl
abbrev rmX2_isFile : Room := { frames := 0, cells := 0, slots := 0, locals := 0 }
set_option maxHeartbeats 4000000 in
set_option maxRecDepth 100000 in
theorem ctX2_isFile (l : Launch) (D : va_G) (cI cZ : ClassId) (q : Nat → Nat) (p0 : Int32) : gM l yX2_isFile wsX2_isFile rmX2_isFile D [(cI, .int), (cZ, .boolean)] w0 (fun _ => True) [.int p0] () (some (.int (xRange p0 100))) () := by
  refine g_start (cc := cX2_isFile) (maxL := 1) (ret := (some .boolean)) (by decide) rfl (Nat.le_of_ble_eq_true rfl) ?_
  intro p e s m below meth c A ls Q hx hb hml hret hts hown hlk hE hP hK hD hA hl hQ hS
  have hown : s.vm.findClass RX2 = some m.cls := hown
  have hl : lv_has ls 1 [(0, .int p0)] := hl
  refine lv_iload_n hx hb dX2_isFile_0 rfl (lv_at hl 0 rfl) ?_
  refine lv_if_lt (tgt := 14) hx hb dX2_isFile_1 (by decide) (fun c_1 => ?_) (fun c_1 => ?_)
  · refine lv_iconst (v := 0) hx hb dX2_isFile_14 (by decide +kernel) ?_
    refine g_zret hx hb hret hlk hQ hP hD hS dX2_isFile_15 ?_ ?_ ?_
    · exact rfl
    · exact by simp only [xRange, c_1, ↓reduceIte, not_true_eq_false, not_false_eq_true]
    · exact rfl
  · refine lv_iload_n hx hb dX2_isFile_4 rfl (lv_at hl 0 rfl) ?_
    refine lv_bipush (v := 100) hx hb dX2_isFile_5 (by decide +kernel) ?_
    refine lv_icmp_ge (tgt := 14) hx hb dX2_isFile_7 (by decide) (fun c_7 => ?_) (fun c_7 => ?_)
    · refine lv_iconst (v := 0) hx hb dX2_isFile_14 (by decide +kernel) ?_
      refine g_zret hx hb hret hlk hQ hP hD hS dX2_isFile_15 ?_ ?_ ?_
      · exact rfl
      · exact by simp only [xRange, c_1, c_7, ↓reduceIte, not_true_eq_false, not_false_eq_true]
      · exact rfl
    · refine lv_iconst (v := 1) hx hb dX2_isFile_10 (by decide +kernel) ?_
      refine lv_goto (tgt := 15) hx hb dX2_isFile_11 (by decide) ?_
      refine g_zret hx hb hret hlk hQ hP hD hS dX2_isFile_15 ?_ ?_ ?_
      · exact rfl
      · exact by simp only [xRange, c_1, c_7, ↓reduceIte, not_true_eq_false, not_false_eq_true]
      · exact rfl
abbrev rmX2_setOf : Room := { frames := 0, cells := 0, slots := 0, locals := 0 }
set_option maxHeartbeats 4000000 in
set_option maxRecDepth 100000 in
theorem ctX2_setOf (l : Launch) (D : va_G) (cI cZ : ClassId) (q : Nat → Nat) (p0 : Int32) : gM l yX2_setOf wsX2_setOf rmX2_setOf D [(cI, .int), (cZ, .boolean)] w0 (fun _ => True) [.int p0] () (some (.long (xSet p0))) () := by
  refine g_start (cc := cX2_setOf) (maxL := 1) (ret := (some .long)) (by decide) rfl (Nat.le_of_ble_eq_true rfl) ?_
  intro p e s m below meth c A ls Q hx hb hml hret hts hown hlk hE hP hK hD hA hl hQ hS
  have hown : s.vm.findClass RX2 = some m.cls := hown
  have hl : lv_has ls 1 [(0, .int p0)] := hl
  refine lv_iload_n hx hb dX2_setOf_0 rfl (lv_at hl 0 rfl) ?_
  refine lv_if_lt (tgt := 16) hx hb dX2_setOf_1 (by decide) (fun c_1 => ?_) (fun c_1 => ?_)
  · refine lv_lconst (v := 0) hx hb dX2_setOf_16 (by decide +kernel) ?_
    refine g_lret hx hb hret hlk hQ hP hD hS dX2_setOf_17 ?_ ?_
    · exact by simp only [xSet, c_1, ↓reduceIte, not_true_eq_false, not_false_eq_true]
    · exact rfl
  · refine lv_iload_n hx hb dX2_setOf_4 rfl (lv_at hl 0 rfl) ?_
    refine lv_bipush (v := 60) hx hb dX2_setOf_5 (by decide +kernel) ?_
    refine lv_icmp_ge (tgt := 16) hx hb dX2_setOf_7 (by decide) (fun c_7 => ?_) (fun c_7 => ?_)
    · refine lv_lconst (v := 0) hx hb dX2_setOf_16 (by decide +kernel) ?_
      refine g_lret hx hb hret hlk hQ hP hD hS dX2_setOf_17 ?_ ?_
      · exact by simp only [xSet, c_1, c_7, ↓reduceIte, not_true_eq_false, not_false_eq_true]
      · exact rfl
    · refine lv_lconst (v := 1) hx hb dX2_setOf_10 (by decide +kernel) ?_
      refine lv_iload_n hx hb dX2_setOf_11 rfl (lv_at hl 0 rfl) ?_
      refine lv_lshl (v := ((1 : Int64) <<< ((Int32.toInt64 p0) &&& 63))) hx hb dX2_setOf_12 rfl ?_
      refine lv_goto (tgt := 17) hx hb dX2_setOf_13 (by decide) ?_
      refine g_lret hx hb hret hlk hQ hP hD hS dX2_setOf_17 ?_ ?_
      · exact by simp only [xSet, c_1, c_7, ↓reduceIte, not_true_eq_false, not_false_eq_true]
      · exact rfl
abbrev rmX2_contains : Room := { frames := 1, cells := 0, slots := 0, locals := 20 }
set_option maxHeartbeats 4000000 in
set_option maxRecDepth 100000 in
theorem ctX2_contains (l : Launch) (D : va_G) (cI cZ : ClassId) (q : Nat → Nat) (p0 : Int64) (p1 : Int32) : gM l yX2_contains wsX2_contains rmX2_contains D [(cI, .int), (cZ, .boolean)] w0 (fun _ => True) [.long p0, .int p1] () (some (.int (xCon p0 p1))) () := by
  refine g_start (cc := cX2_contains) (maxL := 3) (ret := (some .boolean)) (by decide) rfl (Nat.le_of_ble_eq_true rfl) ?_
  intro p e s m below meth c A ls Q hx hb hml hret hts hown hlk hE hP hK hD hA hl hQ hS
  have hown : s.vm.findClass RX2 = some m.cls := hown
  have hl : lv_has ls 3 [(0, .long p0), (2, .int p1)] := hl
  refine lv_lload_n hx hb dX2_contains_0 rfl (lv_at hl 0 rfl) ?_
  refine lv_iload_n hx hb dX2_contains_1 rfl (lv_at hl 1 rfl) ?_
  refine g_callS0 (As := [.int p1]) (rest := [.long p0]) hx hb hml hown hts (ctX2_setOf l D cI cZ q p1) gX2_contains_X2_setOf rfl rfl rfl hdX2_setOf ⟨Nat.le_of_ble_eq_true rfl, Nat.le_of_ble_eq_true rfl⟩ gEM_true trivial hP hK hS hA rfl hl.1 rfl (Nat.le_of_ble_eq_true rfl) dX2_contains_2 ⟨Nat.zero_le _, Nat.zero_le _⟩ (fun H locs hP hS => ?_)
  refine W.eq (g2 := F0 m 5 ls [.long (xSet p1), .long p0]) rfl ?_
  refine lv_land hx hb dX2_contains_5 ?_
  refine lv_lconst (v := 0) hx hb dX2_contains_6 (by decide +kernel) ?_
  refine g_lcmpE (tgt := 15) hx hb dX2_contains_7 dX2_contains_8 (by decide) (fun c_7 => ?_) (fun c_7 => ?_)
  · refine lv_iconst (v := 0) hx hb dX2_contains_15 (by decide +kernel) ?_
    refine g_zret hx hb hret hlk hQ hP hD hS dX2_contains_16 ?_ ?_ ?_
    · exact rfl
    · exact by simp only [xCon, c_7, ↓reduceIte, not_true_eq_false, not_false_eq_true]
    · exact rfl
  · refine lv_iconst (v := 1) hx hb dX2_contains_11 (by decide +kernel) ?_
    refine lv_goto (tgt := 16) hx hb dX2_contains_12 (by decide) ?_
    refine g_zret hx hb hret hlk hQ hP hD hS dX2_contains_16 ?_ ?_ ?_
    · exact rfl
    · exact by simp only [xCon, c_7, ↓reduceIte, not_true_eq_false, not_false_eq_true]
    · exact rfl
theorem lkX0_size_28 : Cond.fieldLink RX0 28 "FetchHouse$History" "made" "I" ∈ wsX0_size := List.mem_of_getElem? (i := 1) (by decide +kernel)
theorem inX0_size_RX0 : ∀ w ∈ u_ws RX0 TX0 6, w ∈ wsX0_size := fun w h => List.mem_cons_of_mem _ (List.mem_append_right _ h)
abbrev rmX0_size : Room := { frames := 0, cells := 0, slots := 0, locals := 0 }
set_option maxHeartbeats 4000000 in
set_option maxRecDepth 100000 in
theorem ctX0_size (l : Launch) (D : va_G) (cI cZ : ClassId) (q : Nat → Nat) (u : SX) (n : Nat) (hn : u.1 15 0 = nI n) (h60 : n ≤ 60) : gM l yX0_size wsX0_size rmX0_size D [(cI, .int), (cZ, .boolean)] (XW cI cZ q) XG [.ref (q 1)] u (some (.int (nI n))) u := by
  refine g_start (cc := cX0_size) (maxL := 1) (ret := (some .int)) (by decide) rfl (Nat.le_of_ble_eq_true rfl) ?_
  intro p e s m below meth c A ls Q hx hb hml hret hts hown hlk hE hP hK hD hA hl hQ hS
  have hown : s.vm.findClass RX0 = some m.cls := hown
  have hl : lv_has ls 1 [(0, .ref (q 1))] := hl
  refine lv_aload_n hx hb dX0_size_0 rfl (lv_at hl 0 rfl) ?_
  refine va_get (ci := 0) (v := .int (nI n)) (C := RX0) (T := TX0) (N := 6) hx hb hts inX0_size_RX0 hown hK hP 1 rfl rfl 5 (by decide) (hts _ lkX0_size_28) (fun _ h9 => h9) (congrArg (fun z => some (Value.int z)) hn) dX0_size_1 ?_
  refine g_iret (u1 := u) hx hb hret hlk hQ hP hD hS dX0_size_4 ?_ ?_
  · exact rfl
  · exact rfl
theorem lkX0_isFull_28 : Cond.fieldLink RX0 28 "FetchHouse$History" "made" "I" ∈ wsX0_isFull := List.mem_of_getElem? (i := 1) (by decide +kernel)
theorem inX0_isFull_RX0 : ∀ w ∈ u_ws RX0 TX0 6, w ∈ wsX0_isFull := fun w h => List.mem_cons_of_mem _ (List.mem_append_right _ h)
abbrev rmX0_isFull : Room := { frames := 0, cells := 0, slots := 0, locals := 0 }
set_option maxHeartbeats 4000000 in
set_option maxRecDepth 100000 in
theorem ctX0_isFull (l : Launch) (D : va_G) (cI cZ : ClassId) (q : Nat → Nat) (u : SX) (n : Nat) (hn : u.1 15 0 = nI n) (h60 : n ≤ 60) : gM l yX0_isFull wsX0_isFull rmX0_isFull D [(cI, .int), (cZ, .boolean)] (XW cI cZ q) XG [.ref (q 1)] u (some (.int (if n < 60 then 0 else 1))) u := by
  refine g_start (cc := cX0_isFull) (maxL := 1) (ret := (some .boolean)) (by decide) rfl (Nat.le_of_ble_eq_true rfl) ?_
  intro p e s m below meth c A ls Q hx hb hml hret hts hown hlk hE hP hK hD hA hl hQ hS
  have hown : s.vm.findClass RX0 = some m.cls := hown
  have hl : lv_has ls 1 [(0, .ref (q 1))] := hl
  refine lv_aload_n hx hb dX0_isFull_0 rfl (lv_at hl 0 rfl) ?_
  refine va_get (ci := 0) (v := .int (nI n)) (C := RX0) (T := TX0) (N := 6) hx hb hts inX0_isFull_RX0 hown hK hP 1 rfl rfl 5 (by decide) (hts _ lkX0_isFull_28) (fun _ h9 => h9) (congrArg (fun z => some (Value.int z)) hn) dX0_isFull_1 ?_
  refine lv_bipush (v := 60) hx hb dX0_isFull_4 (by decide +kernel) ?_
  refine lv_icmp_lt (tgt := 13) hx hb dX0_isFull_6 (by decide) (fun c_6 => ?_) (fun c_6 => ?_)
  · have n_6 : n < 60 := (g_ltI (a := n) (b := 60) rfl rfl (by omega) (by omega)).mp c_6
    refine lv_iconst (v := 0) hx hb dX0_isFull_13 (by decide +kernel) ?_
    refine g_zret (u1 := u) hx hb hret hlk hQ hP hD hS dX0_isFull_14 ?_ ?_ ?_
    · exact rfl
    · exact by simp only [n_6, ↓reduceIte]
    · exact rfl
  · have n_6 : ¬ n < 60 := fun h => c_6 ((g_ltI (a := n) (b := 60) rfl rfl (by omega) (by omega)).mpr h)
    refine lv_iconst (v := 1) hx hb dX0_isFull_9 (by decide +kernel) ?_
    refine lv_goto (tgt := 14) hx hb dX0_isFull_10 (by decide) ?_
    refine g_zret (u1 := u) hx hb hret hlk hQ hP hD hS dX0_isFull_14 ?_ ?_ ?_
    · exact rfl
    · exact by simp only [n_6, ↓reduceIte]
    · exact rfl
theorem lkX0_isCommit_28 : Cond.fieldLink RX0 28 "FetchHouse$History" "made" "I" ∈ wsX0_isCommit := List.mem_of_getElem? (i := 1) (by decide +kernel)
theorem inX0_isCommit_RX0 : ∀ w ∈ u_ws RX0 TX0 6, w ∈ wsX0_isCommit := fun w h => List.mem_cons_of_mem _ (List.mem_append_right _ h)
abbrev rmX0_isCommit : Room := { frames := 0, cells := 0, slots := 0, locals := 0 }
set_option maxHeartbeats 4000000 in
set_option maxRecDepth 100000 in
theorem ctX0_isCommit (l : Launch) (D : va_G) (cI cZ : ClassId) (q : Nat → Nat) (u : SX) (n : Nat) (hn : u.1 15 0 = nI n) (h60 : n ≤ 60) (p0 : Int32) : gM l yX0_isCommit wsX0_isCommit rmX0_isCommit D [(cI, .int), (cZ, .boolean)] (XW cI cZ q) XG [.ref (q 1), .int p0] u (some (.int (xRange p0 (nI n)))) u := by
  refine g_start (cc := cX0_isCommit) (maxL := 2) (ret := (some .boolean)) (by decide) rfl (Nat.le_of_ble_eq_true rfl) ?_
  intro p e s m below meth c A ls Q hx hb hml hret hts hown hlk hE hP hK hD hA hl hQ hS
  have hown : s.vm.findClass RX0 = some m.cls := hown
  have hl : lv_has ls 2 [(0, .ref (q 1)), (1, .int p0)] := hl
  refine lv_iload_n hx hb dX0_isCommit_0 rfl (lv_at hl 1 rfl) ?_
  refine lv_if_lt (tgt := 16) hx hb dX0_isCommit_1 (by decide) (fun c_1 => ?_) (fun c_1 => ?_)
  · refine lv_iconst (v := 0) hx hb dX0_isCommit_16 (by decide +kernel) ?_
    refine g_zret (u1 := u) hx hb hret hlk hQ hP hD hS dX0_isCommit_17 ?_ ?_ ?_
    · exact rfl
    · exact by simp only [xRange, c_1, ↓reduceIte, not_true_eq_false, not_false_eq_true]
    · exact rfl
  · refine lv_iload_n hx hb dX0_isCommit_4 rfl (lv_at hl 1 rfl) ?_
    refine lv_aload_n hx hb dX0_isCommit_5 rfl (lv_at hl 0 rfl) ?_
    refine va_get (ci := 0) (v := .int (nI n)) (C := RX0) (T := TX0) (N := 6) hx hb hts inX0_isCommit_RX0 hown hK hP 1 rfl rfl 5 (by decide) (hts _ lkX0_isCommit_28) (fun _ h9 => h9) (congrArg (fun z => some (Value.int z)) hn) dX0_isCommit_6 ?_
    refine lv_icmp_ge (tgt := 16) hx hb dX0_isCommit_9 (by decide) (fun c_9 => ?_) (fun c_9 => ?_)
    · refine lv_iconst (v := 0) hx hb dX0_isCommit_16 (by decide +kernel) ?_
      refine g_zret (u1 := u) hx hb hret hlk hQ hP hD hS dX0_isCommit_17 ?_ ?_ ?_
      · exact rfl
      · exact by simp only [xRange, c_1, c_9, ↓reduceIte, not_true_eq_false, not_false_eq_true]
      · exact rfl
    · refine lv_iconst (v := 1) hx hb dX0_isCommit_12 (by decide +kernel) ?_
      refine lv_goto (tgt := 17) hx hb dX0_isCommit_13 (by decide) ?_
      refine g_zret (u1 := u) hx hb hret hlk hQ hP hD hS dX0_isCommit_17 ?_ ?_ ?_
      · exact rfl
      · exact by simp only [xRange, c_1, c_9, ↓reduceIte, not_true_eq_false, not_false_eq_true]
      · exact rfl
theorem lkX0_fileIn_inRX2 : Cond.initialized RX2 ∈ wsX0_fileIn := List.mem_of_getElem? (i := 9) (by decide +kernel)
theorem lkX0_fileIn_stX2_isSlot : Cond.static yX2_isSlot ∈ wsX0_fileIn := List.mem_of_getElem? (i := 8) (by decide +kernel)
theorem lkX0_fileIn_18 : Cond.fieldLink RX0 18 "FetchHouse$History" "slotFiles" "[I" ∈ wsX0_fileIn := List.mem_of_getElem? (i := 1) (by decide +kernel)
theorem inX0_fileIn_RX0 : ∀ w ∈ u_ws RX0 TX0 6, w ∈ wsX0_fileIn := fun w h => List.mem_cons_of_mem _ (List.mem_append_right _ h)
abbrev rmX0_fileIn : Room := { frames := 1, cells := 0, slots := 0, locals := 21 }
set_option maxHeartbeats 4000000 in
set_option maxRecDepth 100000 in
theorem ctX0_fileIn (l : Launch) (D : va_G) (cI cZ : ClassId) (q : Nat → Nat) (u : SX) (n : Nat) (hn : u.1 15 0 = nI n) (h60 : n ≤ 60) (p0 p1 : Int32) : gM l yX0_fileIn wsX0_fileIn rmX0_fileIn D [(cI, .int), (cZ, .boolean)] (XW cI cZ q) XG [.ref (q 1), .int p0, .int p1] u (some (.int (xFileIn n (u.1 2) p0 p1))) u := by
  refine g_start (cc := cX0_fileIn) (maxL := 3) (ret := (some .int)) (by decide) rfl (Nat.le_of_ble_eq_true rfl) ?_
  intro p e s m below meth c A ls Q hx hb hml hret hts hown hlk hE hP hK hD hA hl hQ hS
  have hown : s.vm.findClass RX0 = some m.cls := hown
  have hl : lv_has ls 3 [(0, .ref (q 1)), (1, .int p0), (2, .int p1)] := hl
  refine lv_aload_n hx hb dX0_fileIn_0 rfl (lv_at hl 0 rfl) ?_
  refine lv_iload_n hx hb dX0_fileIn_1 rfl (lv_at hl 1 rfl) ?_
  refine g_callV (As := [.int p0]) (rest := []) hx hb hml hown hts (ctX0_isCommit l D cI cZ q u n hn h60 p0) gX0_fileIn_X0_isCommit rfl rfl rfl hdX0_isCommit ⟨Nat.le_of_ble_eq_true rfl, Nat.le_of_ble_eq_true rfl⟩ XG_em hE hP hK hD hS hA 1 rfl rfl rfl hl.1 rfl (Nat.le_of_ble_eq_true rfl) dX0_fileIn_2 ⟨Nat.zero_le _, Nat.zero_le _⟩ (fun H locs hP hD hS => ?_)
  have hP : va_P D vwCl (XW cI cZ q u) H := hP
  have hD : va_D A (XW cI cZ q u) := hD
  refine W.eq (g2 := F0 m 5 ls [.int (xRange p0 (nI n))]) rfl ?_
  refine lv_if_eq (tgt := 28) hx hb dX0_fileIn_5 (by decide) (fun c_5 => ?_) (fun c_5 => ?_)
  · refine lv_iconst (v := (-1)) hx hb dX0_fileIn_28 (by decide +kernel) ?_
    refine g_iret (u1 := u) hx hb hret hlk hQ hP hD hS dX0_fileIn_29 ?_ ?_
    · exact by simp only [xFileIn, c_5, ↓reduceIte, not_true_eq_false, not_false_eq_true]
    · exact rfl
  · refine lv_iload_n hx hb dX0_fileIn_8 rfl (lv_at hl 2 rfl) ?_
    refine g_callN0 (host := "FetchHouse") (As := [.int p1]) (rest := []) hx hb hml hown hts (ctX2_isSlot l D cI cZ q p1) gX0_fileIn_X2_isSlot_n44 rfl rfl rfl (hE.1 _ (List.mem_of_getElem? (i := 2) rfl)) (hts _ lkX0_fileIn_inRX2) (hts _ lkX0_fileIn_stX2_isSlot) hdX2_isSlot ⟨Nat.le_of_ble_eq_true rfl, Nat.le_of_ble_eq_true rfl⟩ gEM_true trivial hP hK hS hA rfl hl.1 rfl (Nat.le_of_ble_eq_true rfl) dX0_fileIn_9 ⟨Nat.zero_le _, Nat.zero_le _⟩ (fun H locs hP hS => ?_)
    refine W.eq (g2 := F0 m 12 ls [.int (xRange p1 4)]) rfl ?_
    refine lv_if_eq (tgt := 28) hx hb dX0_fileIn_12 (by decide) (fun c_12 => ?_) (fun c_12 => ?_)
    · refine lv_iconst (v := (-1)) hx hb dX0_fileIn_28 (by decide +kernel) ?_
      refine g_iret (u1 := u) hx hb hret hlk hQ hP hD hS dX0_fileIn_29 ?_ ?_
      · exact by simp only [xFileIn, c_5, c_12, ↓reduceIte, not_true_eq_false, not_false_eq_true]
      · exact rfl
    · obtain ⟨j, hj, rfl⟩ := xRange_ne rfl (by omega) c_5
      obtain ⟨t, ht, rfl⟩ := xRange_ne (n := 4) rfl (by omega) c_12
      refine lv_aload_n hx hb dX0_fileIn_15 rfl (lv_at hl 0 rfl) ?_
      refine va_get (ci := 0) (v := .ref (q 6)) (C := RX0) (T := TX0) (N := 6) hx hb hts inX0_fileIn_RX0 hown hK hP 1 rfl rfl 2 (by decide) (hts _ lkX0_fileIn_18) (fun _ h9 => h9) rfl dX0_fileIn_16 ?_
      refine lv_iload_n hx hb dX0_fileIn_19 rfl (lv_at hl 1 rfl) ?_
      refine lv_iconst (v := 4) hx hb dX0_fileIn_20 (by decide +kernel) ?_
      refine lv_imul hx hb dX0_fileIn_21 ?_
      refine lv_iload_n hx hb dX0_fileIn_22 rfl (lv_at hl 2 rfl) ?_
      refine lv_iadd hx hb dX0_fileIn_23 ?_
      refine g_iald (n := 240) (f := (u.1 2)) hx hb hK hP 6 0 rfl rfl (j * 4 + t) (by omega) (by omega) (g_addE (g_mulE rfl rfl) rfl) dX0_fileIn_24 ?_
      refine lv_goto (tgt := 29) hx hb dX0_fileIn_25 (by decide) ?_
      refine g_iret (u1 := u) hx hb hret hlk hQ hP hD hS dX0_fileIn_29 ?_ ?_
      · exact by rw [xFileIn, if_neg c_5, if_neg c_12, nI_clamp (by omega), nI_clamp (by omega)]
      · exact rfl
theorem lkX0_parentsOf_inRX2 : Cond.initialized RX2 ∈ wsX0_parentsOf := List.mem_of_getElem? (i := 10) (by decide +kernel)
theorem lkX0_parentsOf_stX2_setOf : Cond.static yX2_setOf ∈ wsX0_parentsOf := List.mem_of_getElem? (i := 9) (by decide +kernel)
theorem lkX0_parentsOf_15 : Cond.fieldLink RX0 15 "FetchHouse$History" "secondParents" "[I" ∈ wsX0_parentsOf := List.mem_of_getElem? (i := 2) (by decide +kernel)
theorem lkX0_parentsOf_9 : Cond.fieldLink RX0 9 "FetchHouse$History" "firstParents" "[I" ∈ wsX0_parentsOf := List.mem_of_getElem? (i := 1) (by decide +kernel)
theorem inX0_parentsOf_RX0 : ∀ w ∈ u_ws RX0 TX0 6, w ∈ wsX0_parentsOf := fun w h => List.mem_cons_of_mem _ (List.mem_append_right _ h)
abbrev rmX0_parentsOf : Room := { frames := 1, cells := 0, slots := 0, locals := 21 }
set_option maxHeartbeats 4000000 in
set_option maxRecDepth 100000 in
theorem ctX0_parentsOf (l : Launch) (D : va_G) (cI cZ : ClassId) (q : Nat → Nat) (u : SX) (n : Nat) (hn : u.1 15 0 = nI n) (h60 : n ≤ 60) (p0 : Int32) : gM l yX0_parentsOf wsX0_parentsOf rmX0_parentsOf D [(cI, .int), (cZ, .boolean)] (XW cI cZ q) XG [.ref (q 1), .int p0] u (some (.long (xPar n (u.1 0) (u.1 1) p0))) u := by
  refine g_start (cc := cX0_parentsOf) (maxL := 2) (ret := (some .long)) (by decide) rfl (Nat.le_of_ble_eq_true rfl) ?_
  intro p e s m below meth c A ls Q hx hb hml hret hts hown hlk hE hP hK hD hA hl hQ hS
  have hown : s.vm.findClass RX0 = some m.cls := hown
  have hl : lv_has ls 2 [(0, .ref (q 1)), (1, .int p0)] := hl
  refine lv_aload_n hx hb dX0_parentsOf_0 rfl (lv_at hl 0 rfl) ?_
  refine lv_iload_n hx hb dX0_parentsOf_1 rfl (lv_at hl 1 rfl) ?_
  refine g_callV (As := [.int p0]) (rest := []) hx hb hml hown hts (ctX0_isCommit l D cI cZ q u n hn h60 p0) gX0_parentsOf_X0_isCommit rfl rfl rfl hdX0_isCommit ⟨Nat.le_of_ble_eq_true rfl, Nat.le_of_ble_eq_true rfl⟩ XG_em hE hP hK hD hS hA 1 rfl rfl rfl hl.1 rfl (Nat.le_of_ble_eq_true rfl) dX0_parentsOf_2 ⟨Nat.zero_le _, Nat.zero_le _⟩ (fun H locs hP hD hS => ?_)
  have hP : va_P D vwCl (XW cI cZ q u) H := hP
  have hD : va_D A (XW cI cZ q u) := hD
  refine W.eq (g2 := F0 m 5 ls [.int (xRange p0 (nI n))]) rfl ?_
  refine lv_if_eq (tgt := 30) hx hb dX0_parentsOf_5 (by decide) (fun c_5 => ?_) (fun c_5 => ?_)
  · refine lv_lconst (v := 0) hx hb dX0_parentsOf_30 (by decide +kernel) ?_
    refine g_lret (u1 := u) hx hb hret hlk hQ hP hD hS dX0_parentsOf_31 ?_ ?_
    · exact by simp only [xPar, c_5, ↓reduceIte, not_true_eq_false, not_false_eq_true]
    · exact rfl
  · obtain ⟨j, hj, rfl⟩ := xRange_ne rfl (by omega) c_5
    refine lv_aload_n hx hb dX0_parentsOf_8 rfl (lv_at hl 0 rfl) ?_
    refine va_get (ci := 0) (v := .ref (q 4)) (C := RX0) (T := TX0) (N := 6) hx hb hts inX0_parentsOf_RX0 hown hK hP 1 rfl rfl 0 (by decide) (hts _ lkX0_parentsOf_9) (fun _ h9 => h9) rfl dX0_parentsOf_9 ?_
    refine lv_iload_n hx hb dX0_parentsOf_12 rfl (lv_at hl 1 rfl) ?_
    refine g_iald (n := 60) (f := (u.1 0)) hx hb hK hP 4 0 rfl rfl j (by omega) (by omega) rfl dX0_parentsOf_13 ?_
    refine g_callN0 (host := "FetchHouse") (As := [.int ((u.1 0) j)]) (rest := []) hx hb hml hown hts (ctX2_setOf l D cI cZ q ((u.1 0) j)) gX0_parentsOf_X2_setOf_n58 rfl rfl rfl (hE.1 _ (List.mem_of_getElem? (i := 5) rfl)) (hts _ lkX0_parentsOf_inRX2) (hts _ lkX0_parentsOf_stX2_setOf) hdX2_setOf ⟨Nat.le_of_ble_eq_true rfl, Nat.le_of_ble_eq_true rfl⟩ gEM_true trivial hP hK hS hA rfl hl.1 rfl (Nat.le_of_ble_eq_true rfl) dX0_parentsOf_14 ⟨Nat.zero_le _, Nat.zero_le _⟩ (fun H locs hP hS => ?_)
    refine W.eq (g2 := F0 m 17 ls [.long (xSet ((u.1 0) j))]) rfl ?_
    refine lv_aload_n hx hb dX0_parentsOf_17 rfl (lv_at hl 0 rfl) ?_
    refine va_get (ci := 0) (v := .ref (q 5)) (C := RX0) (T := TX0) (N := 6) hx hb hts inX0_parentsOf_RX0 hown hK hP 1 rfl rfl 1 (by decide) (hts _ lkX0_parentsOf_15) (fun _ h9 => h9) rfl dX0_parentsOf_18 ?_
    refine lv_iload_n hx hb dX0_parentsOf_21 rfl (lv_at hl 1 rfl) ?_
    refine g_iald (n := 60) (f := (u.1 1)) hx hb hK hP 5 0 rfl rfl j (by omega) (by omega) rfl dX0_parentsOf_22 ?_
    refine g_callN0 (host := "FetchHouse") (As := [.int ((u.1 1) j)]) (rest := [.long (xSet ((u.1 0) j))]) hx hb hml hown hts (ctX2_setOf l D cI cZ q ((u.1 1) j)) gX0_parentsOf_X2_setOf_n58 rfl rfl rfl (hE.1 _ (List.mem_of_getElem? (i := 5) rfl)) (hts _ lkX0_parentsOf_inRX2) (hts _ lkX0_parentsOf_stX2_setOf) hdX2_setOf ⟨Nat.le_of_ble_eq_true rfl, Nat.le_of_ble_eq_true rfl⟩ gEM_true trivial hP hK hS hA rfl hl.1 rfl (Nat.le_of_ble_eq_true rfl) dX0_parentsOf_23 ⟨Nat.zero_le _, Nat.zero_le _⟩ (fun H locs hP hS => ?_)
    refine W.eq (g2 := F0 m 26 ls [.long (xSet ((u.1 1) j)), .long (xSet ((u.1 0) j))]) rfl ?_
    refine lv_lor hx hb dX0_parentsOf_26 ?_
    refine lv_goto (tgt := 31) hx hb dX0_parentsOf_27 (by decide) ?_
    refine g_lret (u1 := u) hx hb hret hlk hQ hP hD hS dX0_parentsOf_31 ?_ ?_
    · exact by rw [xPar, if_neg c_5, nI_clamp (by omega)]
    · exact rfl
theorem lkX0_shallowOf_inRX2 : Cond.initialized RX2 ∈ wsX0_shallowOf := List.mem_of_getElem? (i := 4) (by decide +kernel)
theorem lkX0_shallowOf_stX2_contains : Cond.static yX2_contains ∈ wsX0_shallowOf := List.mem_of_getElem? (i := 3) (by decide +kernel)
theorem lkX0_shallowOf_stX2_setOf : Cond.static yX2_setOf ∈ wsX0_shallowOf := List.mem_of_getElem? (i := 7) (by decide +kernel)
theorem lkX0_shallowOf_28 : Cond.fieldLink RX0 28 "FetchHouse$History" "made" "I" ∈ wsX0_shallowOf := List.mem_of_getElem? (i := 1) (by decide +kernel)
theorem lkX0_shallowOf_65 : Cond.constantLong RX0 65 (-1) ∈ wsX0_shallowOf := List.mem_of_getElem? (i := 2) (by decide +kernel)
theorem inX0_shallowOf_RX0 : ∀ w ∈ u_ws RX0 TX0 6, w ∈ wsX0_shallowOf := fun w h => List.mem_cons_of_mem _ (List.mem_append_right _ h)
abbrev rmX0_shallowOf : Room := { frames := 2, cells := 0, slots := 0, locals := 42 }
set_option maxHeartbeats 4000000 in
set_option maxRecDepth 100000 in
theorem ctX0_shallowOf (l : Launch) (D : va_G) (cI cZ : ClassId) (q : Nat → Nat) (u : SX) (n : Nat) (hn : u.1 15 0 = nI n) (h60 : n ≤ 60) (p0 : Int64) : gM l yX0_shallowOf wsX0_shallowOf rmX0_shallowOf D [(cI, .int), (cZ, .boolean)] (XW cI cZ q) XG [.ref (q 1), .long p0] u (some (.long (xShallow n (u.1 0) (u.1 1) p0))) u := by
  refine g_start (cc := cX0_shallowOf) (maxL := 6) (ret := (some .long)) (by decide) rfl (Nat.le_of_ble_eq_true rfl) ?_
  intro p e s m below meth c A ls Q hx hb hml hret hts hown hlk hE hP hK hD hA hl hQ hS
  have hown : s.vm.findClass RX0 = some m.cls := hown
  have hl : lv_has ls 6 [(0, .ref (q 1)), (1, .long p0)] := hl
  refine lv_lconst (v := 0) hx hb dX0_shallowOf_0 (by decide +kernel) ?_
  refine lv_lstore_n (lv' := [(3, .long 0), (0, .ref (q 1)), (1, .long p0)]) hx hb dX0_shallowOf_1 rfl hl (by decide) rfl (fun ls hl => ?_)
  refine lv_iconst (v := (nI 0)) hx hb dX0_shallowOf_2 (by decide +kernel) ?_
  refine lv_istore (lv' := [(5, .int (nI 0)), (3, .long 0), (0, .ref (q 1)), (1, .long p0)]) hx hb dX0_shallowOf_3 hl (by decide) rfl (fun ls hl => ?_)
  have loop : ∀ (d k : Nat) (sh : Int64) (H : Heap) (locs : List Loc) (ls : Array Slot) (hP : va_P D vwCl (XW cI cZ q u) H) (hD : va_D A (XW cI cZ q u)) (hS : va_S A s.heap H locs) (hl : lv_has ls 6 [(0, .ref (q 1)), (1, .long p0), (3, .long sh), (5, .int (nI k))]) (hk : k + d = n) (hr : itU (xShStep n (u.1 0) (u.1 1) p0) d k sh = (xShallow n (u.1 0) (u.1 1) p0)), W p l e rmX0_shallowOf s m ([.ref (q 1), .long p0] : List Value).toArray below meth c H locs 0 0 Q (F0 m 5 ls []) := by
    intro d
    induction d with
    | zero =>
      intro k sh H locs ls hP hD hS hl hk hr
      refine lv_iload hx hb dX0_shallowOf_5 (lv_at hl 3 rfl) ?_
      refine lv_aload_n hx hb dX0_shallowOf_7 rfl (lv_at hl 0 rfl) ?_
      refine va_get (ci := 0) (v := .int (nI n)) (C := RX0) (T := TX0) (N := 6) hx hb hts inX0_shallowOf_RX0 hown hK hP 1 rfl rfl 5 (by decide) (hts _ lkX0_shallowOf_28) (fun _ h9 => h9) (congrArg (fun z => some (Value.int z)) hn) dX0_shallowOf_8 ?_
      refine lv_icmp_ge (tgt := 54) hx hb dX0_shallowOf_11 (by decide) (fun c_11 => ?_) (fun c_11 => ?_)
      · have n_11 : n ≤ k := (g_leI (a := n) (b := k) rfl rfl (by omega) (by omega)).mp c_11
        refine lv_lload_n hx hb dX0_shallowOf_54 rfl (lv_at hl 2 rfl) ?_
        refine g_lret (u1 := u) hx hb hret hlk hQ hP hD hS dX0_shallowOf_55 ?_ ?_
        · exact (by rw [← hr] <;> rfl)
        · exact rfl
      · have n_11 : ¬ n ≤ k := fun h => c_11 ((g_leI (a := n) (b := k) rfl rfl (by omega) (by omega)).mpr h)
        exfalso; omega
    | succ d ih =>
      intro k sh H locs ls hP hD hS hl hk hr
      refine lv_iload hx hb dX0_shallowOf_5 (lv_at hl 3 rfl) ?_
      refine lv_aload_n hx hb dX0_shallowOf_7 rfl (lv_at hl 0 rfl) ?_
      refine va_get (ci := 0) (v := .int (nI n)) (C := RX0) (T := TX0) (N := 6) hx hb hts inX0_shallowOf_RX0 hown hK hP 1 rfl rfl 5 (by decide) (hts _ lkX0_shallowOf_28) (fun _ h9 => h9) (congrArg (fun z => some (Value.int z)) hn) dX0_shallowOf_8 ?_
      refine lv_icmp_ge (tgt := 54) hx hb dX0_shallowOf_11 (by decide) (fun c_11 => ?_) (fun c_11 => ?_)
      · have n_11 : n ≤ k := (g_leI (a := n) (b := k) rfl rfl (by omega) (by omega)).mp c_11
        exfalso; omega
      · have n_11 : ¬ n ≤ k := fun h => c_11 ((g_leI (a := n) (b := k) rfl rfl (by omega) (by omega)).mpr h)
        refine lv_lload_n hx hb dX0_shallowOf_14 rfl (lv_at hl 1 rfl) ?_
        refine lv_iload hx hb dX0_shallowOf_15 (lv_at hl 3 rfl) ?_
        refine g_callN0 (host := "FetchHouse") (As := [.long p0, .int (nI k)]) (rest := []) hx hb hml hown hts (ctX2_contains l D cI cZ q p0 (nI k)) gX0_shallowOf_X2_contains_n47 rfl rfl rfl (hE.1 _ (List.mem_of_getElem? (i := 3) rfl)) (hts _ lkX0_shallowOf_inRX2) (hts _ lkX0_shallowOf_stX2_contains) hdX2_contains ⟨Nat.le_of_ble_eq_true rfl, Nat.le_of_ble_eq_true rfl⟩ gEM_true trivial hP hK hS hA rfl hl.1 rfl (Nat.le_of_ble_eq_true rfl) dX0_shallowOf_17 ⟨Nat.zero_le _, Nat.zero_le _⟩ (fun H locs hP hS => ?_)
        refine W.eq (g2 := F0 m 20 ls [.int (xCon p0 (nI k))]) rfl ?_
        refine lv_if_eq (tgt := 48) hx hb dX0_shallowOf_20 (by decide) (fun c_20 => ?_) (fun c_20 => ?_)
        · refine lv_iinc (v := (nI (k + 1))) (lv' := [(5, .int (nI (k + 1))), (0, .ref (q 1)), (1, .long p0), (3, .long sh)]) hx hb dX0_shallowOf_48 hl (k := 3) rfl (nI_1 _) (by decide) rfl (fun ls hl => ?_)
          refine lv_goto (tgt := 5) hx hb dX0_shallowOf_51 (by decide) ?_
          exact ih (k + 1) sh _ _ _ hP hD hS (lv_sub hl [1, 2, 3, 0] rfl) (by omega) (by rw [← hr]; show _ = itU _ d (k + 1) (xShStep _ _ _ _ k sh); rw [show xShStep n (u.1 0) (u.1 1) p0 k sh = sh from by simp only [xShStep, c_11, c_20, ↓reduceIte, not_true_eq_false, not_false_eq_true]])
        · refine lv_aload_n hx hb dX0_shallowOf_23 rfl (lv_at hl 0 rfl) ?_
          refine lv_iload hx hb dX0_shallowOf_24 (lv_at hl 3 rfl) ?_
          refine g_callV (As := [.int (nI k)]) (rest := []) hx hb hml hown hts (ctX0_parentsOf l D cI cZ q u n hn h60 (nI k)) gX0_shallowOf_X0_parentsOf rfl rfl rfl hdX0_parentsOf ⟨Nat.le_of_ble_eq_true rfl, Nat.le_of_ble_eq_true rfl⟩ XG_em hE hP hK hD hS hA 1 rfl rfl rfl hl.1 rfl (Nat.le_of_ble_eq_true rfl) dX0_shallowOf_26 ⟨Nat.zero_le _, Nat.zero_le _⟩ (fun H locs hP hD hS => ?_)
          have hP : va_P D vwCl (XW cI cZ q u) H := hP
          have hD : va_D A (XW cI cZ q u) := hD
          refine W.eq (g2 := F0 m 29 ls [.long (xPar n (u.1 0) (u.1 1) (nI k))]) rfl ?_
          refine lv_lload_n hx hb dX0_shallowOf_29 rfl (lv_at hl 1 rfl) ?_
          refine lv_ldc2 (v := (-1)) hx hb hown (hts _ lkX0_shallowOf_65) dX0_shallowOf_30 ?_
          refine lv_lxor hx hb dX0_shallowOf_33 ?_
          refine lv_land hx hb dX0_shallowOf_34 ?_
          refine lv_lconst (v := 0) hx hb dX0_shallowOf_35 (by decide +kernel) ?_
          refine g_lcmpE (tgt := 48) hx hb dX0_shallowOf_36 dX0_shallowOf_37 (by decide) (fun c_36 => ?_) (fun c_36 => ?_)
          · refine lv_iinc (v := (nI (k + 1))) (lv' := [(5, .int (nI (k + 1))), (0, .ref (q 1)), (1, .long p0), (3, .long sh)]) hx hb dX0_shallowOf_48 hl (k := 3) rfl (nI_1 _) (by decide) rfl (fun ls hl => ?_)
            refine lv_goto (tgt := 5) hx hb dX0_shallowOf_51 (by decide) ?_
            exact ih (k + 1) sh _ _ _ hP hD hS (lv_sub hl [1, 2, 3, 0] rfl) (by omega) (by rw [← hr]; show _ = itU _ d (k + 1) (xShStep _ _ _ _ k sh); rw [show xShStep n (u.1 0) (u.1 1) p0 k sh = sh from by simp only [xShStep, c_11, c_20, c_36, ↓reduceIte, not_true_eq_false, not_false_eq_true]])
          · refine lv_lload_n hx hb dX0_shallowOf_40 rfl (lv_at hl 2 rfl) ?_
            refine lv_iload hx hb dX0_shallowOf_41 (lv_at hl 3 rfl) ?_
            refine g_callN0 (host := "FetchHouse") (As := [.int (nI k)]) (rest := [.long sh]) hx hb hml hown hts (ctX2_setOf l D cI cZ q (nI k)) gX0_shallowOf_X2_setOf_n58 rfl rfl rfl (hE.1 _ (List.mem_of_getElem? (i := 5) rfl)) (hts _ lkX0_shallowOf_inRX2) (hts _ lkX0_shallowOf_stX2_setOf) hdX2_setOf ⟨Nat.le_of_ble_eq_true rfl, Nat.le_of_ble_eq_true rfl⟩ gEM_true trivial hP hK hS hA rfl hl.1 rfl (Nat.le_of_ble_eq_true rfl) dX0_shallowOf_43 ⟨Nat.zero_le _, Nat.zero_le _⟩ (fun H locs hP hS => ?_)
            refine W.eq (g2 := F0 m 46 ls [.long (xSet (nI k)), .long sh]) rfl ?_
            refine lv_lor hx hb dX0_shallowOf_46 ?_
            refine lv_lstore_n (lv' := [(3, .long (sh ||| (xSet (nI k)))), (0, .ref (q 1)), (1, .long p0), (5, .int (nI k))]) hx hb dX0_shallowOf_47 rfl hl (by decide) rfl (fun ls hl => ?_)
            refine lv_iinc (v := (nI (k + 1))) (lv' := [(5, .int (nI (k + 1))), (3, .long (sh ||| (xSet (nI k)))), (0, .ref (q 1)), (1, .long p0)]) hx hb dX0_shallowOf_48 hl (k := 3) rfl (nI_1 _) (by decide) rfl (fun ls hl => ?_)
            refine lv_goto (tgt := 5) hx hb dX0_shallowOf_51 (by decide) ?_
            exact ih (k + 1) (sh ||| (xSet (nI k))) _ _ _ hP hD hS (lv_sub hl [2, 3, 1, 0] rfl) (by omega) (by rw [← hr]; show _ = itU _ d (k + 1) (xShStep _ _ _ _ k sh); rw [show xShStep n (u.1 0) (u.1 1) p0 k sh = (sh ||| (xSet (nI k))) from by simp only [xShStep, c_11, c_20, c_36, ↓reduceIte, not_true_eq_false, not_false_eq_true]])
  exact loop n 0 0 _ _ _ hP hD hS (lv_sub hl [2, 3, 1, 0] rfl) (by omega) rfl
theorem lkX0_ancestorsOf_inRX2 : Cond.initialized RX2 ∈ wsX0_ancestorsOf := List.mem_of_getElem? (i := 9) (by decide +kernel)
theorem lkX0_ancestorsOf_stX2_contains : Cond.static yX2_contains ∈ wsX0_ancestorsOf := List.mem_of_getElem? (i := 8) (by decide +kernel)
theorem lkX0_ancestorsOf_28 : Cond.fieldLink RX0 28 "FetchHouse$History" "made" "I" ∈ wsX0_ancestorsOf := List.mem_of_getElem? (i := 1) (by decide +kernel)
theorem lkX0_ancestorsOf_65 : Cond.constantLong RX0 65 (-1) ∈ wsX0_ancestorsOf := List.mem_of_getElem? (i := 2) (by decide +kernel)
theorem inX0_ancestorsOf_RX0 : ∀ w ∈ u_ws RX0 TX0 6, w ∈ wsX0_ancestorsOf := fun w h => List.mem_cons_of_mem _ (List.mem_append_right _ h)
abbrev rmX0_ancestorsOf : Room := { frames := 3, cells := 0, slots := 0, locals := 67 }
set_option maxHeartbeats 4000000 in
set_option maxRecDepth 100000 in
theorem ctX0_ancestorsOf (l : Launch) (D : va_G) (cI cZ : ClassId) (q : Nat → Nat) (u : SX) (n : Nat) (hn : u.1 15 0 = nI n) (h60 : n ≤ 60) (p0 p1 : Int64) : gM l yX0_ancestorsOf wsX0_ancestorsOf rmX0_ancestorsOf D [(cI, .int), (cZ, .boolean)] (XW cI cZ q) XG [.ref (q 1), .long p0, .long p1] u (some (.long (xAnc n (u.1 0) (u.1 1) p0 p1))) u := by
  refine g_start (cc := cX0_ancestorsOf) (maxL := 10) (ret := (some .long)) (by decide) rfl (Nat.le_of_ble_eq_true rfl) ?_
  intro p e s m below meth c A ls Q hx hb hml hret hts hown hlk hE hP hK hD hA hl hQ hS
  have hown : s.vm.findClass RX0 = some m.cls := hown
  have hl : lv_has ls 10 [(0, .ref (q 1)), (1, .long p0), (3, .long p1)] := hl
  refine lv_aload_n hx hb dX0_ancestorsOf_0 rfl (lv_at hl 0 rfl) ?_
  refine lv_lload_n hx hb dX0_ancestorsOf_1 rfl (lv_at hl 2 rfl) ?_
  refine g_callV (As := [.long p1]) (rest := []) hx hb hml hown hts (ctX0_shallowOf l D cI cZ q u n hn h60 p1) gX0_ancestorsOf_X0_shallowOf rfl rfl rfl hdX0_shallowOf ⟨Nat.le_of_ble_eq_true rfl, Nat.le_of_ble_eq_true rfl⟩ XG_em hE hP hK hD hS hA 1 rfl rfl rfl hl.1 rfl (Nat.le_of_ble_eq_true rfl) dX0_ancestorsOf_2 ⟨Nat.zero_le _, Nat.zero_le _⟩ (fun H locs hP hD hS => ?_)
  have hP : va_P D vwCl (XW cI cZ q u) H := hP
  have hD : va_D A (XW cI cZ q u) := hD
  refine W.eq (g2 := F0 m 5 ls [.long (xShallow n (u.1 0) (u.1 1) p1)]) rfl ?_
  refine lv_lstore (lv' := [(5, .long (xShallow n (u.1 0) (u.1 1) p1)), (0, .ref (q 1)), (1, .long p0), (3, .long p1)]) hx hb dX0_ancestorsOf_5 hl (by decide) rfl (fun ls hl => ?_)
  refine lv_lload_n hx hb dX0_ancestorsOf_7 rfl (lv_at hl 2 rfl) ?_
  refine lv_lload_n hx hb dX0_ancestorsOf_8 rfl (lv_at hl 3 rfl) ?_
  refine lv_land hx hb dX0_ancestorsOf_9 ?_
  refine lv_lstore (lv' := [(7, .long (p0 &&& p1)), (5, .long (xShallow n (u.1 0) (u.1 1) p1)), (0, .ref (q 1)), (1, .long p0), (3, .long p1)]) hx hb dX0_ancestorsOf_10 hl (by decide) rfl (fun ls hl => ?_)
  refine lv_aload_n hx hb dX0_ancestorsOf_12 rfl (lv_at hl 2 rfl) ?_
  refine va_get (ci := 0) (v := .int (nI n)) (C := RX0) (T := TX0) (N := 6) hx hb hts inX0_ancestorsOf_RX0 hown hK hP 1 rfl rfl 5 (by decide) (hts _ lkX0_ancestorsOf_28) (fun _ h9 => h9) (congrArg (fun z => some (Value.int z)) hn) dX0_ancestorsOf_13 ?_
  refine lv_iconst (v := 1) hx hb dX0_ancestorsOf_16 (by decide +kernel) ?_
  refine lv_isub hx hb dX0_ancestorsOf_17 ?_
  refine lv_istore (lv' := [(9, .int ((nI n) - 1)), (7, .long (p0 &&& p1)), (5, .long (xShallow n (u.1 0) (u.1 1) p1)), (0, .ref (q 1)), (1, .long p0), (3, .long p1)]) hx hb dX0_ancestorsOf_18 hl (by decide) rfl (fun ls hl => ?_)
  have loop : ∀ (d : Nat) (fd : Int64) (H : Heap) (locs : List Loc) (ls : Array Slot) (hP : va_P D vwCl (XW cI cZ q u) H) (hD : va_D A (XW cI cZ q u)) (hS : va_S A s.heap H locs) (hl : lv_has ls 10 [(0, .ref (q 1)), (1, .long p0), (3, .long p1), (5, .long (xShallow n (u.1 0) (u.1 1) p1)), (7, .long fd), (9, .int (nI d - 1))]) (hd : d ≤ n) (hr : itD (xAncStep n (u.1 0) (u.1 1) (xShallow n (u.1 0) (u.1 1) p1)) d fd = (xAnc n (u.1 0) (u.1 1) p0 p1)), W p l e rmX0_ancestorsOf s m ([.ref (q 1), .long p0, .long p1] : List Value).toArray below meth c H locs 0 0 Q (F0 m 20 ls []) := by
    intro d
    induction d with
    | zero =>
      intro fd H locs ls hP hD hS hl hd hr
      refine lv_iload hx hb dX0_ancestorsOf_20 (lv_at hl 5 rfl) ?_
      refine lv_if_lt (tgt := 59) hx hb dX0_ancestorsOf_22 (by decide) (fun c_22 => ?_) (fun c_22 => ?_)
      · refine lv_lload hx hb dX0_ancestorsOf_59 (lv_at hl 4 rfl) ?_
        refine g_lret (u1 := u) hx hb hret hlk hQ hP hD hS dX0_ancestorsOf_61 ?_ ?_
        · exact (by rw [← hr] <;> rfl)
        · exact rfl
      · exact absurd (by decide +kernel) c_22
    | succ d ih =>
      intro fd H locs ls hP hD hS hl hd hr
      rw [nI_pred] at hl
      refine lv_iload hx hb dX0_ancestorsOf_20 (lv_at hl 5 rfl) ?_
      refine lv_if_lt (tgt := 59) hx hb dX0_ancestorsOf_22 (by decide) (fun c_22 => ?_) (fun c_22 => ?_)
      · exact absurd c_22 (nI_pos (by omega))
      · refine lv_lload hx hb dX0_ancestorsOf_25 (lv_at hl 4 rfl) ?_
        refine lv_lload hx hb dX0_ancestorsOf_27 (lv_at hl 3 rfl) ?_
        refine lv_ldc2 (v := (-1)) hx hb hown (hts _ lkX0_ancestorsOf_65) dX0_ancestorsOf_29 ?_
        refine lv_lxor hx hb dX0_ancestorsOf_32 ?_
        refine lv_land hx hb dX0_ancestorsOf_33 ?_
        refine lv_iload hx hb dX0_ancestorsOf_34 (lv_at hl 5 rfl) ?_
        refine g_callN0 (host := "FetchHouse") (As := [.long (fd &&& ((xShallow n (u.1 0) (u.1 1) p1) ^^^ (-1))), .int (nI d)]) (rest := []) hx hb hml hown hts (ctX2_contains l D cI cZ q (fd &&& ((xShallow n (u.1 0) (u.1 1) p1) ^^^ (-1))) (nI d)) gX0_ancestorsOf_X2_contains_n47 rfl rfl rfl (hE.1 _ (List.mem_of_getElem? (i := 3) rfl)) (hts _ lkX0_ancestorsOf_inRX2) (hts _ lkX0_ancestorsOf_stX2_contains) hdX2_contains ⟨Nat.le_of_ble_eq_true rfl, Nat.le_of_ble_eq_true rfl⟩ gEM_true trivial hP hK hS hA rfl hl.1 rfl (Nat.le_of_ble_eq_true rfl) dX0_ancestorsOf_36 ⟨Nat.zero_le _, Nat.zero_le _⟩ (fun H locs hP hS => ?_)
        refine W.eq (g2 := F0 m 39 ls [.int (xCon (fd &&& ((xShallow n (u.1 0) (u.1 1) p1) ^^^ (-1))) (nI d))]) rfl ?_
        refine lv_if_eq (tgt := 53) hx hb dX0_ancestorsOf_39 (by decide) (fun c_39 => ?_) (fun c_39 => ?_)
        · refine lv_iinc (v := ((nI d) - 1)) (lv' := [(9, .int ((nI d) - 1)), (0, .ref (q 1)), (1, .long p0), (3, .long p1), (5, .long (xShallow n (u.1 0) (u.1 1) p1)), (7, .long fd)]) hx hb dX0_ancestorsOf_53 hl (k := 5) rfl (g_dec1 _) (by decide) rfl (fun ls hl => ?_)
          refine lv_goto (tgt := 20) hx hb dX0_ancestorsOf_56 (by decide) ?_
          exact ih fd _ _ _ hP hD hS (lv_sub hl [1, 2, 3, 4, 5, 0] rfl) (by omega) (by rw [← hr]; show _ = itD _ d (xAncStep _ _ _ _ d fd); rw [show xAncStep n (u.1 0) (u.1 1) (xShallow n (u.1 0) (u.1 1) p1) d fd = fd from by simp only [xAncStep, c_22, c_39, ↓reduceIte, not_true_eq_false, not_false_eq_true]])
        · refine lv_lload hx hb dX0_ancestorsOf_42 (lv_at hl 4 rfl) ?_
          refine lv_aload_n hx hb dX0_ancestorsOf_44 rfl (lv_at hl 0 rfl) ?_
          refine lv_iload hx hb dX0_ancestorsOf_45 (lv_at hl 5 rfl) ?_
          refine g_callV (As := [.int (nI d)]) (rest := [.long fd]) hx hb hml hown hts (ctX0_parentsOf l D cI cZ q u n hn h60 (nI d)) gX0_ancestorsOf_X0_parentsOf rfl rfl rfl hdX0_parentsOf ⟨Nat.le_of_ble_eq_true rfl, Nat.le_of_ble_eq_true rfl⟩ XG_em hE hP hK hD hS hA 1 rfl rfl rfl hl.1 rfl (Nat.le_of_ble_eq_true rfl) dX0_ancestorsOf_47 ⟨Nat.zero_le _, Nat.zero_le _⟩ (fun H locs hP hD hS => ?_)
          have hP : va_P D vwCl (XW cI cZ q u) H := hP
          have hD : va_D A (XW cI cZ q u) := hD
          refine W.eq (g2 := F0 m 50 ls [.long (xPar n (u.1 0) (u.1 1) (nI d)), .long fd]) rfl ?_
          refine lv_lor hx hb dX0_ancestorsOf_50 ?_
          refine lv_lstore (lv' := [(7, .long (fd ||| (xPar n (u.1 0) (u.1 1) (nI d)))), (0, .ref (q 1)), (1, .long p0), (3, .long p1), (5, .long (xShallow n (u.1 0) (u.1 1) p1)), (9, .int (nI d))]) hx hb dX0_ancestorsOf_51 hl (by decide) rfl (fun ls hl => ?_)
          refine lv_iinc (v := ((nI d) - 1)) (lv' := [(9, .int ((nI d) - 1)), (7, .long (fd ||| (xPar n (u.1 0) (u.1 1) (nI d)))), (0, .ref (q 1)), (1, .long p0), (3, .long p1), (5, .long (xShallow n (u.1 0) (u.1 1) p1))]) hx hb dX0_ancestorsOf_53 hl (k := 5) rfl (g_dec1 _) (by decide) rfl (fun ls hl => ?_)
          refine lv_goto (tgt := 20) hx hb dX0_ancestorsOf_56 (by decide) ?_
          exact ih (fd ||| (xPar n (u.1 0) (u.1 1) (nI d))) _ _ _ hP hD hS (lv_sub hl [2, 3, 4, 5, 1, 0] rfl) (by omega) (by rw [← hr]; show _ = itD _ d (xAncStep _ _ _ _ d fd); rw [show xAncStep n (u.1 0) (u.1 1) (xShallow n (u.1 0) (u.1 1) p1) d fd = (fd ||| (xPar n (u.1 0) (u.1 1) (nI d))) from by simp only [xAncStep, c_22, c_39, ↓reduceIte, not_true_eq_false, not_false_eq_true]])
  exact loop n (p0 &&& p1) _ _ _ hP hD hS (lv_sub hl [3, 4, 5, 2, 1, 0] rfl) (by omega) rfl
theorem lkX0_findFilesOf_inRX2 : Cond.initialized RX2 ∈ wsX0_findFilesOf := List.mem_of_getElem? (i := 14) (by decide +kernel)
theorem lkX0_findFilesOf_stX2_isFile : Cond.static yX2_isFile ∈ wsX0_findFilesOf := List.mem_of_getElem? (i := 16) (by decide +kernel)
theorem lkX0_findFilesOf_24 : Cond.fieldLink RX0 24 "FetchHouse$History" "foundFiles" "[Z" ∈ wsX0_findFilesOf := List.mem_of_getElem? (i := 1) (by decide +kernel)
theorem inX0_findFilesOf_RX0 : ∀ w ∈ u_ws RX0 TX0 6, w ∈ wsX0_findFilesOf := fun w h => List.mem_cons_of_mem _ (List.mem_append_right _ h)
abbrev rmX0_findFilesOf : Room := { frames := 2, cells := 0, slots := 0, locals := 43 }
set_option maxHeartbeats 4000000 in
set_option maxRecDepth 100000 in
theorem ctX0_findFilesOf (l : Launch) (D : va_G) (cI cZ : ClassId) (q : Nat → Nat) (u : SX) (n : Nat) (hn : u.1 15 0 = nI n) (h60 : n ≤ 60) (p0 : Int32) : gM l yX0_findFilesOf wsX0_findFilesOf rmX0_findFilesOf D [(cI, .int), (cZ, .boolean)] (XW cI cZ q) XG [.ref (q 1), .int p0] u none (gS u 4 (xFind n (u.1 2) p0 (u.1 4))) := by
  refine g_start (cc := cX0_findFilesOf) (maxL := 4) (ret := none) (by decide) rfl (Nat.le_of_ble_eq_true rfl) ?_
  intro p e s m below meth c A ls Q hx hb hml hret hts hown hlk hE hP hK hD hA hl hQ hS
  have hown : s.vm.findClass RX0 = some m.cls := hown
  have hl : lv_has ls 4 [(0, .ref (q 1)), (1, .int p0)] := hl
  refine lv_iconst (v := (nI 0)) hx hb dX0_findFilesOf_0 (by decide +kernel) ?_
  refine lv_istore_n (lv' := [(2, .int (nI 0)), (0, .ref (q 1)), (1, .int p0)]) hx hb dX0_findFilesOf_1 rfl hl (by decide) rfl (fun ls hl => ?_)
  have loop : ∀ (d k : Nat) (ff : Nat → Int32) (H : Heap) (locs : List Loc) (ls : Array Slot) (hP : va_P D vwCl (XW cI cZ q (gS u 4 ff)) H) (hD : va_D A (XW cI cZ q (gS u 4 ff))) (hS : va_S A s.heap H locs) (hl : lv_has ls 4 [(0, .ref (q 1)), (1, .int p0), (2, .int (nI k))]) (hk : k + d = 4) (hr : itU (xFindStep n (u.1 2) p0) d k ff = (xFind n (u.1 2) p0 (u.1 4))), W p l e rmX0_findFilesOf s m ([.ref (q 1), .int p0] : List Value).toArray below meth c H locs 0 0 Q (F0 m 2 ls []) := by
    intro d
    induction d with
    | zero =>
      intro k ff H locs ls hP hD hS hl hk hr
      refine lv_iload_n hx hb dX0_findFilesOf_2 rfl (lv_at hl 2 rfl) ?_
      refine lv_iconst (v := 4) hx hb dX0_findFilesOf_3 (by decide +kernel) ?_
      refine lv_icmp_ge (tgt := 34) hx hb dX0_findFilesOf_4 (by decide) (fun c_4 => ?_) (fun c_4 => ?_)
      · have n_4 : 4 ≤ k := (g_leI (a := 4) (b := k) rfl rfl (by omega) (by omega)).mp c_4
        refine g_vret (u1 := (gS u 4 ff)) hx hb hret hlk hQ hP hD hS dX0_findFilesOf_34 ?_ ?_
        · exact rfl
        · exact (by rw [← hr] <;> rfl)
      · have n_4 : ¬ 4 ≤ k := fun h => c_4 ((g_leI (a := 4) (b := k) rfl rfl (by omega) (by omega)).mpr h)
        exfalso; omega
    | succ d ih =>
      intro k ff H locs ls hP hD hS hl hk hr
      refine lv_iload_n hx hb dX0_findFilesOf_2 rfl (lv_at hl 2 rfl) ?_
      refine lv_iconst (v := 4) hx hb dX0_findFilesOf_3 (by decide +kernel) ?_
      refine lv_icmp_ge (tgt := 34) hx hb dX0_findFilesOf_4 (by decide) (fun c_4 => ?_) (fun c_4 => ?_)
      · have n_4 : 4 ≤ k := (g_leI (a := 4) (b := k) rfl rfl (by omega) (by omega)).mp c_4
        exfalso; omega
      · have n_4 : ¬ 4 ≤ k := fun h => c_4 ((g_leI (a := 4) (b := k) rfl rfl (by omega) (by omega)).mpr h)
        refine lv_aload_n hx hb dX0_findFilesOf_7 rfl (lv_at hl 0 rfl) ?_
        refine lv_iload_n hx hb dX0_findFilesOf_8 rfl (lv_at hl 1 rfl) ?_
        refine lv_iload_n hx hb dX0_findFilesOf_9 rfl (lv_at hl 2 rfl) ?_
        refine g_callV (As := [.int p0, .int (nI k)]) (rest := []) hx hb hml hown hts (ctX0_fileIn l D cI cZ q (gS u 4 ff) n hn h60 p0 (nI k)) gX0_findFilesOf_X0_fileIn rfl rfl rfl hdX0_fileIn ⟨Nat.le_of_ble_eq_true rfl, Nat.le_of_ble_eq_true rfl⟩ XG_em hE hP hK hD hS hA 1 rfl rfl rfl hl.1 rfl (Nat.le_of_ble_eq_true rfl) dX0_findFilesOf_10 ⟨Nat.zero_le _, Nat.zero_le _⟩ (fun H locs hP hD hS => ?_)
        have hP : va_P D vwCl (XW cI cZ q (gS u 4 ff)) H := hP
        have hD : va_D A (XW cI cZ q (gS u 4 ff)) := hD
        refine W.eq (g2 := F0 m 13 ls [.int (xFileIn n (u.1 2) p0 (nI k))]) rfl ?_
        refine lv_istore_n (lv' := [(3, .int (xFileIn n (u.1 2) p0 (nI k))), (0, .ref (q 1)), (1, .int p0), (2, .int (nI k))]) hx hb dX0_findFilesOf_13 rfl hl (by decide) rfl (fun ls hl => ?_)
        refine lv_iload_n hx hb dX0_findFilesOf_14 rfl (lv_at hl 0 rfl) ?_
        refine g_callN0 (host := "FetchHouse") (As := [.int (xFileIn n (u.1 2) p0 (nI k))]) (rest := []) hx hb hml hown hts (ctX2_isFile l D cI cZ q (xFileIn n (u.1 2) p0 (nI k))) gX0_findFilesOf_X2_isFile_n55 rfl rfl rfl (hE.1 _ (List.mem_of_getElem? (i := 4) rfl)) (hts _ lkX0_findFilesOf_inRX2) (hts _ lkX0_findFilesOf_stX2_isFile) hdX2_isFile ⟨Nat.le_of_ble_eq_true rfl, Nat.le_of_ble_eq_true rfl⟩ gEM_true trivial hP hK hS hA rfl hl.1 rfl (Nat.le_of_ble_eq_true rfl) dX0_findFilesOf_15 ⟨Nat.zero_le _, Nat.zero_le _⟩ (fun H locs hP hS => ?_)
        refine W.eq (g2 := F0 m 18 ls [.int (xRange (xFileIn n (u.1 2) p0 (nI k)) 100)]) rfl ?_
        refine lv_if_eq (tgt := 28) hx hb dX0_findFilesOf_18 (by decide) (fun c_18 => ?_) (fun c_18 => ?_)
        · refine lv_iinc (v := (nI (k + 1))) (lv' := [(2, .int (nI (k + 1))), (3, .int (xFileIn n (u.1 2) p0 (nI k))), (0, .ref (q 1)), (1, .int p0)]) hx hb dX0_findFilesOf_28 hl (k := 3) rfl (nI_1 _) (by decide) rfl (fun ls hl => ?_)
          refine lv_goto (tgt := 2) hx hb dX0_findFilesOf_31 (by decide) ?_
          exact ih (k + 1) ff _ _ _ hP hD hS (lv_sub hl [2, 3, 0] rfl) (by omega) (by rw [← hr]; show _ = itU _ d (k + 1) (xFindStep _ _ _ k ff); rw [show xFindStep n (u.1 2) p0 k ff = ff from by simp only [xFindStep, c_4, c_18, ↓reduceIte, not_true_eq_false, not_false_eq_true]])
        · obtain ⟨j, hj, hj2⟩ := xRange_ne (n := 100) rfl (by omega) c_18
          have hfe : (xFileIn n (u.1 2) p0 (nI k)) = nI (xFileIn n (u.1 2) p0 (nI k)).toNatClampNeg := by rw [hj2, nI_clamp (by omega)]
          have hfb : (xFileIn n (u.1 2) p0 (nI k)).toNatClampNeg < 100 := by rw [hj2, nI_clamp (by omega)]; exact hj
          refine lv_aload_n hx hb dX0_findFilesOf_21 rfl (lv_at hl 1 rfl) ?_
          refine va_get (ci := 0) (v := .ref (q 8)) (C := RX0) (T := TX0) (N := 6) hx hb hts inX0_findFilesOf_RX0 hown hK hP 1 rfl rfl 4 (by decide) (hts _ lkX0_findFilesOf_24) (fun _ h9 => h9) rfl dX0_findFilesOf_22 ?_
          refine lv_iload_n hx hb dX0_findFilesOf_25 rfl (lv_at hl 0 rfl) ?_
          refine lv_iconst (v := 1) hx hb dX0_findFilesOf_26 (by decide +kernel) ?_
          refine g_zast (n := 100) (f := ff) (u' := (gS u 4 (upd ff (xFileIn n (u.1 2) p0 (nI k)).toNatClampNeg 1))) hx hb hK hP hD hS 8 1 rfl rfl (xFileIn n (u.1 2) p0 (nI k)).toNatClampNeg (by omega) (by omega) hfe rfl rfl dX0_findFilesOf_27 (fun H locs hP hD hS => ?_)
          refine lv_iinc (v := (nI (k + 1))) (lv' := [(2, .int (nI (k + 1))), (3, .int (xFileIn n (u.1 2) p0 (nI k))), (0, .ref (q 1)), (1, .int p0)]) hx hb dX0_findFilesOf_28 hl (k := 3) rfl (nI_1 _) (by decide) rfl (fun ls hl => ?_)
          refine lv_goto (tgt := 2) hx hb dX0_findFilesOf_31 (by decide) ?_
          exact ih (k + 1) (upd ff (xFileIn n (u.1 2) p0 (nI k)).toNatClampNeg 1) _ _ _ hP hD hS (lv_sub hl [2, 3, 0] rfl) (by omega) (by rw [← hr]; show _ = itU _ d (k + 1) (xFindStep _ _ _ k ff); rw [show xFindStep n (u.1 2) p0 k ff = (upd ff (xFileIn n (u.1 2) p0 (nI k)).toNatClampNeg 1) from by simp only [xFindStep, c_4, c_18, ↓reduceIte, not_true_eq_false, not_false_eq_true]])
  exact loop 4 0 (u.1 4) _ _ _ hP hD hS (lv_sub hl [1, 2, 0] rfl) (by omega) rfl
theorem lkX0_filesOf_inRX2 : Cond.initialized RX2 ∈ wsX0_filesOf := List.mem_of_getElem? (i := 4) (by decide +kernel)
theorem lkX0_filesOf_stX2_contains : Cond.static yX2_contains ∈ wsX0_filesOf := List.mem_of_getElem? (i := 3) (by decide +kernel)
theorem lkX0_filesOf_24 : Cond.fieldLink RX0 24 "FetchHouse$History" "foundFiles" "[Z" ∈ wsX0_filesOf := List.mem_of_getElem? (i := 1) (by decide +kernel)
theorem lkX0_filesOf_28 : Cond.fieldLink RX0 28 "FetchHouse$History" "made" "I" ∈ wsX0_filesOf := List.mem_of_getElem? (i := 2) (by decide +kernel)
theorem inX0_filesOf_RX0 : ∀ w ∈ u_ws RX0 TX0 6, w ∈ wsX0_filesOf := fun w h => List.mem_cons_of_mem _ (List.mem_append_right _ h)
abbrev rmX0_filesOf : Room := { frames := 3, cells := 0, slots := 0, locals := 66 }
set_option maxHeartbeats 4000000 in
set_option maxRecDepth 100000 in
theorem ctX0_filesOf (l : Launch) (D : va_G) (cI cZ : ClassId) (q : Nat → Nat) (u : SX) (n : Nat) (hn : u.1 15 0 = nI n) (h60 : n ≤ 60) (p0 : Int64) : gM l yX0_filesOf wsX0_filesOf rmX0_filesOf D [(cI, .int), (cZ, .boolean)] (XW cI cZ q) XG [.ref (q 1), .long p0] u (some (.ref (q 8))) (gS u 4 (xFiles n (u.1 2) p0 (u.1 4))) := by
  refine g_start (cc := cX0_filesOf) (maxL := 4) (ret := (some (.array .boolean))) (by decide) rfl (Nat.le_of_ble_eq_true rfl) ?_
  intro p e s m below meth c A ls Q hx hb hml hret hts hown hlk hE hP hK hD hA hl hQ hS
  have hown : s.vm.findClass RX0 = some m.cls := hown
  have hl : lv_has ls 4 [(0, .ref (q 1)), (1, .long p0)] := hl
  refine lv_iconst (v := (nI 0)) hx hb dX0_filesOf_0 (by decide +kernel) ?_
  refine lv_istore_n (lv' := [(3, .int (nI 0)), (0, .ref (q 1)), (1, .long p0)]) hx hb dX0_filesOf_1 rfl hl (by decide) rfl (fun ls hl => ?_)
  have loop : ∀ (d k : Nat) (ff : Nat → Int32) (H : Heap) (locs : List Loc) (ls : Array Slot) (hP : va_P D vwCl (XW cI cZ q (gS u 4 ff)) H) (hD : va_D A (XW cI cZ q (gS u 4 ff))) (hS : va_S A s.heap H locs) (hl : lv_has ls 4 [(0, .ref (q 1)), (1, .long p0), (3, .int (nI k))]) (hk : k + d = 100) (hr : itU xClrStep d k ff = xClr (u.1 4)), W p l e rmX0_filesOf s m ([.ref (q 1), .long p0] : List Value).toArray below meth c H locs 0 0 Q (F0 m 2 ls []) := by
    intro d
    induction d with
    | zero =>
      intro k ff H locs ls hP hD hS hl hk hr
      refine lv_iload_n hx hb dX0_filesOf_2 rfl (lv_at hl 2 rfl) ?_
      refine lv_bipush (v := 100) hx hb dX0_filesOf_3 (by decide +kernel) ?_
      refine lv_icmp_ge (tgt := 21) hx hb dX0_filesOf_5 (by decide) (fun c_5 => ?_) (fun c_5 => ?_)
      · have n_5 : 100 ≤ k := (g_leI (a := 100) (b := k) rfl rfl (by omega) (by omega)).mp c_5
        refine lv_iconst (v := (nI 0)) hx hb dX0_filesOf_21 (by decide +kernel) ?_
        refine lv_istore_n (lv' := [(3, .int (nI 0)), (0, .ref (q 1)), (1, .long p0)]) hx hb dX0_filesOf_22 rfl hl (by decide) rfl (fun ls hl => ?_)
        have loop2 : ∀ (d2 k2 : Nat) (gg : Nat → Int32) (H : Heap) (locs : List Loc) (ls : Array Slot) (hP : va_P D vwCl (XW cI cZ q (gS u 4 gg)) H) (hD : va_D A (XW cI cZ q (gS u 4 gg))) (hS : va_S A s.heap H locs) (hl : lv_has ls 4 [(0, .ref (q 1)), (1, .long p0), (3, .int (nI k2))]) (hk2 : k2 + d2 = n) (hr2 : itU (xFilesStep n (u.1 2) p0) d2 k2 gg = (xFiles n (u.1 2) p0 (u.1 4))), W p l e rmX0_filesOf s m ([.ref (q 1), .long p0] : List Value).toArray below meth c H locs 0 0 Q (F0 m 23 ls []) := by
          intro d2
          induction d2 with
          | zero =>
            intro k2 gg H locs ls hP hD hS hl hk2 hr2
            refine lv_iload_n hx hb dX0_filesOf_23 rfl (lv_at hl 2 rfl) ?_
            refine lv_aload_n hx hb dX0_filesOf_24 rfl (lv_at hl 0 rfl) ?_
            refine va_get (ci := 0) (v := .int (nI n)) (C := RX0) (T := TX0) (N := 6) hx hb hts inX0_filesOf_RX0 hown hK hP 1 rfl rfl 5 (by decide) (hts _ lkX0_filesOf_28) (fun _ h9 => h9) (congrArg (fun z => some (Value.int z)) hn) dX0_filesOf_25 ?_
            refine lv_icmp_ge (tgt := 50) hx hb dX0_filesOf_28 (by decide) (fun c_28 => ?_) (fun c_28 => ?_)
            · have n_28 : n ≤ k2 := (g_leI (a := n) (b := k2) rfl rfl (by omega) (by omega)).mp c_28
              refine lv_aload_n hx hb dX0_filesOf_50 rfl (lv_at hl 0 rfl) ?_
              refine va_get (ci := 0) (v := .ref (q 8)) (C := RX0) (T := TX0) (N := 6) hx hb hts inX0_filesOf_RX0 hown hK hP 1 rfl rfl 4 (by decide) (hts _ lkX0_filesOf_24) (fun _ h9 => h9) rfl dX0_filesOf_51 ?_
              refine g_aret (u1 := (gS u 4 gg)) hx hb hret (Or.inr ⟨_, rfl⟩) hlk hQ hP hD hS dX0_filesOf_54 ?_ ?_
              · exact rfl
              · exact (by rw [← hr2] <;> rfl)
            · have n_28 : ¬ n ≤ k2 := fun h => c_28 ((g_leI (a := n) (b := k2) rfl rfl (by omega) (by omega)).mpr h)
              exfalso; omega
          | succ d2 ih =>
            intro k2 gg H locs ls hP hD hS hl hk2 hr2
            refine lv_iload_n hx hb dX0_filesOf_23 rfl (lv_at hl 2 rfl) ?_
            refine lv_aload_n hx hb dX0_filesOf_24 rfl (lv_at hl 0 rfl) ?_
            refine va_get (ci := 0) (v := .int (nI n)) (C := RX0) (T := TX0) (N := 6) hx hb hts inX0_filesOf_RX0 hown hK hP 1 rfl rfl 5 (by decide) (hts _ lkX0_filesOf_28) (fun _ h9 => h9) (congrArg (fun z => some (Value.int z)) hn) dX0_filesOf_25 ?_
            refine lv_icmp_ge (tgt := 50) hx hb dX0_filesOf_28 (by decide) (fun c_28 => ?_) (fun c_28 => ?_)
            · have n_28 : n ≤ k2 := (g_leI (a := n) (b := k2) rfl rfl (by omega) (by omega)).mp c_28
              exfalso; omega
            · have n_28 : ¬ n ≤ k2 := fun h => c_28 ((g_leI (a := n) (b := k2) rfl rfl (by omega) (by omega)).mpr h)
              refine lv_lload_n hx hb dX0_filesOf_31 rfl (lv_at hl 1 rfl) ?_
              refine lv_iload_n hx hb dX0_filesOf_32 rfl (lv_at hl 2 rfl) ?_
              refine g_callN0 (host := "FetchHouse") (As := [.long p0, .int (nI k2)]) (rest := []) hx hb hml hown hts (ctX2_contains l D cI cZ q p0 (nI k2)) gX0_filesOf_X2_contains_n47 rfl rfl rfl (hE.1 _ (List.mem_of_getElem? (i := 3) rfl)) (hts _ lkX0_filesOf_inRX2) (hts _ lkX0_filesOf_stX2_contains) hdX2_contains ⟨Nat.le_of_ble_eq_true rfl, Nat.le_of_ble_eq_true rfl⟩ gEM_true trivial hP hK hS hA rfl hl.1 rfl (Nat.le_of_ble_eq_true rfl) dX0_filesOf_33 ⟨Nat.zero_le _, Nat.zero_le _⟩ (fun H locs hP hS => ?_)
              refine W.eq (g2 := F0 m 36 ls [.int (xCon p0 (nI k2))]) rfl ?_
              refine lv_if_eq (tgt := 44) hx hb dX0_filesOf_36 (by decide) (fun c_36 => ?_) (fun c_36 => ?_)
              · refine lv_iinc (v := (nI (k2 + 1))) (lv' := [(3, .int (nI (k2 + 1))), (0, .ref (q 1)), (1, .long p0)]) hx hb dX0_filesOf_44 hl (k := 2) rfl (nI_1 _) (by decide) rfl (fun ls hl => ?_)
                refine lv_goto (tgt := 23) hx hb dX0_filesOf_47 (by decide) ?_
                exact ih (k2 + 1) gg _ _ _ hP hD hS (lv_sub hl [1, 2, 0] rfl) (by omega) (by rw [← hr2]; show _ = itU _ d2 (k2 + 1) (xFilesStep _ _ _ k2 gg); rw [show xFilesStep n (u.1 2) p0 k2 gg = gg from by simp only [xFilesStep, c_5, c_28, c_36, ↓reduceIte, not_true_eq_false, not_false_eq_true]])
              · refine lv_aload_n hx hb dX0_filesOf_39 rfl (lv_at hl 0 rfl) ?_
                refine lv_iload_n hx hb dX0_filesOf_40 rfl (lv_at hl 2 rfl) ?_
                refine g_callV (As := [.int (nI k2)]) (rest := []) hx hb hml hown hts (ctX0_findFilesOf l D cI cZ q (gS u 4 gg) n hn h60 (nI k2)) gX0_filesOf_X0_findFilesOf rfl rfl rfl hdX0_findFilesOf ⟨Nat.le_of_ble_eq_true rfl, Nat.le_of_ble_eq_true rfl⟩ XG_em hE hP hK hD hS hA 1 rfl rfl rfl hl.1 rfl (Nat.le_of_ble_eq_true rfl) dX0_filesOf_41 ⟨Nat.zero_le _, Nat.zero_le _⟩ (fun H locs hP hD hS => ?_)
                have hP : va_P D vwCl (XW cI cZ q (gS u 4 (xFind n (u.1 2) (nI k2) gg))) H := hP
                have hD : va_D A (XW cI cZ q (gS u 4 (xFind n (u.1 2) (nI k2) gg))) := hD
                refine W.eq (g2 := F0 m 44 ls []) rfl ?_
                refine lv_iinc (v := (nI (k2 + 1))) (lv' := [(3, .int (nI (k2 + 1))), (0, .ref (q 1)), (1, .long p0)]) hx hb dX0_filesOf_44 hl (k := 2) rfl (nI_1 _) (by decide) rfl (fun ls hl => ?_)
                refine lv_goto (tgt := 23) hx hb dX0_filesOf_47 (by decide) ?_
                exact ih (k2 + 1) (xFind n (u.1 2) (nI k2) gg) _ _ _ hP hD hS (lv_sub hl [1, 2, 0] rfl) (by omega) (by rw [← hr2]; show _ = itU _ d2 (k2 + 1) (xFilesStep _ _ _ k2 gg); rw [show xFilesStep n (u.1 2) p0 k2 gg = (xFind n (u.1 2) (nI k2) gg) from by simp only [xFilesStep, c_5, c_28, c_36, ↓reduceIte, not_true_eq_false, not_false_eq_true]])
        exact loop2 n 0 ff _ _ _ hP hD hS (lv_sub hl [1, 2, 0] rfl) (by omega) (by rw [show ff = xClr (u.1 4) from hr] <;> rfl)
      · have n_5 : ¬ 100 ≤ k := fun h => c_5 ((g_leI (a := 100) (b := k) rfl rfl (by omega) (by omega)).mpr h)
        exfalso; omega
    | succ d ih =>
      intro k ff H locs ls hP hD hS hl hk hr
      refine lv_iload_n hx hb dX0_filesOf_2 rfl (lv_at hl 2 rfl) ?_
      refine lv_bipush (v := 100) hx hb dX0_filesOf_3 (by decide +kernel) ?_
      refine lv_icmp_ge (tgt := 21) hx hb dX0_filesOf_5 (by decide) (fun c_5 => ?_) (fun c_5 => ?_)
      · have n_5 : 100 ≤ k := (g_leI (a := 100) (b := k) rfl rfl (by omega) (by omega)).mp c_5
        exfalso; omega
      · have n_5 : ¬ 100 ≤ k := fun h => c_5 ((g_leI (a := 100) (b := k) rfl rfl (by omega) (by omega)).mpr h)
        refine lv_aload_n hx hb dX0_filesOf_8 rfl (lv_at hl 0 rfl) ?_
        refine va_get (ci := 0) (v := .ref (q 8)) (C := RX0) (T := TX0) (N := 6) hx hb hts inX0_filesOf_RX0 hown hK hP 1 rfl rfl 4 (by decide) (hts _ lkX0_filesOf_24) (fun _ h9 => h9) rfl dX0_filesOf_9 ?_
        refine lv_iload_n hx hb dX0_filesOf_12 rfl (lv_at hl 2 rfl) ?_
        refine lv_iconst (v := 0) hx hb dX0_filesOf_13 (by decide +kernel) ?_
        refine g_zast (n := 100) (f := ff) (u' := (gS u 4 (upd ff k 0))) hx hb hK hP hD hS 8 1 rfl rfl k (by omega) (by omega) rfl rfl rfl dX0_filesOf_14 (fun H locs hP hD hS => ?_)
        refine lv_iinc (v := (nI (k + 1))) (lv' := [(3, .int (nI (k + 1))), (0, .ref (q 1)), (1, .long p0)]) hx hb dX0_filesOf_15 hl (k := 2) rfl (nI_1 _) (by decide) rfl (fun ls hl => ?_)
        refine lv_goto (tgt := 2) hx hb dX0_filesOf_18 (by decide) ?_
        exact ih (k + 1) (upd ff k 0) _ _ _ hP hD hS (lv_sub hl [1, 2, 0] rfl) (by omega) (by rw [← hr] <;> rfl)
  exact loop 100 0 (u.1 4) _ _ _ hP hD hS (lv_sub hl [1, 2, 0] rfl) (by omega) rfl
theorem lkX0_append_15 : Cond.fieldLink RX0 15 "FetchHouse$History" "secondParents" "[I" ∈ wsX0_append := List.mem_of_getElem? (i := 3) (by decide +kernel)
theorem lkX0_append_18 : Cond.fieldLink RX0 18 "FetchHouse$History" "slotFiles" "[I" ∈ wsX0_append := List.mem_of_getElem? (i := 4) (by decide +kernel)
theorem lkX0_append_28 : Cond.fieldLink RX0 28 "FetchHouse$History" "made" "I" ∈ wsX0_append := List.mem_of_getElem? (i := 1) (by decide +kernel)
theorem lkX0_append_9 : Cond.fieldLink RX0 9 "FetchHouse$History" "firstParents" "[I" ∈ wsX0_append := List.mem_of_getElem? (i := 2) (by decide +kernel)
theorem inX0_append_RX0 : ∀ w ∈ u_ws RX0 TX0 6, w ∈ wsX0_append := fun w h => List.mem_cons_of_mem _ (List.mem_append_right _ h)
abbrev rmX0_append : Room := { frames := 2, cells := 0, slots := 0, locals := 43 }
set_option maxHeartbeats 4000000 in
set_option maxRecDepth 100000 in
theorem ctX0_append (l : Launch) (D : va_G) (cI cZ : ClassId) (q : Nat → Nat) (u : SX) (n : Nat) (hn : u.1 15 0 = nI n) (h60 : n ≤ 60) (h59 : n < 60) (p0 p1 p2 p3 : Int32) : gM l yX0_append wsX0_append rmX0_append D [(cI, .int), (cZ, .boolean)] (XW cI cZ q) XG [.ref (q 1), .int p0, .int p1, .int p2, .int p3] u (some (.int (nI n))) (gS (gS (gS (gS u 0 (upd (u.1 0) n p0)) 1 (upd (u.1 1) n p1)) 2 (xSlots n p0 p2 p3 (u.1 2))) 15 (fun _ => (nI n + 1))) := by
  refine g_start (cc := cX0_append) (maxL := 7) (ret := (some .int)) (by decide) rfl (Nat.le_of_ble_eq_true rfl) ?_
  intro p e s m below meth c A ls Q hx hb hml hret hts hown hlk hE hP hK hD hA hl hQ hS
  have hown : s.vm.findClass RX0 = some m.cls := hown
  have hl : lv_has ls 7 [(0, .ref (q 1)), (1, .int p0), (2, .int p1), (3, .int p2), (4, .int p3)] := hl
  refine lv_aload_n hx hb dX0_append_0 rfl (lv_at hl 0 rfl) ?_
  refine g_callV (As := []) (rest := []) hx hb hml hown hts (ctX0_isFull l D cI cZ q u n hn h60) gX0_append_X0_isFull rfl rfl rfl hdX0_isFull ⟨Nat.le_of_ble_eq_true rfl, Nat.le_of_ble_eq_true rfl⟩ XG_em hE hP hK hD hS hA 1 rfl rfl rfl hl.1 rfl (Nat.le_of_ble_eq_true rfl) dX0_append_1 ⟨Nat.zero_le _, Nat.zero_le _⟩ (fun H locs hP hD hS => ?_)
  have hP : va_P D vwCl (XW cI cZ q u) H := hP
  have hD : va_D A (XW cI cZ q u) := hD
  refine W.eq (g2 := F0 m 4 ls [.int (if n < 60 then 0 else 1)]) rfl ?_
  refine lv_if_eq (tgt := 9) hx hb dX0_append_4 (by decide) (fun c_4 => ?_) (fun c_4 => ?_)
  · refine lv_aload_n hx hb dX0_append_9 rfl (lv_at hl 0 rfl) ?_
    refine va_get (ci := 0) (v := .int (nI n)) (C := RX0) (T := TX0) (N := 6) hx hb hts inX0_append_RX0 hown hK hP 1 rfl rfl 5 (by decide) (hts _ lkX0_append_28) (fun _ h9 => h9) (congrArg (fun z => some (Value.int z)) hn) dX0_append_10 ?_
    refine lv_istore (lv' := [(5, .int (nI n)), (0, .ref (q 1)), (1, .int p0), (2, .int p1), (3, .int p2), (4, .int p3)]) hx hb dX0_append_13 hl (by decide) rfl (fun ls hl => ?_)
    refine lv_aload_n hx hb dX0_append_15 rfl (lv_at hl 1 rfl) ?_
    refine va_get (ci := 0) (v := .ref (q 4)) (C := RX0) (T := TX0) (N := 6) hx hb hts inX0_append_RX0 hown hK hP 1 rfl rfl 0 (by decide) (hts _ lkX0_append_9) (fun _ h9 => h9) rfl dX0_append_16 ?_
    refine lv_iload hx hb dX0_append_19 (lv_at hl 0 rfl) ?_
    refine lv_iload_n hx hb dX0_append_21 rfl (lv_at hl 2 rfl) ?_
    refine g_iast (n := 60) (f := (u.1 0)) (u' := (gS u 0 (upd (u.1 0) n p0))) hx hb hK hP hD hS 4 0 rfl rfl n (by omega) (by omega) rfl rfl dX0_append_22 (fun H locs hP hD hS => ?_)
    refine lv_aload_n hx hb dX0_append_23 rfl (lv_at hl 1 rfl) ?_
    refine va_get (ci := 0) (v := .ref (q 5)) (C := RX0) (T := TX0) (N := 6) hx hb hts inX0_append_RX0 hown hK hP 1 rfl rfl 1 (by decide) (hts _ lkX0_append_15) (fun _ h9 => h9) rfl dX0_append_24 ?_
    refine lv_iload hx hb dX0_append_27 (lv_at hl 0 rfl) ?_
    refine lv_iload_n hx hb dX0_append_29 rfl (lv_at hl 3 rfl) ?_
    refine g_iast (n := 60) (f := (u.1 1)) (u' := (gS (gS u 0 (upd (u.1 0) n p0)) 1 (upd (u.1 1) n p1))) hx hb hK hP hD hS 5 0 rfl rfl n (by omega) (by omega) rfl rfl dX0_append_30 (fun H locs hP hD hS => ?_)
    refine lv_iconst (v := (nI 0)) hx hb dX0_append_31 (by decide +kernel) ?_
    refine lv_istore (lv' := [(6, .int (nI 0)), (5, .int (nI n)), (0, .ref (q 1)), (1, .int p0), (2, .int p1), (3, .int p2), (4, .int p3)]) hx hb dX0_append_32 hl (by decide) rfl (fun ls hl => ?_)
    have loop : ∀ (d k : Nat) (sf : Nat → Int32) (H : Heap) (locs : List Loc) (ls : Array Slot) (hP : va_P D vwCl (XW cI cZ q (gS (gS (gS u 0 (upd (u.1 0) n p0)) 1 (upd (u.1 1) n p1)) 2 sf)) H) (hD : va_D A (XW cI cZ q (gS (gS (gS u 0 (upd (u.1 0) n p0)) 1 (upd (u.1 1) n p1)) 2 sf))) (hS : va_S A s.heap H locs) (hl : lv_has ls 7 [(0, .ref (q 1)), (1, .int p0), (2, .int p1), (3, .int p2), (4, .int p3), (5, .int (nI n)), (6, .int (nI k))]) (hk : k + d = 4) (hr : itU (xSlotStep n p0 p2 p3) d k sf = (xSlots n p0 p2 p3 (u.1 2))), W p l e rmX0_append s m ([.ref (q 1), .int p0, .int p1, .int p2, .int p3] : List Value).toArray below meth c H locs 0 0 Q (F0 m 34 ls []) := by
      intro d
      induction d with
      | zero =>
        intro k sf H locs ls hP hD hS hl hk hr
        refine lv_iload hx hb dX0_append_34 (lv_at hl 6 rfl) ?_
        refine lv_iconst (v := 4) hx hb dX0_append_36 (by decide +kernel) ?_
        refine lv_icmp_ge (tgt := 76) hx hb dX0_append_37 (by decide) (fun c_37 => ?_) (fun c_37 => ?_)
        · have n_37 : 4 ≤ k := (g_leI (a := 4) (b := k) rfl rfl (by omega) (by omega)).mp c_37
          refine lv_aload_n hx hb dX0_append_76 rfl (lv_at hl 0 rfl) ?_
          refine lv_dup hx hb dX0_append_77 rfl ?_
          refine va_get (ci := 0) (v := .int (nI n)) (C := RX0) (T := TX0) (N := 6) hx hb hts inX0_append_RX0 hown hK hP 1 rfl rfl 5 (by decide) (hts _ lkX0_append_28) (fun _ h9 => h9) (congrArg (fun z => some (Value.int z)) hn) dX0_append_78 ?_
          refine lv_iconst (v := 1) hx hb dX0_append_81 (by decide +kernel) ?_
          refine lv_iadd hx hb dX0_append_82 ?_
          refine va_put (ci := 0) (v := .int ((nI n) + 1)) (ty := .int) (C := RX0) (T := TX0) (N := 6) hx hb hts inX0_append_RX0 tyX0 tyX0_ok nmX0 hown hK hP hD hS 1 rfl rfl 5 (by decide) (hts _ lkX0_append_28) (fun _ h9 => h9) rfl (by decide +kernel) rfl rfl (Nat.le_of_ble_eq_true rfl) dX0_append_83 (fun H locs hP hD hS => ?_)
          have hP : va_P D vwCl (XW cI cZ q (gS (gS (gS (gS u 0 (upd (u.1 0) n p0)) 1 (upd (u.1 1) n p1)) 2 sf) 15 (fun _ => ((nI n) + 1)))) H := hP
          have hD : va_D A (XW cI cZ q (gS (gS (gS (gS u 0 (upd (u.1 0) n p0)) 1 (upd (u.1 1) n p1)) 2 sf) 15 (fun _ => ((nI n) + 1)))) := hD
          refine lv_iload hx hb dX0_append_86 (lv_at hl 5 rfl) ?_
          refine g_iret (u1 := (gS (gS (gS (gS u 0 (upd (u.1 0) n p0)) 1 (upd (u.1 1) n p1)) 2 sf) 15 (fun _ => ((nI n) + 1)))) hx hb hret hlk hQ hP hD hS dX0_append_88 ?_ ?_
          · exact rfl
          · exact (by rw [← hr] <;> rfl)
        · have n_37 : ¬ 4 ≤ k := fun h => c_37 ((g_leI (a := 4) (b := k) rfl rfl (by omega) (by omega)).mpr h)
          exfalso; omega
      | succ d ih =>
        intro k sf H locs ls hP hD hS hl hk hr
        refine lv_iload hx hb dX0_append_34 (lv_at hl 6 rfl) ?_
        refine lv_iconst (v := 4) hx hb dX0_append_36 (by decide +kernel) ?_
        refine lv_icmp_ge (tgt := 76) hx hb dX0_append_37 (by decide) (fun c_37 => ?_) (fun c_37 => ?_)
        · have n_37 : 4 ≤ k := (g_leI (a := 4) (b := k) rfl rfl (by omega) (by omega)).mp c_37
          exfalso; omega
        · have n_37 : ¬ 4 ≤ k := fun h => c_37 ((g_leI (a := 4) (b := k) rfl rfl (by omega) (by omega)).mpr h)
          refine lv_aload_n hx hb dX0_append_40 rfl (lv_at hl 0 rfl) ?_
          refine va_get (ci := 0) (v := .ref (q 6)) (C := RX0) (T := TX0) (N := 6) hx hb hts inX0_append_RX0 hown hK hP 1 rfl rfl 2 (by decide) (hts _ lkX0_append_18) (fun _ h9 => h9) rfl dX0_append_41 ?_
          refine lv_iload hx hb dX0_append_44 (lv_at hl 5 rfl) ?_
          refine lv_iconst (v := 4) hx hb dX0_append_46 (by decide +kernel) ?_
          refine lv_imul hx hb dX0_append_47 ?_
          refine lv_iload hx hb dX0_append_48 (lv_at hl 6 rfl) ?_
          refine lv_iadd hx hb dX0_append_50 ?_
          refine lv_iload hx hb dX0_append_51 (lv_at hl 6 rfl) ?_
          refine lv_iload_n hx hb dX0_append_53 rfl (lv_at hl 3 rfl) ?_
          refine lv_icmp_ne (tgt := 62) hx hb dX0_append_54 (by decide) (fun c_54 => ?_) (fun c_54 => ?_)
          · refine lv_aload_n hx hb dX0_append_62 rfl (lv_at hl 0 rfl) ?_
            refine lv_iload_n hx hb dX0_append_63 rfl (lv_at hl 1 rfl) ?_
            refine lv_iload hx hb dX0_append_64 (lv_at hl 6 rfl) ?_
            refine g_callV (As := [.int p0, .int (nI k)]) (rest := [.int (((nI n) * 4) + (nI k)), .ref (q 6)]) hx hb hml hown hts (ctX0_fileIn l D cI cZ q (gS (gS (gS u 0 (upd (u.1 0) n p0)) 1 (upd (u.1 1) n p1)) 2 sf) n hn h60 p0 (nI k)) gX0_append_X0_fileIn rfl rfl rfl hdX0_fileIn ⟨Nat.le_of_ble_eq_true rfl, Nat.le_of_ble_eq_true rfl⟩ XG_em hE hP hK hD hS hA 1 rfl rfl rfl hl.1 rfl (Nat.le_of_ble_eq_true rfl) dX0_append_66 ⟨Nat.zero_le _, Nat.zero_le _⟩ (fun H locs hP hD hS => ?_)
            have hP : va_P D vwCl (XW cI cZ q (gS (gS (gS u 0 (upd (u.1 0) n p0)) 1 (upd (u.1 1) n p1)) 2 sf)) H := hP
            have hD : va_D A (XW cI cZ q (gS (gS (gS u 0 (upd (u.1 0) n p0)) 1 (upd (u.1 1) n p1)) 2 sf)) := hD
            refine W.eq (g2 := F0 m 69 ls [.int (xFileIn n sf p0 (nI k)), .int (((nI n) * 4) + (nI k)), .ref (q 6)]) rfl ?_
            refine g_iast (n := 240) (f := sf) (u' := (gS (gS (gS u 0 (upd (u.1 0) n p0)) 1 (upd (u.1 1) n p1)) 2 (upd sf ((n * 4) + k) (xFileIn n sf p0 (nI k))))) hx hb hK hP hD hS 6 0 rfl rfl ((n * 4) + k) (by omega) (by omega) (g_addE (g_mulE rfl rfl) rfl) rfl dX0_append_69 (fun H locs hP hD hS => ?_)
            refine lv_iinc (v := (nI (k + 1))) (lv' := [(6, .int (nI (k + 1))), (0, .ref (q 1)), (1, .int p0), (2, .int p1), (3, .int p2), (4, .int p3), (5, .int (nI n))]) hx hb dX0_append_70 hl (k := 6) rfl (nI_1 _) (by decide) rfl (fun ls hl => ?_)
            refine lv_goto (tgt := 34) hx hb dX0_append_73 (by decide) ?_
            exact ih (k + 1) (upd sf ((n * 4) + k) (xFileIn n sf p0 (nI k))) _ _ _ hP hD hS (lv_sub hl [1, 2, 3, 4, 5, 6, 0] rfl) (by omega) (by rw [← hr]; show _ = itU _ d (k + 1) (xSlotStep _ _ _ _ k sf); rw [show xSlotStep n p0 p2 p3 k sf = (upd sf ((n * 4) + k) (xFileIn n sf p0 (nI k))) from by simp only [xSlotStep, c_4, c_37, c_54, ↓reduceIte, not_true_eq_false, not_false_eq_true]])
          · refine lv_iload hx hb dX0_append_57 (lv_at hl 4 rfl) ?_
            refine lv_goto (tgt := 69) hx hb dX0_append_59 (by decide) ?_
            refine g_iast (n := 240) (f := sf) (u' := (gS (gS (gS u 0 (upd (u.1 0) n p0)) 1 (upd (u.1 1) n p1)) 2 (upd sf ((n * 4) + k) p3))) hx hb hK hP hD hS 6 0 rfl rfl ((n * 4) + k) (by omega) (by omega) (g_addE (g_mulE rfl rfl) rfl) rfl dX0_append_69 (fun H locs hP hD hS => ?_)
            refine lv_iinc (v := (nI (k + 1))) (lv' := [(6, .int (nI (k + 1))), (0, .ref (q 1)), (1, .int p0), (2, .int p1), (3, .int p2), (4, .int p3), (5, .int (nI n))]) hx hb dX0_append_70 hl (k := 6) rfl (nI_1 _) (by decide) rfl (fun ls hl => ?_)
            refine lv_goto (tgt := 34) hx hb dX0_append_73 (by decide) ?_
            exact ih (k + 1) (upd sf ((n * 4) + k) p3) _ _ _ hP hD hS (lv_sub hl [1, 2, 3, 4, 5, 6, 0] rfl) (by omega) (by rw [← hr]; show _ = itU _ d (k + 1) (xSlotStep _ _ _ _ k sf); rw [show xSlotStep n p0 p2 p3 k sf = (upd sf ((n * 4) + k) p3) from by simp only [xSlotStep, c_4, c_37, c_54, ↓reduceIte, not_true_eq_false, not_false_eq_true]])
    exact loop 4 0 (u.1 2) _ _ _ hP hD hS (lv_sub hl [2, 3, 4, 5, 6, 1, 0] rfl) (by omega) rfl
  · exact absurd (if_pos h59) c_4
abbrev rmX0_fill : Room := { frames := 0, cells := 0, slots := 0, locals := 0 }
set_option maxHeartbeats 4000000 in
set_option maxRecDepth 100000 in
theorem ctX0_fill (l : Launch) (D : va_G) (cI cZ : ClassId) (q : Nat → Nat) (u : SX) (p1 : Int32) : gM l yJ7_fill_53178 wsJ7_fill_53178 rmX0_fill D [(cI, .int), (cZ, .boolean)] (XW cI cZ q) (fun _ => True) [.ref (q 7), .int p1] u none (gS u 3 (xFill p1 (u.1 3))) := by
  refine g_start (cc := cJ7_fill_53178) (maxL := 4) (ret := none) (by decide) rfl (Nat.le_of_ble_eq_true rfl) ?_
  intro p e s m below meth c A ls Q hx hb hml hret hts hown hlk hE hP hK hD hA hl hQ hS
  have hown : s.vm.findClass RJ7 = some m.cls := hown
  have hl : lv_has ls 4 [(0, .ref (q 7)), (1, .int p1)] := hl
  refine lv_iconst (v := (nI 0)) hx hb dJ7_fill_53178_0 (by decide +kernel) ?_
  refine lv_istore_n (lv' := [(2, .int (nI 0)), (0, .ref (q 7)), (1, .int p1)]) hx hb dJ7_fill_53178_1 rfl hl (by decide) rfl (fun ls hl => ?_)
  refine lv_aload_n hx hb dJ7_fill_53178_2 rfl (lv_at hl 1 rfl) ?_
  refine va_alen (v := 60) (ty := .int) hx hb hK hP 7 rfl (t0 := 0) rfl rfl dJ7_fill_53178_3 ?_
  refine lv_istore_n (lv' := [(3, .int 60), (2, .int (nI 0)), (0, .ref (q 7)), (1, .int p1)]) hx hb dJ7_fill_53178_4 rfl hl (by decide) rfl (fun ls hl => ?_)
  have loop : ∀ (d k : Nat) (ff : Nat → Int32) (H : Heap) (locs : List Loc) (ls : Array Slot) (hP : va_P D vwCl (XW cI cZ q (gS u 3 ff)) H) (hD : va_D A (XW cI cZ q (gS u 3 ff))) (hS : va_S A s.heap H locs) (hl : lv_has ls 4 [(0, .ref (q 7)), (1, .int p1), (2, .int (nI k)), (3, .int 60)]) (hk : k + d = 60) (hr : itU (fun k f => upd f k p1) d k ff = xFill p1 (u.1 3)), W p l e rmX0_fill s m ([.ref (q 7), .int p1] : List Value).toArray below meth c H locs 0 0 Q (F0 m 5 ls []) := by
    intro d
    induction d with
    | zero =>
      intro k ff H locs ls hP hD hS hl hk hr
      refine lv_iload_n hx hb dJ7_fill_53178_5 rfl (lv_at hl 2 rfl) ?_
      refine lv_iload_n hx hb dJ7_fill_53178_6 rfl (lv_at hl 3 rfl) ?_
      refine lv_icmp_ge (tgt := 20) hx hb dJ7_fill_53178_7 (by decide) (fun c_7 => ?_) (fun c_7 => ?_)
      · have n_7 : 60 ≤ k := (g_leI (a := 60) (b := k) rfl rfl (by omega) (by omega)).mp c_7
        refine g_vret (u1 := (gS u 3 ff)) hx hb hret hlk hQ hP hD hS dJ7_fill_53178_20 ?_ ?_
        · exact rfl
        · exact (by rw [← hr] <;> rfl)
      · have n_7 : ¬ 60 ≤ k := fun h => c_7 ((g_leI (a := 60) (b := k) rfl rfl (by omega) (by omega)).mpr h)
        exfalso; omega
    | succ d ih =>
      intro k ff H locs ls hP hD hS hl hk hr
      refine lv_iload_n hx hb dJ7_fill_53178_5 rfl (lv_at hl 2 rfl) ?_
      refine lv_iload_n hx hb dJ7_fill_53178_6 rfl (lv_at hl 3 rfl) ?_
      refine lv_icmp_ge (tgt := 20) hx hb dJ7_fill_53178_7 (by decide) (fun c_7 => ?_) (fun c_7 => ?_)
      · have n_7 : 60 ≤ k := (g_leI (a := 60) (b := k) rfl rfl (by omega) (by omega)).mp c_7
        exfalso; omega
      · have n_7 : ¬ 60 ≤ k := fun h => c_7 ((g_leI (a := 60) (b := k) rfl rfl (by omega) (by omega)).mpr h)
        refine lv_aload_n hx hb dJ7_fill_53178_10 rfl (lv_at hl 0 rfl) ?_
        refine lv_iload_n hx hb dJ7_fill_53178_11 rfl (lv_at hl 2 rfl) ?_
        refine lv_iload_n hx hb dJ7_fill_53178_12 rfl (lv_at hl 1 rfl) ?_
        refine g_iast (n := 60) (f := ff) (u' := (gS u 3 (upd ff k p1))) hx hb hK hP hD hS 7 0 rfl rfl k (by omega) (by omega) rfl rfl dJ7_fill_53178_13 (fun H locs hP hD hS => ?_)
        refine lv_iinc (v := (nI (k + 1))) (lv' := [(2, .int (nI (k + 1))), (0, .ref (q 7)), (1, .int p1), (3, .int 60)]) hx hb dJ7_fill_53178_14 hl (k := 2) rfl (nI_1 _) (by decide) rfl (fun ls hl => ?_)
        refine lv_goto (tgt := 5) hx hb dJ7_fill_53178_17 (by decide) ?_
        exact ih (k + 1) (upd ff k p1) _ _ _ hP hD hS (lv_sub hl [1, 2, 0, 3] rfl) (by omega) (by rw [← hr] <;> rfl)
  exact loop 60 0 (u.1 3) _ _ _ hP hD hS (lv_sub hl [2, 3, 1, 0] rfl) (by omega) rfl
theorem lkX0_comeTo_21 : Cond.fieldLink RX0 21 "FetchHouse$History" "fewestSteps" "[I" ∈ wsX0_comeTo := List.mem_of_getElem? (i := 1) (by decide +kernel)
theorem inX0_comeTo_RX0 : ∀ w ∈ u_ws RX0 TX0 6, w ∈ wsX0_comeTo := fun w h => List.mem_cons_of_mem _ (List.mem_append_right _ h)
abbrev rmX0_comeTo : Room := { frames := 1, cells := 0, slots := 0, locals := 21 }
set_option maxHeartbeats 4000000 in
set_option maxRecDepth 100000 in
theorem ctX0_comeTo (l : Launch) (D : va_G) (cI cZ : ClassId) (q : Nat → Nat) (u : SX) (n : Nat) (hn : u.1 15 0 = nI n) (h60 : n ≤ 60) (p0 p1 : Int32) : gM l yX0_comeTo wsX0_comeTo rmX0_comeTo D [(cI, .int), (cZ, .boolean)] (XW cI cZ q) XG [.ref (q 1), .int p0, .int p1] u none (gS u 3 (xCome n (u.1 3) p0 p1)) := by
  refine g_start (cc := cX0_comeTo) (maxL := 3) (ret := none) (by decide) rfl (Nat.le_of_ble_eq_true rfl) ?_
  intro p e s m below meth c A ls Q hx hb hml hret hts hown hlk hE hP hK hD hA hl hQ hS
  have hown : s.vm.findClass RX0 = some m.cls := hown
  have hl : lv_has ls 3 [(0, .ref (q 1)), (1, .int p0), (2, .int p1)] := hl
  refine lv_aload_n hx hb dX0_comeTo_0 rfl (lv_at hl 0 rfl) ?_
  refine lv_iload_n hx hb dX0_comeTo_1 rfl (lv_at hl 1 rfl) ?_
  refine g_callV (As := [.int p0]) (rest := []) hx hb hml hown hts (ctX0_isCommit l D cI cZ q u n hn h60 p0) gX0_comeTo_X0_isCommit rfl rfl rfl hdX0_isCommit ⟨Nat.le_of_ble_eq_true rfl, Nat.le_of_ble_eq_true rfl⟩ XG_em hE hP hK hD hS hA 1 rfl rfl rfl hl.1 rfl (Nat.le_of_ble_eq_true rfl) dX0_comeTo_2 ⟨Nat.zero_le _, Nat.zero_le _⟩ (fun H locs hP hD hS => ?_)
  have hP : va_P D vwCl (XW cI cZ q u) H := hP
  have hD : va_D A (XW cI cZ q u) := hD
  refine W.eq (g2 := F0 m 5 ls [.int (xRange p0 (nI n))]) rfl ?_
  refine lv_if_eq (tgt := 25) hx hb dX0_comeTo_5 (by decide) (fun c_5 => ?_) (fun c_5 => ?_)
  · refine g_vret (u1 := u) hx hb hret hlk hQ hP hD hS dX0_comeTo_25 ?_ ?_
    · exact rfl
    · exact (by rw [show xCome n (u.1 3) p0 p1 = (u.1 3) from by unfold xCome; rw [if_pos c_5]] <;> rfl)
  · obtain ⟨j, hj, hj2⟩ := xRange_ne rfl (by omega) c_5
    refine lv_iload_n hx hb dX0_comeTo_8 rfl (lv_at hl 2 rfl) ?_
    refine lv_aload_n hx hb dX0_comeTo_9 rfl (lv_at hl 0 rfl) ?_
    refine va_get (ci := 0) (v := .ref (q 7)) (C := RX0) (T := TX0) (N := 6) hx hb hts inX0_comeTo_RX0 hown hK hP 1 rfl rfl 3 (by decide) (hts _ lkX0_comeTo_21) (fun _ h9 => h9) rfl dX0_comeTo_10 ?_
    refine lv_iload_n hx hb dX0_comeTo_13 rfl (lv_at hl 1 rfl) ?_
    refine g_iald (n := 60) (f := (u.1 3)) hx hb hK hP 7 0 rfl rfl j (by omega) (by omega) hj2 dX0_comeTo_14 ?_
    refine lv_icmp_ge (tgt := 25) hx hb dX0_comeTo_15 (by decide) (fun c_15 => ?_) (fun c_15 => ?_)
    · refine g_vret (u1 := u) hx hb hret hlk hQ hP hD hS dX0_comeTo_25 ?_ ?_
      · exact rfl
      · exact (by rw [show xCome n (u.1 3) p0 p1 = (u.1 3) from by unfold xCome; rw [if_neg c_5, hj2, nI_clamp (by omega)]; rw [if_pos c_15]] <;> rfl)
    · refine lv_aload_n hx hb dX0_comeTo_18 rfl (lv_at hl 0 rfl) ?_
      refine va_get (ci := 0) (v := .ref (q 7)) (C := RX0) (T := TX0) (N := 6) hx hb hts inX0_comeTo_RX0 hown hK hP 1 rfl rfl 3 (by decide) (hts _ lkX0_comeTo_21) (fun _ h9 => h9) rfl dX0_comeTo_19 ?_
      refine lv_iload_n hx hb dX0_comeTo_22 rfl (lv_at hl 1 rfl) ?_
      refine lv_iload_n hx hb dX0_comeTo_23 rfl (lv_at hl 2 rfl) ?_
      refine g_iast (n := 60) (f := (u.1 3)) (u' := (gS u 3 (upd (u.1 3) j p1))) hx hb hK hP hD hS 7 0 rfl rfl j (by omega) (by omega) hj2 rfl dX0_comeTo_24 (fun H locs hP hD hS => ?_)
      refine g_vret (u1 := (gS u 3 (upd (u.1 3) j p1))) hx hb hret hlk hQ hP hD hS dX0_comeTo_25 ?_ ?_
      · exact rfl
      · exact (by rw [show xCome n (u.1 3) p0 p1 = (upd (u.1 3) j p1) from by unfold xCome; rw [if_neg c_5, hj2, nI_clamp (by omega)]; rw [if_neg c_15]] <;> rfl)
theorem lkX0_reachOf_inRX2 : Cond.initialized RX2 ∈ wsX0_reachOf := List.mem_of_getElem? (i := 15) (by decide +kernel)
theorem lkX0_reachOf_stX2_setOf : Cond.static yX2_setOf ∈ wsX0_reachOf := List.mem_of_getElem? (i := 14) (by decide +kernel)
theorem lkX0_reachOf_15 : Cond.fieldLink RX0 15 "FetchHouse$History" "secondParents" "[I" ∈ wsX0_reachOf := List.mem_of_getElem? (i := 3) (by decide +kernel)
theorem lkX0_reachOf_21 : Cond.fieldLink RX0 21 "FetchHouse$History" "fewestSteps" "[I" ∈ wsX0_reachOf := List.mem_of_getElem? (i := 1) (by decide +kernel)
theorem lkX0_reachOf_9 : Cond.fieldLink RX0 9 "FetchHouse$History" "firstParents" "[I" ∈ wsX0_reachOf := List.mem_of_getElem? (i := 2) (by decide +kernel)
theorem inX0_reachOf_RX0 : ∀ w ∈ u_ws RX0 TX0 6, w ∈ wsX0_reachOf := fun w h => List.mem_cons_of_mem _ (List.mem_append_right _ h)
abbrev rmX0_reachOf : Room := { frames := 2, cells := 0, slots := 0, locals := 43 }
set_option maxHeartbeats 4000000 in
set_option maxRecDepth 100000 in
theorem ctX0_reachOf (l : Launch) (D : va_G) (cI cZ : ClassId) (q : Nat → Nat) (u : SX) (n : Nat) (hn : u.1 15 0 = nI n) (h60 : n ≤ 60) (p0 p1 : Int32) : gM l yX0_reachOf wsX0_reachOf rmX0_reachOf D [(cI, .int), (cZ, .boolean)] (XW cI cZ q) XG [.ref (q 1), .int p0, .int p1] u (some (.long (xReach n (u.1 0) (u.1 1) (u.1 3) p0 p1).1)) (gS u 3 (xReach n (u.1 0) (u.1 1) (u.1 3) p0 p1).2) := by
  refine g_start (cc := cX0_reachOf) (maxL := 8) (ret := (some .long)) (by decide) rfl (Nat.le_of_ble_eq_true rfl) ?_
  intro p e s m below meth c A ls Q hx hb hml hret hts hown hlk hE hP hK hD hA hl hQ hS
  have hown : s.vm.findClass RX0 = some m.cls := hown
  have hl : lv_has ls 8 [(0, .ref (q 1)), (1, .int p0), (2, .int p1)] := hl
  refine lv_aload_n hx hb dX0_reachOf_0 rfl (lv_at hl 0 rfl) ?_
  refine lv_iload_n hx hb dX0_reachOf_1 rfl (lv_at hl 1 rfl) ?_
  refine g_callV (As := [.int p0]) (rest := []) hx hb hml hown hts (ctX0_isCommit l D cI cZ q u n hn h60 p0) gX0_reachOf_X0_isCommit rfl rfl rfl hdX0_isCommit ⟨Nat.le_of_ble_eq_true rfl, Nat.le_of_ble_eq_true rfl⟩ XG_em hE hP hK hD hS hA 1 rfl rfl rfl hl.1 rfl (Nat.le_of_ble_eq_true rfl) dX0_reachOf_2 ⟨Nat.zero_le _, Nat.zero_le _⟩ (fun H locs hP hD hS => ?_)
  have hP : va_P D vwCl (XW cI cZ q u) H := hP
  have hD : va_D A (XW cI cZ q u) := hD
  refine W.eq (g2 := F0 m 5 ls [.int (xRange p0 (nI n))]) rfl ?_
  refine lv_if_ne (tgt := 10) hx hb dX0_reachOf_5 (by decide) (fun c_5 => ?_) (fun c_5 => ?_)
  · obtain ⟨j0, hj0l, hj0⟩ : ∃ j : Nat, j < n ∧ p0 = nI j := xRange_ne rfl (by omega) c_5
    have join : ∀ (tf : Int32) (H : Heap) (locs : List Loc) (ls : Array Slot) (hP : va_P D vwCl (XW cI cZ q u) H) (hD : va_D A (XW cI cZ q u)) (hS : va_S A s.heap H locs) (hl : lv_has ls 8 [(0, .ref (q 1)), (1, .int p0), (2, .int p1)]) (htf : tf = xFar p1), W p l e rmX0_reachOf s m ([.ref (q 1), .int p0, .int p1] : List Value).toArray below meth c H locs 0 0 Q (F0 m 20 ls [.int tf]) := by
      intro tf H locs ls hP hD hS hl htf
      refine lv_istore_n (lv' := [(3, .int tf), (0, .ref (q 1)), (1, .int p0), (2, .int p1)]) hx hb dX0_reachOf_20 rfl hl (by decide) rfl (fun ls hl => ?_)
      refine lv_aload_n hx hb dX0_reachOf_21 rfl (lv_at hl 1 rfl) ?_
      refine va_get (ci := 0) (v := .ref (q 7)) (C := RX0) (T := TX0) (N := 6) hx hb hts inX0_reachOf_RX0 hown hK hP 1 rfl rfl 3 (by decide) (hts _ lkX0_reachOf_21) (fun _ h9 => h9) rfl dX0_reachOf_22 ?_
      refine lv_iload_n hx hb dX0_reachOf_25 rfl (lv_at hl 0 rfl) ?_
      refine g_callS (As := [.ref (q 7), .int tf]) (rest := []) hx hb hml hown hts (ctX0_fill l D cI cZ q u tf) gX0_reachOf_J7_fill_53178 rfl rfl rfl hdJ7_fill_53178 ⟨Nat.le_of_ble_eq_true rfl, Nat.le_of_ble_eq_true rfl⟩ gEM_true trivial hP hK hD hS hA rfl hl.1 rfl (Nat.le_of_ble_eq_true rfl) dX0_reachOf_26 ⟨Nat.zero_le _, Nat.zero_le _⟩ (fun H locs hP hD hS => ?_)
      have hP : va_P D vwCl (XW cI cZ q (gS u 3 (xFill tf (u.1 3)))) H := hP
      have hD : va_D A (XW cI cZ q (gS u 3 (xFill tf (u.1 3)))) := hD
      refine W.eq (g2 := F0 m 29 ls []) rfl ?_
      refine lv_aload_n hx hb dX0_reachOf_29 rfl (lv_at hl 1 rfl) ?_
      refine va_get (ci := 0) (v := .ref (q 7)) (C := RX0) (T := TX0) (N := 6) hx hb hts inX0_reachOf_RX0 hown hK hP 1 rfl rfl 3 (by decide) (hts _ lkX0_reachOf_21) (fun _ h9 => h9) rfl dX0_reachOf_30 ?_
      refine lv_iload_n hx hb dX0_reachOf_33 rfl (lv_at hl 2 rfl) ?_
      refine lv_iconst (v := 0) hx hb dX0_reachOf_34 (by decide +kernel) ?_
      refine g_iast (n := 60) (f := (xFill tf (u.1 3))) (u' := (gS u 3 (upd (xFill tf (u.1 3)) j0 0))) hx hb hK hP hD hS 7 0 rfl rfl j0 (by omega) (by omega) hj0 rfl dX0_reachOf_35 (fun H locs hP hD hS => ?_)
      refine lv_lconst (v := 0) hx hb dX0_reachOf_36 (by decide +kernel) ?_
      refine lv_lstore (lv' := [(4, .long 0), (3, .int tf), (0, .ref (q 1)), (1, .int p0), (2, .int p1)]) hx hb dX0_reachOf_37 hl (by decide) rfl (fun ls hl => ?_)
      refine lv_iload_n hx hb dX0_reachOf_39 rfl (lv_at hl 3 rfl) ?_
      refine lv_istore (lv' := [(6, .int p0), (4, .long 0), (3, .int tf), (0, .ref (q 1)), (1, .int p0), (2, .int p1)]) hx hb dX0_reachOf_40 hl (by decide) rfl (fun ls hl => ?_)
      have loop : ∀ (d : Nat) (rc : Int64) (fs : Nat → Int32) (H : Heap) (locs : List Loc) (ls : Array Slot) (hP : va_P D vwCl (XW cI cZ q (gS u 3 fs)) H) (hD : va_D A (XW cI cZ q (gS u 3 fs))) (hS : va_S A s.heap H locs) (hl : lv_has ls 8 [(0, .ref (q 1)), (3, .int tf), (4, .long rc), (6, .int (nI d - 1))]) (hd : d ≤ n) (hr : itD (xReachStep n (u.1 0) (u.1 1) tf) d (rc, fs) = (xReach n (u.1 0) (u.1 1) (u.1 3) p0 p1)), W p l e rmX0_reachOf s m ([.ref (q 1), .int p0, .int p1] : List Value).toArray below meth c H locs 0 0 Q (F0 m 42 ls []) := by
        intro d
        induction d with
        | zero =>
          intro rc fs H locs ls hP hD hS hl hd hr
          refine lv_iload hx hb dX0_reachOf_42 (lv_at hl 3 rfl) ?_
          refine lv_if_lt (tgt := 108) hx hb dX0_reachOf_44 (by decide) (fun c_44 => ?_) (fun c_44 => ?_)
          · refine lv_lload hx hb dX0_reachOf_108 (lv_at hl 2 rfl) ?_
            refine g_lret (u1 := (gS u 3 fs)) hx hb hret hlk hQ hP hD hS dX0_reachOf_110 ?_ ?_
            · exact (by rw [← hr] <;> rfl)
            · exact (by rw [← hr] <;> rfl)
          · exact absurd (by decide +kernel) c_44
        | succ d ih =>
          intro rc fs H locs ls hP hD hS hl hd hr
          rw [nI_pred] at hl
          refine lv_iload hx hb dX0_reachOf_42 (lv_at hl 3 rfl) ?_
          refine lv_if_lt (tgt := 108) hx hb dX0_reachOf_44 (by decide) (fun c_44 => ?_) (fun c_44 => ?_)
          · exact absurd c_44 (nI_pos (by omega))
          · refine lv_aload_n hx hb dX0_reachOf_47 rfl (lv_at hl 0 rfl) ?_
            refine va_get (ci := 0) (v := .ref (q 7)) (C := RX0) (T := TX0) (N := 6) hx hb hts inX0_reachOf_RX0 hown hK hP 1 rfl rfl 3 (by decide) (hts _ lkX0_reachOf_21) (fun _ h9 => h9) rfl dX0_reachOf_48 ?_
            refine lv_iload hx hb dX0_reachOf_51 (lv_at hl 3 rfl) ?_
            refine g_iald (n := 60) (f := fs) hx hb hK hP 7 0 rfl rfl d (by omega) (by omega) rfl dX0_reachOf_53 ?_
            refine lv_istore (lv' := [(7, .int (fs d)), (0, .ref (q 1)), (3, .int tf), (4, .long rc), (6, .int (nI d))]) hx hb dX0_reachOf_54 hl (by decide) rfl (fun ls hl => ?_)
            refine lv_iload hx hb dX0_reachOf_56 (lv_at hl 0 rfl) ?_
            refine lv_iload_n hx hb dX0_reachOf_58 rfl (lv_at hl 2 rfl) ?_
            refine lv_icmp_ge (tgt := 102) hx hb dX0_reachOf_59 (by decide) (fun c_59 => ?_) (fun c_59 => ?_)
            · refine lv_iinc (v := ((nI d) - 1)) (lv' := [(6, .int ((nI d) - 1)), (7, .int (fs d)), (0, .ref (q 1)), (3, .int tf), (4, .long rc)]) hx hb dX0_reachOf_102 hl (k := 4) rfl (g_dec1 _) (by decide) rfl (fun ls hl => ?_)
              refine lv_goto (tgt := 42) hx hb dX0_reachOf_105 (by decide) ?_
              exact ih rc fs _ _ _ hP hD hS (lv_sub hl [2, 3, 4, 0] rfl) (by omega) (by rw [← hr]; show _ = itD _ d (xReachStep _ _ _ _ d (rc, fs)); rw [show xReachStep n (u.1 0) (u.1 1) tf d (rc, fs) = (rc, fs) from by simp only [xReachStep, c_5, c_44, c_59, ↓reduceIte, not_true_eq_false, not_false_eq_true]])
            · refine lv_lload hx hb dX0_reachOf_62 (lv_at hl 3 rfl) ?_
              refine lv_iload hx hb dX0_reachOf_64 (lv_at hl 4 rfl) ?_
              refine g_callN0 (host := "FetchHouse") (As := [.int (nI d)]) (rest := [.long rc]) hx hb hml hown hts (ctX2_setOf l D cI cZ q (nI d)) gX0_reachOf_X2_setOf_n58 rfl rfl rfl (hE.1 _ (List.mem_of_getElem? (i := 5) rfl)) (hts _ lkX0_reachOf_inRX2) (hts _ lkX0_reachOf_stX2_setOf) hdX2_setOf ⟨Nat.le_of_ble_eq_true rfl, Nat.le_of_ble_eq_true rfl⟩ gEM_true trivial hP hK hS hA rfl hl.1 rfl (Nat.le_of_ble_eq_true rfl) dX0_reachOf_66 ⟨Nat.zero_le _, Nat.zero_le _⟩ (fun H locs hP hS => ?_)
              refine W.eq (g2 := F0 m 69 ls [.long (xSet (nI d)), .long rc]) rfl ?_
              refine lv_lor hx hb dX0_reachOf_69 ?_
              refine lv_lstore (lv' := [(4, .long (rc ||| (xSet (nI d)))), (7, .int (fs d)), (0, .ref (q 1)), (3, .int tf), (6, .int (nI d))]) hx hb dX0_reachOf_70 hl (by decide) rfl (fun ls hl => ?_)
              refine lv_aload_n hx hb dX0_reachOf_72 rfl (lv_at hl 2 rfl) ?_
              refine lv_aload_n hx hb dX0_reachOf_73 rfl (lv_at hl 2 rfl) ?_
              refine va_get (ci := 0) (v := .ref (q 4)) (C := RX0) (T := TX0) (N := 6) hx hb hts inX0_reachOf_RX0 hown hK hP 1 rfl rfl 0 (by decide) (hts _ lkX0_reachOf_9) (fun _ h9 => h9) rfl dX0_reachOf_74 ?_
              refine lv_iload hx hb dX0_reachOf_77 (lv_at hl 4 rfl) ?_
              refine g_iald (n := 60) (f := (u.1 0)) hx hb hK hP 4 0 rfl rfl d (by omega) (by omega) rfl dX0_reachOf_79 ?_
              refine lv_iload hx hb dX0_reachOf_80 (lv_at hl 1 rfl) ?_
              refine lv_iconst (v := 1) hx hb dX0_reachOf_82 (by decide +kernel) ?_
              refine lv_iadd hx hb dX0_reachOf_83 ?_
              refine g_callV (As := [.int ((u.1 0) d), .int ((fs d) + 1)]) (rest := []) hx hb hml hown hts (ctX0_comeTo l D cI cZ q (gS u 3 fs) n hn h60 ((u.1 0) d) ((fs d) + 1)) gX0_reachOf_X0_comeTo rfl rfl rfl hdX0_comeTo ⟨Nat.le_of_ble_eq_true rfl, Nat.le_of_ble_eq_true rfl⟩ XG_em hE hP hK hD hS hA 1 rfl rfl rfl hl.1 rfl (Nat.le_of_ble_eq_true rfl) dX0_reachOf_84 ⟨Nat.zero_le _, Nat.zero_le _⟩ (fun H locs hP hD hS => ?_)
              have hP : va_P D vwCl (XW cI cZ q (gS u 3 (xCome n fs ((u.1 0) d) ((fs d) + 1)))) H := hP
              have hD : va_D A (XW cI cZ q (gS u 3 (xCome n fs ((u.1 0) d) ((fs d) + 1)))) := hD
              refine W.eq (g2 := F0 m 87 ls []) rfl ?_
              refine lv_aload_n hx hb dX0_reachOf_87 rfl (lv_at hl 2 rfl) ?_
              refine lv_aload_n hx hb dX0_reachOf_88 rfl (lv_at hl 2 rfl) ?_
              refine va_get (ci := 0) (v := .ref (q 5)) (C := RX0) (T := TX0) (N := 6) hx hb hts inX0_reachOf_RX0 hown hK hP 1 rfl rfl 1 (by decide) (hts _ lkX0_reachOf_15) (fun _ h9 => h9) rfl dX0_reachOf_89 ?_
              refine lv_iload hx hb dX0_reachOf_92 (lv_at hl 4 rfl) ?_
              refine g_iald (n := 60) (f := (u.1 1)) hx hb hK hP 5 0 rfl rfl d (by omega) (by omega) rfl dX0_reachOf_94 ?_
              refine lv_iload hx hb dX0_reachOf_95 (lv_at hl 1 rfl) ?_
              refine lv_iconst (v := 1) hx hb dX0_reachOf_97 (by decide +kernel) ?_
              refine lv_iadd hx hb dX0_reachOf_98 ?_
              refine g_callV (As := [.int ((u.1 1) d), .int ((fs d) + 1)]) (rest := []) hx hb hml hown hts (ctX0_comeTo l D cI cZ q (gS u 3 (xCome n fs ((u.1 0) d) ((fs d) + 1))) n hn h60 ((u.1 1) d) ((fs d) + 1)) gX0_reachOf_X0_comeTo rfl rfl rfl hdX0_comeTo ⟨Nat.le_of_ble_eq_true rfl, Nat.le_of_ble_eq_true rfl⟩ XG_em hE hP hK hD hS hA 1 rfl rfl rfl hl.1 rfl (Nat.le_of_ble_eq_true rfl) dX0_reachOf_99 ⟨Nat.zero_le _, Nat.zero_le _⟩ (fun H locs hP hD hS => ?_)
              have hP : va_P D vwCl (XW cI cZ q (gS u 3 (xCome n (xCome n fs ((u.1 0) d) ((fs d) + 1)) ((u.1 1) d) ((fs d) + 1)))) H := hP
              have hD : va_D A (XW cI cZ q (gS u 3 (xCome n (xCome n fs ((u.1 0) d) ((fs d) + 1)) ((u.1 1) d) ((fs d) + 1)))) := hD
              refine W.eq (g2 := F0 m 102 ls []) rfl ?_
              refine lv_iinc (v := ((nI d) - 1)) (lv' := [(6, .int ((nI d) - 1)), (4, .long (rc ||| (xSet (nI d)))), (7, .int (fs d)), (0, .ref (q 1)), (3, .int tf)]) hx hb dX0_reachOf_102 hl (k := 4) rfl (g_dec1 _) (by decide) rfl (fun ls hl => ?_)
              refine lv_goto (tgt := 42) hx hb dX0_reachOf_105 (by decide) ?_
              exact ih (rc ||| (xSet (nI d))) (xCome n (xCome n fs ((u.1 0) d) ((fs d) + 1)) ((u.1 1) d) ((fs d) + 1)) _ _ _ hP hD hS (lv_sub hl [3, 4, 1, 0] rfl) (by omega) (by rw [← hr]; show _ = itD _ d (xReachStep _ _ _ _ d (rc, fs)); rw [show xReachStep n (u.1 0) (u.1 1) tf d (rc, fs) = ((rc ||| (xSet (nI d))), (xCome n (xCome n fs ((u.1 0) d) ((fs d) + 1)) ((u.1 1) d) ((fs d) + 1))) from by simp only [xReachStep, c_5, c_44, c_59, ↓reduceIte, not_true_eq_false, not_false_eq_true]])
      rw [show p0 = nI (j0 + 1) - 1 from by rw [nI_pred]; exact hj0] at hl
      exact loop (j0 + 1) 0 (upd (xFill tf (u.1 3)) j0 0) _ _ _ hP hD hS (lv_sub hl [3, 2, 1, 0] rfl) (by omega) (by unfold xReach; rw [if_neg c_5, hj0, nI_clamp (by omega), ← htf])
    refine lv_iload_n hx hb dX0_reachOf_10 rfl (lv_at hl 2 rfl) ?_
    refine lv_if_ne (tgt := 19) hx hb dX0_reachOf_11 (by decide) (fun c_11 => ?_) (fun c_11 => ?_)
    · refine lv_iload_n hx hb dX0_reachOf_19 rfl (lv_at hl 2 rfl) ?_
      exact join p1 _ _ _ hP hD hS (lv_sub hl [0, 1, 2] rfl) (by simp only [xFar, c_5, c_11, ↓reduceIte, not_true_eq_false, not_false_eq_true])
    · refine lv_bipush (v := 60) hx hb dX0_reachOf_14 (by decide +kernel) ?_
      refine lv_goto (tgt := 20) hx hb dX0_reachOf_16 (by decide) ?_
      exact join 60 _ _ _ hP hD hS (lv_sub hl [0, 1, 2] rfl) (by simp only [xFar, c_5, c_11, ↓reduceIte, not_true_eq_false, not_false_eq_true])
  · refine lv_lconst (v := 0) hx hb dX0_reachOf_8 (by decide +kernel) ?_
    refine g_lret (u1 := u) hx hb hret hlk hQ hP hD hS dX0_reachOf_9 ?_ ?_
    · exact (by unfold xReach; rw [if_pos c_5])
    · exact (by rw [show (xReach n (u.1 0) (u.1 1) (u.1 3) p0 p1).2 = u.1 3 from by unfold xReach; rw [if_pos c_5]] <;> rfl)
end
