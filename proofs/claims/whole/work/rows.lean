section
-- ===== PART A: goes FIRST, ahead of the names: the tables' words, and 'selects' of the private methods out of them =====
/-- a private method of a class that the tables say can be made, by its rows of tables_1 -/
def lw_okq (q : MethodName × Nat) : Prop := (q.1.cls ≠ "java/lang/invoke/MethodHandle" ∧ q.1.cls ≠ "java/lang/invoke/VarHandle") ∧ Cond.instantiable q.1.cls q.2 ∈ tables_1 ∧ Cond.privateMethod q.1 ∈ tables_1 ∧ Cond.instanceMethod q.1 ∈ tables_1
theorem lw_p0 : lw_okq (⟨"java/util/ArrayList", "add", "(Ljava/lang/Object;[Ljava/lang/Object;I)V"⟩, 3) := ⟨⟨by decide +kernel, by decide +kernel⟩, List.mem_of_getElem? (i := 52) (by decide +kernel), List.mem_of_getElem? (i := 142) (by decide +kernel), List.mem_of_getElem? (i := 143) (by decide +kernel)⟩
theorem lw_p1 : lw_okq (⟨"java/util/ArrayList", "grow", "()[Ljava/lang/Object;"⟩, 3) := ⟨⟨by decide +kernel, by decide +kernel⟩, List.mem_of_getElem? (i := 52) (by decide +kernel), List.mem_of_getElem? (i := 146) (by decide +kernel), List.mem_of_getElem? (i := 147) (by decide +kernel)⟩
theorem lw_p2 : lw_okq (⟨"java/util/ArrayList", "grow", "(I)[Ljava/lang/Object;"⟩, 3) := ⟨⟨by decide +kernel, by decide +kernel⟩, List.mem_of_getElem? (i := 52) (by decide +kernel), List.mem_of_getElem? (i := 150) (by decide +kernel), List.mem_of_getElem? (i := 151) (by decide +kernel)⟩
theorem lw_p3 : lw_okq (⟨"PrintKeeper", "isOver", "(LPrintKeeper$Document;)Z"⟩, 11) := ⟨⟨by decide +kernel, by decide +kernel⟩, List.mem_of_getElem? (i := 25) (by decide +kernel), List.mem_of_getElem? (i := 261) (by decide +kernel), List.mem_of_getElem? (i := 262) (by decide +kernel)⟩
theorem lw_p4 : lw_okq (⟨"PrintKeeper", "isKind", "(I)Z"⟩, 11) := ⟨⟨by decide +kernel, by decide +kernel⟩, List.mem_of_getElem? (i := 25) (by decide +kernel), List.mem_of_getElem? (i := 265) (by decide +kernel), List.mem_of_getElem? (i := 266) (by decide +kernel)⟩
theorem lw_p5 : lw_okq (⟨"PrintKeeper", "isHeld", "(LPrintKeeper$Document;)Z"⟩, 11) := ⟨⟨by decide +kernel, by decide +kernel⟩, List.mem_of_getElem? (i := 25) (by decide +kernel), List.mem_of_getElem? (i := 269) (by decide +kernel), List.mem_of_getElem? (i := 270) (by decide +kernel)⟩
theorem lw_p6 : lw_okq (⟨"PrintKeeper", "isAccount", "(I)Z"⟩, 11) := ⟨⟨by decide +kernel, by decide +kernel⟩, List.mem_of_getElem? (i := 25) (by decide +kernel), List.mem_of_getElem? (i := 273) (by decide +kernel), List.mem_of_getElem? (i := 274) (by decide +kernel)⟩
theorem lw_p7 : lw_okq (⟨"java/lang/Throwable", "fillInStackTrace", "(I)Ljava/lang/Throwable;"⟩, 6) := ⟨⟨by decide +kernel, by decide +kernel⟩, List.mem_of_getElem? (i := 328) (by decide +kernel), List.mem_of_getElem? (i := 326) (by decide +kernel), List.mem_of_getElem? (i := 327) (by decide +kernel)⟩
theorem lw_p8 : lw_okq (⟨"PrintKeeper$Page", "put", "(I)Z"⟩, 3) := ⟨⟨by decide +kernel, by decide +kernel⟩, List.mem_of_getElem? (i := 96) (by decide +kernel), List.mem_of_getElem? (i := 389) (by decide +kernel), List.mem_of_getElem? (i := 390) (by decide +kernel)⟩
theorem lw_p9 : lw_okq (⟨"PrintKeeper", "closePage", "()V"⟩, 11) := ⟨⟨by decide +kernel, by decide +kernel⟩, List.mem_of_getElem? (i := 25) (by decide +kernel), List.mem_of_getElem? (i := 402) (by decide +kernel), List.mem_of_getElem? (i := 403) (by decide +kernel)⟩
theorem lw_p10 : lw_okq (⟨"PrintKeeper$Page", "isEmpty", "()Z"⟩, 3) := ⟨⟨by decide +kernel, by decide +kernel⟩, List.mem_of_getElem? (i := 96) (by decide +kernel), List.mem_of_getElem? (i := 413) (by decide +kernel), List.mem_of_getElem? (i := 414) (by decide +kernel)⟩
theorem lw_p11 : lw_okq (⟨"PrintKeeper", "keepOpenRun", "()V"⟩, 11) := ⟨⟨by decide +kernel, by decide +kernel⟩, List.mem_of_getElem? (i := 25) (by decide +kernel), List.mem_of_getElem? (i := 419) (by decide +kernel), List.mem_of_getElem? (i := 420) (by decide +kernel)⟩
theorem lw_p12 : lw_okq (⟨"PrintKeeper", "putTogether", "(LPrintKeeper$Run;)V"⟩, 11) := ⟨⟨by decide +kernel, by decide +kernel⟩, List.mem_of_getElem? (i := 25) (by decide +kernel), List.mem_of_getElem? (i := 423) (by decide +kernel), List.mem_of_getElem? (i := 424) (by decide +kernel)⟩
theorem lw_p13 : lw_okq (⟨"PrintKeeper", "formatOn", "(I)LPrintKeeper$Format;"⟩, 11) := ⟨⟨by decide +kernel, by decide +kernel⟩, List.mem_of_getElem? (i := 25) (by decide +kernel), List.mem_of_getElem? (i := 427) (by decide +kernel), List.mem_of_getElem? (i := 428) (by decide +kernel)⟩
theorem lw_p14 : lw_okq (⟨"PrintKeeper$Page", "valueAt", "(I)I"⟩, 3) := ⟨⟨by decide +kernel, by decide +kernel⟩, List.mem_of_getElem? (i := 96) (by decide +kernel), List.mem_of_getElem? (i := 431) (by decide +kernel), List.mem_of_getElem? (i := 432) (by decide +kernel)⟩
theorem lw_p15 : lw_okq (⟨"PrintKeeper$Page", "has", "(I)Z"⟩, 3) := ⟨⟨by decide +kernel, by decide +kernel⟩, List.mem_of_getElem? (i := 96) (by decide +kernel), List.mem_of_getElem? (i := 435) (by decide +kernel), List.mem_of_getElem? (i := 436) (by decide +kernel)⟩
def lw_privs_1 : List (MethodName × Nat) := [(⟨"java/util/ArrayList", "add", "(Ljava/lang/Object;[Ljava/lang/Object;I)V"⟩, 3), (⟨"java/util/ArrayList", "grow", "()[Ljava/lang/Object;"⟩, 3), (⟨"java/util/ArrayList", "grow", "(I)[Ljava/lang/Object;"⟩, 3), (⟨"PrintKeeper", "isOver", "(LPrintKeeper$Document;)Z"⟩, 11), (⟨"PrintKeeper", "isKind", "(I)Z"⟩, 11), (⟨"PrintKeeper", "isHeld", "(LPrintKeeper$Document;)Z"⟩, 11), (⟨"PrintKeeper", "isAccount", "(I)Z"⟩, 11), (⟨"java/lang/Throwable", "fillInStackTrace", "(I)Ljava/lang/Throwable;"⟩, 6), (⟨"PrintKeeper$Page", "put", "(I)Z"⟩, 3), (⟨"PrintKeeper", "closePage", "()V"⟩, 11), (⟨"PrintKeeper$Page", "isEmpty", "()Z"⟩, 3), (⟨"PrintKeeper", "keepOpenRun", "()V"⟩, 11), (⟨"PrintKeeper", "putTogether", "(LPrintKeeper$Run;)V"⟩, 11), (⟨"PrintKeeper", "formatOn", "(I)LPrintKeeper$Format;"⟩, 11), (⟨"PrintKeeper$Page", "valueAt", "(I)I"⟩, 3), (⟨"PrintKeeper$Page", "has", "(I)Z"⟩, 3)]
theorem lw_r1 : ∀ q ∈ lw_privs_1, lw_okq q := List.forall_mem_cons.mpr ⟨lw_p0, List.forall_mem_cons.mpr ⟨lw_p1, List.forall_mem_cons.mpr ⟨lw_p2, List.forall_mem_cons.mpr ⟨lw_p3, List.forall_mem_cons.mpr ⟨lw_p4, List.forall_mem_cons.mpr ⟨lw_p5, List.forall_mem_cons.mpr ⟨lw_p6, List.forall_mem_cons.mpr ⟨lw_p7, List.forall_mem_cons.mpr ⟨lw_p8, List.forall_mem_cons.mpr ⟨lw_p9, List.forall_mem_cons.mpr ⟨lw_p10, List.forall_mem_cons.mpr ⟨lw_p11, List.forall_mem_cons.mpr ⟨lw_p12, List.forall_mem_cons.mpr ⟨lw_p13, List.forall_mem_cons.mpr ⟨lw_p14, List.forall_mem_cons.mpr ⟨lw_p15, fun _ h => absurd h List.not_mem_nil⟩⟩⟩⟩⟩⟩⟩⟩⟩⟩⟩⟩⟩⟩⟩⟩
theorem lw_p16 : lw_okq (⟨"PrintKeeper", "runAt", "(I)LPrintKeeper$Run;"⟩, 11) := ⟨⟨by decide +kernel, by decide +kernel⟩, List.mem_of_getElem? (i := 25) (by decide +kernel), List.mem_of_getElem? (i := 481) (by decide +kernel), List.mem_of_getElem? (i := 482) (by decide +kernel)⟩
theorem lw_p17 : lw_okq (⟨"PrintKeeper$Run", "isLike", "(LPrintKeeper$Run;)Z"⟩, 2) := ⟨⟨by decide +kernel, by decide +kernel⟩, List.mem_of_getElem? (i := 78) (by decide +kernel), List.mem_of_getElem? (i := 508) (by decide +kernel), List.mem_of_getElem? (i := 509) (by decide +kernel)⟩
theorem lw_p18 : lw_okq (⟨"PrintKeeper$Page", "hasLinesOf", "(LPrintKeeper$Page;)Z"⟩, 3) := ⟨⟨by decide +kernel, by decide +kernel⟩, List.mem_of_getElem? (i := 96) (by decide +kernel), List.mem_of_getElem? (i := 515) (by decide +kernel), List.mem_of_getElem? (i := 516) (by decide +kernel)⟩
theorem lw_p19 : lw_okq (⟨"PrintKeeper", "documentAt", "(I)LPrintKeeper$Document;"⟩, 11) := ⟨⟨by decide +kernel, by decide +kernel⟩, List.mem_of_getElem? (i := 25) (by decide +kernel), List.mem_of_getElem? (i := 548) (by decide +kernel), List.mem_of_getElem? (i := 549) (by decide +kernel)⟩
theorem lw_p20 : lw_okq (⟨"PrintKeeper", "readerAt", "(I)LPrintKeeper$Reader;"⟩, 11) := ⟨⟨by decide +kernel, by decide +kernel⟩, List.mem_of_getElem? (i := 25) (by decide +kernel), List.mem_of_getElem? (i := 581) (by decide +kernel), List.mem_of_getElem? (i := 582) (by decide +kernel)⟩
theorem lw_p21 : lw_okq (⟨"PrintKeeper$Reader", "sees", "(LPrintKeeper$Document;)Z"⟩, 4) := ⟨⟨by decide +kernel, by decide +kernel⟩, List.mem_of_getElem? (i := 115) (by decide +kernel), List.mem_of_getElem? (i := 586) (by decide +kernel), List.mem_of_getElem? (i := 587) (by decide +kernel)⟩
theorem lw_p22 : lw_okq (⟨"PrintKeeper$Document", "fits", "(III)Z"⟩, 6) := ⟨⟨by decide +kernel, by decide +kernel⟩, List.mem_of_getElem? (i := 438) (by decide +kernel), List.mem_of_getElem? (i := 590) (by decide +kernel), List.mem_of_getElem? (i := 591) (by decide +kernel)⟩
theorem lw_p23 : lw_okq (⟨"PrintKeeperModel", "endsPage", "()V"⟩, 29) := ⟨⟨by decide +kernel, by decide +kernel⟩, List.mem_of_getElem? (i := 653) (by decide +kernel), List.mem_of_getElem? (i := 770) (by decide +kernel), List.mem_of_getElem? (i := 771) (by decide +kernel)⟩
theorem lw_p24 : lw_okq (⟨"PrintKeeperModel", "putsTogether", "()V"⟩, 29) := ⟨⟨by decide +kernel, by decide +kernel⟩, List.mem_of_getElem? (i := 653) (by decide +kernel), List.mem_of_getElem? (i := 778) (by decide +kernel), List.mem_of_getElem? (i := 779) (by decide +kernel)⟩
theorem lw_p25 : lw_okq (⟨"PrintKeeperModel", "formatNow", "()I"⟩, 29) := ⟨⟨by decide +kernel, by decide +kernel⟩, List.mem_of_getElem? (i := 653) (by decide +kernel), List.mem_of_getElem? (i := 782) (by decide +kernel), List.mem_of_getElem? (i := 783) (by decide +kernel)⟩
theorem lw_p26 : lw_okq (⟨"PrintKeeperModel", "lineOf", "(II)I"⟩, 29) := ⟨⟨by decide +kernel, by decide +kernel⟩, List.mem_of_getElem? (i := 653) (by decide +kernel), List.mem_of_getElem? (i := 786) (by decide +kernel), List.mem_of_getElem? (i := 787) (by decide +kernel)⟩
theorem lw_p27 : lw_okq (⟨"PrintKeeperModel", "begins", "(III)V"⟩, 29) := ⟨⟨by decide +kernel, by decide +kernel⟩, List.mem_of_getElem? (i := 653) (by decide +kernel), List.mem_of_getElem? (i := 790) (by decide +kernel), List.mem_of_getElem? (i := 791) (by decide +kernel)⟩
theorem lw_p28 : lw_okq (⟨"PrintKeeperModel", "isRun", "(I)Z"⟩, 29) := ⟨⟨by decide +kernel, by decide +kernel⟩, List.mem_of_getElem? (i := 653) (by decide +kernel), List.mem_of_getElem? (i := 798) (by decide +kernel), List.mem_of_getElem? (i := 799) (by decide +kernel)⟩
theorem lw_p29 : lw_okq (⟨"PrintKeeperModel", "areAlike", "(II)Z"⟩, 29) := ⟨⟨by decide +kernel, by decide +kernel⟩, List.mem_of_getElem? (i := 653) (by decide +kernel), List.mem_of_getElem? (i := 806) (by decide +kernel), List.mem_of_getElem? (i := 807) (by decide +kernel)⟩
theorem lw_p30 : lw_okq (⟨"PrintKeeperModel", "isPage", "(II)Z"⟩, 29) := ⟨⟨by decide +kernel, by decide +kernel⟩, List.mem_of_getElem? (i := 653) (by decide +kernel), List.mem_of_getElem? (i := 814) (by decide +kernel), List.mem_of_getElem? (i := 815) (by decide +kernel)⟩
theorem lw_p31 : lw_okq (⟨"PrintKeeperModel", "asks", "(I)Z"⟩, 29) := ⟨⟨by decide +kernel, by decide +kernel⟩, List.mem_of_getElem? (i := 653) (by decide +kernel), List.mem_of_getElem? (i := 830) (by decide +kernel), List.mem_of_getElem? (i := 831) (by decide +kernel)⟩
def lw_privs_2 : List (MethodName × Nat) := [(⟨"PrintKeeper", "runAt", "(I)LPrintKeeper$Run;"⟩, 11), (⟨"PrintKeeper$Run", "isLike", "(LPrintKeeper$Run;)Z"⟩, 2), (⟨"PrintKeeper$Page", "hasLinesOf", "(LPrintKeeper$Page;)Z"⟩, 3), (⟨"PrintKeeper", "documentAt", "(I)LPrintKeeper$Document;"⟩, 11), (⟨"PrintKeeper", "readerAt", "(I)LPrintKeeper$Reader;"⟩, 11), (⟨"PrintKeeper$Reader", "sees", "(LPrintKeeper$Document;)Z"⟩, 4), (⟨"PrintKeeper$Document", "fits", "(III)Z"⟩, 6), (⟨"PrintKeeperModel", "endsPage", "()V"⟩, 29), (⟨"PrintKeeperModel", "putsTogether", "()V"⟩, 29), (⟨"PrintKeeperModel", "formatNow", "()I"⟩, 29), (⟨"PrintKeeperModel", "lineOf", "(II)I"⟩, 29), (⟨"PrintKeeperModel", "begins", "(III)V"⟩, 29), (⟨"PrintKeeperModel", "isRun", "(I)Z"⟩, 29), (⟨"PrintKeeperModel", "areAlike", "(II)Z"⟩, 29), (⟨"PrintKeeperModel", "isPage", "(II)Z"⟩, 29), (⟨"PrintKeeperModel", "asks", "(I)Z"⟩, 29)]
theorem lw_r2 : ∀ q ∈ lw_privs_2, lw_okq q := List.forall_mem_cons.mpr ⟨lw_p16, List.forall_mem_cons.mpr ⟨lw_p17, List.forall_mem_cons.mpr ⟨lw_p18, List.forall_mem_cons.mpr ⟨lw_p19, List.forall_mem_cons.mpr ⟨lw_p20, List.forall_mem_cons.mpr ⟨lw_p21, List.forall_mem_cons.mpr ⟨lw_p22, List.forall_mem_cons.mpr ⟨lw_p23, List.forall_mem_cons.mpr ⟨lw_p24, List.forall_mem_cons.mpr ⟨lw_p25, List.forall_mem_cons.mpr ⟨lw_p26, List.forall_mem_cons.mpr ⟨lw_p27, List.forall_mem_cons.mpr ⟨lw_p28, List.forall_mem_cons.mpr ⟨lw_p29, List.forall_mem_cons.mpr ⟨lw_p30, List.forall_mem_cons.mpr ⟨lw_p31, fun _ h => absurd h List.not_mem_nil⟩⟩⟩⟩⟩⟩⟩⟩⟩⟩⟩⟩⟩⟩⟩⟩
theorem lw_p32 : lw_okq (⟨"PrintKeeperModel", "sees", "(II)Z"⟩, 29) := ⟨⟨by decide +kernel, by decide +kernel⟩, List.mem_of_getElem? (i := 653) (by decide +kernel), List.mem_of_getElem? (i := 853) (by decide +kernel), List.mem_of_getElem? (i := 854) (by decide +kernel)⟩
def lw_privs_3 : List (MethodName × Nat) := [(⟨"PrintKeeperModel", "sees", "(II)Z"⟩, 29)]
theorem lw_r3 : ∀ q ∈ lw_privs_3, lw_okq q := List.forall_mem_cons.mpr ⟨lw_p32, fun _ h => absurd h List.not_mem_nil⟩
def lw_privs : List (MethodName × Nat) := lw_privs_1 ++ (lw_privs_2 ++ (lw_privs_3))
def lw_tbl : List Cond := k2_sels lw_privs ++ tables_1
theorem lw_privs_ok : ∀ q ∈ lw_privs, lw_okq q := by
  show ∀ q ∈ lw_privs_1 ++ (lw_privs_2 ++ (lw_privs_3)), lw_okq q
  exact List.forall_mem_append.mpr ⟨lw_r1, List.forall_mem_append.mpr ⟨lw_r2, lw_r3⟩⟩
-- ===== end of PART A; then your names; then what follows =====
/-! ===== BEGIN words of one list among another's, by their places ===== -/
theorem goodIn_r {big : List Cond} (ws : List Cond) (ps : List Nat) (hp : ws = ps.filterMap (fun i => big[i]?)) (h : ws.all goodWord = true) : GoodIn big ws := by
  intro w hw
  have h1 := List.all_eq_true.mp h w hw
  rw [hp] at hw
  obtain ⟨i, -, hi⟩ := List.mem_filterMap.mp hw
  have hm : w ∈ big := by first | exact List.mem_of_getElem? hi | exact List.getElem?_mem hi
  exact ⟨hm, good_of_word h1⟩
theorem goodIn_app {big a b : List Cond} (ha : GoodIn big a) (hb : GoodIn big b) : GoodIn big (a ++ b) := fun w h => (List.mem_append.mp h).elim (ha w) (hb w)
theorem goodIn_ca {big a b : List Cond} {c : Cond} (ha : GoodIn big (c :: a)) (hb : GoodIn big b) : GoodIn big (c :: (a ++ b)) := fun w h => (List.mem_cons.mp h).elim (fun e => ha w (List.mem_cons.mpr (Or.inl e))) (fun h => (List.mem_append.mp h).elim (fun h => ha w (List.mem_cons.mpr (Or.inr h))) (hb w))
theorem goodIn_sub {big ws : List Cond} (hm : ∀ w ∈ ws, w ∈ big) (h : ws.all goodWord = true) : GoodIn big ws := fun w hw => ⟨hm w hw, good_of_word (List.all_eq_true.mp h w hw)⟩
/-! ===== END ===== -/

/-! ===== BEGIN exceptions that leave a method, and their catching by the caller (launches without stack traces) ===== -/
section VXA
/-! The laws vx_back, vx_callV, vx_callS, vx_callSW, vx_throw0, vx_throwS follow proofs of the library, with one case more: JvmDerived/Free/Laws.lean (Back.of_free), Shelf42/LK1.lean (callV, callS), Shelf/KitTraced.lean (throwNew0V, throwNewS). -/
/-- where a method has thrown q: the class by its name, the cell, what was written, the world -/
def vx_T (XC : String → State → State → Prop) (st : State) (q : Addr) (t : State) (mc ms : Nat) (free : Addr → Prop) : Prop :=
  ∃ (E : String) (ce : Cell) (L : List Loc), XC E st t ∧ t.heap[q]? = some ce ∧ ce.vm = .none ∧ st.vm.findClass E = some ce.cls ∧ st.WarmedH t.vm ∧ st.sameButNew ({ t with vm := st.vm } : State) L mc ms ∧ ∀ z ∈ L, free z.base
def vx_Q (Qc : Array Value → State → Outcome → State → Prop) (XC : String → State → State → Prop) (mc ms : Nat) (free : Addr → Prop) : Array Value → State → Outcome → State → Prop := fun a st o t =>
  (Qc a st o t ∧ ∃ L, FrameEnd st o t L mc ms ∧ ∀ q ∈ L, free q.base) ∨ ∃ q, o = .threw q ∧ vx_T XC st q t mc ms free
/-- a callee that returns or throws -/
def vx_Met (l : Launch) (y : MethodName) (ws : List Cond) (rm : Room) (Pc : Array Value → State → Prop) (Qc : Array Value → State → Outcome → State → Prop) (XC : String → State → State → Prop) (mc ms : Nat) (free : Addr → Prop) : Prop :=
  MetFree l y (headSpec ws rm) Pc (fun _ _ _ _ _ => True) (vx_Q Qc XC mc ms free)
def vx_Post (XC : String → State → State → Prop) (mc ms : Nat) (free : Addr → Prop) : Pt → Array Value → Addr → Pt → Prop := fun A a q B =>
  ∃ (g : JFrame) (mk : MethodId) (t : State) (L : List Loc) (E : String) (ce : Cell), B.U.heap = t.heap ∧ B.U.vm = t.vm ∧ XC E (A.U.calling g mk a) t ∧ t.heap[q]? = some ce ∧ ce.vm = .none ∧ A.U.vm.findClass E = some ce.cls ∧ B.locs = A.locs ++ L ∧ (∀ z ∈ L, free z.base) ∧ B.cells = A.cells + mc ∧ B.slots = A.slots + ms
def vx_Back (l : Launch) (R : Room) (p : Program) (e : Env) (below : List Frame) (s : State) (sargs : Array Value) (y : MethodName) (len W9 : Nat)
    (Pre : Pt → Array Value → Prop) (Post : Pt → Array Value → Option Value → Pt → Prop) (PostX : Pt → Array Value → Addr → Pt → Prop) : Prop :=
  ∀ (m : MethodId) (meth : Method) (c : Code) (A : Pt) (g : JFrame) (ig : Instr) (mk : MethodId) (a : Array Value),
    Stand p l e R s m sargs below meth c A.U A.locs A.cells A.slots → g.method = m → g.locals.size = c.maxLocals → decode c.code g.pc = .ok (ig, len) →
    2 * g.monitorRoom + (g.stack.map fun v => v.category).sum ≤ W9 → A.U.methodNamed? y = some mk → Pre A a →
    (∃ (v : Option Value) (B : Pt), Stand p l e R s m sargs below meth c B.U B.locs B.cells B.slots ∧ Post A a v B ∧
      Steps p.tables e below (doInvoke e (A.U.setTop g) [] mk a).1 (B.U.setTop { g with pc := g.pc + len, stack := v.toList ++ g.stack })) ∨
    (∃ (q : Addr) (B : Pt), Stand p l e R s m sargs below meth c B.U B.locs B.cells B.slots ∧ PostX A a q B ∧
      Steps p.tables e below (doInvoke e (A.U.setTop g) [] mk a).1 ((B.U.setTop g).pushFrame (.throwing q)))
section Payer
variable {l : Launch} {R : Room} {p : Program} {e : Env} {below : List Frame} {s : State} {sargs : Array Value} {y : MethodName} {len W9 : Nat}
theorem vx_back {ws : List Cond} {rm : Room} {Pc : Array Value → State → Prop} {Qc : Array Value → State → Outcome → State → Prop} {XC : String → State → State → Prop} {mc ms : Nat} {free : Addr → Prop} {bytes : ByteArray} {maxL : Nat} {ret : Option FieldType}
    (hM : vx_Met l y ws rm Pc Qc XC mc ms free) (hblind : FrameBlind Pc) (hrc : rm.cells = mc) (hrs : rm.slots = ms)
    (hframes : rm.frames + 1 ≤ R.frames) (hlocals : W9 + (maxL + 11) + rm.locals ≤ R.locals)
    (hws : ∀ w ∈ ws, ∀ a' U, s.WarmedH U.vm → w.before a' U = true) (hcode : Cond.code y bytes maxL ret ∈ ws) (hinit : ∀ a' U, s.WarmedH U.vm → (Cond.initialized y.cls).before a' U = true) :
    vx_Back l R p e below s sargs y len W9 (PreOf R mc ms Pc) (PostOf Qc mc ms free) (vx_Post XC mc ms free) := by
  intro m meth c A g ig mk a X hg hsize hdg hW hn hp
  have h1 : (headSpec ws rm).pre.before a A.U = true := atoms_intro fun w hw => hws w hw _ _ X.warmed
  have h2 : (Cond.code y bytes maxL ret).before a A.U = true := hws _ hcode _ _ X.warmed
  have h3 : (Cond.initialized y.cls).before a A.U = true := hinit _ _ X.warmed
  have h4 : A.cells + (headSpec ws rm).room.cells ≤ R.cells := by rw [show (headSpec ws rm).room.cells = mc from hrc]; exact hp.1
  have h5 : A.slots + (headSpec ws rm).room.slots ≤ R.slots := by rw [show (headSpec ws rm).room.slots = ms from hrs]; exact hp.2.1
  have hPc : Pc a (A.U.calling g mk a) := hblind _ _ _ _ hp.2.2
  obtain ⟨U, Ls, c0, s0⟩ := A
  dsimp only [Pt.U, Pt.locs, Pt.cells, Pt.slots] at h1 h2 h3 h4 h5 X hn hPc ⊢
  obtain ⟨methY, cY, hmY, hcY, -, hlY, -, -, -, -⟩ := Cond.code_spec hn h2
  obtain ⟨kY, hkY, -⟩ := className_of_methodNamed hn
  have hinitY : kY.init = .initialized := Cond.initialized_spec (findClass_of_methodNamed hn) hkY h3
  have h : At U g.method c below := by rw [hg]; exact X.here
  have hlocals9 : W9 + (maxL + 11) + (headSpec ws rm).room.locals ≤ R.locals := hlocals
  have happ : (headSpec ws rm).appliesLoose y e.platform (U.calling g mk a) = true :=
    Spec.appliesLoose_calling (g := g) h hdg hn hkY hinitY
      (X.room_calling (g := g) (R' := (headSpec ws rm).room) hsize hmY hcY hframes (by rw [hlY]; omega) h4 h5) h1
  obtain ⟨mid, hmid⟩ := h.above
  have hfr : (U.setTop g).frames = (.java g :: mid) ++ below := by rw [State.frames_setTop' g h.top, hmid]; rfl
  obtain ⟨o, s₂, hsteps, -, hend, hq⟩ := Steps.callFree hM p X.admits X.cas X.clock (acts := []) hfr happ hPc trivial
  have hq' : vx_Q Qc XC mc ms free a (U.calling g mk a) o s₂ := hq
  rw [State.frames_setTop' g h.top] at hend
  obtain ⟨g₀, hg0⟩ := Option.isSome_iff_exists.mp h.top
  obtain ⟨r, hr⟩ := State.topJava?_eq_some.mp hg0
  have hr' : (({ U with heap := s₂.heap, slotsUsed := s₂.slotsUsed } : State).setVm s₂.vm).frames = .java g₀ :: r := hr
  rcases hq' with ⟨hqc, L, hfe, hL⟩ | ⟨q, rfl, E, ce, L, hx, hce, hcv, hcl, hW₂, hsm, hL⟩
  · obtain ⟨⟨v, rfl⟩, hW₂, e2, q2, q3, q4, q5, q6⟩ := id hfe
    have e3 : s₂ = ({ (U.calling g mk a).setFrames s₂.frames with heap := s₂.heap, slotsUsed := s₂.slotsUsed } : State).setVm s₂.vm := by
      have : s₂ = ({ s₂ with vm := (U.calling g mk a).vm } : State).setVm s₂.vm := rfl
      rw [e2] at this
      exact this
    obtain ⟨c₂, i₂, len₂, hc₂, hd₂, hf₂⟩ := hend
    have hW' : U.WarmedH s₂.vm := hW₂
    have hcc : c₂ = c := by
      have h1 : s₂.code? g.method = U.code? g.method := by
        rw [State.code?_eq, State.code?_eq, hW'.alike.method?]
      exact Option.some.inj (hc₂.symm.trans (h1.trans h.code))
    subst hcc
    have hlen : len₂ = len := by rw [hdg] at hd₂; cases hd₂; rfl
    subst hlen
    have hs₂ : s₂ = (({ U with heap := s₂.heap, slotsUsed := s₂.slotsUsed } : State).setVm s₂.vm).setTop { g with pc := g.pc + len₂, stack := v.toList ++ g.stack } := by
      refine e3.trans ?_
      rw [hf₂, State.calling_eq h.top, State.setFrames_setFrames, State.setTop_of_frames _ hr', hr]
      rfl
    have hsame : U.sameButNew ({ U with heap := s₂.heap, slotsUsed := s₂.slotsUsed } : State) L mc ms := by
      refine ⟨?_, q2, q3, q4, q5, q6⟩
      obtain ⟨t, ht, -⟩ := State.frames_cons hr
      show ({ U with heap := s₂.heap, slotsUsed := s₂.slotsUsed } : State) = { U.setFrames U.frames with heap := s₂.heap, slotsUsed := s₂.slotsUsed }
      rw [State.setFrames_self ht]
    subst hg
    refine Or.inl ⟨v, ⟨(({ U with heap := s₂.heap, slotsUsed := s₂.slotsUsed } : State).setVm s₂.vm), Ls ++ L, c0 + mc, s0 + ms⟩,
      ⟨X.admits, X.cas, X.clock, X.frames, X.room, X.hears, X.method, X.code, (X.here.setHeapUsed s₂.heap s₂.slotsUsed).setVm hW'.alike, X.tail, State.WarmedH.trans X.warmed hW', X.limits, X.bytes, X.same.trans (hsame.setVm s.vm)⟩,
      ⟨g, mk, s₂, L, rfl, rfl, hqc, rfl, hL, rfl, rfl⟩, ?_⟩
    show Steps p.tables e below _ ((({ U with heap := s₂.heap, slotsUsed := s₂.slotsUsed } : State).setVm s₂.vm).setTop { g with pc := g.pc + len₂, stack := v.toList ++ g.stack })
    rw [← hs₂]
    exact hsteps
  · obtain ⟨e2, q2, q3, q4, q5, q6⟩ := id hsm
    have e3 : s₂ = ({ (U.calling g mk a).setFrames s₂.frames with heap := s₂.heap, slotsUsed := s₂.slotsUsed } : State).setVm s₂.vm := by
      have : s₂ = ({ s₂ with vm := (U.calling g mk a).vm } : State).setVm s₂.vm := rfl
      rw [e2] at this
      exact this
    have hf₂ : s₂.frames = .throwing q :: .java g :: U.frames.tail := hend
    have hW' : U.WarmedH s₂.vm := hW₂
    have hs₂ : s₂ = ((({ U with heap := s₂.heap, slotsUsed := s₂.slotsUsed } : State).setVm s₂.vm).setTop g).pushFrame (.throwing q) := by
      refine e3.trans ?_
      rw [hf₂, State.calling_eq h.top, State.setFrames_setFrames, State.pushFrame, State.frames_setTop _ hr', State.setTop_of_frames _ hr', State.setFrames_setFrames, hr]
      rfl
    have hsame : U.sameButNew ({ U with heap := s₂.heap, slotsUsed := s₂.slotsUsed } : State) L mc ms := by
      refine ⟨?_, q2, q3, q4, q5, q6⟩
      obtain ⟨t, ht, -⟩ := State.frames_cons hr
      show ({ U with heap := s₂.heap, slotsUsed := s₂.slotsUsed } : State) = { U.setFrames U.frames with heap := s₂.heap, slotsUsed := s₂.slotsUsed }
      rw [State.setFrames_self ht]
    subst hg
    refine Or.inr ⟨q, ⟨(({ U with heap := s₂.heap, slotsUsed := s₂.slotsUsed } : State).setVm s₂.vm), Ls ++ L, c0 + mc, s0 + ms⟩,
      ⟨X.admits, X.cas, X.clock, X.frames, X.room, X.hears, X.method, X.code, (X.here.setHeapUsed s₂.heap s₂.slotsUsed).setVm hW'.alike, X.tail, State.WarmedH.trans X.warmed hW', X.limits, X.bytes, X.same.trans (hsame.setVm s.vm)⟩,
      ⟨g, mk, s₂, L, E, ce, rfl, rfl, hx, hce, hcv, hcl, rfl, hL, rfl, rfl⟩, ?_⟩
    show Steps p.tables e below _ (((({ U with heap := s₂.heap, slotsUsed := s₂.slotsUsed } : State).setVm s₂.vm).setTop g).pushFrame (.throwing q))
    rw [← hs₂]
    exact hsteps
end Payer
section Calls
variable {p : Program} {l : Launch} {e : Env} {R : Room} {s : State} {m : MethodId} {args : Array Value} {below : List Frame} {meth : Method} {c : Code} {T : State} {locs : List Loc} {cells slots : Nat}
theorem vx_callV (X : Stand p l e R s m args below meth c T locs cells slots) (hexec : p.tables.exec = Jvm.exec) {own C : String} {index : Nat} {y : MethodName} {bytes : ByteArray} {maxL : Nat} {ret : Option FieldType}
    (hown : s.vm.findClass own = some m.cls) (hlink : (Cond.methodLink own index y).before args s = true) (hinst : (Cond.instanceMethod y).before args s = true) (hsel : (Cond.selects C y y).before args s = true)
    (hcode : (Cond.code y bytes maxL ret).before args s = true) (hy : y.cls ≠ "java/lang/invoke/MethodHandle" ∧ y.cls ≠ "java/lang/invoke/VarHandle")
    {W9 : Nat} {Pre : Pt → Array Value → Prop} {Post : Pt → Array Value → Option Value → Pt → Prop} {PostX : Pt → Array Value → Addr → Pt → Prop} (hK : vx_Back l R p e below s args y 3 W9 Pre Post PostX)
    {b : Addr} {cellB : Cell} (hcell : T.heap[b]? = some cellB) (hobj : cellB.vm.isStatics = false) (hcls : s.vm.findClass C = some cellB.cls)
    {g : JFrame} (hg : g.method = m) (hsize : g.locals.size = c.maxLocals) {argsL rest : List Value} (hlen : ∀ sig, parseMethodDescriptor y.desc = some sig → argsL.length = sig.parameters.length)
    (hstack : g.stack = argsL.reverse ++ .ref b :: rest) (hW : 2 * g.monitorRoom + (rest.map fun v => v.category).sum ≤ W9) (hdg : decode c.code g.pc = .ok (.invokevirtual index, 3))
    (hpre : ∀ vm₁, s.WarmedH vm₁ → Pre ⟨T.setVm vm₁, locs, cells, slots⟩ (Value.ref b :: argsL).toArray) :
    (∃ (v : Option Value) (vm₁ : Vm) (B : Pt), s.WarmedH vm₁ ∧ Stand p l e R s m args below meth c B.U B.locs B.cells B.slots ∧ Post ⟨T.setVm vm₁, locs, cells, slots⟩ (Value.ref b :: argsL).toArray v B ∧
      ∀ target, Steps p.tables e below (B.U.setTop { g with pc := g.pc + 3, stack := v.toList ++ rest }) target → Steps p.tables e below (T.setTop g) target) ∨
    (∃ (q : Addr) (vm₁ : Vm) (B : Pt), s.WarmedH vm₁ ∧ Stand p l e R s m args below meth c B.U B.locs B.cells B.slots ∧ PostX ⟨T.setVm vm₁, locs, cells, slots⟩ (Value.ref b :: argsL).toArray q B ∧
      Steps p.tables e below (T.setTop g) ((B.U.setTop { g with stack := rest }).pushFrame (.throwing q))) := by
  obtain ⟨mk, methM, hnamed, hmethM, hstM, habM⟩ := Cond.instanceMethod_spec hinst
  obtain ⟨methM', cM, hmethM', -, -, -, -, -, -, hsigM⟩ := Cond.code_spec hnamed hcode
  cases hmethM.symm.trans hmethM'
  obtain ⟨c2, r2, m2, q1, q2, q3, q4, kP, hkP, hkPi⟩ := Cond.selects_spec hsel
  cases hcls.symm.trans q1
  cases (State.methodFound?_of_named hnamed hy).symm.trans q2
  cases hnamed.symm.trans q3
  have hselP : selectMethod e.platform s.vm cellB.cls mk = .method mk := by rw [Launch.admits_selectMethod X.admits]; exact q4
  obtain ⟨vm₁, X₁, hstep₁⟩ := X.invokevirtual hexec hown hlink hnamed hmethM hstM hkP hkPi hy (a := b) (cell := cellB) hcell
    (fun z h => by rw [h] at hobj; cases hobj) hselP hmethM habM hkP hkPi (g := g) hg (argsL := argsL) (rest := rest) (hlen _ hsigM) hstack hdg
  rcases hK m meth c ⟨T.setVm vm₁, locs, cells, slots⟩ { g with stack := rest } (.invokevirtual index) mk (Value.ref b :: argsL).toArray X₁ hg hsize hdg hW (X₁.named hnamed) (hpre vm₁ X₁.warmed) with ⟨v, B, X', hpost, hsteps⟩ | ⟨q, B, X', hpost, hsteps⟩
  · exact Or.inl ⟨v, vm₁, B, X₁.warmed, X', hpost, fun target h => hstep₁ _ fun acts => by rw [doInvoke_state]; exact hsteps.trans h⟩
  · exact Or.inr ⟨q, vm₁, B, X₁.warmed, X', hpost, hstep₁ _ fun acts => by rw [doInvoke_state]; exact hsteps⟩
theorem vx_callS (X : Stand p l e R s m args below meth c T locs cells slots) (hexec : p.tables.exec = Jvm.exec) {own : String} {index : Nat} {y : MethodName} {bytes : ByteArray} {maxL : Nat} {ret : Option FieldType}
    (hown : s.vm.findClass own = some m.cls) (hlink : (Cond.methodLink own index y).before args s = true) (hstat : (Cond.static y).before args s = true) (hinit : (Cond.initialized y.cls).before args s = true)
    (hcode : (Cond.code y bytes maxL ret).before args s = true) (hy : y.cls ≠ "java/lang/invoke/MethodHandle" ∧ y.cls ≠ "java/lang/invoke/VarHandle")
    {W9 : Nat} {Pre : Pt → Array Value → Prop} {Post : Pt → Array Value → Option Value → Pt → Prop} {PostX : Pt → Array Value → Addr → Pt → Prop} (hK : vx_Back l R p e below s args y 3 W9 Pre Post PostX)
    {g : JFrame} (hg : g.method = m) (hsize : g.locals.size = c.maxLocals) {argsL rest : List Value} (hlen : ∀ sig, parseMethodDescriptor y.desc = some sig → argsL.length = sig.parameters.length)
    (hstack : g.stack = argsL.reverse ++ rest) (hW : 2 * g.monitorRoom + (rest.map fun v => v.category).sum ≤ W9) (hdg : decode c.code g.pc = .ok (.invokestatic index, 3))
    (hpre : ∀ vm₁, s.WarmedH vm₁ → Pre ⟨T.setVm vm₁, locs, cells, slots⟩ argsL.toArray) :
    (∃ (v : Option Value) (vm₁ : Vm) (B : Pt), s.WarmedH vm₁ ∧ Stand p l e R s m args below meth c B.U B.locs B.cells B.slots ∧ Post ⟨T.setVm vm₁, locs, cells, slots⟩ argsL.toArray v B ∧
      ∀ target, Steps p.tables e below (B.U.setTop { g with pc := g.pc + 3, stack := v.toList ++ rest }) target → Steps p.tables e below (T.setTop g) target) ∨
    (∃ (q : Addr) (vm₁ : Vm) (B : Pt), s.WarmedH vm₁ ∧ Stand p l e R s m args below meth c B.U B.locs B.cells B.slots ∧ PostX ⟨T.setVm vm₁, locs, cells, slots⟩ argsL.toArray q B ∧
      Steps p.tables e below (T.setTop g) ((B.U.setTop { g with stack := rest }).pushFrame (.throwing q))) := by
  obtain ⟨mk, hnamed⟩ := Cond.code_named hcode
  obtain ⟨methM, cM, hmethM, -, -, -, -, -, -, hsigM⟩ := Cond.code_spec hnamed hcode
  have hstatic : methM.isStatic = true := Cond.static_spec hnamed hmethM hstat
  obtain ⟨kP, hkP, -⟩ := className_of_methodNamed hnamed
  have hinitP : kP.init = .initialized := Cond.initialized_spec (findClass_of_methodNamed hnamed) hkP hinit
  obtain ⟨vm₁, X₁, hstep₁⟩ := X.invokestatic hexec hown hlink hnamed hmethM hstatic hkP hinitP hy (g := g) hg (argsL := argsL) (rest := rest) (hlen _ hsigM) hstack hdg
  rcases hK m meth c ⟨T.setVm vm₁, locs, cells, slots⟩ { g with stack := rest } (.invokestatic index) mk argsL.toArray X₁ hg hsize hdg hW (X₁.named hnamed) (hpre vm₁ X₁.warmed) with ⟨v, B, X', hpost, hsteps⟩ | ⟨q, B, X', hpost, hsteps⟩
  · exact Or.inl ⟨v, vm₁, B, X₁.warmed, X', hpost, fun target h => hstep₁ _ fun acts => by rw [doInvoke_state]; exact hsteps.trans h⟩
  · exact Or.inr ⟨q, vm₁, B, X₁.warmed, X', hpost, hstep₁ _ fun acts => by rw [doInvoke_state]; exact hsteps⟩
end Calls
theorem vx_cls {s : State} {T : State} {vm₁ : Vm} {E : String} {k : ClassId} (hW : s.WarmedH vm₁) (h : (T.setVm vm₁).vm.findClass E = some k) : s.vm.findClass E = some k := by
  have h1 : vm₁.findClass E = some k := h
  rw [hW.alike.findClass] at h1
  exact h1
/-- the method's frame g, with q thrown over it -/
def vx_W (p : Program) (l : Launch) (e : Env) (R : Room) (s : State) (m : MethodId) (args : Array Value) (below : List Frame) (meth : Method) (c : Code) (H : Heap) (locs : List Loc) (cells slots : Nat) (Q : State → Prop) (g : JFrame) (q : Addr) : Prop :=
  ∀ T : State, T.heap = H → Stand p l e R s m args below meth c T locs cells slots → ∃ t, Steps p.tables e below ((T.setTop g).pushFrame (.throwing q)) t ∧ Q t
def vx_Run (p : Program) (l : Launch) (e : Env) (R : Room) (s : State) (m : MethodId) (args : Array Value) (below : List Frame) (meth : Method) (c : Code) (H : Heap) (locs : List Loc) (cells slots mc ms : Nat) (g : JFrame) (rest : List Value) (Qa : State → Outcome → State → Prop) (XC : String → State → State → Prop) (free : Addr → Prop) : Prop :=
  ∀ T : State, T.heap = H → Stand p l e R s m args below meth c T locs cells slots →
    (∃ (v : Option Value) (st₀ t T' : State) (L : List Loc), st₀.heap = H ∧ Stand p l e R s m args below meth c T' (locs ++ L) (cells + mc) (slots + ms) ∧ (∀ q ∈ L, free q.base) ∧ T'.heap = t.heap ∧ T'.vm = t.vm ∧ Qa st₀ (.returned v) t ∧
      Goes p e below T g T' { g with pc := g.pc + 3, stack := v.toList ++ rest }) ∨
    (∃ (q : Addr) (st₀ t T' : State) (L : List Loc) (E : String) (ce : Cell), st₀.heap = H ∧ Stand p l e R s m args below meth c T' (locs ++ L) (cells + mc) (slots + ms) ∧ (∀ z ∈ L, free z.base) ∧ T'.heap = t.heap ∧ T'.vm = t.vm ∧ XC E st₀ t ∧ t.heap[q]? = some ce ∧ ce.vm = .none ∧ s.vm.findClass E = some ce.cls ∧
      Steps p.tables e below (T.setTop g) ((T'.setTop { g with stack := rest }).pushFrame (.throwing q)))
def vx_X {S : Type} (px : S → Prop) (B : String → S → State → Prop) (A : Nat → Prop) : String → State → State → Prop := fun E st t => ∃ u : S, px u ∧ B E u t ∧ va_F A st t
section Runs
variable {p : Program} {l : Launch} {e : Env} {R : Room} {s : State} {m : MethodId} {args : Array Value} {below : List Frame} {meth : Method} {c : Code} {H : Heap} {locs : List Loc} {cells slots : Nat}
variable {y : MethodName} {bytes cc : ByteArray} {maxL nL mc ms n index : Nat} {ret : Option FieldType} {ws : List Cond} {rm : Room} {Pc : Array Value → State → Prop} {Qc : Array Value → State → Outcome → State → Prop} {XC : String → State → State → Prop} {free : Addr → Prop} {Ts : List Cond} {own C : String} {b : Addr} {As rest : List Value} {g : JFrame}
theorem vx_callBack (cb : CallB R s args own index y bytes maxL ret ws rm mc ms n) (hM : vx_Met l y ws rm Pc Qc XC mc ms free) (hbl : FrameBlind Pc) : vx_Back l R p e below s args y 3 8 (PreOf R mc ms Pc) (PostOf Qc mc ms free) (vx_Post XC mc ms free) := by
  obtain ⟨hrc, hrs, hfr, hlo, hws, hcw, -, hini, -⟩ := cb
  exact vx_back (bytes := bytes) (maxL := maxL) (ret := ret) hM hbl hrc hrs hfr hlo hws hcw (fun a' U hW => word_at hW (Or.inl (by first | rfl | simp [Cond.onTables, Cond.keeps, Cond.steady])) hini)
theorem vx_runV (S : CallFix p m c cc nL s args Ts own) (hM : vx_Met l y ws rm Pc Qc XC mc ms free) (cw : CallW R s args own C index y bytes maxL ret ws rm mc ms n) (hp : PreV s H C b Pc As)
    (hg : g.method = m) (hn : As.length = n) (hsize : g.locals.size = nL) (hstack : g.stack = As.reverse ++ .ref b :: rest) (hW : 2 * g.monitorRoom + (rest.map fun v => v.category).sum ≤ 8) (hdg : decode cc g.pc = .ok (.invokevirtual index, 3)) (hf : cells + mc ≤ R.cells ∧ slots + ms ≤ R.slots) :
    vx_Run p l e R s m args below meth c H locs cells slots mc ms g rest (Qc (Value.ref b :: As).toArray) XC free := by
  have hK : vx_Back l R p e below s args y 3 8 (PreOf R mc ms Pc) (PostOf Qc mc ms free) (vx_Post XC mc ms free) := vx_callBack cw.1 hM hp.1
  obtain ⟨⟨-, -, -, -, -, -, hcode, -, hy, hlen, hl⟩, hin, hse⟩ := cw
  obtain ⟨hx, hb, hml, ho, -⟩ := S
  obtain ⟨-, ⟨cellB, hcB, hoB, hclB⟩, hPc⟩ := hp
  intro T hT X
  rcases vx_callV X hx (C := C) (bytes := bytes) (maxL := maxL) (ret := ret) ho hl hin hse hcode hy hK (by rw [hT]; exact hcB) hoB hclB hg (hsize.trans hml.symm) (argsL := As) (rest := rest) (fun sig h => hn.trans (hlen sig h)) hstack hW (by rw [hb]; exact hdg)
    (fun vm₁ hW₁ => ⟨hf.1, hf.2, hPc (T.setVm vm₁) hT hW₁⟩) with ⟨v, vm₁, ⟨U', l2, c2, s2⟩, hW₁, X', ⟨g', mk, t, L, e1, e2, hq, h1, hL, h2, h3⟩, st⟩ | ⟨q, vm₁, ⟨U', l2, c2, s2⟩, hW₁, X', ⟨g', mk, t, L, E, ce, e1, e2, hq, hce, hcv, hcl, h1, hL, h2, h3⟩, st⟩
  · dsimp only [Pt.U, Pt.locs, Pt.cells, Pt.slots] at X' e1 e2 h1 h2 h3 st
    subst h1; subst h2; subst h3
    exact Or.inl ⟨v, (T.setVm vm₁).calling g' mk (Value.ref b :: As).toArray, t, U', L, hT, X', hL, e1, e2, hq, st⟩
  · dsimp only [Pt.U, Pt.locs, Pt.cells, Pt.slots] at X' e1 e2 h1 h2 h3 st hcl
    subst h1; subst h2; subst h3
    exact Or.inr ⟨q, (T.setVm vm₁).calling g' mk (Value.ref b :: As).toArray, t, U', L, E, ce, hT, X', hL, e1, e2, hq, hce, hcv, vx_cls hW₁ hcl, st⟩
theorem vx_runS (S : CallFix p m c cc nL s args Ts own) (hM : vx_Met l y ws rm Pc Qc XC mc ms free) (cw : CallB R s args own index y bytes maxL ret ws rm mc ms n ∧ (Cond.static y).before args s = true) (hp : PreS s H Pc As)
    (hg : g.method = m) (hn : As.length = n) (hsize : g.locals.size = nL) (hstack : g.stack = As.reverse ++ rest) (hW : 2 * g.monitorRoom + (rest.map fun v => v.category).sum ≤ 8) (hdg : decode cc g.pc = .ok (.invokestatic index, 3)) (hf : cells + mc ≤ R.cells ∧ slots + ms ≤ R.slots) :
    vx_Run p l e R s m args below meth c H locs cells slots mc ms g rest (Qc As.toArray) XC free := by
  have hK : vx_Back l R p e below s args y 3 8 (PreOf R mc ms Pc) (PostOf Qc mc ms free) (vx_Post XC mc ms free) := vx_callBack cw.1 hM hp.1
  obtain ⟨⟨-, -, -, -, -, -, hcode, hini, hy, hlen, hl⟩, hstt⟩ := cw
  obtain ⟨hx, hb, hml, ho, -⟩ := S
  intro T hT X
  rcases vx_callS X hx (bytes := bytes) (maxL := maxL) (ret := ret) ho hl hstt hini hcode hy hK hg (hsize.trans hml.symm) (argsL := As) (rest := rest) (fun sig h => hn.trans (hlen sig h)) hstack hW (by rw [hb]; exact hdg)
    (fun vm₁ hW₁ => ⟨hf.1, hf.2, hp.2 (T.setVm vm₁) hT hW₁⟩) with ⟨v, vm₁, ⟨U', l2, c2, s2⟩, hW₁, X', ⟨g', mk, t, L, e1, e2, hq, h1, hL, h2, h3⟩, st⟩ | ⟨q, vm₁, ⟨U', l2, c2, s2⟩, hW₁, X', ⟨g', mk, t, L, E, ce, e1, e2, hq, hce, hcv, hcl, h1, hL, h2, h3⟩, st⟩
  · dsimp only [Pt.U, Pt.locs, Pt.cells, Pt.slots] at X' e1 e2 h1 h2 h3 st
    subst h1; subst h2; subst h3
    exact Or.inl ⟨v, (T.setVm vm₁).calling g' mk As.toArray, t, U', L, hT, X', hL, e1, e2, hq, st⟩
  · dsimp only [Pt.U, Pt.locs, Pt.cells, Pt.slots] at X' e1 e2 h1 h2 h3 st hcl
    subst h1; subst h2; subst h3
    exact Or.inr ⟨q, (T.setVm vm₁).calling g' mk As.toArray, t, U', L, E, ce, hT, X', hL, e1, e2, hq, hce, hcv, vx_cls hW₁ hcl, st⟩
end Runs
section Rows
variable {p : Program} {l : Launch} {e : Env} {R : Room} {s : State} {m : MethodId} {args : Array Value} {below : List Frame} {meth : Method} {c : Code} {H : Heap} {locs : List Loc} {cells slots : Nat} {Q : State → Prop}
variable {mc ms : Nat} {free : Addr → Prop} {A0 A1 : Nat → Prop} {H0 : Heap} {a : Array Value} {pc : Nat} {ls : Array Slot} {st0 rest : List Value}
theorem vx_keep {st₀ t T' : State} {L : List Loc} (h0 : st₀.heap = H) (e1 : T'.heap = t.heap) (hS : va_S A0 H0 H locs) (hA : ∀ q, q < H.size → A1 q → A0 q) (hf : ∀ q, free q → A0 q) (hL : ∀ q ∈ L, free q.base) (hF : va_F A1 st₀ t) :
    H.size ≤ T'.heap.size ∧ (∀ q : Nat, q < H.size → ¬ A1 q → T'.heap[q]? = H[q]?) ∧ va_S A0 H0 T'.heap (locs ++ L) := by
  obtain ⟨hz, hk⟩ := hF
  rw [h0] at hz hk
  exact ⟨by rw [e1]; exact hz, fun q h1 h2 => by rw [e1]; exact hk q h1 h2,
    ⟨Nat.le_trans hS.1 (by rw [e1]; exact hz), fun q h1 h2 => by rw [e1, hk q (Nat.lt_of_lt_of_le h1 hS.1) (fun z => h2 (hA q (Nat.lt_of_lt_of_le h1 hS.1) z))]; exact hS.2.1 q h1 h2, fun q hq => by
      rcases List.mem_append.mp hq with h | h
      · exact hS.2.2 q h
      · exact hf _ (hL q h)⟩⟩
theorem vx_calli {S SX : Type} {post : Int32 → S → Prop} {px : SX → Prop} {B : S → State → Prop} {BX : String → SX → State → Prop} {AX : Nat → Prop} (hr : vx_Run p l e R s m args below meth c H locs cells slots mc ms (F0 m pc ls st0) rest (va_Qi post B A1 a) (vx_X px BX AX) free) (hS : va_S A0 H0 H locs) (hA : ∀ q, q < H.size → A1 q → A0 q) (hf : ∀ q, free q → A0 q) (hAX : ∀ q, q < H.size → AX q → A0 q)
    (kx : ∀ (E : String) (ce : Cell) (q9 : Addr) (u : SX) (t : State) (H1 : Heap) (locs1 : List Loc), t.heap = H1 → s.vm.Alike t.vm → px u → BX E u t → H.size ≤ H1.size → (∀ q : Nat, q < H.size → ¬ AX q → H1[q]? = H[q]?) → va_S A0 H0 H1 locs1 → H1[q9]? = some ce → ce.vm = .none → s.vm.findClass E = some ce.cls → vx_W p l e R s m args below meth c H1 locs1 (cells + mc) (slots + ms) Q (F0 m pc ls rest) q9)
    (kk : ∀ (r : Int32) (u : S) (t : State) (H1 : Heap) (locs1 : List Loc), t.heap = H1 → s.vm.Alike t.vm → post r u → B u t → H.size ≤ H1.size → (∀ q : Nat, q < H.size → ¬ A1 q → H1[q]? = H[q]?) → va_S A0 H0 H1 locs1 → W p l e R s m args below meth c H1 locs1 (cells + mc) (slots + ms) Q (F0 m (pc + 3) ls (.int r :: rest))) : W p l e R s m args below meth c H locs cells slots Q (F0 m pc ls st0) := by
  intro T hT X
  rcases hr T hT X with ⟨v, st₀, t, T', L, h0, X', hL, e1, e2, ⟨⟨r, u, hv, hp, hb⟩, hF⟩, st⟩ | ⟨q, st₀, t, T', L, E, ce, h0, X', hL, e1, e2, ⟨u, hp, hb, hF⟩, hce, hcv, hcl, st⟩
  · cases hv
    obtain ⟨k1, k2, k3⟩ := vx_keep h0 e1 hS hA hf hL hF
    obtain ⟨t2, a1, b1⟩ := kk r u t T'.heap (locs ++ L) e1.symm (by rw [← e2]; exact X'.warmed.alike) hp hb k1 k2 k3 T' rfl X'
    exact ⟨t2, st t2 a1, b1⟩
  · obtain ⟨k1, k2, k3⟩ := vx_keep h0 e1 hS hAX hf hL hF
    obtain ⟨t2, a1, b1⟩ := kx E ce q u t T'.heap (locs ++ L) e1.symm (by rw [← e2]; exact X'.warmed.alike) hp hb k1 k2 k3 (by rw [e1]; exact hce) hcv hcl T' rfl X'
    exact ⟨t2, st.trans a1, b1⟩
theorem vx_calll {S SX : Type} {post : Int64 → S → Prop} {px : SX → Prop} {B : S → State → Prop} {BX : String → SX → State → Prop} {AX : Nat → Prop} (hr : vx_Run p l e R s m args below meth c H locs cells slots mc ms (F0 m pc ls st0) rest (va_Ql post B A1 a) (vx_X px BX AX) free) (hS : va_S A0 H0 H locs) (hA : ∀ q, q < H.size → A1 q → A0 q) (hf : ∀ q, free q → A0 q) (hAX : ∀ q, q < H.size → AX q → A0 q)
    (kx : ∀ (E : String) (ce : Cell) (q9 : Addr) (u : SX) (t : State) (H1 : Heap) (locs1 : List Loc), t.heap = H1 → s.vm.Alike t.vm → px u → BX E u t → H.size ≤ H1.size → (∀ q : Nat, q < H.size → ¬ AX q → H1[q]? = H[q]?) → va_S A0 H0 H1 locs1 → H1[q9]? = some ce → ce.vm = .none → s.vm.findClass E = some ce.cls → vx_W p l e R s m args below meth c H1 locs1 (cells + mc) (slots + ms) Q (F0 m pc ls rest) q9)
    (kk : ∀ (r : Int64) (u : S) (t : State) (H1 : Heap) (locs1 : List Loc), t.heap = H1 → s.vm.Alike t.vm → post r u → B u t → H.size ≤ H1.size → (∀ q : Nat, q < H.size → ¬ A1 q → H1[q]? = H[q]?) → va_S A0 H0 H1 locs1 → W p l e R s m args below meth c H1 locs1 (cells + mc) (slots + ms) Q (F0 m (pc + 3) ls (.long r :: rest))) : W p l e R s m args below meth c H locs cells slots Q (F0 m pc ls st0) := by
  intro T hT X
  rcases hr T hT X with ⟨v, st₀, t, T', L, h0, X', hL, e1, e2, ⟨⟨r, u, hv, hp, hb⟩, hF⟩, st⟩ | ⟨q, st₀, t, T', L, E, ce, h0, X', hL, e1, e2, ⟨u, hp, hb, hF⟩, hce, hcv, hcl, st⟩
  · cases hv
    obtain ⟨k1, k2, k3⟩ := vx_keep h0 e1 hS hA hf hL hF
    obtain ⟨t2, a1, b1⟩ := kk r u t T'.heap (locs ++ L) e1.symm (by rw [← e2]; exact X'.warmed.alike) hp hb k1 k2 k3 T' rfl X'
    exact ⟨t2, st t2 a1, b1⟩
  · obtain ⟨k1, k2, k3⟩ := vx_keep h0 e1 hS hAX hf hL hF
    obtain ⟨t2, a1, b1⟩ := kx E ce q u t T'.heap (locs ++ L) e1.symm (by rw [← e2]; exact X'.warmed.alike) hp hb k1 k2 k3 (by rw [e1]; exact hce) hcv hcl T' rfl X'
    exact ⟨t2, st.trans a1, b1⟩
theorem vx_callf {S SX : Type} {post : UInt32 → S → Prop} {px : SX → Prop} {B : S → State → Prop} {BX : String → SX → State → Prop} {AX : Nat → Prop} (hr : vx_Run p l e R s m args below meth c H locs cells slots mc ms (F0 m pc ls st0) rest (va_Qf post B A1 a) (vx_X px BX AX) free) (hS : va_S A0 H0 H locs) (hA : ∀ q, q < H.size → A1 q → A0 q) (hf : ∀ q, free q → A0 q) (hAX : ∀ q, q < H.size → AX q → A0 q)
    (kx : ∀ (E : String) (ce : Cell) (q9 : Addr) (u : SX) (t : State) (H1 : Heap) (locs1 : List Loc), t.heap = H1 → s.vm.Alike t.vm → px u → BX E u t → H.size ≤ H1.size → (∀ q : Nat, q < H.size → ¬ AX q → H1[q]? = H[q]?) → va_S A0 H0 H1 locs1 → H1[q9]? = some ce → ce.vm = .none → s.vm.findClass E = some ce.cls → vx_W p l e R s m args below meth c H1 locs1 (cells + mc) (slots + ms) Q (F0 m pc ls rest) q9)
    (kk : ∀ (r : UInt32) (u : S) (t : State) (H1 : Heap) (locs1 : List Loc), t.heap = H1 → s.vm.Alike t.vm → post r u → B u t → H.size ≤ H1.size → (∀ q : Nat, q < H.size → ¬ A1 q → H1[q]? = H[q]?) → va_S A0 H0 H1 locs1 → W p l e R s m args below meth c H1 locs1 (cells + mc) (slots + ms) Q (F0 m (pc + 3) ls (.float r :: rest))) : W p l e R s m args below meth c H locs cells slots Q (F0 m pc ls st0) := by
  intro T hT X
  rcases hr T hT X with ⟨v, st₀, t, T', L, h0, X', hL, e1, e2, ⟨⟨r, u, hv, hp, hb⟩, hF⟩, st⟩ | ⟨q, st₀, t, T', L, E, ce, h0, X', hL, e1, e2, ⟨u, hp, hb, hF⟩, hce, hcv, hcl, st⟩
  · cases hv
    obtain ⟨k1, k2, k3⟩ := vx_keep h0 e1 hS hA hf hL hF
    obtain ⟨t2, a1, b1⟩ := kk r u t T'.heap (locs ++ L) e1.symm (by rw [← e2]; exact X'.warmed.alike) hp hb k1 k2 k3 T' rfl X'
    exact ⟨t2, st t2 a1, b1⟩
  · obtain ⟨k1, k2, k3⟩ := vx_keep h0 e1 hS hAX hf hL hF
    obtain ⟨t2, a1, b1⟩ := kx E ce q u t T'.heap (locs ++ L) e1.symm (by rw [← e2]; exact X'.warmed.alike) hp hb k1 k2 k3 (by rw [e1]; exact hce) hcv hcl T' rfl X'
    exact ⟨t2, st.trans a1, b1⟩
theorem vx_calld {S SX : Type} {post : UInt64 → S → Prop} {px : SX → Prop} {B : S → State → Prop} {BX : String → SX → State → Prop} {AX : Nat → Prop} (hr : vx_Run p l e R s m args below meth c H locs cells slots mc ms (F0 m pc ls st0) rest (va_Qd post B A1 a) (vx_X px BX AX) free) (hS : va_S A0 H0 H locs) (hA : ∀ q, q < H.size → A1 q → A0 q) (hf : ∀ q, free q → A0 q) (hAX : ∀ q, q < H.size → AX q → A0 q)
    (kx : ∀ (E : String) (ce : Cell) (q9 : Addr) (u : SX) (t : State) (H1 : Heap) (locs1 : List Loc), t.heap = H1 → s.vm.Alike t.vm → px u → BX E u t → H.size ≤ H1.size → (∀ q : Nat, q < H.size → ¬ AX q → H1[q]? = H[q]?) → va_S A0 H0 H1 locs1 → H1[q9]? = some ce → ce.vm = .none → s.vm.findClass E = some ce.cls → vx_W p l e R s m args below meth c H1 locs1 (cells + mc) (slots + ms) Q (F0 m pc ls rest) q9)
    (kk : ∀ (r : UInt64) (u : S) (t : State) (H1 : Heap) (locs1 : List Loc), t.heap = H1 → s.vm.Alike t.vm → post r u → B u t → H.size ≤ H1.size → (∀ q : Nat, q < H.size → ¬ A1 q → H1[q]? = H[q]?) → va_S A0 H0 H1 locs1 → W p l e R s m args below meth c H1 locs1 (cells + mc) (slots + ms) Q (F0 m (pc + 3) ls (.double r :: rest))) : W p l e R s m args below meth c H locs cells slots Q (F0 m pc ls st0) := by
  intro T hT X
  rcases hr T hT X with ⟨v, st₀, t, T', L, h0, X', hL, e1, e2, ⟨⟨r, u, hv, hp, hb⟩, hF⟩, st⟩ | ⟨q, st₀, t, T', L, E, ce, h0, X', hL, e1, e2, ⟨u, hp, hb, hF⟩, hce, hcv, hcl, st⟩
  · cases hv
    obtain ⟨k1, k2, k3⟩ := vx_keep h0 e1 hS hA hf hL hF
    obtain ⟨t2, a1, b1⟩ := kk r u t T'.heap (locs ++ L) e1.symm (by rw [← e2]; exact X'.warmed.alike) hp hb k1 k2 k3 T' rfl X'
    exact ⟨t2, st t2 a1, b1⟩
  · obtain ⟨k1, k2, k3⟩ := vx_keep h0 e1 hS hAX hf hL hF
    obtain ⟨t2, a1, b1⟩ := kx E ce q u t T'.heap (locs ++ L) e1.symm (by rw [← e2]; exact X'.warmed.alike) hp hb k1 k2 k3 (by rw [e1]; exact hce) hcv hcl T' rfl X'
    exact ⟨t2, st.trans a1, b1⟩
theorem vx_callv {S SX : Type} {post : S → Prop} {px : SX → Prop} {B : S → State → Prop} {BX : String → SX → State → Prop} {AX : Nat → Prop} (hr : vx_Run p l e R s m args below meth c H locs cells slots mc ms (F0 m pc ls st0) rest (va_Qv post B A1 a) (vx_X px BX AX) free) (hS : va_S A0 H0 H locs) (hA : ∀ q, q < H.size → A1 q → A0 q) (hf : ∀ q, free q → A0 q) (hAX : ∀ q, q < H.size → AX q → A0 q)
    (kx : ∀ (E : String) (ce : Cell) (q9 : Addr) (u : SX) (t : State) (H1 : Heap) (locs1 : List Loc), t.heap = H1 → s.vm.Alike t.vm → px u → BX E u t → H.size ≤ H1.size → (∀ q : Nat, q < H.size → ¬ AX q → H1[q]? = H[q]?) → va_S A0 H0 H1 locs1 → H1[q9]? = some ce → ce.vm = .none → s.vm.findClass E = some ce.cls → vx_W p l e R s m args below meth c H1 locs1 (cells + mc) (slots + ms) Q (F0 m pc ls rest) q9)
    (kk : ∀ (u : S) (t : State) (H1 : Heap) (locs1 : List Loc), t.heap = H1 → s.vm.Alike t.vm → post u → B u t → H.size ≤ H1.size → (∀ q : Nat, q < H.size → ¬ A1 q → H1[q]? = H[q]?) → va_S A0 H0 H1 locs1 → W p l e R s m args below meth c H1 locs1 (cells + mc) (slots + ms) Q (F0 m (pc + 3) ls (rest))) : W p l e R s m args below meth c H locs cells slots Q (F0 m pc ls st0) := by
  intro T hT X
  rcases hr T hT X with ⟨v, st₀, t, T', L, h0, X', hL, e1, e2, ⟨⟨u, hv, hp, hb⟩, hF⟩, st⟩ | ⟨q, st₀, t, T', L, E, ce, h0, X', hL, e1, e2, ⟨u, hp, hb, hF⟩, hce, hcv, hcl, st⟩
  · cases hv
    obtain ⟨k1, k2, k3⟩ := vx_keep h0 e1 hS hA hf hL hF
    obtain ⟨t2, a1, b1⟩ := kk u t T'.heap (locs ++ L) e1.symm (by rw [← e2]; exact X'.warmed.alike) hp hb k1 k2 k3 T' rfl X'
    exact ⟨t2, st t2 a1, b1⟩
  · obtain ⟨k1, k2, k3⟩ := vx_keep h0 e1 hS hAX hf hL hF
    obtain ⟨t2, a1, b1⟩ := kx E ce q u t T'.heap (locs ++ L) e1.symm (by rw [← e2]; exact X'.warmed.alike) hp hb k1 k2 k3 (by rw [e1]; exact hce) hcv hcl T' rfl X'
    exact ⟨t2, st.trans a1, b1⟩
/-- caught by the row x of this method's table; the rows ahead don't take it -/
theorem vx_catch {own name : String} {E : String} {ce : Cell} {q : Addr} (hown : s.vm.findClass own = some m.cls) (pre : List ExceptionTableEntry) (x : ExceptionTableEntry) (suf : List ExceptionTableEntry) (hsplit : c.exceptionTable.toList = pre ++ x :: suf)
    (hpass : ∀ z ∈ pre, covers z pc = false ∨ (z.catchType ≠ 0 ∧ ∃ nm : String, (Cond.classLink own z.catchType nm).before args s = true ∧ va_Nc E nm s)) (hx : covers x pc = true) (h0 : x.catchType ≠ 0)
    (hlink : (Cond.classLink own x.catchType name).before args s = true) (hcast : (Cond.castable E name).before args s = true) (hcell : H[q]? = some ce) (hv : ce.vm = .none) (hcl : s.vm.findClass E = some ce.cls)
    (kk : W p l e R s m args below meth c H locs cells slots Q (F0 m x.handlerPc ls [.ref q])) : vx_W p l e R s m args below meth c H locs cells slots Q (F0 m pc ls rest) q := by
  intro T hT X
  have hpl : e.platform.magicAccessors = ({} : Platform).magicAccessors := by rw [X.admits.platform]
  obtain ⟨c3, c4, hc3, hc4, hasg⟩ := Cond.castable_spec hcast
  cases Option.some.inj (hc3.symm.trans hcl)
  obtain ⟨c5, hc5, hcl5⟩ := Cond.classLink_spec hown hlink e.platform hpl
  cases Option.some.inj (hc4.symm.trans hc5)
  obtain ⟨vm', X', st⟩ := X.thenCaughtThrough q (g := F0 m pc ls rest) rfl (Steps.refl _) (by rw [hT]; exact hcell) (by rw [hv]; rfl) (by obtain ⟨k9, h9, -⟩ := Vm.findClass_spec hcl; exact ⟨k9, h9⟩) pre x suf hsplit
    (fun z hz => by
      rcases hpass z hz with h | ⟨hz0, nm, hl1, hn1⟩
      · exact Or.inl h
      · obtain ⟨c6, hc6, hcl6⟩ := Cond.classLink_spec hown hl1 e.platform hpl
        obtain ⟨a8, b8, h1, h2, h3⟩ := hn1
        cases Option.some.inj (h1.symm.trans hcl)
        cases Option.some.inj (h2.symm.trans hc6)
        exact Or.inr ⟨hz0, _, hcl6, h3⟩) hx (Or.inr ⟨h0, c4, hcl5, hasg⟩)
  obtain ⟨t, a1, b1⟩ := kk (T.setVm vm') hT X'
  exact ⟨t, st.trans a1, b1⟩
end Rows
section Ends
variable {p : Program} {l : Launch} {e : Env} {R : Room} {s : State} {m : MethodId} {args : Array Value} {below : List Frame} {meth : Method} {c : Code} {H : Heap} {locs : List Loc} {cells slots : Nat} {Q : State → Prop}
variable {mc ms : Nat} {free : Addr → Prop} {A0 A1 : Nat → Prop} {H0 : Heap} {a : Array Value} {ls : Array Slot} {st0 rest : List Value}
variable {Qc : Array Value → State → Outcome → State → Prop} {XC : String → State → State → Prop}
/-- what a body that may throw owes at its end -/
def vx_MQ (below : List Frame) (Qc : Array Value → State → Outcome → State → Prop) (XC : String → State → State → Prop) (a : Array Value) (s : State) (mc ms : Nat) (free : Addr → Prop) : State → Prop := fun t =>
  ∃ o, t.status = .running ∧ Ended t below o ∧ vx_Q Qc XC mc ms free a s o t
theorem vx_ret {g : JFrame} {mc ms : Nat} (k : W p l e R s m args below meth c H locs cells slots (MQ below Qc args s mc ms free) g) : W p l e R s m args below meth c H locs cells slots (vx_MQ below Qc XC args s mc ms free) g := by
  intro T hT X
  obtain ⟨t, a1, o, b1, b2, b3, b4⟩ := k T hT X
  exact ⟨t, a1, o, b1, b2, Or.inl ⟨b3, b4⟩⟩
/-- not caught here: it goes on to the caller -/
theorem vx_widen {g : JFrame} {q : Addr} {k n : Nat} (h1 : cells ≤ k) (h2 : slots ≤ n) (kk : vx_W p l e R s m args below meth c H locs k n Q g q) : vx_W p l e R s m args below meth c H locs cells slots Q g q := fun T hT X => kk T hT (stand_widen X h1 h2)
theorem vx_out {pc : Nat} {E : String} {ce : Cell} {q : Addr} {mc ms : Nat} (hout : ∀ x ∈ c.exceptionTable.toList, covers x pc = false) (hlocks : meth.locks = false) (hcell : H[q]? = some ce) (hv : ce.vm = .none) (hcl : s.vm.findClass E = some ce.cls)
    (hx : ∀ t : State, t.heap = H → s.vm.Alike t.vm → XC E s t) (hf : ∀ z ∈ locs, free z.base) (hc : cells ≤ mc) (hs : slots ≤ ms) :
    vx_W p l e R s m args below meth c H locs cells slots (vx_MQ below Qc XC args s mc ms free) (F0 m pc ls rest) q := by
  intro T hT X
  obtain ⟨st1, hrun, hend, hW, hsm⟩ := X.leaveThrown q (g := F0 m pc ls rest) rfl rfl rfl hout hlocks
  have hcell9 : (T.setFrames (.throwing q :: below)).heap[q]? = some ce := by
    show T.heap[q]? = some ce
    rw [hT]; exact hcell
  exact ⟨_, st1, .threw q, hrun, hend, Or.inr ⟨q, rfl, E, ce, locs, hx _ hT hW.alike, hcell9, hv, hcl, hW, hsm.mono hc hs, hf⟩⟩
theorem vx_frame {U : State} {k n : Nat} (h : s.sameButNew ({ U with vm := s.vm } : State) locs k n) : s.heap.size ≤ U.heap.size ∧ ∀ q : Nat, q < s.heap.size → (∀ z ∈ locs, z.base ≠ q) → U.heap[q]? = s.heap[q]? := by
  obtain ⟨-, h2, -, -, -, h6⟩ := h
  refine ⟨h2, fun q hq hz => ?_⟩
  obtain ⟨c9, e1, e2, e3, e4⟩ := h6 q _ (Array.getElem?_eq_getElem hq)
  have hs : c9.slots = (s.heap[q]).slots := Array.ext_getElem? fun i => e4 i fun hm => hz _ hm rfl
  have h9 : c9 = s.heap[q] := by
    rw [hs] at e2
    exact e2
  have e5 : U.heap[q]? = some c9 := e1
  rw [e5, h9, Array.getElem?_eq_getElem hq]
/-- the words of a throw but the four that speak of the heap -/
def vx_no (w : Cond) : Bool := decide (w ≠ .isRef (.static Bundle.tN "UNASSIGNED_STACK" Bundle.steD)) && decide (w ≠ .isRef (.static Bundle.tN "SUPPRESSED_SENTINEL" Bundle.listD)) && decide (w ≠ .laysStatic Bundle.tN "UNASSIGNED_STACK" Bundle.steD) && decide (w ≠ .laysStatic Bundle.tN "SUPPRESSED_SENTINEL" Bundle.listD)
def vx_at0 (own : String) (ic : Nat) (X : String) (names : List String) : List Cond := (Bundle.ownAtoms0 own ic X names).filter vx_no
def vx_atS (own : String) (ic : Nat) (X : String) (names : List String) : List Cond := (Bundle.ownAtoms own ic X names).filter vx_no
/-- a word that the tables alone decide, or a good one -/
def vx_ot (w : Cond) : Bool := w.onTables || goodWord w
theorem vx_ot_at {args a' : Array Value} {s U : State} {w : Cond} (hW : s.WarmedH U.vm) (hvm : s.vm = U.vm) (hg : vx_ot w = true) (h : w.before args s = true) : w.before a' U = true := by
  simp only [vx_ot, Bool.or_eq_true] at hg
  rcases hg with hg | hg
  · exact va_tabs hg hvm h
  · exact word_at hW (good_of_word hg) h
/-- a list's words: the good ones out of the method's own list, the others by premises of their own -/
theorem vx_hat {args : Array Value} {s : State} {L B : List Cond} (h1 : ∀ w ∈ L.filter goodWord, w.before args s = true) (h2 : ∀ w ∈ L.filter (fun w => !goodWord w), w ∈ B) (h3 : ∀ w ∈ B, w.before args s = true) : ∀ w ∈ L, w.before args s = true := by
  intro w hw
  by_cases g : goodWord w = true
  · exact h1 w (List.mem_filter.mpr ⟨hw, g⟩)
  · refine h3 w (h2 w (List.mem_filter.mpr ⟨hw, ?_⟩))
    show (!goodWord w) = true
    cases hgw : goodWord w
    · rfl
    · exact absurd hgw g
theorem vx_c {args : Array Value} {s : State} {w : Cond} {B : List Cond} (h : w.before args s = true) (t : ∀ w ∈ B, w.before args s = true) : ∀ w' ∈ w :: B, w'.before args s = true := fun w' h' => (List.mem_cons.mp h').elim (fun e => by rw [e]; exact h) (t w')
theorem vx_n {args : Array Value} {s : State} : ∀ w ∈ ([] : List Cond), w.before args s = true := fun _ h => nomatch h
theorem vx_own {args : Array Value} {s : State} {L : List Cond} (h1 : ∀ w ∈ L.filter vx_no, w.before args s = true)
    (hU : (Cond.isRef (.static Bundle.tN "UNASSIGNED_STACK" Bundle.steD)).before args s = true) (hN : (Cond.isRef (.static Bundle.tN "SUPPRESSED_SENTINEL" Bundle.listD)).before args s = true)
    (lU : (Cond.laysStatic Bundle.tN "UNASSIGNED_STACK" Bundle.steD).before args s = true) (lN : (Cond.laysStatic Bundle.tN "SUPPRESSED_SENTINEL" Bundle.listD).before args s = true) : ∀ w ∈ L, w.before args s = true := by
  intro w hw
  by_cases e1 : w = .isRef (.static Bundle.tN "UNASSIGNED_STACK" Bundle.steD)
  · rw [e1]; exact hU
  · by_cases e2 : w = .isRef (.static Bundle.tN "SUPPRESSED_SENTINEL" Bundle.listD)
    · rw [e2]; exact hN
    · by_cases e3 : w = .laysStatic Bundle.tN "UNASSIGNED_STACK" Bundle.steD
      · rw [e3]; exact lU
      · by_cases e4 : w = .laysStatic Bundle.tN "SUPPRESSED_SENTINEL" Bundle.listD
        · rw [e4]; exact lN
        · exact h1 w (List.mem_filter.mpr ⟨hw, by unfold vx_no; rw [decide_eq_true e1, decide_eq_true e2, decide_eq_true e3, decide_eq_true e4]; rfl⟩)
/-- where a static field lies, its class's statics cell in H -/
def vx_L (C n d : String) (A : Nat → Prop) (U : State) (H : Heap) : Prop := ∃ (c : ClassId) (k : Class) (i : Nat) (f : Field) (a : Nat) (cell : Cell), U.vm.findClass C = some c ∧ U.fieldFound? C n d = some (c, k, i, f) ∧ f.isStatic = true ∧ k.statics = some a ∧ H[a]? = some cell ∧ cell.vm.isStatics = true ∧ cell.cls = c ∧ f.slot < cell.slots.size ∧ k.staticTypes[f.slot]? = some f.type ∧ ¬ A a
theorem vx_L.moved {C n d : String} {A : Nat → Prop} {u U : State} {H : Heap} (hvm : u.vm.Alike U.vm) (h : vx_L C n d A u H) : vx_L C n d A U H := by
  obtain ⟨c, k, i, f, a, cell, h1, h2, h3, h4, h5, h6, h7, h8, h9, h10⟩ := h
  obtain ⟨k', hi', he⟩ := State.fieldFound?_setVm hvm h2
  exact ⟨c, k', i, f, a, cell, by rw [hvm.findClass]; exact h1, hi', h3, by rw [he]; exact h4, h5, h6, h7, h8, by rw [he]; exact h9, h10⟩
theorem vx_L.kept {C n d : String} {A : Nat → Prop} {U : State} {H H1 : Heap} (h : vx_L C n d A U H) (hq : ∀ a : Nat, a < H.size → ¬ A a → H1[a]? = H[a]?) : vx_L C n d A U H1 := by
  obtain ⟨c, k, i, f, a, cell, h1, h2, h3, h4, h5, h6, h7, h8, h9, h10⟩ := h
  exact ⟨c, k, i, f, a, cell, h1, h2, h3, h4, by rw [hq a (Array.getElem?_eq_some_iff.mp h5).1 h10]; exact h5, h6, h7, h8, h9, h10⟩
theorem vx_L.narrow {C n d : String} {A B : Nat → Prop} {U : State} {H : Heap} (h : vx_L C n d A U H) (hAB : ∀ q, B q → A q) : vx_L C n d B U H := by
  obtain ⟨c, k, i, f, a, cell, h1, h2, h3, h4, h5, h6, h7, h8, h9, h10⟩ := h
  exact ⟨c, k, i, f, a, cell, h1, h2, h3, h4, h5, h6, h7, h8, h9, fun z => h10 (hAB _ z)⟩
theorem vx_L.word {C n d : String} {A : Nat → Prop} {s : State} {args : Array Value} (h : vx_L C n d A s s.heap) : (Cond.laysStatic C n d).before args s = true := by
  obtain ⟨c, k, i, f, a, cell, h1, h2, h3, h4, h5, h6, h7, h8, h9, -⟩ := h
  show (Cond.laysStatic C n d).holds args s none s [] = true
  exact Cond.laysStatic_of h1 h2 h3 h4 h5 h6 h7 h8 h9
/-- .. and what it holds: null or some reference -/
def vx_Zq (C n d : String) (A : Nat → Prop) (U : State) (H : Heap) : Prop := va_Zq C n d A U H ∧ vx_L C n d A U H
theorem vx_Zq.moved {C n d : String} {A : Nat → Prop} {u U : State} {H : Heap} (hvm : u.vm.Alike U.vm) (h : vx_Zq C n d A u H) : vx_Zq C n d A U H := ⟨va_Zq.moved hvm h.1, vx_L.moved hvm h.2⟩
theorem vx_Zq.kept {C n d : String} {A : Nat → Prop} {U : State} {H H1 : Heap} (h : vx_Zq C n d A U H) (hq : ∀ a : Nat, a < H.size → ¬ A a → H1[a]? = H[a]?) : vx_Zq C n d A U H1 := ⟨va_Zq.kept h.1 hq, vx_L.kept h.2 hq⟩
theorem vx_Zq.narrow {C n d : String} {A B : Nat → Prop} {U : State} {H : Heap} (h : vx_Zq C n d A U H) (hAB : ∀ q, B q → A q) : vx_Zq C n d B U H := ⟨va_Zq.narrow h.1 hAB, vx_L.narrow h.2 hAB⟩
theorem vx_Zqof {args : Array Value} {s : State} {C n d : String} {A : Nat → Prop} (hl : (Cond.laysStatic C n d).before args s = true) (hini : (Cond.initialized C).before args s = true) (h : (Cond.isRef (.static C n d)).before args s = true) (hA : ∀ a : Nat, a < s.heap.size → ¬ A a) : vx_Zq C n d A s s.heap := by
  refine ⟨va_Zqof hl hini h hA, ?_⟩
  obtain ⟨c, k, i, f, a, cell, h1, h2, h3, h4, h5, h6, h7, h8, h9⟩ := Cond.laysStatic_spec hl
  exact ⟨c, k, i, f, a, cell, h1, h2, h3, h4, h5, h6, h7, h8, h9, hA a (Array.getElem?_eq_some_iff.mp h5).1⟩
theorem vx_isRef {C n d : String} {v : Value} {A : Nat → Prop} {s : State} {args : Array Value} (h : va_Z C n d v A s s.heap) (hv : v.isRef = true) : (Cond.isRef (.static C n d)).before args s = true := by
  obtain ⟨cf, kf, fi, f, a, cell, h1, h2, h3, h4, h5, h6, h7, -⟩ := h
  have he : (Term.static C n d).eval args s none [] s = some v := by
    simp [Term.eval, State.fieldNamed?, h1, h2, h4, h5, h6, h7]
  simp only [Cond.before, Cond.holds, Cond.value, he]
  cases v <;> simp_all [Value.isRef]
theorem vx_isRefq {C n d : String} {A : Nat → Prop} {s : State} {args : Array Value} (h : va_Zq C n d A s s.heap) : (Cond.isRef (.static C n d)).before args s = true := by
  rcases h with h | ⟨t, h⟩
  · exact vx_isRef h rfl
  · exact vx_isRef h rfl
/-- the same frame, seen from here: as if the method were called anew in this heap -/
theorem vx_rebase {T : State} (X : Stand p l e R s m args below meth c T locs cells slots) {R' : Room} (hf : R'.frames ≤ R.frames) (hl : R'.locals ≤ R.locals) (hc : cells + R'.cells ≤ R.cells) (hs : slots + R'.slots ≤ R.slots) :
    Stand p l e R' ((T.setVm s.vm).setFrames (.invoking m args :: below)) m args below meth c T [] 0 0 := by
  have htop : (T.setVm s.vm).topJava?.isSome := X.here.top
  have hF : ((T.setVm s.vm).setFrames (.invoking m args :: below)).frames = .invoking m args :: below := State.frames_setFrames _ (State.cur_lt_of_top htop)
  obtain ⟨g₀, hg0⟩ := Option.isSome_iff_exists.mp htop
  obtain ⟨r, hr⟩ := State.topJava?_eq_some.mp hg0
  have hl9 : e.platform.stackLimits (T.setVm s.vm).me = e.platform.stackLimits s.me := X.limits
  have hb9 : (T.setVm s.vm).me.stackBytes = s.me.stackBytes := X.bytes
  refine ⟨X.admits, X.cas, X.clock, hF, ?_, X.hears, X.method, X.code, X.here, X.tail, X.warmed, ?_, ?_, ?_⟩
  · have h := X.room
    have hU : ((T.setVm s.vm).setFrames (.invoking m args :: below)).localsInUse = s.localsInUse := by
      rw [State.localsInUse_invoking hF (meth := meth) (c := c) X.method X.code, State.localsInUse_invoking X.frames X.method X.code]
    simp only [State.hasRoom, Bool.and_eq_true, decide_eq_true_eq] at h ⊢
    obtain ⟨⟨⟨⟨h1, h2, h3, h4, h5, h6⟩, h7⟩, h8⟩, h9⟩ := h
    rw [X.frames, List.length_cons] at h2 h3
    have q1 := X.heapSize
    have q2 := X.used
    simp only [hF, hU, List.length_cons, State.stackLimits_setFrames, State.stackBytes_setFrames, hl9, hb9]
    refine ⟨⟨⟨⟨by omega, by omega, by omega, by omega, by omega, h6⟩, ?_⟩, ?_⟩, X.book⟩
    · show T.heap.size + R'.cells ≤ e.platform.maxCells
      omega
    · show T.slotsUsed + R'.slots ≤ e.platform.maxSlots
      omega
  · rw [State.stackLimits_setFrames]; rfl
  · rw [State.stackBytes_setFrames]; rfl
  · refine ⟨?_, Nat.le_refl _, Nat.le_refl _, ?_, ?_, fun a c9 h9 => ⟨c9, h9, rfl, rfl, fun _ _ => rfl⟩⟩
    · obtain ⟨t, ht, -⟩ := State.frames_cons hr
      show T.setVm s.vm = { ((T.setVm s.vm).setFrames (.invoking m args :: below)).setFrames (T.setVm s.vm).frames with heap := T.heap, slotsUsed := T.slotsUsed }
      rw [State.setFrames_setFrames, State.setFrames_self ht]
      rfl
    · show T.slotsUsed = T.slotsUsed + ((T.heap.toList.drop T.heap.size).map (·.slots.size)).sum
      rw [List.drop_eq_nil_of_le (Nat.le_of_eq Array.length_toList)]
      rfl
    · show ((T.heap.toList.drop T.heap.size).map (·.slots.size)).sum ≤ 0
      rw [List.drop_eq_nil_of_le (Nat.le_of_eq Array.length_toList)]
      exact Nat.le_refl _
/-- 'throw new E()': new; dup; invokespecial; athrow -/
theorem vx_throw0 {cc : ByteArray} {pc : Nat} (hexec : p.tables.exec = Jvm.exec) (hb : c.code = cc) (hl : l.stackTraces = false) {own cls : String} {names : List String} {ik ic mc ms : Nat} {A : Nat → Prop}
    (hown : s.vm.findClass own = some m.cls) (hcls : Bundle.fit cls = true) (hnames : ∀ n ∈ names, Bundle.fit n = true)
    (hk : (Cond.classLink own ik cls).before args s = true) (hini : (Cond.initialized cls).before args s = true) (hat : ∀ w ∈ vx_at0 own ic cls names, w.before args s = true)
    (hgood : ∀ w ∈ Cond.classLink own ik cls :: Cond.initialized cls :: vx_at0 own ic cls names, vx_ot w = true)
    (hU : vx_Zq Bundle.tN "UNASSIGNED_STACK" Bundle.steD A s s.heap) (hN : vx_Zq Bundle.tN "SUPPRESSED_SENTINEL" Bundle.listD A s s.heap) (hS : va_S A s.heap H locs) (hsize : ls.size = c.maxLocals)
    (d0 : decode cc pc = .ok (.new ik, 3)) (d3 : decode cc (pc + 3) = .ok (.dup, 1)) (d4 : decode cc (pc + 4) = .ok (.invokespecial ic, 3)) (d7 : decode cc (pc + 7) = .ok (.athrow, 1))
    (hout : ∀ x ∈ c.exceptionTable.toList, covers x (pc + 7) = false)
    (hRframes : names.length + 3 < R.frames) (hRlocals : (rest.map fun v => v.category).sum + (13 * (names.length + 1) + 42) ≤ R.locals) (hRcells : cells + 1 ≤ R.cells) (hRslots : slots + 6 ≤ R.slots) (hlocks : meth.locks = false)
    (hx : ∀ t : State, s.vm.Alike t.vm → H.size ≤ t.heap.size → (∀ q : Nat, q < H.size → t.heap[q]? = H[q]?) → XC cls s t)
    (hf : ∀ z ∈ locs, free z.base) (hc : cells + 1 ≤ mc) (hs : slots + 6 ≤ ms) :
    W p l e R s m args below meth c H locs cells slots (vx_MQ below Qc XC args s mc ms free) (F0 m pc ls rest) := by
  intro T hT X
  have htr : e.platform.stackTraces = false := (show e.platform.stackTraces = l.stackTraces by rw [X.admits.platform]).trans hl
  have Y := vx_rebase X (R' := { frames := R.frames, locals := R.locals, cells := 1, slots := 6 }) (Nat.le_refl _) (Nat.le_refl _) hRcells hRslots
  obtain ⟨s', hA⟩ : ∃ z, z = (T.setVm s.vm).setFrames (.invoking m args :: below) := ⟨_, rfl⟩
  rw [← hA] at Y
  have hvm : s'.vm = s.vm := by rw [hA]; rfl
  have hhp : s'.heap = H := by rw [hA]; exact hT
  have hW0 : s.WarmedH s'.vm := by rw [hvm]; exact State.WarmedH.refl s
  have hat' : ∀ w ∈ vx_at0 own ic cls names, w.before args s' = true := fun w hw => vx_ot_at hW0 hvm.symm (hgood w (List.mem_cons_of_mem _ (List.mem_cons_of_mem _ hw))) (hat w hw)
  have hk' : (Cond.classLink own ik cls).before args s' = true := vx_ot_at hW0 hvm.symm (hgood _ List.mem_cons_self) hk
  have hini' : (Cond.initialized cls).before args s' = true := vx_ot_at hW0 hvm.symm (hgood _ (List.mem_cons_of_mem _ List.mem_cons_self)) hini
  have hU' : vx_Zq Bundle.tN "UNASSIGNED_STACK" Bundle.steD A s' s'.heap := by rw [hhp]; exact vx_Zq.moved hW0.alike (hU.kept hS.2.1)
  have hN' : vx_Zq Bundle.tN "SUPPRESSED_SENTINEL" Bundle.listD A s' s'.heap := by rw [hhp]; exact vx_Zq.moved hW0.alike (hN.kept hS.2.1)
  have h : ∀ w ∈ Bundle.ownAtoms0 own ic cls names, w.before args s' = true := vx_own hat' (vx_isRefq hU'.1) (vx_isRefq hN'.1) hU'.2.word hN'.2.word
  have hown' : s'.vm.findClass own = some m.cls := by rw [hvm]; exact hown
  have hins : (Cond.instantiable cls 6).before args s' = true := h _ (by simp [Bundle.ownAtoms0])
  obtain ⟨vm₁, cX, kX, hfX, hkX, -, -, X₁, st1⟩ := Y.newCold hexec (own := own) (C := cls) (index := ik) (n := 6) hown' hk' hins hini'
    (g := F0 m pc ls rest) rfl (by rw [hb]; exact d0) (Nat.le_refl _) (Nat.le_refl _)
  generalize hT1 : (T.setVm vm₁).pushCell { cls := cX, slots := kX.instanceTypes.map defaultValue, vm := .none } = T1 at X₁ st1
  have hcat : (Value.ref T.heap.size).category = 1 := rfl
  have hcellA : T1.heap[T.heap.size]? = some (freshCell cX kX) := by rw [← hT1]; exact State.heap_pushCell_size _ _
  have d3' : decode c.code (pc + 3) = .ok (.dup, 1) := by rw [hb]; exact d3
  obtain ⟨U, hsteps, hrun, hend, hW, hsame, ce, hce, hO⟩ := X₁.ctorThrow0 hexec htr (own := own) (cls := cls) (names := names) (ic := ic) hown' hcls hnames h (fun x hx => nomatch hx) hfX hkX hcellA (by rw [hhp, hT]; exact Nat.le_refl _)
    (g := { method := m, pc := pc + 4, locals := ls, stack := .ref T.heap.size :: .ref T.heap.size :: rest, locked := none }) rfl hsize rfl rfl (rest := rest) rfl
    (by rw [hb]; exact d4) (by rw [hb]; exact d7) hout hRframes (by simp only [List.map_cons, List.sum_cons, hcat]; omega) hlocks
  obtain ⟨f1, f2⟩ := vx_frame hsame
  rw [hhp] at f1 f2
  have hWs : s.WarmedH U.vm := State.WarmedH.trans hW0 hW
  have hcl : s.vm.findClass cls = some ce.cls := by
    have h9 := hO.cls
    rw [hvm] at h9
    exact h9
  have hall : s.sameButNew ({ U with vm := s.vm } : State) locs mc ms := by
    subst hA
    obtain ⟨e1, e2⟩ := hsame
    rw [State.setFrames_setFrames] at e1
    have h2 : (T.setVm s.vm).sameButNew ({ U with vm := s.vm } : State) [] (0 + 1) (0 + 6) := ⟨e1, e2⟩
    have h3 := X.same.trans h2
    rw [List.append_nil] at h3
    exact h3.mono hc hs
  refine ⟨U, ?_, .threw T.heap.size, hrun, hend, Or.inr ⟨T.heap.size, rfl, cls, ce, locs, hx U hWs.alike f1 (fun q hq => f2 q hq (fun z hz => nomatch hz)), hce, hO.vm, hcl, hWs, hall, hf⟩⟩
  refine st1 _ ?_
  show Steps p.tables e below (T1.setTop { method := m, pc := pc + 3, locals := ls, stack := .ref T.heap.size :: rest, locked := none }) _
  jvm_step X₁.here [X₁.here.top, hexec, d3', Value.category]
  exact hsteps
/-- 'throw new E("text")': new; dup; ldc; invokespecial; athrow -/
theorem vx_throwS {cc : ByteArray} {pc : Nat} (hexec : p.tables.exec = Jvm.exec) (hb : c.code = cc) (hl : l.stackTraces = false) {own cls text : String} {names : List String} {ik is ic mc ms sa : Nat} {A : Nat → Prop}
    (hown : s.vm.findClass own = some m.cls) (hcls : Bundle.fit cls = true) (hnames : ∀ n ∈ names, Bundle.fit n = true)
    (hk : (Cond.classLink own ik cls).before args s = true) (hini : (Cond.initialized cls).before args s = true) (hstr : vk_R own is text sa s) (hat : ∀ w ∈ vx_atS own ic cls names, w.before args s = true)
    (hgood : ∀ w ∈ Cond.classLink own ik cls :: Cond.initialized cls :: vx_atS own ic cls names, vx_ot w = true)
    (hU : vx_Zq Bundle.tN "UNASSIGNED_STACK" Bundle.steD A s s.heap) (hN : vx_Zq Bundle.tN "SUPPRESSED_SENTINEL" Bundle.listD A s s.heap) (hS : va_S A s.heap H locs) (hsize : ls.size = c.maxLocals)
    (d0 : decode cc pc = .ok (.new ik, 3)) (d3 : decode cc (pc + 3) = .ok (.dup, 1)) (d4 : decode cc (pc + 4) = .ok (.ldc is, 2)) (d6 : decode cc (pc + 6) = .ok (.invokespecial ic, 3)) (d9 : decode cc (pc + 9) = .ok (.athrow, 1))
    (hout : ∀ x ∈ c.exceptionTable.toList, covers x (pc + 9) = false)
    (hRframes : names.length + 3 < R.frames) (hRlocals : (rest.map fun v => v.category).sum + (13 * (names.length + 1) + 43) ≤ R.locals) (hRcells : cells + 1 ≤ R.cells) (hRslots : slots + 6 ≤ R.slots) (hlocks : meth.locks = false)
    (hx : ∀ t : State, s.vm.Alike t.vm → H.size ≤ t.heap.size → (∀ q : Nat, q < H.size → t.heap[q]? = H[q]?) → XC cls s t)
    (hf : ∀ z ∈ locs, free z.base) (hc : cells + 1 ≤ mc) (hs : slots + 6 ≤ ms) :
    W p l e R s m args below meth c H locs cells slots (vx_MQ below Qc XC args s mc ms free) (F0 m pc ls rest) := by
  intro T hT X
  have htr : e.platform.stackTraces = false := (show e.platform.stackTraces = l.stackTraces by rw [X.admits.platform]).trans hl
  have Y := vx_rebase X (R' := { frames := R.frames, locals := R.locals, cells := 1, slots := 6 }) (Nat.le_refl _) (Nat.le_refl _) hRcells hRslots
  obtain ⟨s', hA⟩ : ∃ z, z = (T.setVm s.vm).setFrames (.invoking m args :: below) := ⟨_, rfl⟩
  rw [← hA] at Y
  have hvm : s'.vm = s.vm := by rw [hA]; rfl
  have hhp : s'.heap = H := by rw [hA]; exact hT
  have hW0 : s.WarmedH s'.vm := by rw [hvm]; exact State.WarmedH.refl s
  have hat' : ∀ w ∈ vx_atS own ic cls names, w.before args s' = true := fun w hw => vx_ot_at hW0 hvm.symm (hgood w (List.mem_cons_of_mem _ (List.mem_cons_of_mem _ hw))) (hat w hw)
  have hk' : (Cond.classLink own ik cls).before args s' = true := vx_ot_at hW0 hvm.symm (hgood _ List.mem_cons_self) hk
  have hini' : (Cond.initialized cls).before args s' = true := vx_ot_at hW0 hvm.symm (hgood _ (List.mem_cons_of_mem _ List.mem_cons_self)) hini
  have hU' : vx_Zq Bundle.tN "UNASSIGNED_STACK" Bundle.steD A s' s'.heap := by rw [hhp]; exact vx_Zq.moved hW0.alike (hU.kept hS.2.1)
  have hN' : vx_Zq Bundle.tN "SUPPRESSED_SENTINEL" Bundle.listD A s' s'.heap := by rw [hhp]; exact vx_Zq.moved hW0.alike (hN.kept hS.2.1)
  have h : ∀ w ∈ Bundle.ownAtoms own ic cls names, w.before args s' = true := vx_own hat' (vx_isRefq hU'.1) (vx_isRefq hN'.1) hU'.2.word hN'.2.word
  have hown' : s'.vm.findClass own = some m.cls := by rw [hvm]; exact hown
  have hins : (Cond.instantiable cls 6).before args s' = true := h _ (by simp [Bundle.ownAtoms])
  obtain ⟨vm₁, cX, kX, hfX, hkX, -, -, X₁, st1⟩ := Y.newCold hexec (own := own) (C := cls) (index := ik) (n := 6) hown' hk' hins hini'
    (g := F0 m pc ls rest) rfl (by rw [hb]; exact d0) (Nat.le_refl _) (Nat.le_refl _)
  generalize hT1 : (T.setVm vm₁).pushCell { cls := cX, slots := kX.instanceTypes.map defaultValue, vm := .none } = T1 at X₁ st1
  have hcat : (Value.ref T.heap.size).category = 1 := rfl
  have hcellA : T1.heap[T.heap.size]? = some (freshCell cX kX) := by rw [← hT1]; exact State.heap_pushCell_size _ _
  have d3' : decode c.code (pc + 3) = .ok (.dup, 1) := by rw [hb]; exact d3
  have d4' : decode c.code (pc + 4) = .ok (.ldc is, 2) := by rw [hb]; exact d4
  have hstr' : vk_R own is text sa s' := vk_R.warm hW0 hstr
  obtain ⟨U, hsteps, hrun, hend, hW, hsame, ce, hce, hO⟩ := X₁.ctorThrowS hexec htr (own := own) (cls := cls) (names := names) (ic := ic) hown' hcls hnames h (fun x hx => nomatch hx) hfX hkX hcellA (by rw [hhp, hT]; exact Nat.le_refl _) (msg := .ref sa) rfl
    (g := { method := m, pc := pc + 6, locals := ls, stack := .ref sa :: .ref T.heap.size :: .ref T.heap.size :: rest, locked := none }) rfl hsize rfl rfl (rest := rest) rfl
    (by rw [hb]; exact d6) (by rw [hb]; exact d9) hout hRframes (by simp only [List.map_cons, List.sum_cons, hcat]; omega) hlocks
  obtain ⟨f1, f2⟩ := vx_frame hsame
  rw [hhp] at f1 f2
  have hWs : s.WarmedH U.vm := State.WarmedH.trans hW0 hW
  have hcl : s.vm.findClass cls = some ce.cls := by
    have h9 := hO.cls
    rw [hvm] at h9
    exact h9
  have hall : s.sameButNew ({ U with vm := s.vm } : State) locs mc ms := by
    subst hA
    obtain ⟨e1, e2⟩ := hsame
    rw [State.setFrames_setFrames] at e1
    have h2 : (T.setVm s.vm).sameButNew ({ U with vm := s.vm } : State) [] (0 + 1) (0 + 6) := ⟨e1, e2⟩
    have h3 := X.same.trans h2
    rw [List.append_nil] at h3
    exact h3.mono hc hs
  refine ⟨U, ?_, .threw T.heap.size, hrun, hend, Or.inr ⟨T.heap.size, rfl, cls, ce, locs, hx U hWs.alike f1 (fun q hq => f2 q hq (fun z hz => nomatch hz)), hce, hO.vm, hcl, hWs, hall, hf⟩⟩
  refine st1 _ ?_
  show Steps p.tables e below (T1.setTop { method := m, pc := pc + 3, locals := ls, stack := .ref T.heap.size :: rest, locked := none }) _
  jvm_step X₁.here [X₁.here.top, hexec, d3', Value.category]
  exact X₁.ldcString hexec (own := own) (text := text) (index := is) (a := sa) hown' hstr'.1 hstr'.2
    (g := { method := m, pc := pc + 4, locals := ls, stack := .ref T.heap.size :: .ref T.heap.size :: rest, locked := none }) rfl d4' _ hsteps
/-- 'throw new E("text")', the text by a wide index -/
theorem vx_throwSW {cc : ByteArray} {pc : Nat} (hexec : p.tables.exec = Jvm.exec) (hb : c.code = cc) (hl : l.stackTraces = false) {own cls text : String} {names : List String} {ik is ic mc ms sa : Nat} {A : Nat → Prop}
    (hown : s.vm.findClass own = some m.cls) (hcls : Bundle.fit cls = true) (hnames : ∀ n ∈ names, Bundle.fit n = true)
    (hk : (Cond.classLink own ik cls).before args s = true) (hini : (Cond.initialized cls).before args s = true) (hstr : vk_R own is text sa s) (hat : ∀ w ∈ vx_atS own ic cls names, w.before args s = true)
    (hgood : ∀ w ∈ Cond.classLink own ik cls :: Cond.initialized cls :: vx_atS own ic cls names, vx_ot w = true)
    (hU : vx_Zq Bundle.tN "UNASSIGNED_STACK" Bundle.steD A s s.heap) (hN : vx_Zq Bundle.tN "SUPPRESSED_SENTINEL" Bundle.listD A s s.heap) (hS : va_S A s.heap H locs) (hsize : ls.size = c.maxLocals)
    (d0 : decode cc pc = .ok (.new ik, 3)) (d3 : decode cc (pc + 3) = .ok (.dup, 1)) (d4 : decode cc (pc + 4) = .ok (.ldc_w is, 3)) (d7 : decode cc (pc + 7) = .ok (.invokespecial ic, 3)) (d10 : decode cc (pc + 10) = .ok (.athrow, 1))
    (hout : ∀ x ∈ c.exceptionTable.toList, covers x (pc + 10) = false)
    (hRframes : names.length + 3 < R.frames) (hRlocals : (rest.map fun v => v.category).sum + (13 * (names.length + 1) + 43) ≤ R.locals) (hRcells : cells + 1 ≤ R.cells) (hRslots : slots + 6 ≤ R.slots) (hlocks : meth.locks = false)
    (hx : ∀ t : State, s.vm.Alike t.vm → H.size ≤ t.heap.size → (∀ q : Nat, q < H.size → t.heap[q]? = H[q]?) → XC cls s t)
    (hf : ∀ z ∈ locs, free z.base) (hc : cells + 1 ≤ mc) (hs : slots + 6 ≤ ms) :
    W p l e R s m args below meth c H locs cells slots (vx_MQ below Qc XC args s mc ms free) (F0 m pc ls rest) := by
  intro T hT X
  have htr : e.platform.stackTraces = false := (show e.platform.stackTraces = l.stackTraces by rw [X.admits.platform]).trans hl
  have Y := vx_rebase X (R' := { frames := R.frames, locals := R.locals, cells := 1, slots := 6 }) (Nat.le_refl _) (Nat.le_refl _) hRcells hRslots
  obtain ⟨s', hA⟩ : ∃ z, z = (T.setVm s.vm).setFrames (.invoking m args :: below) := ⟨_, rfl⟩
  rw [← hA] at Y
  have hvm : s'.vm = s.vm := by rw [hA]; rfl
  have hhp : s'.heap = H := by rw [hA]; exact hT
  have hW0 : s.WarmedH s'.vm := by rw [hvm]; exact State.WarmedH.refl s
  have hat' : ∀ w ∈ vx_atS own ic cls names, w.before args s' = true := fun w hw => vx_ot_at hW0 hvm.symm (hgood w (List.mem_cons_of_mem _ (List.mem_cons_of_mem _ hw))) (hat w hw)
  have hk' : (Cond.classLink own ik cls).before args s' = true := vx_ot_at hW0 hvm.symm (hgood _ List.mem_cons_self) hk
  have hini' : (Cond.initialized cls).before args s' = true := vx_ot_at hW0 hvm.symm (hgood _ (List.mem_cons_of_mem _ List.mem_cons_self)) hini
  have hU' : vx_Zq Bundle.tN "UNASSIGNED_STACK" Bundle.steD A s' s'.heap := by rw [hhp]; exact vx_Zq.moved hW0.alike (hU.kept hS.2.1)
  have hN' : vx_Zq Bundle.tN "SUPPRESSED_SENTINEL" Bundle.listD A s' s'.heap := by rw [hhp]; exact vx_Zq.moved hW0.alike (hN.kept hS.2.1)
  have h : ∀ w ∈ Bundle.ownAtoms own ic cls names, w.before args s' = true := vx_own hat' (vx_isRefq hU'.1) (vx_isRefq hN'.1) hU'.2.word hN'.2.word
  have hown' : s'.vm.findClass own = some m.cls := by rw [hvm]; exact hown
  have hins : (Cond.instantiable cls 6).before args s' = true := h _ (by simp [Bundle.ownAtoms])
  obtain ⟨vm₁, cX, kX, hfX, hkX, -, -, X₁, st1⟩ := Y.newCold hexec (own := own) (C := cls) (index := ik) (n := 6) hown' hk' hins hini'
    (g := F0 m pc ls rest) rfl (by rw [hb]; exact d0) (Nat.le_refl _) (Nat.le_refl _)
  generalize hT1 : (T.setVm vm₁).pushCell { cls := cX, slots := kX.instanceTypes.map defaultValue, vm := .none } = T1 at X₁ st1
  have hcat : (Value.ref T.heap.size).category = 1 := rfl
  have hcellA : T1.heap[T.heap.size]? = some (freshCell cX kX) := by rw [← hT1]; exact State.heap_pushCell_size _ _
  have d3' : decode c.code (pc + 3) = .ok (.dup, 1) := by rw [hb]; exact d3
  have d4' : decode c.code (pc + 4) = .ok (.ldc_w is, 3) := by rw [hb]; exact d4
  have hstr' : vk_R own is text sa s' := vk_R.warm hW0 hstr
  obtain ⟨U, hsteps, hrun, hend, hW, hsame, ce, hce, hO⟩ := X₁.ctorThrowS hexec htr (own := own) (cls := cls) (names := names) (ic := ic) hown' hcls hnames h (fun x hx => nomatch hx) hfX hkX hcellA (by rw [hhp, hT]; exact Nat.le_refl _) (msg := .ref sa) rfl
    (g := { method := m, pc := pc + 7, locals := ls, stack := .ref sa :: .ref T.heap.size :: .ref T.heap.size :: rest, locked := none }) rfl hsize rfl rfl (rest := rest) rfl
    (by rw [hb]; exact d7) (by rw [hb]; exact d10) hout hRframes (by simp only [List.map_cons, List.sum_cons, hcat]; omega) hlocks
  obtain ⟨f1, f2⟩ := vx_frame hsame
  rw [hhp] at f1 f2
  have hWs : s.WarmedH U.vm := State.WarmedH.trans hW0 hW
  have hcl : s.vm.findClass cls = some ce.cls := by
    have h9 := hO.cls
    rw [hvm] at h9
    exact h9
  have hall : s.sameButNew ({ U with vm := s.vm } : State) locs mc ms := by
    subst hA
    obtain ⟨e1, e2⟩ := hsame
    rw [State.setFrames_setFrames] at e1
    have h2 : (T.setVm s.vm).sameButNew ({ U with vm := s.vm } : State) [] (0 + 1) (0 + 6) := ⟨e1, e2⟩
    have h3 := X.same.trans h2
    rw [List.append_nil] at h3
    exact h3.mono hc hs
  refine ⟨U, ?_, .threw T.heap.size, hrun, hend, Or.inr ⟨T.heap.size, rfl, cls, ce, locs, hx U hWs.alike f1 (fun q hq => f2 q hq (fun z hz => nomatch hz)), hce, hO.vm, hcl, hWs, hall, hf⟩⟩
  refine st1 _ ?_
  show Steps p.tables e below (T1.setTop { method := m, pc := pc + 3, locals := ls, stack := .ref T.heap.size :: rest, locked := none }) _
  jvm_step X₁.here [X₁.here.top, hexec, d3', Value.category]
  exact X₁.ldcStringW hexec (own := own) (text := text) (index := is) (a := sa) hown' hstr'.1 hstr'.2
    (g := { method := m, pc := pc + 4, locals := ls, stack := .ref T.heap.size :: .ref T.heap.size :: rest, locked := none }) rfl d4' _ hsteps
end Ends
section Bodies
variable {l : Launch}
theorem vx_ofW {y : MethodName} {ws ws' : List Cond} {rm : Room} {Pc : Array Value → State → Prop} {Qc : Array Value → State → Outcome → State → Prop} {XC : String → State → State → Prop} {mc ms : Nat} {free : Addr → Prop} {cc : ByteArray} {maxL : Nat} {ret : Option FieldType}
    (hy : plainName y.cls = true) (hw : ws = Cond.code y cc maxL ret :: ws')
    (body : ∀ p e s m args below meth c s₁, BodyLoose p l y (headSpec ws rm) cc maxL ret e s m args below meth c s₁ → c.maxLocals = maxL → (∀ x ∈ c.exceptionTable.toList, False) → Pc args s →
      W p l e (headSpec ws rm).room s m args below meth c s.heap [] 0 0 (vx_MQ below Qc XC args s mc ms free) (entryFrame m args maxL)) : vx_Met l y ws rm Pc Qc XC mc ms free := by
  refine MetFree.of_bodyS (code := cc) (maxLocals := maxL) (ret := ret) hy ?_ ?_
  · intro args s m h hn
    obtain ⟨meth, c, h1, h2, h3, h4, h5, h6, -, -⟩ := Cond.code_spec hn (atoms_spec (ws := ws) h _ (by rw [hw]; exact List.mem_cons_self))
    exact ⟨meth, c, h1, h2, h3, h4, h5, h6⟩
  · intro p e s m args below meth c s₁ B hml hP _
    have hh0 : s₁.heap = s.heap := by rw [B.state]; rfl
    have ht : ∀ x ∈ c.exceptionTable.toList, False := by
      obtain ⟨meth9, c9, h1, h2, -, -, -, -, h7, -⟩ := Cond.code_spec B.named (atoms_spec (ws := ws) B.pre _ (by rw [hw]; exact List.mem_cons_self))
      cases Option.some.inj (h1.symm.trans B.method)
      cases Option.some.inj (h2.symm.trans (Stand.of_body B).code)
      intro x hx
      rw [Array.isEmpty_iff.mp h7] at hx
      cases hx
    obtain ⟨t, a1, o, b1, b2, b3⟩ := body p e s m args below meth c s₁ B hml ht hP s₁ hh0 (Stand.of_body B)
    exact ⟨t, o, a1, b1, b2, b3⟩
/-- the table of a body with handlers -/
theorem vx_table {p : Program} {x y : MethodName} {S : Spec} {cc bytes : ByteArray} {maxL maxL' : Nat} {ret ret' : Option FieldType} {e : Env} {s s₁ : State} {m : MethodId} {args : Array Value} {below : List Frame} {meth : Method} {c : Code} {hh : List (Nat × Nat × Nat × Nat)}
    (B : BodyLoose p l y S cc maxL ret e s m args below meth c s₁) (h : (Cond.codeWith y bytes maxL' ret' hh).before args s = true) : c.exceptionTable.toList = tableOf hh := by
  obtain ⟨m9, meth9, c9, hn9, h1, h2, -, -, h6, -⟩ := Cond.codeWith_spec h
  cases Option.some.inj (hn9.symm.trans B.named)
  cases Option.some.inj (h1.symm.trans B.method)
  cases Option.some.inj (h2.symm.trans (Stand.of_body B).code)
  rw [← h6, table_eq]
end Bodies
end VXA
/-! ===== END ===== -/
/-! ===== BEGIN a static call of a method with an exception table ===== -/
section VXS
variable {p : Program} {l : Launch} {e : Env} {R : Room} {s : State} {m : MethodId} {args : Array Value} {below : List Frame} {meth : Method} {c : Code} {T : State} {H : Heap} {locs : List Loc} {cells slots : Nat}
abbrev vx_CSW (R : Room) (s : State) (args : Array Value) (own : String) (index : Nat) (y : MethodName) (bytes : ByteArray) (maxL : Nat) (ret : Option FieldType) (hh : List (Nat × Nat × Nat × Nat)) (ws : List Cond) (rm : Room) (mc ms n : Nat) : Prop :=
  (rm.cells = mc ∧ rm.slots = ms ∧ rm.frames + 1 ≤ R.frames ∧ 8 + (maxL + 11) + rm.locals ≤ R.locals ∧ (∀ w ∈ ws, ∀ (a' : Array Value) (U : State), s.WarmedH U.vm → w.before a' U = true) ∧ Cond.codeWith y bytes maxL ret hh ∈ ws) ∧
  (Cond.codeWith y bytes maxL ret hh).before args s = true ∧ (Cond.initialized y.cls).before args s = true ∧ (y.cls ≠ "java/lang/invoke/MethodHandle" ∧ y.cls ≠ "java/lang/invoke/VarHandle") ∧
  (∀ sig, parseMethodDescriptor y.desc = some sig → n = sig.parameters.length) ∧ (Cond.methodLink own index y).before args s = true ∧ (Cond.static y).before args s = true
theorem vx_cwSW {own : String} {index maxL mc ms : Nat} {y : MethodName} {bytes : ByteArray} {ret : Option FieldType} {hh : List (Nat × Nat × Nat × Nat)} {Ts ws ws' : List Cond} {rm : Room} (n : Nat) (ht : ∀ w ∈ Ts, w.before args s = true) (hT : GoodIn Ts (va_wsS own index y ws)) (hw : ws = Cond.codeWith y bytes maxL ret hh :: ws') (hrc : rm.cells = mc) (hrs : rm.slots = ms)
    (hd : y.cls ≠ "java/lang/invoke/MethodHandle" ∧ y.cls ≠ "java/lang/invoke/VarHandle" ∧ (parseMethodDescriptor y.desc).map (fun d => d.parameters.length) = some n) (hR : rm.frames + 1 ≤ R.frames ∧ 8 + (maxL + 11) + rm.locals ≤ R.locals) :
    vx_CSW R s args own index y bytes maxL ret hh ws rm mc ms n := by
  have ok : ∀ w ∈ va_wsS own index y ws, w.before args s = true := fun w h => ht w (hT w h).1
  have hG : GoodIn Ts ws := fun w h => hT w (by unfold va_wsS; exact List.mem_append_right _ h)
  have hc : Cond.codeWith y bytes maxL ret hh ∈ ws := by rw [hw]; exact List.mem_cons_self
  refine ⟨⟨hrc, hrs, hR.1, hR.2, pay_in ht hG, hc⟩, ht _ (hG _ hc).1, ok _ (by simp [va_wsS]), ⟨hd.1, hd.2.1⟩, fun sig h => ?_, ok _ (by simp [va_wsS]), ok _ (by simp [va_wsS])⟩
  have h2 := hd.2.2
  rw [h] at h2
  exact (Option.some.inj h2).symm
theorem vx_callSW (X : Stand p l e R s m args below meth c T locs cells slots) (hexec : p.tables.exec = Jvm.exec) {own : String} {index : Nat} {y : MethodName} {bytes : ByteArray} {maxL : Nat} {ret : Option FieldType} {hh : List (Nat × Nat × Nat × Nat)}
    (hown : s.vm.findClass own = some m.cls) (hlink : (Cond.methodLink own index y).before args s = true) (hstat : (Cond.static y).before args s = true) (hinit : (Cond.initialized y.cls).before args s = true)
    (hcode : (Cond.codeWith y bytes maxL ret hh).before args s = true) (hy : y.cls ≠ "java/lang/invoke/MethodHandle" ∧ y.cls ≠ "java/lang/invoke/VarHandle")
    {W9 : Nat} {Pre : Pt → Array Value → Prop} {Post : Pt → Array Value → Option Value → Pt → Prop} (hK : Back l R p e below s args y 3 W9 Pre Post)
    {g : JFrame} (hg : g.method = m) (hsize : g.locals.size = c.maxLocals) {argsL rest : List Value} (hlen : ∀ sig, parseMethodDescriptor y.desc = some sig → argsL.length = sig.parameters.length)
    (hstack : g.stack = argsL.reverse ++ rest) (hW : 2 * g.monitorRoom + (rest.map fun v => v.category).sum ≤ W9) (hdg : decode c.code g.pc = .ok (.invokestatic index, 3))
    (hpre : ∀ vm₁, s.WarmedH vm₁ → Pre ⟨T.setVm vm₁, locs, cells, slots⟩ argsL.toArray) :
    ∃ (v : Option Value) (vm₁ : Vm) (B : Pt), s.WarmedH vm₁ ∧ Stand p l e R s m args below meth c B.U B.locs B.cells B.slots ∧ Post ⟨T.setVm vm₁, locs, cells, slots⟩ argsL.toArray v B ∧
      ∀ target, Steps p.tables e below (B.U.setTop { g with pc := g.pc + 3, stack := v.toList ++ rest }) target → Steps p.tables e below (T.setTop g) target := by
  obtain ⟨mk, methM, cM, hnamed, hmethM, -, -, -, -, -, -, hsigM⟩ := Cond.codeWith_spec hcode
  have hstatic : methM.isStatic = true := Cond.static_spec hnamed hmethM hstat
  obtain ⟨kP, hkP, -⟩ := className_of_methodNamed hnamed
  have hinitP : kP.init = .initialized := Cond.initialized_spec (findClass_of_methodNamed hnamed) hkP hinit
  obtain ⟨vm₁, X₁, hstep₁⟩ := X.invokestatic hexec hown hlink hnamed hmethM hstatic hkP hinitP hy (g := g) hg (argsL := argsL) (rest := rest) (hlen _ hsigM) hstack hdg
  obtain ⟨v, B, X', hpost, hsteps⟩ := hK m meth c ⟨T.setVm vm₁, locs, cells, slots⟩ { g with stack := rest } (.invokestatic index) mk argsL.toArray X₁ hg hsize hdg hW (X₁.named hnamed) (hpre vm₁ X₁.warmed)
  exact ⟨v, vm₁, B, X₁.warmed, X', hpost, fun target h => hstep₁ _ fun acts => by rw [doInvoke_state]; exact hsteps.trans h⟩
theorem vx_runSW {y : MethodName} {bytes cc : ByteArray} {maxL nL mc ms n index : Nat} {ret : Option FieldType} {hh : List (Nat × Nat × Nat × Nat)} {ws : List Cond} {rm : Room} {Pc : Array Value → State → Prop} {Qc : Array Value → State → Outcome → State → Prop} {free : Addr → Prop} {Ts : List Cond} {own : String} {As rest : List Value} {g : JFrame}
    (S : CallFix p m c cc nL s args Ts own) (hM : Met l y ws rm Pc Qc mc ms free) (cw : vx_CSW R s args own index y bytes maxL ret hh ws rm mc ms n) (hp : PreS s H Pc As)
    (hg : g.method = m) (hn : As.length = n) (hsize : g.locals.size = nL) (hstack : g.stack = As.reverse ++ rest) (hW : 2 * g.monitorRoom + (rest.map fun v => v.category).sum ≤ 8) (hdg : decode cc g.pc = .ok (.invokestatic index, 3)) (hf : cells + mc ≤ R.cells ∧ slots + ms ≤ R.slots) :
    va_Run p l e R s m args below meth c H locs cells slots mc ms g rest (Qc As.toArray) (free) := by
  obtain ⟨⟨hrc, hrs, hfr, hlo, hws, hcw⟩, hcode, hini, hy, hlen, hl, hstt⟩ := cw
  have hK : Back l R p e below s args y 3 8 (PreOf R mc ms Pc) (PostOf Qc mc ms free) := va_backW (hh := hh) (bytes := bytes) (maxL := maxL) (ret := ret) hM hp.1 hrc hrs hfr hlo hws hcw (fun a' U hW => word_at hW (Or.inl (by first | rfl | simp [Cond.onTables, Cond.keeps, Cond.steady])) hini)
  obtain ⟨hx, hb, hml, ho, -⟩ := S
  intro T hT X
  obtain ⟨v, vm₁, ⟨U', l2, c2, s2⟩, hW₁, X', ⟨g', mk, t, L, e1, e2, hq, h1, hL, h2, h3⟩, st⟩ := vx_callSW X hx (hh := hh) (bytes := bytes) (maxL := maxL) (ret := ret) ho hl hstt hini hcode hy hK hg (hsize.trans hml.symm) (argsL := As) (rest := rest) (fun sig h => hn.trans (hlen sig h)) hstack hW (by rw [hb]; exact hdg)
    (fun vm₁ hW₁ => ⟨hf.1, hf.2, hp.2 (T.setVm vm₁) hT hW₁⟩)
  dsimp only [Pt.U, Pt.locs, Pt.cells, Pt.slots] at X' e1 e2 h1 h2 h3 st
  subst h1; subst h2; subst h3
  exact ⟨v, (T.setVm vm₁).calling g' mk As.toArray, t, U', L, hT, X', hL, e1, e2, hq, st⟩
/-- not caught here, past rows that name other classes: it goes on to the caller -/
theorem vx_outP {p : Program} {l : Launch} {e : Env} {R : Room} {s : State} {m : MethodId} {args : Array Value} {below : List Frame} {meth : Method} {c : Code} {H : Heap} {locs : List Loc} {cells slots : Nat} {free : Addr → Prop} {ls : Array Slot} {rest : List Value} {Qc : Array Value → State → Outcome → State → Prop} {XC : String → State → State → Prop}
    {pc : Nat} {own E : String} {ce : Cell} {q : Addr} {mc ms : Nat} (hown : s.vm.findClass own = some m.cls) (hlocks : meth.locks = false)
    (hpass : ∀ z ∈ c.exceptionTable.toList, covers z pc = false ∨ (z.catchType ≠ 0 ∧ ∃ nm : String, (Cond.classLink own z.catchType nm).before args s = true ∧ va_Nc E nm s)) (hcell : H[q]? = some ce) (hv : ce.vm = .none) (hcl : s.vm.findClass E = some ce.cls)
    (hx : ∀ t : State, t.heap = H → s.vm.Alike t.vm → XC E s t) (hf : ∀ z ∈ locs, free z.base) (hc : cells ≤ mc) (hs : slots ≤ ms) :
    vx_W p l e R s m args below meth c H locs cells slots (vx_MQ below Qc XC args s mc ms free) (F0 m pc ls rest) q := by
  intro T hT X
  have hpl : e.platform.magicAccessors = ({} : Platform).magicAccessors := by rw [X.admits.platform]
  obtain ⟨vm', hW', X', st⟩ := X.outThrough hlocks q (g := F0 m pc ls rest) rfl rfl rfl (cell := ce) (by rw [hT]; exact hcell) (by rw [hv]; rfl)
    (by obtain ⟨k9, h9, -⟩ := Vm.findClass_spec hcl; exact ⟨k9, h9⟩) (fun z hz => by
      rcases hpass z hz with h | ⟨hz0, nm, hl1, hn1⟩
      · exact Or.inl h
      · obtain ⟨c6, hc6, hcl6⟩ := Cond.classLink_spec hown hl1 e.platform hpl
        obtain ⟨a8, b8, h1, h2, h3⟩ := hn1
        cases Option.some.inj (h1.symm.trans hcl)
        cases Option.some.inj (h2.symm.trans hc6)
        exact Or.inr ⟨hz0, _, hcl6, h3⟩)
  obtain ⟨g₀, hfr⟩ := X'.frames_eq
  have hcell9 : ((T.setVm vm').setFrames (.throwing q :: below)).heap[q]? = some ce := by
    show T.heap[q]? = some ce
    rw [hT]; exact hcell
  have hend : Ended ((T.setVm vm').setFrames (.throwing q :: below)) below (.threw q) := State.frames_setFrames _ (State.cur_lt_of_frames hfr)
  refine ⟨(T.setVm vm').setFrames (.throwing q :: below), ?_, .threw q, X'.here.running, hend, Or.inr ⟨q, rfl, E, ce, locs, hx _ hT (X'.ends _).1.alike, hcell9, hv, hcl, (X'.ends _).1, (X'.ends _).2.mono hc hs, hf⟩⟩
  rw [X.pushThrowing_eq]
  exact st
/-- a thing of a world lies in the heap -/
theorem vx_lt {D : va_G} {cl : List vw_C} {ws : va_W} {H1 : Heap} (h : va_P D cl ws H1) {k : Nat} {q : Nat × va_E} (hk : ws[k]? = some q) : q.1 < H1.size := (h k q hk).lt
end VXS
/-! ===== END ===== -/
/-! ===== BEGIN methods with a table of their own: called by a name, returning or throwing ===== -/
section VXH
/-! vx_backW, vx_callVX, vx_callSX, vx_callVW, vx_runVW, vx_runVX, vx_runSX, vx_ofWH follow the same proofs as their sisters above (Free/Laws.lean, Shelf42/LK1.lean); vx_outP calls Shelf42/NT130.lean (outThrough). -/
section
variable {l : Launch} {R : Room} {p : Program} {e : Env} {below : List Frame} {s : State} {sargs : Array Value} {y : MethodName} {len W9 : Nat}
theorem vx_backW {ws : List Cond} {rm : Room} {Pc : Array Value → State → Prop} {Qc : Array Value → State → Outcome → State → Prop} {XC : String → State → State → Prop} {mc ms : Nat} {free : Addr → Prop} {bytes : ByteArray} {maxL : Nat} {ret : Option FieldType} {hh : List (Nat × Nat × Nat × Nat)}
    (hM : vx_Met l y ws rm Pc Qc XC mc ms free) (hblind : FrameBlind Pc) (hrc : rm.cells = mc) (hrs : rm.slots = ms)
    (hframes : rm.frames + 1 ≤ R.frames) (hlocals : W9 + (maxL + 11) + rm.locals ≤ R.locals)
    (hws : ∀ w ∈ ws, ∀ a' U, s.WarmedH U.vm → w.before a' U = true) (hcode : Cond.codeWith y bytes maxL ret hh ∈ ws) (hinit : ∀ a' U, s.WarmedH U.vm → (Cond.initialized y.cls).before a' U = true) :
    vx_Back l R p e below s sargs y len W9 (PreOf R mc ms Pc) (PostOf Qc mc ms free) (vx_Post XC mc ms free) := by
  intro m meth c A g ig mk a X hg hsize hdg hW hn hp
  have h1 : (headSpec ws rm).pre.before a A.U = true := atoms_intro fun w hw => hws w hw _ _ X.warmed
  have h2 : (Cond.codeWith y bytes maxL ret hh).before a A.U = true := hws _ hcode _ _ X.warmed
  have h3 : (Cond.initialized y.cls).before a A.U = true := hinit _ _ X.warmed
  have h4 : A.cells + (headSpec ws rm).room.cells ≤ R.cells := by rw [show (headSpec ws rm).room.cells = mc from hrc]; exact hp.1
  have h5 : A.slots + (headSpec ws rm).room.slots ≤ R.slots := by rw [show (headSpec ws rm).room.slots = ms from hrs]; exact hp.2.1
  have hPc : Pc a (A.U.calling g mk a) := hblind _ _ _ _ hp.2.2
  obtain ⟨U, Ls, c0, s0⟩ := A
  dsimp only [Pt.U, Pt.locs, Pt.cells, Pt.slots] at h1 h2 h3 h4 h5 X hn hPc ⊢
  obtain ⟨m9, methY, cY, hn9, hmY, hcY, -, hlY, -⟩ := Cond.codeWith_spec h2
  cases Option.some.inj (hn9.symm.trans hn)
  obtain ⟨kY, hkY, -⟩ := className_of_methodNamed hn
  have hinitY : kY.init = .initialized := Cond.initialized_spec (findClass_of_methodNamed hn) hkY h3
  have h : At U g.method c below := by rw [hg]; exact X.here
  have hlocals9 : W9 + (maxL + 11) + (headSpec ws rm).room.locals ≤ R.locals := hlocals
  have happ : (headSpec ws rm).appliesLoose y e.platform (U.calling g mk a) = true :=
    Spec.appliesLoose_calling (g := g) h hdg hn hkY hinitY
      (X.room_calling (g := g) (R' := (headSpec ws rm).room) hsize hmY hcY hframes (by rw [hlY]; omega) h4 h5) h1
  obtain ⟨mid, hmid⟩ := h.above
  have hfr : (U.setTop g).frames = (.java g :: mid) ++ below := by rw [State.frames_setTop' g h.top, hmid]; rfl
  obtain ⟨o, s₂, hsteps, -, hend, hq⟩ := Steps.callFree hM p X.admits X.cas X.clock (acts := []) hfr happ hPc trivial
  have hq' : vx_Q Qc XC mc ms free a (U.calling g mk a) o s₂ := hq
  rw [State.frames_setTop' g h.top] at hend
  obtain ⟨g₀, hg0⟩ := Option.isSome_iff_exists.mp h.top
  obtain ⟨r, hr⟩ := State.topJava?_eq_some.mp hg0
  have hr' : (({ U with heap := s₂.heap, slotsUsed := s₂.slotsUsed } : State).setVm s₂.vm).frames = .java g₀ :: r := hr
  rcases hq' with ⟨hqc, L, hfe, hL⟩ | ⟨q, rfl, E, ce, L, hx, hce, hcv, hcl, hW₂, hsm, hL⟩
  · obtain ⟨⟨v, rfl⟩, hW₂, e2, q2, q3, q4, q5, q6⟩ := id hfe
    have e3 : s₂ = ({ (U.calling g mk a).setFrames s₂.frames with heap := s₂.heap, slotsUsed := s₂.slotsUsed } : State).setVm s₂.vm := by
      have : s₂ = ({ s₂ with vm := (U.calling g mk a).vm } : State).setVm s₂.vm := rfl
      rw [e2] at this
      exact this
    obtain ⟨c₂, i₂, len₂, hc₂, hd₂, hf₂⟩ := hend
    have hW' : U.WarmedH s₂.vm := hW₂
    have hcc : c₂ = c := by
      have h1 : s₂.code? g.method = U.code? g.method := by
        rw [State.code?_eq, State.code?_eq, hW'.alike.method?]
      exact Option.some.inj (hc₂.symm.trans (h1.trans h.code))
    subst hcc
    have hlen : len₂ = len := by rw [hdg] at hd₂; cases hd₂; rfl
    subst hlen
    have hs₂ : s₂ = (({ U with heap := s₂.heap, slotsUsed := s₂.slotsUsed } : State).setVm s₂.vm).setTop { g with pc := g.pc + len₂, stack := v.toList ++ g.stack } := by
      refine e3.trans ?_
      rw [hf₂, State.calling_eq h.top, State.setFrames_setFrames, State.setTop_of_frames _ hr', hr]
      rfl
    have hsame : U.sameButNew ({ U with heap := s₂.heap, slotsUsed := s₂.slotsUsed } : State) L mc ms := by
      refine ⟨?_, q2, q3, q4, q5, q6⟩
      obtain ⟨t, ht, -⟩ := State.frames_cons hr
      show ({ U with heap := s₂.heap, slotsUsed := s₂.slotsUsed } : State) = { U.setFrames U.frames with heap := s₂.heap, slotsUsed := s₂.slotsUsed }
      rw [State.setFrames_self ht]
    subst hg
    refine Or.inl ⟨v, ⟨(({ U with heap := s₂.heap, slotsUsed := s₂.slotsUsed } : State).setVm s₂.vm), Ls ++ L, c0 + mc, s0 + ms⟩,
      ⟨X.admits, X.cas, X.clock, X.frames, X.room, X.hears, X.method, X.code, (X.here.setHeapUsed s₂.heap s₂.slotsUsed).setVm hW'.alike, X.tail, State.WarmedH.trans X.warmed hW', X.limits, X.bytes, X.same.trans (hsame.setVm s.vm)⟩,
      ⟨g, mk, s₂, L, rfl, rfl, hqc, rfl, hL, rfl, rfl⟩, ?_⟩
    show Steps p.tables e below _ ((({ U with heap := s₂.heap, slotsUsed := s₂.slotsUsed } : State).setVm s₂.vm).setTop { g with pc := g.pc + len₂, stack := v.toList ++ g.stack })
    rw [← hs₂]
    exact hsteps
  · obtain ⟨e2, q2, q3, q4, q5, q6⟩ := id hsm
    have e3 : s₂ = ({ (U.calling g mk a).setFrames s₂.frames with heap := s₂.heap, slotsUsed := s₂.slotsUsed } : State).setVm s₂.vm := by
      have : s₂ = ({ s₂ with vm := (U.calling g mk a).vm } : State).setVm s₂.vm := rfl
      rw [e2] at this
      exact this
    have hf₂ : s₂.frames = .throwing q :: .java g :: U.frames.tail := hend
    have hW' : U.WarmedH s₂.vm := hW₂
    have hs₂ : s₂ = ((({ U with heap := s₂.heap, slotsUsed := s₂.slotsUsed } : State).setVm s₂.vm).setTop g).pushFrame (.throwing q) := by
      refine e3.trans ?_
      rw [hf₂, State.calling_eq h.top, State.setFrames_setFrames, State.pushFrame, State.frames_setTop _ hr', State.setTop_of_frames _ hr', State.setFrames_setFrames, hr]
      rfl
    have hsame : U.sameButNew ({ U with heap := s₂.heap, slotsUsed := s₂.slotsUsed } : State) L mc ms := by
      refine ⟨?_, q2, q3, q4, q5, q6⟩
      obtain ⟨t, ht, -⟩ := State.frames_cons hr
      show ({ U with heap := s₂.heap, slotsUsed := s₂.slotsUsed } : State) = { U.setFrames U.frames with heap := s₂.heap, slotsUsed := s₂.slotsUsed }
      rw [State.setFrames_self ht]
    subst hg
    refine Or.inr ⟨q, ⟨(({ U with heap := s₂.heap, slotsUsed := s₂.slotsUsed } : State).setVm s₂.vm), Ls ++ L, c0 + mc, s0 + ms⟩,
      ⟨X.admits, X.cas, X.clock, X.frames, X.room, X.hears, X.method, X.code, (X.here.setHeapUsed s₂.heap s₂.slotsUsed).setVm hW'.alike, X.tail, State.WarmedH.trans X.warmed hW', X.limits, X.bytes, X.same.trans (hsame.setVm s.vm)⟩,
      ⟨g, mk, s₂, L, E, ce, rfl, rfl, hx, hce, hcv, hcl, rfl, hL, rfl, rfl⟩, ?_⟩
    show Steps p.tables e below _ (((({ U with heap := s₂.heap, slotsUsed := s₂.slotsUsed } : State).setVm s₂.vm).setTop g).pushFrame (.throwing q))
    rw [← hs₂]
    exact hsteps
end
variable {p : Program} {l : Launch} {e : Env} {R : Room} {s : State} {m : MethodId} {args : Array Value} {below : List Frame} {meth : Method} {c : Code} {T : State} {H : Heap} {locs : List Loc} {cells slots : Nat}
theorem vx_callVX (X : Stand p l e R s m args below meth c T locs cells slots) (hexec : p.tables.exec = Jvm.exec) {own C : String} {index : Nat} {y : MethodName} {bytes : ByteArray} {maxL : Nat} {ret : Option FieldType} {hh : List (Nat × Nat × Nat × Nat)}
    (hown : s.vm.findClass own = some m.cls) (hlink : (Cond.methodLink own index y).before args s = true) (hinst : (Cond.instanceMethod y).before args s = true) (hsel : (Cond.selects C y y).before args s = true)
    (hcode : (Cond.codeWith y bytes maxL ret hh).before args s = true) (hy : y.cls ≠ "java/lang/invoke/MethodHandle" ∧ y.cls ≠ "java/lang/invoke/VarHandle")
    {W9 : Nat} {Pre : Pt → Array Value → Prop} {Post : Pt → Array Value → Option Value → Pt → Prop} {PostX : Pt → Array Value → Addr → Pt → Prop} (hK : vx_Back l R p e below s args y 3 W9 Pre Post PostX)
    {b : Addr} {cellB : Cell} (hcell : T.heap[b]? = some cellB) (hobj : cellB.vm.isStatics = false) (hcls : s.vm.findClass C = some cellB.cls)
    {g : JFrame} (hg : g.method = m) (hsize : g.locals.size = c.maxLocals) {argsL rest : List Value} (hlen : ∀ sig, parseMethodDescriptor y.desc = some sig → argsL.length = sig.parameters.length)
    (hstack : g.stack = argsL.reverse ++ .ref b :: rest) (hW : 2 * g.monitorRoom + (rest.map fun v => v.category).sum ≤ W9) (hdg : decode c.code g.pc = .ok (.invokevirtual index, 3))
    (hpre : ∀ vm₁, s.WarmedH vm₁ → Pre ⟨T.setVm vm₁, locs, cells, slots⟩ (Value.ref b :: argsL).toArray) :
    (∃ (v : Option Value) (vm₁ : Vm) (B : Pt), s.WarmedH vm₁ ∧ Stand p l e R s m args below meth c B.U B.locs B.cells B.slots ∧ Post ⟨T.setVm vm₁, locs, cells, slots⟩ (Value.ref b :: argsL).toArray v B ∧
      ∀ target, Steps p.tables e below (B.U.setTop { g with pc := g.pc + 3, stack := v.toList ++ rest }) target → Steps p.tables e below (T.setTop g) target) ∨
    (∃ (q : Addr) (vm₁ : Vm) (B : Pt), s.WarmedH vm₁ ∧ Stand p l e R s m args below meth c B.U B.locs B.cells B.slots ∧ PostX ⟨T.setVm vm₁, locs, cells, slots⟩ (Value.ref b :: argsL).toArray q B ∧
      Steps p.tables e below (T.setTop g) ((B.U.setTop { g with stack := rest }).pushFrame (.throwing q))) := by
  obtain ⟨mk, methM, hnamed, hmethM, hstM, habM⟩ := Cond.instanceMethod_spec hinst
  obtain ⟨m8, methM', cM, hn8, hmethM', -, -, -, -, -, -, hsigM⟩ := Cond.codeWith_spec hcode
  cases Option.some.inj (hn8.symm.trans hnamed)
  cases hmethM.symm.trans hmethM'
  obtain ⟨c2, r2, m2, q1, q2, q3, q4, kP, hkP, hkPi⟩ := Cond.selects_spec hsel
  cases hcls.symm.trans q1
  cases (State.methodFound?_of_named hnamed hy).symm.trans q2
  cases hnamed.symm.trans q3
  have hselP : selectMethod e.platform s.vm cellB.cls mk = .method mk := by rw [Launch.admits_selectMethod X.admits]; exact q4
  obtain ⟨vm₁, X₁, hstep₁⟩ := X.invokevirtual hexec hown hlink hnamed hmethM hstM hkP hkPi hy (a := b) (cell := cellB) hcell
    (fun z h => by rw [h] at hobj; cases hobj) hselP hmethM habM hkP hkPi (g := g) hg (argsL := argsL) (rest := rest) (hlen _ hsigM) hstack hdg
  rcases hK m meth c ⟨T.setVm vm₁, locs, cells, slots⟩ { g with stack := rest } (.invokevirtual index) mk (Value.ref b :: argsL).toArray X₁ hg hsize hdg hW (X₁.named hnamed) (hpre vm₁ X₁.warmed) with ⟨v, B, X', hpost, hsteps⟩ | ⟨q, B, X', hpost, hsteps⟩
  · exact Or.inl ⟨v, vm₁, B, X₁.warmed, X', hpost, fun target h => hstep₁ _ fun acts => by rw [doInvoke_state]; exact hsteps.trans h⟩
  · exact Or.inr ⟨q, vm₁, B, X₁.warmed, X', hpost, hstep₁ _ fun acts => by rw [doInvoke_state]; exact hsteps⟩
theorem vx_callSX (X : Stand p l e R s m args below meth c T locs cells slots) (hexec : p.tables.exec = Jvm.exec) {own : String} {index : Nat} {y : MethodName} {bytes : ByteArray} {maxL : Nat} {ret : Option FieldType} {hh : List (Nat × Nat × Nat × Nat)}
    (hown : s.vm.findClass own = some m.cls) (hlink : (Cond.methodLink own index y).before args s = true) (hstat : (Cond.static y).before args s = true) (hinit : (Cond.initialized y.cls).before args s = true)
    (hcode : (Cond.codeWith y bytes maxL ret hh).before args s = true) (hy : y.cls ≠ "java/lang/invoke/MethodHandle" ∧ y.cls ≠ "java/lang/invoke/VarHandle")
    {W9 : Nat} {Pre : Pt → Array Value → Prop} {Post : Pt → Array Value → Option Value → Pt → Prop} {PostX : Pt → Array Value → Addr → Pt → Prop} (hK : vx_Back l R p e below s args y 3 W9 Pre Post PostX)
    {g : JFrame} (hg : g.method = m) (hsize : g.locals.size = c.maxLocals) {argsL rest : List Value} (hlen : ∀ sig, parseMethodDescriptor y.desc = some sig → argsL.length = sig.parameters.length)
    (hstack : g.stack = argsL.reverse ++ rest) (hW : 2 * g.monitorRoom + (rest.map fun v => v.category).sum ≤ W9) (hdg : decode c.code g.pc = .ok (.invokestatic index, 3))
    (hpre : ∀ vm₁, s.WarmedH vm₁ → Pre ⟨T.setVm vm₁, locs, cells, slots⟩ argsL.toArray) :
    (∃ (v : Option Value) (vm₁ : Vm) (B : Pt), s.WarmedH vm₁ ∧ Stand p l e R s m args below meth c B.U B.locs B.cells B.slots ∧ Post ⟨T.setVm vm₁, locs, cells, slots⟩ argsL.toArray v B ∧
      ∀ target, Steps p.tables e below (B.U.setTop { g with pc := g.pc + 3, stack := v.toList ++ rest }) target → Steps p.tables e below (T.setTop g) target) ∨
    (∃ (q : Addr) (vm₁ : Vm) (B : Pt), s.WarmedH vm₁ ∧ Stand p l e R s m args below meth c B.U B.locs B.cells B.slots ∧ PostX ⟨T.setVm vm₁, locs, cells, slots⟩ argsL.toArray q B ∧
      Steps p.tables e below (T.setTop g) ((B.U.setTop { g with stack := rest }).pushFrame (.throwing q))) := by
  obtain ⟨mk, methM, cM, hnamed, hmethM, -, -, -, -, -, -, hsigM⟩ := Cond.codeWith_spec hcode
  have hstatic : methM.isStatic = true := Cond.static_spec hnamed hmethM hstat
  obtain ⟨kP, hkP, -⟩ := className_of_methodNamed hnamed
  have hinitP : kP.init = .initialized := Cond.initialized_spec (findClass_of_methodNamed hnamed) hkP hinit
  obtain ⟨vm₁, X₁, hstep₁⟩ := X.invokestatic hexec hown hlink hnamed hmethM hstatic hkP hinitP hy (g := g) hg (argsL := argsL) (rest := rest) (hlen _ hsigM) hstack hdg
  rcases hK m meth c ⟨T.setVm vm₁, locs, cells, slots⟩ { g with stack := rest } (.invokestatic index) mk argsL.toArray X₁ hg hsize hdg hW (X₁.named hnamed) (hpre vm₁ X₁.warmed) with ⟨v, B, X', hpost, hsteps⟩ | ⟨q, B, X', hpost, hsteps⟩
  · exact Or.inl ⟨v, vm₁, B, X₁.warmed, X', hpost, fun target h => hstep₁ _ fun acts => by rw [doInvoke_state]; exact hsteps.trans h⟩
  · exact Or.inr ⟨q, vm₁, B, X₁.warmed, X', hpost, hstep₁ _ fun acts => by rw [doInvoke_state]; exact hsteps⟩
theorem vx_callVW (X : Stand p l e R s m args below meth c T locs cells slots) (hexec : p.tables.exec = Jvm.exec) {own C : String} {index : Nat} {y : MethodName} {bytes : ByteArray} {maxL : Nat} {ret : Option FieldType} {hh : List (Nat × Nat × Nat × Nat)}
    (hown : s.vm.findClass own = some m.cls) (hlink : (Cond.methodLink own index y).before args s = true) (hinst : (Cond.instanceMethod y).before args s = true) (hsel : (Cond.selects C y y).before args s = true)
    (hcode : (Cond.codeWith y bytes maxL ret hh).before args s = true) (hy : y.cls ≠ "java/lang/invoke/MethodHandle" ∧ y.cls ≠ "java/lang/invoke/VarHandle")
    {W9 : Nat} {Pre : Pt → Array Value → Prop} {Post : Pt → Array Value → Option Value → Pt → Prop} (hK : Back l R p e below s args y 3 W9 Pre Post)
    {b : Addr} {cellB : Cell} (hcell : T.heap[b]? = some cellB) (hobj : cellB.vm.isStatics = false) (hcls : s.vm.findClass C = some cellB.cls)
    {g : JFrame} (hg : g.method = m) (hsize : g.locals.size = c.maxLocals) {argsL rest : List Value} (hlen : ∀ sig, parseMethodDescriptor y.desc = some sig → argsL.length = sig.parameters.length)
    (hstack : g.stack = argsL.reverse ++ .ref b :: rest) (hW : 2 * g.monitorRoom + (rest.map fun v => v.category).sum ≤ W9) (hdg : decode c.code g.pc = .ok (.invokevirtual index, 3))
    (hpre : ∀ vm₁, s.WarmedH vm₁ → Pre ⟨T.setVm vm₁, locs, cells, slots⟩ (Value.ref b :: argsL).toArray) :
    ∃ (v : Option Value) (vm₁ : Vm) (B : Pt), s.WarmedH vm₁ ∧ Stand p l e R s m args below meth c B.U B.locs B.cells B.slots ∧ Post ⟨T.setVm vm₁, locs, cells, slots⟩ (Value.ref b :: argsL).toArray v B ∧
      ∀ target, Steps p.tables e below (B.U.setTop { g with pc := g.pc + 3, stack := v.toList ++ rest }) target → Steps p.tables e below (T.setTop g) target := by
  obtain ⟨mk, methM, hnamed, hmethM, hstM, habM⟩ := Cond.instanceMethod_spec hinst
  obtain ⟨m8, methM', cM, hn8, hmethM', -, -, -, -, -, -, hsigM⟩ := Cond.codeWith_spec hcode
  cases Option.some.inj (hn8.symm.trans hnamed)
  cases hmethM.symm.trans hmethM'
  obtain ⟨c2, r2, m2, q1, q2, q3, q4, kP, hkP, hkPi⟩ := Cond.selects_spec hsel
  cases hcls.symm.trans q1
  cases (State.methodFound?_of_named hnamed hy).symm.trans q2
  cases hnamed.symm.trans q3
  have hselP : selectMethod e.platform s.vm cellB.cls mk = .method mk := by rw [Launch.admits_selectMethod X.admits]; exact q4
  obtain ⟨vm₁, X₁, hstep₁⟩ := X.invokevirtual hexec hown hlink hnamed hmethM hstM hkP hkPi hy (a := b) (cell := cellB) hcell
    (fun z h => by rw [h] at hobj; cases hobj) hselP hmethM habM hkP hkPi (g := g) hg (argsL := argsL) (rest := rest) (hlen _ hsigM) hstack hdg
  obtain ⟨v, B, X', hpost, hsteps⟩ := hK m meth c ⟨T.setVm vm₁, locs, cells, slots⟩ { g with stack := rest } (.invokevirtual index) mk (Value.ref b :: argsL).toArray X₁ hg hsize hdg hW (X₁.named hnamed) (hpre vm₁ X₁.warmed)
  exact ⟨v, vm₁, B, X₁.warmed, X', hpost, fun target h => hstep₁ _ fun acts => by rw [doInvoke_state]; exact hsteps.trans h⟩
abbrev vx_CVW (R : Room) (s : State) (args : Array Value) (own C : String) (index : Nat) (y : MethodName) (bytes : ByteArray) (maxL : Nat) (ret : Option FieldType) (hh : List (Nat × Nat × Nat × Nat)) (ws : List Cond) (rm : Room) (mc ms n : Nat) : Prop :=
  (rm.cells = mc ∧ rm.slots = ms ∧ rm.frames + 1 ≤ R.frames ∧ 8 + (maxL + 11) + rm.locals ≤ R.locals ∧ (∀ w ∈ ws, ∀ (a' : Array Value) (U : State), s.WarmedH U.vm → w.before a' U = true) ∧ Cond.codeWith y bytes maxL ret hh ∈ ws) ∧
  (Cond.codeWith y bytes maxL ret hh).before args s = true ∧ (Cond.initialized y.cls).before args s = true ∧ (y.cls ≠ "java/lang/invoke/MethodHandle" ∧ y.cls ≠ "java/lang/invoke/VarHandle") ∧
  (∀ sig, parseMethodDescriptor y.desc = some sig → n = sig.parameters.length) ∧ (Cond.methodLink own index y).before args s = true ∧ (Cond.instanceMethod y).before args s = true ∧ (Cond.selects C y y).before args s = true
theorem vx_cwVW {own C : String} {index maxL mc ms : Nat} {y : MethodName} {bytes : ByteArray} {ret : Option FieldType} {hh : List (Nat × Nat × Nat × Nat)} {Ts ws ws' : List Cond} {rm : Room} (n : Nat) (ht : ∀ w ∈ Ts, w.before args s = true) (hT : GoodIn Ts (wsV own index C y ws)) (hw : ws = Cond.codeWith y bytes maxL ret hh :: ws') (hrc : rm.cells = mc) (hrs : rm.slots = ms)
    (hd : y.cls = C ∧ y.cls ≠ "java/lang/invoke/MethodHandle" ∧ y.cls ≠ "java/lang/invoke/VarHandle" ∧ (parseMethodDescriptor y.desc).map (fun d => d.parameters.length) = some n) (hR : rm.frames + 1 ≤ R.frames ∧ 8 + (maxL + 11) + rm.locals ≤ R.locals) :
    vx_CVW R s args own C index y bytes maxL ret hh ws rm mc ms n := by
  obtain ⟨hC, hd⟩ := hd
  subst hC
  have ok : ∀ w ∈ wsV own index y.cls y ws, w.before args s = true := fun w h => ht w (hT w h).1
  have hG : GoodIn Ts ws := fun w h => hT w (by unfold wsV; exact List.mem_append_right _ h)
  have hc : Cond.codeWith y bytes maxL ret hh ∈ ws := by rw [hw]; exact List.mem_cons_self
  refine ⟨⟨hrc, hrs, hR.1, hR.2, pay_in ht hG, hc⟩, ht _ (hG _ hc).1, ok _ (by simp [wsV]), ⟨hd.1, hd.2.1⟩, fun sig h => ?_, ok _ (by simp [wsV]), ok _ (by simp [wsV]), ok _ (by simp [wsV])⟩
  have h2 := hd.2.2
  rw [h] at h2
  exact (Option.some.inj h2).symm
theorem vx_runVW {y : MethodName} {bytes cc : ByteArray} {maxL nL mc ms n index : Nat} {ret : Option FieldType} {hh : List (Nat × Nat × Nat × Nat)} {ws : List Cond} {rm : Room} {Pc : Array Value → State → Prop} {Qc : Array Value → State → Outcome → State → Prop} {free : Addr → Prop} {Ts : List Cond} {own C : String} {b : Addr} {As rest : List Value} {g : JFrame}
    (S : CallFix p m c cc nL s args Ts own) (hM : Met l y ws rm Pc Qc mc ms free) (cw : vx_CVW R s args own C index y bytes maxL ret hh ws rm mc ms n) (hp : PreV s H C b Pc As)
    (hg : g.method = m) (hn : As.length = n) (hsize : g.locals.size = nL) (hstack : g.stack = As.reverse ++ .ref b :: rest) (hW : 2 * g.monitorRoom + (rest.map fun v => v.category).sum ≤ 8) (hdg : decode cc g.pc = .ok (.invokevirtual index, 3)) (hf : cells + mc ≤ R.cells ∧ slots + ms ≤ R.slots) :
    va_Run p l e R s m args below meth c H locs cells slots mc ms g rest (Qc (Value.ref b :: As).toArray) free := by
  obtain ⟨⟨hrc, hrs, hfr, hlo, hws, hcw⟩, hcode, hini, hy, hlen, hl, hin, hse⟩ := cw
  have hK : Back l R p e below s args y 3 8 (PreOf R mc ms Pc) (PostOf Qc mc ms free) := va_backW (hh := hh) (bytes := bytes) (maxL := maxL) (ret := ret) hM hp.1 hrc hrs hfr hlo hws hcw (fun a' U hW => word_at hW (Or.inl (by first | rfl | simp [Cond.onTables, Cond.keeps, Cond.steady])) hini)
  obtain ⟨hx, hb, hml, ho, -⟩ := S
  obtain ⟨-, ⟨cellB, hcB, hoB, hclB⟩, hPc⟩ := hp
  intro T hT X
  obtain ⟨v, vm₁, ⟨U', l2, c2, s2⟩, hW₁, X', ⟨g', mk, t, L, e1, e2, hq, h1, hL, h2, h3⟩, st⟩ := vx_callVW X hx (C := C) (hh := hh) (bytes := bytes) (maxL := maxL) (ret := ret) ho hl hin hse hcode hy hK (by rw [hT]; exact hcB) hoB hclB hg (hsize.trans hml.symm) (argsL := As) (rest := rest) (fun sig h => hn.trans (hlen sig h)) hstack hW (by rw [hb]; exact hdg)
    (fun vm₁ hW₁ => ⟨hf.1, hf.2, hPc (T.setVm vm₁) hT hW₁⟩)
  dsimp only [Pt.U, Pt.locs, Pt.cells, Pt.slots] at X' e1 e2 h1 h2 h3 st
  subst h1; subst h2; subst h3
  exact ⟨v, (T.setVm vm₁).calling g' mk (Value.ref b :: As).toArray, t, U', L, hT, X', hL, e1, e2, hq, st⟩
section
variable {y : MethodName} {bytes cc : ByteArray} {maxL nL mc ms n index : Nat} {ret : Option FieldType} {ws : List Cond} {rm : Room} {Pc : Array Value → State → Prop} {Qc : Array Value → State → Outcome → State → Prop} {XC : String → State → State → Prop} {free : Addr → Prop} {Ts : List Cond} {own C : String} {b : Addr} {As rest : List Value} {g : JFrame}
theorem vx_runVX {hh : List (Nat × Nat × Nat × Nat)} (S : CallFix p m c cc nL s args Ts own) (hM : vx_Met l y ws rm Pc Qc XC mc ms free) (cw : vx_CVW R s args own C index y bytes maxL ret hh ws rm mc ms n) (hp : PreV s H C b Pc As)
    (hg : g.method = m) (hn : As.length = n) (hsize : g.locals.size = nL) (hstack : g.stack = As.reverse ++ .ref b :: rest) (hW : 2 * g.monitorRoom + (rest.map fun v => v.category).sum ≤ 8) (hdg : decode cc g.pc = .ok (.invokevirtual index, 3)) (hf : cells + mc ≤ R.cells ∧ slots + ms ≤ R.slots) :
    vx_Run p l e R s m args below meth c H locs cells slots mc ms g rest (Qc (Value.ref b :: As).toArray) XC free := by
  obtain ⟨⟨hrc, hrs, hfr, hlo, hws, hcw⟩, hcode, hini, hy, hlen, hl, hin, hse⟩ := cw
  have hK : vx_Back l R p e below s args y 3 8 (PreOf R mc ms Pc) (PostOf Qc mc ms free) (vx_Post XC mc ms free) := vx_backW (hh := hh) (bytes := bytes) (maxL := maxL) (ret := ret) hM hp.1 hrc hrs hfr hlo hws hcw (fun a' U hW => word_at hW (Or.inl (by first | rfl | simp [Cond.onTables, Cond.keeps, Cond.steady])) hini)
  obtain ⟨hx, hb, hml, ho, -⟩ := S
  obtain ⟨-, ⟨cellB, hcB, hoB, hclB⟩, hPc⟩ := hp
  intro T hT X
  rcases vx_callVX X hx (C := C) (hh := hh) (bytes := bytes) (maxL := maxL) (ret := ret) ho hl hin hse hcode hy hK (by rw [hT]; exact hcB) hoB hclB hg (hsize.trans hml.symm) (argsL := As) (rest := rest) (fun sig h => hn.trans (hlen sig h)) hstack hW (by rw [hb]; exact hdg)
    (fun vm₁ hW₁ => ⟨hf.1, hf.2, hPc (T.setVm vm₁) hT hW₁⟩) with ⟨v, vm₁, ⟨U', l2, c2, s2⟩, hW₁, X', ⟨g', mk, t, L, e1, e2, hq, h1, hL, h2, h3⟩, st⟩ | ⟨q, vm₁, ⟨U', l2, c2, s2⟩, hW₁, X', ⟨g', mk, t, L, E, ce, e1, e2, hq, hce, hcv, hcl, h1, hL, h2, h3⟩, st⟩
  · dsimp only [Pt.U, Pt.locs, Pt.cells, Pt.slots] at X' e1 e2 h1 h2 h3 st
    subst h1; subst h2; subst h3
    exact Or.inl ⟨v, (T.setVm vm₁).calling g' mk (Value.ref b :: As).toArray, t, U', L, hT, X', hL, e1, e2, hq, st⟩
  · dsimp only [Pt.U, Pt.locs, Pt.cells, Pt.slots] at X' e1 e2 h1 h2 h3 st hcl
    subst h1; subst h2; subst h3
    exact Or.inr ⟨q, (T.setVm vm₁).calling g' mk (Value.ref b :: As).toArray, t, U', L, E, ce, hT, X', hL, e1, e2, hq, hce, hcv, vx_cls hW₁ hcl, st⟩
theorem vx_runSX {hh : List (Nat × Nat × Nat × Nat)} (S : CallFix p m c cc nL s args Ts own) (hM : vx_Met l y ws rm Pc Qc XC mc ms free) (cw : vx_CSW R s args own index y bytes maxL ret hh ws rm mc ms n) (hp : PreS s H Pc As)
    (hg : g.method = m) (hn : As.length = n) (hsize : g.locals.size = nL) (hstack : g.stack = As.reverse ++ rest) (hW : 2 * g.monitorRoom + (rest.map fun v => v.category).sum ≤ 8) (hdg : decode cc g.pc = .ok (.invokestatic index, 3)) (hf : cells + mc ≤ R.cells ∧ slots + ms ≤ R.slots) :
    vx_Run p l e R s m args below meth c H locs cells slots mc ms g rest (Qc As.toArray) XC free := by
  obtain ⟨⟨hrc, hrs, hfr, hlo, hws, hcw⟩, hcode, hini, hy, hlen, hl, hstt⟩ := cw
  have hK : vx_Back l R p e below s args y 3 8 (PreOf R mc ms Pc) (PostOf Qc mc ms free) (vx_Post XC mc ms free) := vx_backW (hh := hh) (bytes := bytes) (maxL := maxL) (ret := ret) hM hp.1 hrc hrs hfr hlo hws hcw (fun a' U hW => word_at hW (Or.inl (by first | rfl | simp [Cond.onTables, Cond.keeps, Cond.steady])) hini)
  obtain ⟨hx, hb, hml, ho, -⟩ := S
  intro T hT X
  rcases vx_callSX X hx (hh := hh) (bytes := bytes) (maxL := maxL) (ret := ret) ho hl hstt hini hcode hy hK hg (hsize.trans hml.symm) (argsL := As) (rest := rest) (fun sig h => hn.trans (hlen sig h)) hstack hW (by rw [hb]; exact hdg)
    (fun vm₁ hW₁ => ⟨hf.1, hf.2, hp.2 (T.setVm vm₁) hT hW₁⟩) with ⟨v, vm₁, ⟨U', l2, c2, s2⟩, hW₁, X', ⟨g', mk, t, L, e1, e2, hq, h1, hL, h2, h3⟩, st⟩ | ⟨q, vm₁, ⟨U', l2, c2, s2⟩, hW₁, X', ⟨g', mk, t, L, E, ce, e1, e2, hq, hce, hcv, hcl, h1, hL, h2, h3⟩, st⟩
  · dsimp only [Pt.U, Pt.locs, Pt.cells, Pt.slots] at X' e1 e2 h1 h2 h3 st
    subst h1; subst h2; subst h3
    exact Or.inl ⟨v, (T.setVm vm₁).calling g' mk As.toArray, t, U', L, hT, X', hL, e1, e2, hq, st⟩
  · dsimp only [Pt.U, Pt.locs, Pt.cells, Pt.slots] at X' e1 e2 h1 h2 h3 st hcl
    subst h1; subst h2; subst h3
    exact Or.inr ⟨q, (T.setVm vm₁).calling g' mk As.toArray, t, U', L, E, ce, hT, X', hL, e1, e2, hq, hce, hcv, vx_cls hW₁ hcl, st⟩
end
end VXH
theorem vx_ofWH {l : Launch} {y : MethodName} {ws ws' : List Cond} {rm : Room} {Pc : Array Value → State → Prop} {Qc : Array Value → State → Outcome → State → Prop} {XC : String → State → State → Prop} {mc ms : Nat} {free : Addr → Prop} {cc : ByteArray} {maxL : Nat} {ret : Option FieldType} {hh : List (Nat × Nat × Nat × Nat)}
    (hy : plainName y.cls = true) (hw : ws = Cond.codeWith y cc maxL ret hh :: ws')
    (body : ∀ p e s m args below meth c s₁, BodyLoose p l y (headSpec ws rm) cc maxL ret e s m args below meth c s₁ → c.maxLocals = maxL → Pc args s →
      W p l e (headSpec ws rm).room s m args below meth c s.heap [] 0 0 (vx_MQ below Qc XC args s mc ms free) (entryFrame m args maxL)) : vx_Met l y ws rm Pc Qc XC mc ms free := by
  refine MetFree.of_bodyS (code := cc) (maxLocals := maxL) (ret := ret) hy ?_ ?_
  · intro args s m h hn
    obtain ⟨m9, meth, c, hn9, h1, h2, h3, h4, -, h5, h6, -⟩ := Cond.codeWith_spec (atoms_spec (ws := ws) h _ (by rw [hw]; exact List.mem_cons_self))
    cases hn.symm.trans hn9
    exact ⟨meth, c, h1, h2, h3, h4, h5, h6⟩
  · intro p e s m args below meth c s₁ B hml hP _
    have hh0 : s₁.heap = s.heap := by rw [B.state]; rfl
    obtain ⟨t, a1, o, b1, b2, b3⟩ := body p e s m args below meth c s₁ B hml hP s₁ hh0 (Stand.of_body B)
    exact ⟨t, o, a1, b1, b2, b3⟩
/-! ===== END ===== -/

/-! ===== BEGIN printed: names, fields, word lists, decode rows ===== -/
def RX0 : String := "PrintKeeper$Document"
def TX0 : u_T := fun k => match k with
  | 0 => ("PrintKeeper$Document", "run", "LPrintKeeper$Run;", true)
  | 1 => ("PrintKeeper$Document", "firstPage", "I", true)
  | 2 => ("PrintKeeper$Document", "account", "I", true)
  | 3 => ("PrintKeeper$Document", "kind", "I", true)
  | 4 => ("PrintKeeper$Document", "pageCount", "I", false)
  | _ => ("PrintKeeper$Document", "gone", "Z", false)
def tyX0 : Nat → FieldType := fun k => match k with
  | 0 => .object "PrintKeeper$Run"
  | 1 => .int
  | 2 => .int
  | 3 => .int
  | 4 => .int
  | _ => .boolean
abbrev wsX00 : List Cond := u_ws RX0 TX0 6
theorem nmX0 : ∀ a, a < 6 → ∀ b, b < 6 → a ≠ b → (TX0 a).2.1 ≠ (TX0 b).2.1 := by decide +kernel
theorem tyX0_ok : ∀ k, k < 6 → parseFieldDescriptor (TX0 k).2.2.1 = some (tyX0 k) := by decide +kernel
abbrev cX0_init : ByteArray := prog_2_method_1_code
def yX0_init : MethodName := ⟨RX0, "<init>", "(LPrintKeeper$Run;III)V"⟩
abbrev cX0_fits : ByteArray := prog_2_method_2_code
def yX0_fits : MethodName := ⟨RX0, "fits", "(III)Z"⟩
def RX1 : String := "PrintKeeper$Format"
def TX1 : u_T := fun k => match k with
  | 0 => ("PrintKeeper$Format", "day", "I", true)
  | 1 => ("PrintKeeper$Format", "accountLine", "I", true)
  | _ => ("PrintKeeper$Format", "kindLine", "I", true)
def tyX1 : Nat → FieldType := fun k => match k with
  | 0 => .int
  | 1 => .int
  | _ => .int
abbrev wsX10 : List Cond := u_ws RX1 TX1 3
theorem nmX1 : ∀ a, a < 3 → ∀ b, b < 3 → a ≠ b → (TX1 a).2.1 ≠ (TX1 b).2.1 := by decide +kernel
theorem tyX1_ok : ∀ k, k < 3 → parseFieldDescriptor (TX1 k).2.2.1 = some (tyX1 k) := by decide +kernel
abbrev cX1_init : ByteArray := prog_3_method_1_code
def yX1_init : MethodName := ⟨RX1, "<init>", "(III)V"⟩
def RX2 : String := "PrintKeeper$Page"
def TX2 : u_T := fun k => match k with
  | 0 => ("PrintKeeper$Page", "values", "[I", true)
  | 1 => ("PrintKeeper$Page", "count", "I", false)
  | _ => ("PrintKeeper$Page", "copies", "I", false)
def tyX2 : Nat → FieldType := fun k => match k with
  | 0 => .array .int
  | 1 => .int
  | _ => .int
abbrev wsX20 : List Cond := u_ws RX2 TX2 3
theorem nmX2 : ∀ a, a < 3 → ∀ b, b < 3 → a ≠ b → (TX2 a).2.1 ≠ (TX2 b).2.1 := by decide +kernel
theorem tyX2_ok : ∀ k, k < 3 → parseFieldDescriptor (TX2 k).2.2.1 = some (tyX2 k) := by decide +kernel
abbrev cX2_init : ByteArray := prog_4_method_1_code
def yX2_init : MethodName := ⟨RX2, "<init>", "()V"⟩
abbrev cX2_isEmpty : ByteArray := prog_4_method_2_code
def yX2_isEmpty : MethodName := ⟨RX2, "isEmpty", "()Z"⟩
abbrev cX2_put : ByteArray := prog_4_method_3_code
def yX2_put : MethodName := ⟨RX2, "put", "(I)Z"⟩
abbrev cX2_has : ByteArray := prog_4_method_4_code
def yX2_has : MethodName := ⟨RX2, "has", "(I)Z"⟩
abbrev cX2_valueAt : ByteArray := prog_4_method_5_code
def yX2_valueAt : MethodName := ⟨RX2, "valueAt", "(I)I"⟩
abbrev cX2_hasLinesOf : ByteArray := prog_4_method_6_code
def yX2_hasLinesOf : MethodName := ⟨RX2, "hasLinesOf", "(LPrintKeeper$Page;)Z"⟩
def RX3 : String := "PrintKeeper$Reader"
def TX3 : u_T := fun k => match k with
  | 0 => ("PrintKeeper$Reader", "seesLackingAccounts", "Z", true)
  | 1 => ("PrintKeeper$Reader", "first", "I", false)
  | 2 => ("PrintKeeper$Reader", "last", "I", false)
  | _ => ("PrintKeeper$Reader", "blank", "I", false)
def tyX3 : Nat → FieldType := fun k => match k with
  | 0 => .boolean
  | 1 => .int
  | 2 => .int
  | _ => .int
abbrev wsX30 : List Cond := u_ws RX3 TX3 4
theorem nmX3 : ∀ a, a < 4 → ∀ b, b < 4 → a ≠ b → (TX3 a).2.1 ≠ (TX3 b).2.1 := by decide +kernel
theorem tyX3_ok : ∀ k, k < 4 → parseFieldDescriptor (TX3 k).2.2.1 = some (tyX3 k) := by decide +kernel
abbrev cX3_init : ByteArray := prog_5_method_1_code
def yX3_init : MethodName := ⟨RX3, "<init>", "(Z)V"⟩
abbrev cX3_sees : ByteArray := prog_5_method_2_code
def yX3_sees : MethodName := ⟨RX3, "sees", "(LPrintKeeper$Document;)Z"⟩
def RX4 : String := "PrintKeeper$Run"
def TX4 : u_T := fun k => match k with
  | 0 => ("PrintKeeper$Run", "pages", "Ljava/util/ArrayList;", true)
  | _ => ("PrintKeeper$Run", "day", "I", false)
def tyX4 : Nat → FieldType := fun k => match k with
  | 0 => .object "java/util/ArrayList"
  | _ => .int
abbrev wsX40 : List Cond := u_ws RX4 TX4 2
theorem nmX4 : ∀ a, a < 2 → ∀ b, b < 2 → a ≠ b → (TX4 a).2.1 ≠ (TX4 b).2.1 := by decide +kernel
theorem tyX4_ok : ∀ k, k < 2 → parseFieldDescriptor (TX4 k).2.2.1 = some (tyX4 k) := by decide +kernel
abbrev cX4_init : ByteArray := prog_6_method_1_code
def yX4_init : MethodName := ⟨RX4, "<init>", "()V"⟩
abbrev cX4_isLike : ByteArray := prog_6_method_2_code
def yX4_isLike : MethodName := ⟨RX4, "isLike", "(LPrintKeeper$Run;)Z"⟩
def RX5 : String := "PrintKeeper"
def TX5 : u_T := fun k => match k with
  | 0 => ("PrintKeeper", "day", "I", false)
  | 1 => ("PrintKeeper", "usual", "LPrintKeeper$Format;", true)
  | 2 => ("PrintKeeper", "formats", "Ljava/util/ArrayList;", true)
  | 3 => ("PrintKeeper", "runs", "Ljava/util/ArrayList;", true)
  | 4 => ("PrintKeeper", "pagesKept", "I", false)
  | 5 => ("PrintKeeper", "open", "LPrintKeeper$Run;", false)
  | 6 => ("PrintKeeper", "openPage", "LPrintKeeper$Page;", false)
  | 7 => ("PrintKeeper", "documents", "Ljava/util/ArrayList;", true)
  | 8 => ("PrintKeeper", "readers", "Ljava/util/ArrayList;", true)
  | 9 => ("PrintKeeper", "spans", "[I", true)
  | _ => ("PrintKeeper", "heldAccounts", "[Z", true)
def tyX5 : Nat → FieldType := fun k => match k with
  | 0 => .int
  | 1 => .object "PrintKeeper$Format"
  | 2 => .object "java/util/ArrayList"
  | 3 => .object "java/util/ArrayList"
  | 4 => .int
  | 5 => .object "PrintKeeper$Run"
  | 6 => .object "PrintKeeper$Page"
  | 7 => .object "java/util/ArrayList"
  | 8 => .object "java/util/ArrayList"
  | 9 => .array .int
  | _ => .array .boolean
abbrev wsX50 : List Cond := u_ws RX5 TX5 11
theorem nmX5 : ∀ a, a < 11 → ∀ b, b < 11 → a ≠ b → (TX5 a).2.1 ≠ (TX5 b).2.1 := by decide +kernel
theorem tyX5_ok : ∀ k, k < 11 → parseFieldDescriptor (TX5 k).2.2.1 = some (tyX5 k) := by decide +kernel
abbrev cX5_init : ByteArray := prog_1_method_1_code
def yX5_init : MethodName := ⟨RX5, "<init>", "()V"⟩
abbrev cX5_pass : ByteArray := prog_1_method_2_code
def yX5_pass : MethodName := ⟨RX5, "pass", "(I)I"⟩
abbrev cX5_format : ByteArray := prog_1_method_3_code
def yX5_format : MethodName := ⟨RX5, "format", "(III)I"⟩
abbrev cX5_line : ByteArray := prog_1_method_4_code
def yX5_line : MethodName := ⟨RX5, "line", "(I)I"⟩
abbrev cX5_feed : ByteArray := prog_1_method_5_code
def yX5_feed : MethodName := ⟨RX5, "feed", "()I"⟩
abbrev cX5_end : ByteArray := prog_1_method_6_code
def yX5_end : MethodName := ⟨RX5, "end", "()I"⟩
abbrev cX5_pages : ByteArray := prog_1_method_7_code
def yX5_pages : MethodName := ⟨RX5, "pages", "(I)I"⟩
abbrev cX5_twice : ByteArray := prog_1_method_8_code
def yX5_twice : MethodName := ⟨RX5, "twice", "(I)I"⟩
abbrev cX5_reprint : ByteArray := prog_1_method_9_code
def yX5_reprint : MethodName := ⟨RX5, "reprint", "(III)I"⟩
abbrev cX5_copies : ByteArray := prog_1_method_10_code
def yX5_copies : MethodName := ⟨RX5, "copies", "(II)I"⟩
abbrev cX5_documents : ByteArray := prog_1_method_11_code
def yX5_documents : MethodName := ⟨RX5, "documents", "()I"⟩
abbrev cX5_isThere : ByteArray := prog_1_method_12_code
def yX5_isThere : MethodName := ⟨RX5, "isThere", "(I)Z"⟩
abbrev cX5_account : ByteArray := prog_1_method_13_code
def yX5_account : MethodName := ⟨RX5, "account", "(I)I"⟩
abbrev cX5_kind : ByteArray := prog_1_method_14_code
def yX5_kind : MethodName := ⟨RX5, "kind", "(I)I"⟩
abbrev cX5_length : ByteArray := prog_1_method_15_code
def yX5_length : MethodName := ⟨RX5, "length", "(I)I"⟩
abbrev cX5_found : ByteArray := prog_1_method_16_code
def yX5_found : MethodName := ⟨RX5, "found", "(IIIII)I"⟩
abbrev cX5_read : ByteArray := prog_1_method_17_code
def yX5_read : MethodName := ⟨RX5, "read", "(IIII)I"⟩
abbrev cX5_view : ByteArray := prog_1_method_18_code
def yX5_view : MethodName := ⟨RX5, "view", "(IIII)V"⟩
abbrev cX5_span : ByteArray := prog_1_method_19_code
def yX5_span : MethodName := ⟨RX5, "span", "(II)I"⟩
abbrev cX5_hold : ByteArray := prog_1_method_20_code
def yX5_hold : MethodName := ⟨RX5, "hold", "(IZ)Z"⟩
abbrev cX5_clear : ByteArray := prog_1_method_21_code
def yX5_clear : MethodName := ⟨RX5, "clear", "()I"⟩
abbrev cX5_bundle : ByteArray := prog_1_method_22_code
def yX5_bundle : MethodName := ⟨RX5, "bundle", "(II)I"⟩
abbrev cX5_demandRange : ByteArray := prog_1_method_23_code
def yX5_demandRange : MethodName := ⟨RX5, "demandRange", "(III)V"⟩
abbrev cX5_demandPage : ByteArray := prog_1_method_24_code
def yX5_demandPage : MethodName := ⟨RX5, "demandPage", "(LPrintKeeper$Run;I)V"⟩
abbrev cX5_isKind : ByteArray := prog_1_method_25_code
def yX5_isKind : MethodName := ⟨RX5, "isKind", "(I)Z"⟩
abbrev cX5_isAccount : ByteArray := prog_1_method_26_code
def yX5_isAccount : MethodName := ⟨RX5, "isAccount", "(I)Z"⟩
abbrev cX5_runAt : ByteArray := prog_1_method_27_code
def yX5_runAt : MethodName := ⟨RX5, "runAt", "(I)LPrintKeeper$Run;"⟩
abbrev cX5_pageAt : ByteArray := prog_1_method_28_code
def yX5_pageAt : MethodName := ⟨RX5, "pageAt", "(LPrintKeeper$Run;I)LPrintKeeper$Page;"⟩
abbrev cX5_documentAt : ByteArray := prog_1_method_29_code
def yX5_documentAt : MethodName := ⟨RX5, "documentAt", "(I)LPrintKeeper$Document;"⟩
abbrev cX5_pageOf : ByteArray := prog_1_method_30_code
def yX5_pageOf : MethodName := ⟨RX5, "pageOf", "(LPrintKeeper$Document;I)LPrintKeeper$Page;"⟩
abbrev cX5_readerAt : ByteArray := prog_1_method_31_code
def yX5_readerAt : MethodName := ⟨RX5, "readerAt", "(I)LPrintKeeper$Reader;"⟩
abbrev cX5_closePage : ByteArray := prog_1_method_32_code
def yX5_closePage : MethodName := ⟨RX5, "closePage", "()V"⟩
abbrev cX5_keepOpenRun : ByteArray := prog_1_method_33_code
def yX5_keepOpenRun : MethodName := ⟨RX5, "keepOpenRun", "()V"⟩
abbrev cX5_putTogether : ByteArray := prog_1_method_34_code
def yX5_putTogether : MethodName := ⟨RX5, "putTogether", "(LPrintKeeper$Run;)V"⟩
abbrev cX5_kindOf : ByteArray := prog_1_method_35_code
def yX5_kindOf : MethodName := ⟨RX5, "kindOf", "(LPrintKeeper$Page;LPrintKeeper$Format;)I"⟩
abbrev cX5_formatOn : ByteArray := prog_1_method_36_code
def yX5_formatOn : MethodName := ⟨RX5, "formatOn", "(I)LPrintKeeper$Format;"⟩
abbrev cX5_isOver : ByteArray := prog_1_method_37_code
def yX5_isOver : MethodName := ⟨RX5, "isOver", "(LPrintKeeper$Document;)Z"⟩
abbrev cX5_isHeld : ByteArray := prog_1_method_38_code
def yX5_isHeld : MethodName := ⟨RX5, "isHeld", "(LPrintKeeper$Document;)Z"⟩
def RX6 : String := "PrintKeeperModel"
def TX6 : u_T := fun k => match k with
  | 0 => ("PrintKeeperModel", "thrown", "I", false)
  | 1 => ("PrintKeeperModel", "day", "I", false)
  | 2 => ("PrintKeeperModel", "formats", "I", false)
  | 3 => ("PrintKeeperModel", "since", "[I", true)
  | 4 => ("PrintKeeperModel", "accountLine", "[I", true)
  | 5 => ("PrintKeeperModel", "kindLine", "[I", true)
  | 6 => ("PrintKeeperModel", "kept", "I", false)
  | 7 => ("PrintKeeperModel", "ended", "I", false)
  | 8 => ("PrintKeeperModel", "size", "[I", true)
  | 9 => ("PrintKeeperModel", "lines", "[I", true)
  | 10 => ("PrintKeeperModel", "typed", "I", false)
  | 11 => ("PrintKeeperModel", "page", "[I", true)
  | 12 => ("PrintKeeperModel", "copies", "[I", true)
  | 13 => ("PrintKeeperModel", "runs", "I", false)
  | 14 => ("PrintKeeperModel", "runDay", "[I", true)
  | 15 => ("PrintKeeperModel", "runFirst", "[I", true)
  | 16 => ("PrintKeeperModel", "runPages", "[I", true)
  | 17 => ("PrintKeeperModel", "documents", "I", false)
  | 18 => ("PrintKeeperModel", "first", "[I", true)
  | 19 => ("PrintKeeperModel", "length", "[I", true)
  | 20 => ("PrintKeeperModel", "account", "[I", true)
  | 21 => ("PrintKeeperModel", "kind", "[I", true)
  | 22 => ("PrintKeeperModel", "dated", "[I", true)
  | 23 => ("PrintKeeperModel", "isGone", "[Z", true)
  | 24 => ("PrintKeeperModel", "low", "[I", true)
  | 25 => ("PrintKeeperModel", "high", "[I", true)
  | 26 => ("PrintKeeperModel", "blank", "[I", true)
  | 27 => ("PrintKeeperModel", "span", "[I", true)
  | _ => ("PrintKeeperModel", "isHeld", "[Z", true)
def tyX6 : Nat → FieldType := fun k => match k with
  | 0 => .int
  | 1 => .int
  | 2 => .int
  | 3 => .array .int
  | 4 => .array .int
  | 5 => .array .int
  | 6 => .int
  | 7 => .int
  | 8 => .array .int
  | 9 => .array .int
  | 10 => .int
  | 11 => .array .int
  | 12 => .array .int
  | 13 => .int
  | 14 => .array .int
  | 15 => .array .int
  | 16 => .array .int
  | 17 => .int
  | 18 => .array .int
  | 19 => .array .int
  | 20 => .array .int
  | 21 => .array .int
  | 22 => .array .int
  | 23 => .array .boolean
  | 24 => .array .int
  | 25 => .array .int
  | 26 => .array .int
  | 27 => .array .int
  | _ => .array .boolean
abbrev wsX60 : List Cond := u_ws RX6 TX6 29
theorem nmX6 : ∀ a, a < 29 → ∀ b, b < 29 → a ≠ b → (TX6 a).2.1 ≠ (TX6 b).2.1 := by decide +kernel
theorem tyX6_ok : ∀ k, k < 29 → parseFieldDescriptor (TX6 k).2.2.1 = some (tyX6 k) := by decide +kernel
abbrev cX6_init : ByteArray := prog_8_method_1_code
def yX6_init : MethodName := ⟨RX6, "<init>", "()V"⟩
abbrev cX6_thrown : ByteArray := prog_8_method_2_code
def yX6_thrown : MethodName := ⟨RX6, "thrown", "()I"⟩
abbrev cX6_in : ByteArray := prog_8_method_3_code
def yX6_in : MethodName := ⟨RX6, "in", "(III)Z"⟩
abbrev cX6_isRun : ByteArray := prog_8_method_4_code
def yX6_isRun : MethodName := ⟨RX6, "isRun", "(I)Z"⟩
abbrev cX6_pass : ByteArray := prog_8_method_5_code
def yX6_pass : MethodName := ⟨RX6, "pass", "(I)I"⟩
abbrev cX6_format : ByteArray := prog_8_method_6_code
def yX6_format : MethodName := ⟨RX6, "format", "(III)I"⟩
abbrev cX6_formatNow : ByteArray := prog_8_method_7_code
def yX6_formatNow : MethodName := ⟨RX6, "formatNow", "()I"⟩
abbrev cX6_line : ByteArray := prog_8_method_8_code
def yX6_line : MethodName := ⟨RX6, "line", "(I)I"⟩
abbrev cX6_endsPage : ByteArray := prog_8_method_9_code
def yX6_endsPage : MethodName := ⟨RX6, "endsPage", "()V"⟩
abbrev cX6_feed : ByteArray := prog_8_method_10_code
def yX6_feed : MethodName := ⟨RX6, "feed", "()I"⟩
abbrev cX6_lineOf : ByteArray := prog_8_method_11_code
def yX6_lineOf : MethodName := ⟨RX6, "lineOf", "(II)I"⟩
abbrev cX6_begins : ByteArray := prog_8_method_12_code
def yX6_begins : MethodName := ⟨RX6, "begins", "(III)V"⟩
abbrev cX6_putsTogether : ByteArray := prog_8_method_13_code
def yX6_putsTogether : MethodName := ⟨RX6, "putsTogether", "()V"⟩
abbrev cX6_end : ByteArray := prog_8_method_14_code
def yX6_end : MethodName := ⟨RX6, "end", "()I"⟩
abbrev cX6_pages : ByteArray := prog_8_method_15_code
def yX6_pages : MethodName := ⟨RX6, "pages", "(I)I"⟩
abbrev cX6_areAlike : ByteArray := prog_8_method_16_code
def yX6_areAlike : MethodName := ⟨RX6, "areAlike", "(II)Z"⟩
abbrev cX6_twice : ByteArray := prog_8_method_17_code
def yX6_twice : MethodName := ⟨RX6, "twice", "(I)I"⟩
abbrev cX6_isPage : ByteArray := prog_8_method_18_code
def yX6_isPage : MethodName := ⟨RX6, "isPage", "(II)Z"⟩
abbrev cX6_reprint : ByteArray := prog_8_method_19_code
def yX6_reprint : MethodName := ⟨RX6, "reprint", "(III)I"⟩
abbrev cX6_copies : ByteArray := prog_8_method_20_code
def yX6_copies : MethodName := ⟨RX6, "copies", "(II)I"⟩
abbrev cX6_documents : ByteArray := prog_8_method_21_code
def yX6_documents : MethodName := ⟨RX6, "documents", "()I"⟩
abbrev cX6_asks : ByteArray := prog_8_method_22_code
def yX6_asks : MethodName := ⟨RX6, "asks", "(I)Z"⟩
abbrev cX6_isThere : ByteArray := prog_8_method_23_code
def yX6_isThere : MethodName := ⟨RX6, "isThere", "(I)Z"⟩
abbrev cX6_account : ByteArray := prog_8_method_24_code
def yX6_account : MethodName := ⟨RX6, "account", "(I)I"⟩
abbrev cX6_kind : ByteArray := prog_8_method_25_code
def yX6_kind : MethodName := ⟨RX6, "kind", "(I)I"⟩
abbrev cX6_length : ByteArray := prog_8_method_26_code
def yX6_length : MethodName := ⟨RX6, "length", "(I)I"⟩
abbrev cX6_isReader : ByteArray := prog_8_method_27_code
def yX6_isReader : MethodName := ⟨RX6, "isReader", "(I)Z"⟩
abbrev cX6_sees : ByteArray := prog_8_method_28_code
def yX6_sees : MethodName := ⟨RX6, "sees", "(II)Z"⟩
abbrev cX6_found : ByteArray := prog_8_method_29_code
def yX6_found : MethodName := ⟨RX6, "found", "(IIIII)I"⟩
abbrev cX6_read : ByteArray := prog_8_method_30_code
def yX6_read : MethodName := ⟨RX6, "read", "(IIII)I"⟩
abbrev cX6_view : ByteArray := prog_8_method_31_code
def yX6_view : MethodName := ⟨RX6, "view", "(IIII)V"⟩
abbrev cX6_span : ByteArray := prog_8_method_32_code
def yX6_span : MethodName := ⟨RX6, "span", "(II)I"⟩
abbrev cX6_hold : ByteArray := prog_8_method_33_code
def yX6_hold : MethodName := ⟨RX6, "hold", "(IZ)Z"⟩
abbrev cX6_clear : ByteArray := prog_8_method_34_code
def yX6_clear : MethodName := ⟨RX6, "clear", "()I"⟩
abbrev cX6_bundle : ByteArray := prog_8_method_35_code
def yX6_bundle : MethodName := ⟨RX6, "bundle", "(II)I"⟩
def RJx145de : String := "java/io/Serializable"
def TJx145de : u_T := fun k => match k with
  | _ => ("", "", "", false)
def tyJx145de : Nat → FieldType := fun k => match k with
  | _ => .int
abbrev wsJx145de0 : List Cond := u_ws RJx145de TJx145de 0
theorem nmJx145de : ∀ a, a < 0 → ∀ b, b < 0 → a ≠ b → (TJx145de a).2.1 ≠ (TJx145de b).2.1 := by decide +kernel
theorem tyJx145de_ok : ∀ k, k < 0 → parseFieldDescriptor (TJx145de k).2.2.1 = some (tyJx145de k) := by decide +kernel
def RJx8e188 : String := "java/lang/Cloneable"
def TJx8e188 : u_T := fun k => match k with
  | _ => ("", "", "", false)
def tyJx8e188 : Nat → FieldType := fun k => match k with
  | _ => .int
abbrev wsJx8e1880 : List Cond := u_ws RJx8e188 TJx8e188 0
theorem nmJx8e188 : ∀ a, a < 0 → ∀ b, b < 0 → a ≠ b → (TJx8e188 a).2.1 ≠ (TJx8e188 b).2.1 := by decide +kernel
theorem tyJx8e188_ok : ∀ k, k < 0 → parseFieldDescriptor (TJx8e188 k).2.2.1 = some (tyJx8e188 k) := by decide +kernel
def RJxab1ab : String := "java/lang/Iterable"
def TJxab1ab : u_T := fun k => match k with
  | _ => ("", "", "", false)
def tyJxab1ab : Nat → FieldType := fun k => match k with
  | _ => .int
abbrev wsJxab1ab0 : List Cond := u_ws RJxab1ab TJxab1ab 0
theorem nmJxab1ab : ∀ a, a < 0 → ∀ b, b < 0 → a ≠ b → (TJxab1ab a).2.1 ≠ (TJxab1ab b).2.1 := by decide +kernel
theorem tyJxab1ab_ok : ∀ k, k < 0 → parseFieldDescriptor (TJxab1ab k).2.2.1 = some (tyJxab1ab k) := by decide +kernel
def RJ9 : String := "java/lang/Math"
def TJ9 : u_T := fun k => match k with
  | _ => ("", "", "", false)
def tyJ9 : Nat → FieldType := fun k => match k with
  | _ => .int
abbrev wsJ90 : List Cond := u_ws RJ9 TJ9 0
theorem nmJ9 : ∀ a, a < 0 → ∀ b, b < 0 → a ≠ b → (TJ9 a).2.1 ≠ (TJ9 b).2.1 := by decide +kernel
theorem tyJ9_ok : ∀ k, k < 0 → parseFieldDescriptor (TJ9 k).2.2.1 = some (tyJ9 k) := by decide +kernel
abbrev cJ9_max_7cf53 : ByteArray := prog_16_method_65_code
def yJ9_max_7cf53 : MethodName := ⟨RJ9, "max", "(II)I"⟩
abbrev cJ9_min_7cf53 : ByteArray := prog_16_method_69_code
def yJ9_min_7cf53 : MethodName := ⟨RJ9, "min", "(II)I"⟩
def RJ0 : String := "java/lang/String"
def TJ0 : u_T := fun k => match k with
  | _ => ("", "", "", false)
def tyJ0 : Nat → FieldType := fun k => match k with
  | _ => .int
abbrev wsJ00 : List Cond := u_ws RJ0 TJ0 0
theorem nmJ0 : ∀ a, a < 0 → ∀ b, b < 0 → a ≠ b → (TJ0 a).2.1 ≠ (TJ0 b).2.1 := by decide +kernel
theorem tyJ0_ok : ∀ k, k < 0 → parseFieldDescriptor (TJ0 k).2.2.1 = some (tyJ0 k) := by decide +kernel
def RJ10 : String := "java/lang/System"
def TJ10 : u_T := fun k => match k with
  | _ => ("", "", "", false)
def tyJ10 : Nat → FieldType := fun k => match k with
  | _ => .int
abbrev wsJ100 : List Cond := u_ws RJ10 TJ10 0
theorem nmJ10 : ∀ a, a < 0 → ∀ b, b < 0 → a ≠ b → (TJ10 a).2.1 ≠ (TJ10 b).2.1 := by decide +kernel
theorem tyJ10_ok : ∀ k, k < 0 → parseFieldDescriptor (TJ10 k).2.2.1 = some (tyJ10 k) := by decide +kernel
def RJxa1e45 : String := "java/util/AbstractCollection"
def TJxa1e45 : u_T := fun k => match k with
  | _ => ("", "", "", false)
def tyJxa1e45 : Nat → FieldType := fun k => match k with
  | _ => .int
abbrev wsJxa1e450 : List Cond := u_ws RJxa1e45 TJxa1e45 0
theorem nmJxa1e45 : ∀ a, a < 0 → ∀ b, b < 0 → a ≠ b → (TJxa1e45 a).2.1 ≠ (TJxa1e45 b).2.1 := by decide +kernel
theorem tyJxa1e45_ok : ∀ k, k < 0 → parseFieldDescriptor (TJxa1e45 k).2.2.1 = some (tyJxa1e45 k) := by decide +kernel
abbrev cJxa1e45_init_da8c8 : ByteArray := prog_21_method_1_code
def yJxa1e45_init_da8c8 : MethodName := ⟨RJxa1e45, "<init>", "()V"⟩
def RJxc12de : String := "java/util/AbstractList"
def TJxc12de : u_T := fun k => match k with
  | _ => ("", "", "", false)
def tyJxc12de : Nat → FieldType := fun k => match k with
  | _ => .int
abbrev wsJxc12de0 : List Cond := u_ws RJxc12de TJxc12de 0
theorem nmJxc12de : ∀ a, a < 0 → ∀ b, b < 0 → a ≠ b → (TJxc12de a).2.1 ≠ (TJxc12de b).2.1 := by decide +kernel
theorem tyJxc12de_ok : ∀ k, k < 0 → parseFieldDescriptor (TJxc12de k).2.2.1 = some (tyJxc12de k) := by decide +kernel
abbrev cJxc12de_init_da8c8 : ByteArray := prog_22_method_1_code
def yJxc12de_init_da8c8 : MethodName := ⟨RJxc12de, "<init>", "()V"⟩
def RJx4a65c : String := "java/util/ArrayList"
def TJx4a65c : u_T := fun k => match k with
  | 0 => ("java/util/AbstractList", "modCount", "I", false)
  | 1 => ("java/util/ArrayList", "elementData", "[Ljava/lang/Object;", false)
  | _ => ("java/util/ArrayList", "size", "I", false)
def tyJx4a65c : Nat → FieldType := fun k => match k with
  | 0 => .int
  | 1 => .array (.object "java/lang/Object")
  | _ => .int
abbrev wsJx4a65c0 : List Cond := u_ws RJx4a65c TJx4a65c 3
theorem nmJx4a65c : ∀ a, a < 3 → ∀ b, b < 3 → a ≠ b → (TJx4a65c a).2.1 ≠ (TJx4a65c b).2.1 := by decide +kernel
theorem tyJx4a65c_ok : ∀ k, k < 3 → parseFieldDescriptor (TJx4a65c k).2.2.1 = some (tyJx4a65c k) := by decide +kernel
abbrev cJx4a65c_init_da8c8 : ByteArray := prog_23_method_2_code
def yJx4a65c_init_da8c8 : MethodName := ⟨RJx4a65c, "<init>", "()V"⟩
abbrev cJx4a65c_grow_92f84 : ByteArray := prog_23_method_6_code
def yJx4a65c_grow_92f84 : MethodName := ⟨RJx4a65c, "grow", "(I)[Ljava/lang/Object;"⟩
abbrev cJx4a65c_grow_d5877 : ByteArray := prog_23_method_7_code
def yJx4a65c_grow_d5877 : MethodName := ⟨RJx4a65c, "grow", "()[Ljava/lang/Object;"⟩
abbrev cJx4a65c_size_8abf5 : ByteArray := prog_23_method_8_code
def yJx4a65c_size_8abf5 : MethodName := ⟨RJx4a65c, "size", "()I"⟩
abbrev cJx4a65c_elementData_915e3 : ByteArray := prog_23_method_18_code
def yJx4a65c_elementData_915e3 : MethodName := ⟨RJx4a65c, "elementData", "(I)Ljava/lang/Object;"⟩
abbrev cJx4a65c_get_915e3 : ByteArray := prog_23_method_20_code
def yJx4a65c_get_915e3 : MethodName := ⟨RJx4a65c, "get", "(I)Ljava/lang/Object;"⟩
abbrev cJx4a65c_add_72be8 : ByteArray := prog_23_method_24_code
def yJx4a65c_add_72be8 : MethodName := ⟨RJx4a65c, "add", "(Ljava/lang/Object;[Ljava/lang/Object;I)V"⟩
abbrev cJx4a65c_add_9ea2d : ByteArray := prog_23_method_25_code
def yJx4a65c_add_9ea2d : MethodName := ⟨RJx4a65c, "add", "(Ljava/lang/Object;)Z"⟩
def RJ7 : String := "java/util/Arrays"
def TJ7 : u_T := fun k => match k with
  | _ => ("", "", "", false)
def tyJ7 : Nat → FieldType := fun k => match k with
  | _ => .int
abbrev wsJ70 : List Cond := u_ws RJ7 TJ7 0
theorem nmJ7 : ∀ a, a < 0 → ∀ b, b < 0 → a ≠ b → (TJ7 a).2.1 ≠ (TJ7 b).2.1 := by decide +kernel
theorem tyJ7_ok : ∀ k, k < 0 → parseFieldDescriptor (TJ7 k).2.2.1 = some (tyJ7 k) := by decide +kernel
abbrev cJ7_fill_53178 : ByteArray := prog_24_method_103_code
def yJ7_fill_53178 : MethodName := ⟨RJ7, "fill", "([II)V"⟩
abbrev cJ7_copyOf_1904c : ByteArray := prog_24_method_119_code
def yJ7_copyOf_1904c : MethodName := ⟨RJ7, "copyOf", "([Ljava/lang/Object;I)[Ljava/lang/Object;"⟩
abbrev cJ7_copyOf_6403c : ByteArray := prog_24_method_120_code
def yJ7_copyOf_6403c : MethodName := ⟨RJ7, "copyOf", "([Ljava/lang/Object;ILjava/lang/Class;)[Ljava/lang/Object;"⟩
def RJx5ef63 : String := "java/util/Collection"
def TJx5ef63 : u_T := fun k => match k with
  | _ => ("", "", "", false)
def tyJx5ef63 : Nat → FieldType := fun k => match k with
  | _ => .int
abbrev wsJx5ef630 : List Cond := u_ws RJx5ef63 TJx5ef63 0
theorem nmJx5ef63 : ∀ a, a < 0 → ∀ b, b < 0 → a ≠ b → (TJx5ef63 a).2.1 ≠ (TJx5ef63 b).2.1 := by decide +kernel
theorem tyJx5ef63_ok : ∀ k, k < 0 → parseFieldDescriptor (TJx5ef63 k).2.2.1 = some (tyJx5ef63 k) := by decide +kernel
def RJxbd725 : String := "java/util/List"
def TJxbd725 : u_T := fun k => match k with
  | _ => ("", "", "", false)
def tyJxbd725 : Nat → FieldType := fun k => match k with
  | _ => .int
abbrev wsJxbd7250 : List Cond := u_ws RJxbd725 TJxbd725 0
theorem nmJxbd725 : ∀ a, a < 0 → ∀ b, b < 0 → a ≠ b → (TJxbd725 a).2.1 ≠ (TJxbd725 b).2.1 := by decide +kernel
theorem tyJxbd725_ok : ∀ k, k < 0 → parseFieldDescriptor (TJxbd725 k).2.2.1 = some (tyJxbd725 k) := by decide +kernel
def RJ15 : String := "java/util/Objects"
def TJ15 : u_T := fun k => match k with
  | _ => ("", "", "", false)
def tyJ15 : Nat → FieldType := fun k => match k with
  | _ => .int
abbrev wsJ150 : List Cond := u_ws RJ15 TJ15 0
theorem nmJ15 : ∀ a, a < 0 → ∀ b, b < 0 → a ≠ b → (TJ15 a).2.1 ≠ (TJ15 b).2.1 := by decide +kernel
theorem tyJ15_ok : ∀ k, k < 0 → parseFieldDescriptor (TJ15 k).2.2.1 = some (tyJ15 k) := by decide +kernel
abbrev cJ15_checkIndex_7cf53 : ByteArray := prog_28_method_17_code
def yJ15_checkIndex_7cf53 : MethodName := ⟨RJ15, "checkIndex", "(II)I"⟩
def RJxf0a74 : String := "java/util/RandomAccess"
def TJxf0a74 : u_T := fun k => match k with
  | _ => ("", "", "", false)
def tyJxf0a74 : Nat → FieldType := fun k => match k with
  | _ => .int
abbrev wsJxf0a740 : List Cond := u_ws RJxf0a74 TJxf0a74 0
theorem nmJxf0a74 : ∀ a, a < 0 → ∀ b, b < 0 → a ≠ b → (TJxf0a74 a).2.1 ≠ (TJxf0a74 b).2.1 := by decide +kernel
theorem tyJxf0a74_ok : ∀ k, k < 0 → parseFieldDescriptor (TJxf0a74 k).2.2.1 = some (tyJxf0a74 k) := by decide +kernel
def RJxa66e6 : String := "java/util/SequencedCollection"
def TJxa66e6 : u_T := fun k => match k with
  | _ => ("", "", "", false)
def tyJxa66e6 : Nat → FieldType := fun k => match k with
  | _ => .int
abbrev wsJxa66e60 : List Cond := u_ws RJxa66e6 TJxa66e6 0
theorem nmJxa66e6 : ∀ a, a < 0 → ∀ b, b < 0 → a ≠ b → (TJxa66e6 a).2.1 ≠ (TJxa66e6 b).2.1 := by decide +kernel
theorem tyJxa66e6_ok : ∀ k, k < 0 → parseFieldDescriptor (TJxa66e6 k).2.2.1 = some (tyJxa66e6 k) := by decide +kernel
def RJ8 : String := "jdk/internal/util/ArraysSupport"
def TJ8 : u_T := fun k => match k with
  | _ => ("", "", "", false)
def tyJ8 : Nat → FieldType := fun k => match k with
  | _ => .int
abbrev wsJ80 : List Cond := u_ws RJ8 TJ8 0
theorem nmJ8 : ∀ a, a < 0 → ∀ b, b < 0 → a ≠ b → (TJ8 a).2.1 ≠ (TJ8 b).2.1 := by decide +kernel
theorem tyJ8_ok : ∀ k, k < 0 → parseFieldDescriptor (TJ8 k).2.2.1 = some (tyJ8 k) := by decide +kernel
abbrev cJ8_newLength_cabcc : ByteArray := prog_31_method_27_code
def yJ8_newLength_cabcc : MethodName := ⟨RJ8, "newLength", "(III)I"⟩
abbrev cJ8_hugeLength_7cf53 : ByteArray := prog_31_method_28_code
def yJ8_hugeLength_7cf53 : MethodName := ⟨RJ8, "hugeLength", "(II)I"⟩
def RJ3 : String := "jdk/internal/util/Preconditions"
def TJ3 : u_T := fun k => match k with
  | _ => ("", "", "", false)
def tyJ3 : Nat → FieldType := fun k => match k with
  | _ => .int
abbrev wsJ30 : List Cond := u_ws RJ3 TJ3 0
theorem nmJ3 : ∀ a, a < 0 → ∀ b, b < 0 → a ≠ b → (TJ3 a).2.1 ≠ (TJ3 b).2.1 := by decide +kernel
theorem tyJ3_ok : ∀ k, k < 0 → parseFieldDescriptor (TJ3 k).2.2.1 = some (tyJ3 k) := by decide +kernel
abbrev cJ3_checkIndex_8e157 : ByteArray := prog_32_method_11_code
def yJ3_checkIndex_8e157 : MethodName := ⟨RJ3, "checkIndex", "(IILjava/util/function/BiFunction;)I"⟩
def RL : String := "PrintKeeperLaw"
abbrev cL_pass : ByteArray := method_3_code
def yL_pass : MethodName := ⟨RL, "pass", "(LPrintKeeper;I[J)I"⟩
abbrev cL_format : ByteArray := method_4_code
def yL_format : MethodName := ⟨RL, "format", "(LPrintKeeper;III[J)I"⟩
abbrev cL_line : ByteArray := method_5_code
def yL_line : MethodName := ⟨RL, "line", "(LPrintKeeper;I[J)I"⟩
abbrev cL_feed : ByteArray := method_6_code
def yL_feed : MethodName := ⟨RL, "feed", "(LPrintKeeper;[J)I"⟩
abbrev cL_end : ByteArray := method_7_code
def yL_end : MethodName := ⟨RL, "end", "(LPrintKeeper;[J)I"⟩
abbrev cL_pages : ByteArray := method_8_code
def yL_pages : MethodName := ⟨RL, "pages", "(LPrintKeeper;I[J)I"⟩
abbrev cL_twice : ByteArray := method_9_code
def yL_twice : MethodName := ⟨RL, "twice", "(LPrintKeeper;I[J)I"⟩
abbrev cL_reprint : ByteArray := method_10_code
def yL_reprint : MethodName := ⟨RL, "reprint", "(LPrintKeeper;III[J)I"⟩
abbrev cL_copies : ByteArray := method_11_code
def yL_copies : MethodName := ⟨RL, "copies", "(LPrintKeeper;II[J)I"⟩
abbrev cL_isThere : ByteArray := method_12_code
def yL_isThere : MethodName := ⟨RL, "isThere", "(LPrintKeeper;I[J)I"⟩
abbrev cL_account : ByteArray := method_13_code
def yL_account : MethodName := ⟨RL, "account", "(LPrintKeeper;I[J)I"⟩
abbrev cL_kind : ByteArray := method_14_code
def yL_kind : MethodName := ⟨RL, "kind", "(LPrintKeeper;I[J)I"⟩
abbrev cL_length : ByteArray := method_15_code
def yL_length : MethodName := ⟨RL, "length", "(LPrintKeeper;I[J)I"⟩
abbrev cL_found : ByteArray := method_16_code
def yL_found : MethodName := ⟨RL, "found", "(LPrintKeeper;IIIII[J)I"⟩
abbrev cL_read : ByteArray := method_17_code
def yL_read : MethodName := ⟨RL, "read", "(LPrintKeeper;IIII[J)I"⟩
abbrev cL_view : ByteArray := method_18_code
def yL_view : MethodName := ⟨RL, "view", "(LPrintKeeper;IIII)I"⟩
abbrev cL_span : ByteArray := method_19_code
def yL_span : MethodName := ⟨RL, "span", "(LPrintKeeper;II[J)I"⟩
abbrev cL_hold : ByteArray := method_20_code
def yL_hold : MethodName := ⟨RL, "hold", "(LPrintKeeper;IZ[J)I"⟩
abbrev cL_bundle : ByteArray := method_21_code
def yL_bundle : MethodName := ⟨RL, "bundle", "(LPrintKeeper;II[J)I"⟩
abbrev cL_law : ByteArray := code
def yL_law : MethodName := ⟨RL, "law", "([I)Z"⟩
abbrev vwCl : List vw_C := [(RJx4a65c, TJx4a65c, 3), (RX0, TX0, 6), (RX1, TX1, 3), (RX2, TX2, 3), (RX3, TX3, 4), (RX4, TX4, 2), (RX5, TX5, 11), (RX6, TX6, 29)]
end
section
theorem dX0_init_0 : decode cX0_init 0 = .ok (.aload_n 0, 1) := by decide +kernel
theorem dX0_init_1 : decode cX0_init 1 = .ok (.invokespecial 3, 3) := by decide +kernel
theorem dX0_init_4 : decode cX0_init 4 = .ok (.aload_n 0, 1) := by decide +kernel
theorem dX0_init_5 : decode cX0_init 5 = .ok (.aload_n 1, 1) := by decide +kernel
theorem dX0_init_6 : decode cX0_init 6 = .ok (.putfield 9, 3) := by decide +kernel
theorem dX0_init_9 : decode cX0_init 9 = .ok (.aload_n 0, 1) := by decide +kernel
theorem dX0_init_10 : decode cX0_init 10 = .ok (.iload_n 2, 1) := by decide +kernel
theorem dX0_init_11 : decode cX0_init 11 = .ok (.putfield 15, 3) := by decide +kernel
theorem dX0_init_14 : decode cX0_init 14 = .ok (.aload_n 0, 1) := by decide +kernel
theorem dX0_init_15 : decode cX0_init 15 = .ok (.iload_n 3, 1) := by decide +kernel
theorem dX0_init_16 : decode cX0_init 16 = .ok (.putfield 19, 3) := by decide +kernel
theorem dX0_init_19 : decode cX0_init 19 = .ok (.aload_n 0, 1) := by decide +kernel
theorem dX0_init_20 : decode cX0_init 20 = .ok (.iload 4, 2) := by decide +kernel
theorem dX0_init_22 : decode cX0_init 22 = .ok (.putfield 22, 3) := by decide +kernel
theorem dX0_init_25 : decode cX0_init 25 = .ok (.return_, 1) := by decide +kernel
theorem dX0_fits_0 : decode cX0_fits 0 = .ok (.iload_n 1, 1) := by decide +kernel
theorem dX0_fits_1 : decode cX0_fits 1 = .ok (.iconst (-1), 1) := by decide +kernel
theorem dX0_fits_2 : decode cX0_fits 2 = .ok (.if_icmp .eq 11, 3) := by decide +kernel
theorem dX0_fits_5 : decode cX0_fits 5 = .ok (.iload_n 1, 1) := by decide +kernel
theorem dX0_fits_6 : decode cX0_fits 6 = .ok (.aload_n 0, 1) := by decide +kernel
theorem dX0_fits_7 : decode cX0_fits 7 = .ok (.getfield 19, 3) := by decide +kernel
theorem dX0_fits_10 : decode cX0_fits 10 = .ok (.if_icmp .ne 31, 3) := by decide +kernel
theorem dX0_fits_13 : decode cX0_fits 13 = .ok (.iload_n 2, 1) := by decide +kernel
theorem dX0_fits_14 : decode cX0_fits 14 = .ok (.iconst (-1), 1) := by decide +kernel
theorem dX0_fits_15 : decode cX0_fits 15 = .ok (.if_icmp .eq 11, 3) := by decide +kernel
theorem dX0_fits_18 : decode cX0_fits 18 = .ok (.iload_n 2, 1) := by decide +kernel
theorem dX0_fits_19 : decode cX0_fits 19 = .ok (.aload_n 0, 1) := by decide +kernel
theorem dX0_fits_20 : decode cX0_fits 20 = .ok (.getfield 22, 3) := by decide +kernel
theorem dX0_fits_23 : decode cX0_fits 23 = .ok (.if_icmp .ne 18, 3) := by decide +kernel
theorem dX0_fits_26 : decode cX0_fits 26 = .ok (.aload_n 0, 1) := by decide +kernel
theorem dX0_fits_27 : decode cX0_fits 27 = .ok (.getfield 9, 3) := by decide +kernel
theorem dX0_fits_30 : decode cX0_fits 30 = .ok (.getfield 25, 3) := by decide +kernel
theorem dX0_fits_33 : decode cX0_fits 33 = .ok (.iload_n 3, 1) := by decide +kernel
theorem dX0_fits_34 : decode cX0_fits 34 = .ok (.if_icmp .lt 7, 3) := by decide +kernel
theorem dX0_fits_37 : decode cX0_fits 37 = .ok (.iconst 1, 1) := by decide +kernel
theorem dX0_fits_38 : decode cX0_fits 38 = .ok (.goto 4, 3) := by decide +kernel
theorem dX0_fits_41 : decode cX0_fits 41 = .ok (.iconst 0, 1) := by decide +kernel
theorem dX0_fits_42 : decode cX0_fits 42 = .ok (.ireturn, 1) := by decide +kernel
theorem dX1_init_0 : decode cX1_init 0 = .ok (.aload_n 0, 1) := by decide +kernel
theorem dX1_init_1 : decode cX1_init 1 = .ok (.invokespecial 1, 3) := by decide +kernel
theorem dX1_init_4 : decode cX1_init 4 = .ok (.aload_n 0, 1) := by decide +kernel
theorem dX1_init_5 : decode cX1_init 5 = .ok (.iload_n 1, 1) := by decide +kernel
theorem dX1_init_6 : decode cX1_init 6 = .ok (.putfield 7, 3) := by decide +kernel
theorem dX1_init_9 : decode cX1_init 9 = .ok (.aload_n 0, 1) := by decide +kernel
theorem dX1_init_10 : decode cX1_init 10 = .ok (.iload_n 2, 1) := by decide +kernel
theorem dX1_init_11 : decode cX1_init 11 = .ok (.putfield 13, 3) := by decide +kernel
theorem dX1_init_14 : decode cX1_init 14 = .ok (.aload_n 0, 1) := by decide +kernel
theorem dX1_init_15 : decode cX1_init 15 = .ok (.iload_n 3, 1) := by decide +kernel
theorem dX1_init_16 : decode cX1_init 16 = .ok (.putfield 16, 3) := by decide +kernel
theorem dX1_init_19 : decode cX1_init 19 = .ok (.return_, 1) := by decide +kernel
theorem dX2_init_0 : decode cX2_init 0 = .ok (.aload_n 0, 1) := by decide +kernel
theorem dX2_init_1 : decode cX2_init 1 = .ok (.invokespecial 3, 3) := by decide +kernel
theorem dX2_init_4 : decode cX2_init 4 = .ok (.aload_n 0, 1) := by decide +kernel
theorem dX2_init_5 : decode cX2_init 5 = .ok (.bipush 8, 2) := by decide +kernel
theorem dX2_init_7 : decode cX2_init 7 = .ok (.newarray .int, 2) := by decide +kernel
theorem dX2_init_9 : decode cX2_init 9 = .ok (.putfield 9, 3) := by decide +kernel
theorem dX2_init_12 : decode cX2_init 12 = .ok (.aload_n 0, 1) := by decide +kernel
theorem dX2_init_13 : decode cX2_init 13 = .ok (.iconst 1, 1) := by decide +kernel
theorem dX2_init_14 : decode cX2_init 14 = .ok (.putfield 15, 3) := by decide +kernel
theorem dX2_init_17 : decode cX2_init 17 = .ok (.return_, 1) := by decide +kernel
theorem dX2_isEmpty_0 : decode cX2_isEmpty 0 = .ok (.aload_n 0, 1) := by decide +kernel
theorem dX2_isEmpty_1 : decode cX2_isEmpty 1 = .ok (.getfield 19, 3) := by decide +kernel
theorem dX2_isEmpty_4 : decode cX2_isEmpty 4 = .ok (.ifCond .ne 7, 3) := by decide +kernel
theorem dX2_isEmpty_7 : decode cX2_isEmpty 7 = .ok (.iconst 1, 1) := by decide +kernel
theorem dX2_isEmpty_8 : decode cX2_isEmpty 8 = .ok (.goto 4, 3) := by decide +kernel
theorem dX2_isEmpty_11 : decode cX2_isEmpty 11 = .ok (.iconst 0, 1) := by decide +kernel
theorem dX2_isEmpty_12 : decode cX2_isEmpty 12 = .ok (.ireturn, 1) := by decide +kernel
theorem dX2_put_0 : decode cX2_put 0 = .ok (.aload_n 0, 1) := by decide +kernel
theorem dX2_put_1 : decode cX2_put 1 = .ok (.getfield 19, 3) := by decide +kernel
theorem dX2_put_4 : decode cX2_put 4 = .ok (.ifCond .lt 15, 3) := by decide +kernel
theorem dX2_put_7 : decode cX2_put 7 = .ok (.aload_n 0, 1) := by decide +kernel
theorem dX2_put_8 : decode cX2_put 8 = .ok (.getfield 19, 3) := by decide +kernel
theorem dX2_put_11 : decode cX2_put 11 = .ok (.aload_n 0, 1) := by decide +kernel
theorem dX2_put_12 : decode cX2_put 12 = .ok (.getfield 9, 3) := by decide +kernel
theorem dX2_put_15 : decode cX2_put 15 = .ok (.arraylength, 1) := by decide +kernel
theorem dX2_put_16 : decode cX2_put 16 = .ok (.if_icmp .lt 5, 3) := by decide +kernel
theorem dX2_put_19 : decode cX2_put 19 = .ok (.iconst 0, 1) := by decide +kernel
theorem dX2_put_20 : decode cX2_put 20 = .ok (.ireturn, 1) := by decide +kernel
theorem dX2_put_21 : decode cX2_put 21 = .ok (.aload_n 0, 1) := by decide +kernel
theorem dX2_put_22 : decode cX2_put 22 = .ok (.getfield 9, 3) := by decide +kernel
theorem dX2_put_25 : decode cX2_put 25 = .ok (.aload_n 0, 1) := by decide +kernel
theorem dX2_put_26 : decode cX2_put 26 = .ok (.getfield 19, 3) := by decide +kernel
theorem dX2_put_29 : decode cX2_put 29 = .ok (.iload_n 1, 1) := by decide +kernel
theorem dX2_put_30 : decode cX2_put 30 = .ok (.iastore, 1) := by decide +kernel
theorem dX2_put_31 : decode cX2_put 31 = .ok (.aload_n 0, 1) := by decide +kernel
theorem dX2_put_32 : decode cX2_put 32 = .ok (.dup, 1) := by decide +kernel
theorem dX2_put_33 : decode cX2_put 33 = .ok (.getfield 19, 3) := by decide +kernel
theorem dX2_put_36 : decode cX2_put 36 = .ok (.iconst 1, 1) := by decide +kernel
theorem dX2_put_37 : decode cX2_put 37 = .ok (.iadd, 1) := by decide +kernel
theorem dX2_put_38 : decode cX2_put 38 = .ok (.putfield 19, 3) := by decide +kernel
theorem dX2_put_41 : decode cX2_put 41 = .ok (.iconst 1, 1) := by decide +kernel
theorem dX2_put_42 : decode cX2_put 42 = .ok (.ireturn, 1) := by decide +kernel
theorem dX2_has_0 : decode cX2_has 0 = .ok (.iload_n 1, 1) := by decide +kernel
theorem dX2_has_1 : decode cX2_has 1 = .ok (.ifCond .lt 24, 3) := by decide +kernel
theorem dX2_has_4 : decode cX2_has 4 = .ok (.iload_n 1, 1) := by decide +kernel
theorem dX2_has_5 : decode cX2_has 5 = .ok (.aload_n 0, 1) := by decide +kernel
theorem dX2_has_6 : decode cX2_has 6 = .ok (.getfield 19, 3) := by decide +kernel
theorem dX2_has_9 : decode cX2_has 9 = .ok (.if_icmp .ge 16, 3) := by decide +kernel
theorem dX2_has_12 : decode cX2_has 12 = .ok (.iload_n 1, 1) := by decide +kernel
theorem dX2_has_13 : decode cX2_has 13 = .ok (.aload_n 0, 1) := by decide +kernel
theorem dX2_has_14 : decode cX2_has 14 = .ok (.getfield 9, 3) := by decide +kernel
theorem dX2_has_17 : decode cX2_has 17 = .ok (.arraylength, 1) := by decide +kernel
theorem dX2_has_18 : decode cX2_has 18 = .ok (.if_icmp .ge 7, 3) := by decide +kernel
theorem dX2_has_21 : decode cX2_has 21 = .ok (.iconst 1, 1) := by decide +kernel
theorem dX2_has_22 : decode cX2_has 22 = .ok (.goto 4, 3) := by decide +kernel
theorem dX2_has_25 : decode cX2_has 25 = .ok (.iconst 0, 1) := by decide +kernel
theorem dX2_has_26 : decode cX2_has 26 = .ok (.ireturn, 1) := by decide +kernel
theorem dX2_valueAt_0 : decode cX2_valueAt 0 = .ok (.aload_n 0, 1) := by decide +kernel
theorem dX2_valueAt_1 : decode cX2_valueAt 1 = .ok (.iload_n 1, 1) := by decide +kernel
theorem dX2_valueAt_2 : decode cX2_valueAt 2 = .ok (.invokevirtual 22, 3) := by decide +kernel
theorem dX2_valueAt_5 : decode cX2_valueAt 5 = .ok (.ifCond .eq 12, 3) := by decide +kernel
theorem dX2_valueAt_8 : decode cX2_valueAt 8 = .ok (.aload_n 0, 1) := by decide +kernel
theorem dX2_valueAt_9 : decode cX2_valueAt 9 = .ok (.getfield 9, 3) := by decide +kernel
theorem dX2_valueAt_12 : decode cX2_valueAt 12 = .ok (.iload_n 1, 1) := by decide +kernel
theorem dX2_valueAt_13 : decode cX2_valueAt 13 = .ok (.iaload, 1) := by decide +kernel
theorem dX2_valueAt_14 : decode cX2_valueAt 14 = .ok (.goto 4, 3) := by decide +kernel
theorem dX2_valueAt_17 : decode cX2_valueAt 17 = .ok (.iconst (-1), 1) := by decide +kernel
theorem dX2_valueAt_18 : decode cX2_valueAt 18 = .ok (.ireturn, 1) := by decide +kernel
theorem dX2_hasLinesOf_0 : decode cX2_hasLinesOf 0 = .ok (.aload_n 0, 1) := by decide +kernel
theorem dX2_hasLinesOf_1 : decode cX2_hasLinesOf 1 = .ok (.getfield 19, 3) := by decide +kernel
theorem dX2_hasLinesOf_4 : decode cX2_hasLinesOf 4 = .ok (.aload_n 1, 1) := by decide +kernel
theorem dX2_hasLinesOf_5 : decode cX2_hasLinesOf 5 = .ok (.getfield 19, 3) := by decide +kernel
theorem dX2_hasLinesOf_8 : decode cX2_hasLinesOf 8 = .ok (.if_icmp .eq 5, 3) := by decide +kernel
theorem dX2_hasLinesOf_11 : decode cX2_hasLinesOf 11 = .ok (.iconst 0, 1) := by decide +kernel
theorem dX2_hasLinesOf_12 : decode cX2_hasLinesOf 12 = .ok (.ireturn, 1) := by decide +kernel
theorem dX2_hasLinesOf_13 : decode cX2_hasLinesOf 13 = .ok (.iconst 0, 1) := by decide +kernel
theorem dX2_hasLinesOf_14 : decode cX2_hasLinesOf 14 = .ok (.istore_n 2, 1) := by decide +kernel
theorem dX2_hasLinesOf_15 : decode cX2_hasLinesOf 15 = .ok (.iload_n 2, 1) := by decide +kernel
theorem dX2_hasLinesOf_16 : decode cX2_hasLinesOf 16 = .ok (.aload_n 0, 1) := by decide +kernel
theorem dX2_hasLinesOf_17 : decode cX2_hasLinesOf 17 = .ok (.getfield 19, 3) := by decide +kernel
theorem dX2_hasLinesOf_20 : decode cX2_hasLinesOf 20 = .ok (.if_icmp .ge 24, 3) := by decide +kernel
theorem dX2_hasLinesOf_23 : decode cX2_hasLinesOf 23 = .ok (.aload_n 0, 1) := by decide +kernel
theorem dX2_hasLinesOf_24 : decode cX2_hasLinesOf 24 = .ok (.iload_n 2, 1) := by decide +kernel
theorem dX2_hasLinesOf_25 : decode cX2_hasLinesOf 25 = .ok (.invokevirtual 26, 3) := by decide +kernel
theorem dX2_hasLinesOf_28 : decode cX2_hasLinesOf 28 = .ok (.aload_n 1, 1) := by decide +kernel
theorem dX2_hasLinesOf_29 : decode cX2_hasLinesOf 29 = .ok (.iload_n 2, 1) := by decide +kernel
theorem dX2_hasLinesOf_30 : decode cX2_hasLinesOf 30 = .ok (.invokevirtual 26, 3) := by decide +kernel
theorem dX2_hasLinesOf_33 : decode cX2_hasLinesOf 33 = .ok (.if_icmp .eq 5, 3) := by decide +kernel
theorem dX2_hasLinesOf_36 : decode cX2_hasLinesOf 36 = .ok (.iconst 0, 1) := by decide +kernel
theorem dX2_hasLinesOf_37 : decode cX2_hasLinesOf 37 = .ok (.ireturn, 1) := by decide +kernel
theorem dX2_hasLinesOf_38 : decode cX2_hasLinesOf 38 = .ok (.iinc 2 1, 3) := by decide +kernel
theorem dX2_hasLinesOf_41 : decode cX2_hasLinesOf 41 = .ok (.goto (-26), 3) := by decide +kernel
theorem dX2_hasLinesOf_44 : decode cX2_hasLinesOf 44 = .ok (.iconst 1, 1) := by decide +kernel
theorem dX2_hasLinesOf_45 : decode cX2_hasLinesOf 45 = .ok (.ireturn, 1) := by decide +kernel
theorem dX3_init_0 : decode cX3_init 0 = .ok (.aload_n 0, 1) := by decide +kernel
theorem dX3_init_1 : decode cX3_init 1 = .ok (.invokespecial 3, 3) := by decide +kernel
theorem dX3_init_4 : decode cX3_init 4 = .ok (.aload_n 0, 1) := by decide +kernel
theorem dX3_init_5 : decode cX3_init 5 = .ok (.iconst 0, 1) := by decide +kernel
theorem dX3_init_6 : decode cX3_init 6 = .ok (.putfield 9, 3) := by decide +kernel
theorem dX3_init_9 : decode cX3_init 9 = .ok (.aload_n 0, 1) := by decide +kernel
theorem dX3_init_10 : decode cX3_init 10 = .ok (.bipush 99, 2) := by decide +kernel
theorem dX3_init_12 : decode cX3_init 12 = .ok (.putfield 15, 3) := by decide +kernel
theorem dX3_init_15 : decode cX3_init 15 = .ok (.aload_n 0, 1) := by decide +kernel
theorem dX3_init_16 : decode cX3_init 16 = .ok (.iconst (-1), 1) := by decide +kernel
theorem dX3_init_17 : decode cX3_init 17 = .ok (.putfield 18, 3) := by decide +kernel
theorem dX3_init_20 : decode cX3_init 20 = .ok (.aload_n 0, 1) := by decide +kernel
theorem dX3_init_21 : decode cX3_init 21 = .ok (.iload_n 1, 1) := by decide +kernel
theorem dX3_init_22 : decode cX3_init 22 = .ok (.putfield 21, 3) := by decide +kernel
theorem dX3_init_25 : decode cX3_init 25 = .ok (.return_, 1) := by decide +kernel
theorem dX3_sees_0 : decode cX3_sees 0 = .ok (.aload_n 1, 1) := by decide +kernel
theorem dX3_sees_1 : decode cX3_sees 1 = .ok (.getfield 25, 3) := by decide +kernel
theorem dX3_sees_4 : decode cX3_sees 4 = .ok (.ifCond .eq 5, 3) := by decide +kernel
theorem dX3_sees_7 : decode cX3_sees 7 = .ok (.iconst 0, 1) := by decide +kernel
theorem dX3_sees_8 : decode cX3_sees 8 = .ok (.ireturn, 1) := by decide +kernel
theorem dX3_sees_9 : decode cX3_sees 9 = .ok (.aload_n 1, 1) := by decide +kernel
theorem dX3_sees_10 : decode cX3_sees 10 = .ok (.getfield 30, 3) := by decide +kernel
theorem dX3_sees_13 : decode cX3_sees 13 = .ok (.iconst (-1), 1) := by decide +kernel
theorem dX3_sees_14 : decode cX3_sees 14 = .ok (.if_icmp .ne 8, 3) := by decide +kernel
theorem dX3_sees_17 : decode cX3_sees 17 = .ok (.aload_n 0, 1) := by decide +kernel
theorem dX3_sees_18 : decode cX3_sees 18 = .ok (.getfield 21, 3) := by decide +kernel
theorem dX3_sees_21 : decode cX3_sees 21 = .ok (.ireturn, 1) := by decide +kernel
theorem dX3_sees_22 : decode cX3_sees 22 = .ok (.aload_n 1, 1) := by decide +kernel
theorem dX3_sees_23 : decode cX3_sees 23 = .ok (.getfield 30, 3) := by decide +kernel
theorem dX3_sees_26 : decode cX3_sees 26 = .ok (.aload_n 0, 1) := by decide +kernel
theorem dX3_sees_27 : decode cX3_sees 27 = .ok (.getfield 9, 3) := by decide +kernel
theorem dX3_sees_30 : decode cX3_sees 30 = .ok (.if_icmp .lt 18, 3) := by decide +kernel
theorem dX3_sees_33 : decode cX3_sees 33 = .ok (.aload_n 1, 1) := by decide +kernel
theorem dX3_sees_34 : decode cX3_sees 34 = .ok (.getfield 30, 3) := by decide +kernel
theorem dX3_sees_37 : decode cX3_sees 37 = .ok (.aload_n 0, 1) := by decide +kernel
theorem dX3_sees_38 : decode cX3_sees 38 = .ok (.getfield 15, 3) := by decide +kernel
theorem dX3_sees_41 : decode cX3_sees 41 = .ok (.if_icmp .gt 7, 3) := by decide +kernel
theorem dX3_sees_44 : decode cX3_sees 44 = .ok (.iconst 1, 1) := by decide +kernel
theorem dX3_sees_45 : decode cX3_sees 45 = .ok (.goto 4, 3) := by decide +kernel
theorem dX3_sees_48 : decode cX3_sees 48 = .ok (.iconst 0, 1) := by decide +kernel
theorem dX3_sees_49 : decode cX3_sees 49 = .ok (.ireturn, 1) := by decide +kernel
theorem dX4_init_0 : decode cX4_init 0 = .ok (.aload_n 0, 1) := by decide +kernel
theorem dX4_init_1 : decode cX4_init 1 = .ok (.invokespecial 1, 3) := by decide +kernel
theorem dX4_init_4 : decode cX4_init 4 = .ok (.aload_n 0, 1) := by decide +kernel
theorem dX4_init_5 : decode cX4_init 5 = .ok (.new 7, 3) := by decide +kernel
theorem dX4_init_8 : decode cX4_init 8 = .ok (.dup, 1) := by decide +kernel
theorem dX4_init_9 : decode cX4_init 9 = .ok (.invokespecial 9, 3) := by decide +kernel
theorem dX4_init_12 : decode cX4_init 12 = .ok (.putfield 10, 3) := by decide +kernel
theorem dX4_init_15 : decode cX4_init 15 = .ok (.return_, 1) := by decide +kernel
theorem dX4_isLike_0 : decode cX4_isLike 0 = .ok (.aload_n 0, 1) := by decide +kernel
theorem dX4_isLike_1 : decode cX4_isLike 1 = .ok (.getfield 16, 3) := by decide +kernel
theorem dX4_isLike_4 : decode cX4_isLike 4 = .ok (.aload_n 1, 1) := by decide +kernel
theorem dX4_isLike_5 : decode cX4_isLike 5 = .ok (.getfield 16, 3) := by decide +kernel
theorem dX4_isLike_8 : decode cX4_isLike 8 = .ok (.if_icmp .ne 20, 3) := by decide +kernel
theorem dX4_isLike_11 : decode cX4_isLike 11 = .ok (.aload_n 0, 1) := by decide +kernel
theorem dX4_isLike_12 : decode cX4_isLike 12 = .ok (.getfield 10, 3) := by decide +kernel
theorem dX4_isLike_15 : decode cX4_isLike 15 = .ok (.invokevirtual 20, 3) := by decide +kernel
theorem dX4_isLike_18 : decode cX4_isLike 18 = .ok (.aload_n 1, 1) := by decide +kernel
theorem dX4_isLike_19 : decode cX4_isLike 19 = .ok (.getfield 10, 3) := by decide +kernel
theorem dX4_isLike_22 : decode cX4_isLike 22 = .ok (.invokevirtual 20, 3) := by decide +kernel
theorem dX4_isLike_25 : decode cX4_isLike 25 = .ok (.if_icmp .eq 5, 3) := by decide +kernel
theorem dX4_isLike_28 : decode cX4_isLike 28 = .ok (.iconst 0, 1) := by decide +kernel
theorem dX4_isLike_29 : decode cX4_isLike 29 = .ok (.ireturn, 1) := by decide +kernel
theorem dX4_isLike_30 : decode cX4_isLike 30 = .ok (.iconst 0, 1) := by decide +kernel
theorem dX4_isLike_31 : decode cX4_isLike 31 = .ok (.istore_n 2, 1) := by decide +kernel
theorem dX4_isLike_32 : decode cX4_isLike 32 = .ok (.iload_n 2, 1) := by decide +kernel
theorem dX4_isLike_33 : decode cX4_isLike 33 = .ok (.aload_n 0, 1) := by decide +kernel
theorem dX4_isLike_34 : decode cX4_isLike 34 = .ok (.getfield 10, 3) := by decide +kernel
theorem dX4_isLike_37 : decode cX4_isLike 37 = .ok (.invokevirtual 20, 3) := by decide +kernel
theorem dX4_isLike_40 : decode cX4_isLike 40 = .ok (.if_icmp .ge 50, 3) := by decide +kernel
theorem dX4_isLike_43 : decode cX4_isLike 43 = .ok (.iload_n 2, 1) := by decide +kernel
theorem dX4_isLike_44 : decode cX4_isLike 44 = .ok (.aload_n 1, 1) := by decide +kernel
theorem dX4_isLike_45 : decode cX4_isLike 45 = .ok (.getfield 10, 3) := by decide +kernel
theorem dX4_isLike_48 : decode cX4_isLike 48 = .ok (.invokevirtual 20, 3) := by decide +kernel
theorem dX4_isLike_51 : decode cX4_isLike 51 = .ok (.if_icmp .ge 39, 3) := by decide +kernel
theorem dX4_isLike_54 : decode cX4_isLike 54 = .ok (.aload_n 0, 1) := by decide +kernel
theorem dX4_isLike_55 : decode cX4_isLike 55 = .ok (.getfield 10, 3) := by decide +kernel
theorem dX4_isLike_58 : decode cX4_isLike 58 = .ok (.iload_n 2, 1) := by decide +kernel
theorem dX4_isLike_59 : decode cX4_isLike 59 = .ok (.invokevirtual 24, 3) := by decide +kernel
theorem dX4_isLike_62 : decode cX4_isLike 62 = .ok (.checkcast 28, 3) := by decide +kernel
theorem dX4_isLike_65 : decode cX4_isLike 65 = .ok (.aload_n 1, 1) := by decide +kernel
theorem dX4_isLike_66 : decode cX4_isLike 66 = .ok (.getfield 10, 3) := by decide +kernel
theorem dX4_isLike_69 : decode cX4_isLike 69 = .ok (.iload_n 2, 1) := by decide +kernel
theorem dX4_isLike_70 : decode cX4_isLike 70 = .ok (.invokevirtual 24, 3) := by decide +kernel
theorem dX4_isLike_73 : decode cX4_isLike 73 = .ok (.checkcast 28, 3) := by decide +kernel
theorem dX4_isLike_76 : decode cX4_isLike 76 = .ok (.invokevirtual 30, 3) := by decide +kernel
theorem dX4_isLike_79 : decode cX4_isLike 79 = .ok (.ifCond .ne 5, 3) := by decide +kernel
theorem dX4_isLike_82 : decode cX4_isLike 82 = .ok (.iconst 0, 1) := by decide +kernel
theorem dX4_isLike_83 : decode cX4_isLike 83 = .ok (.ireturn, 1) := by decide +kernel
theorem dX4_isLike_84 : decode cX4_isLike 84 = .ok (.iinc 2 1, 3) := by decide +kernel
theorem dX4_isLike_87 : decode cX4_isLike 87 = .ok (.goto (-55), 3) := by decide +kernel
theorem dX4_isLike_90 : decode cX4_isLike 90 = .ok (.iconst 1, 1) := by decide +kernel
theorem dX4_isLike_91 : decode cX4_isLike 91 = .ok (.ireturn, 1) := by decide +kernel
theorem dX5_init_0 : decode cX5_init 0 = .ok (.aload_n 0, 1) := by decide +kernel
theorem dX5_init_1 : decode cX5_init 1 = .ok (.invokespecial 3, 3) := by decide +kernel
theorem dX5_init_4 : decode cX5_init 4 = .ok (.aload_n 0, 1) := by decide +kernel
theorem dX5_init_5 : decode cX5_init 5 = .ok (.new 9, 3) := by decide +kernel
theorem dX5_init_8 : decode cX5_init 8 = .ok (.dup, 1) := by decide +kernel
theorem dX5_init_9 : decode cX5_init 9 = .ok (.iconst 0, 1) := by decide +kernel
theorem dX5_init_10 : decode cX5_init 10 = .ok (.iconst 0, 1) := by decide +kernel
theorem dX5_init_11 : decode cX5_init 11 = .ok (.iconst 1, 1) := by decide +kernel
theorem dX5_init_12 : decode cX5_init 12 = .ok (.invokespecial 11, 3) := by decide +kernel
theorem dX5_init_15 : decode cX5_init 15 = .ok (.putfield 14, 3) := by decide +kernel
theorem dX5_init_18 : decode cX5_init 18 = .ok (.aload_n 0, 1) := by decide +kernel
theorem dX5_init_19 : decode cX5_init 19 = .ok (.new 18, 3) := by decide +kernel
theorem dX5_init_22 : decode cX5_init 22 = .ok (.dup, 1) := by decide +kernel
theorem dX5_init_23 : decode cX5_init 23 = .ok (.invokespecial 20, 3) := by decide +kernel
theorem dX5_init_26 : decode cX5_init 26 = .ok (.putfield 21, 3) := by decide +kernel
theorem dX5_init_29 : decode cX5_init 29 = .ok (.aload_n 0, 1) := by decide +kernel
theorem dX5_init_30 : decode cX5_init 30 = .ok (.new 18, 3) := by decide +kernel
theorem dX5_init_33 : decode cX5_init 33 = .ok (.dup, 1) := by decide +kernel
theorem dX5_init_34 : decode cX5_init 34 = .ok (.invokespecial 20, 3) := by decide +kernel
theorem dX5_init_37 : decode cX5_init 37 = .ok (.putfield 25, 3) := by decide +kernel
theorem dX5_init_40 : decode cX5_init 40 = .ok (.aload_n 0, 1) := by decide +kernel
theorem dX5_init_41 : decode cX5_init 41 = .ok (.new 28, 3) := by decide +kernel
theorem dX5_init_44 : decode cX5_init 44 = .ok (.dup, 1) := by decide +kernel
theorem dX5_init_45 : decode cX5_init 45 = .ok (.invokespecial 30, 3) := by decide +kernel
theorem dX5_init_48 : decode cX5_init 48 = .ok (.putfield 31, 3) := by decide +kernel
theorem dX5_init_51 : decode cX5_init 51 = .ok (.aload_n 0, 1) := by decide +kernel
theorem dX5_init_52 : decode cX5_init 52 = .ok (.new 35, 3) := by decide +kernel
theorem dX5_init_55 : decode cX5_init 55 = .ok (.dup, 1) := by decide +kernel
theorem dX5_init_56 : decode cX5_init 56 = .ok (.invokespecial 37, 3) := by decide +kernel
theorem dX5_init_59 : decode cX5_init 59 = .ok (.putfield 38, 3) := by decide +kernel
theorem dX5_init_62 : decode cX5_init 62 = .ok (.aload_n 0, 1) := by decide +kernel
theorem dX5_init_63 : decode cX5_init 63 = .ok (.new 18, 3) := by decide +kernel
theorem dX5_init_66 : decode cX5_init 66 = .ok (.dup, 1) := by decide +kernel
theorem dX5_init_67 : decode cX5_init 67 = .ok (.invokespecial 20, 3) := by decide +kernel
theorem dX5_init_70 : decode cX5_init 70 = .ok (.putfield 42, 3) := by decide +kernel
theorem dX5_init_73 : decode cX5_init 73 = .ok (.aload_n 0, 1) := by decide +kernel
theorem dX5_init_74 : decode cX5_init 74 = .ok (.new 18, 3) := by decide +kernel
theorem dX5_init_77 : decode cX5_init 77 = .ok (.dup, 1) := by decide +kernel
theorem dX5_init_78 : decode cX5_init 78 = .ok (.invokespecial 20, 3) := by decide +kernel
theorem dX5_init_81 : decode cX5_init 81 = .ok (.putfield 45, 3) := by decide +kernel
theorem dX5_init_84 : decode cX5_init 84 = .ok (.aload_n 0, 1) := by decide +kernel
theorem dX5_init_85 : decode cX5_init 85 = .ok (.iconst 4, 1) := by decide +kernel
theorem dX5_init_86 : decode cX5_init 86 = .ok (.newarray .int, 2) := by decide +kernel
theorem dX5_init_88 : decode cX5_init 88 = .ok (.putfield 48, 3) := by decide +kernel
theorem dX5_init_91 : decode cX5_init 91 = .ok (.aload_n 0, 1) := by decide +kernel
theorem dX5_init_92 : decode cX5_init 92 = .ok (.bipush 100, 2) := by decide +kernel
theorem dX5_init_94 : decode cX5_init 94 = .ok (.newarray .boolean, 2) := by decide +kernel
theorem dX5_init_96 : decode cX5_init 96 = .ok (.putfield 52, 3) := by decide +kernel
theorem dX5_init_99 : decode cX5_init 99 = .ok (.iconst 0, 1) := by decide +kernel
theorem dX5_init_100 : decode cX5_init 100 = .ok (.istore_n 1, 1) := by decide +kernel
theorem dX5_init_101 : decode cX5_init 101 = .ok (.iload_n 1, 1) := by decide +kernel
theorem dX5_init_102 : decode cX5_init 102 = .ok (.iconst 4, 1) := by decide +kernel
theorem dX5_init_103 : decode cX5_init 103 = .ok (.if_icmp .ge 33, 3) := by decide +kernel
theorem dX5_init_106 : decode cX5_init 106 = .ok (.aload_n 0, 1) := by decide +kernel
theorem dX5_init_107 : decode cX5_init 107 = .ok (.getfield 45, 3) := by decide +kernel
theorem dX5_init_110 : decode cX5_init 110 = .ok (.new 56, 3) := by decide +kernel
theorem dX5_init_113 : decode cX5_init 113 = .ok (.dup, 1) := by decide +kernel
theorem dX5_init_114 : decode cX5_init 114 = .ok (.iload_n 1, 1) := by decide +kernel
theorem dX5_init_115 : decode cX5_init 115 = .ok (.ifCond .ne 7, 3) := by decide +kernel
theorem dX5_init_118 : decode cX5_init 118 = .ok (.iconst 1, 1) := by decide +kernel
theorem dX5_init_119 : decode cX5_init 119 = .ok (.goto 4, 3) := by decide +kernel
theorem dX5_init_122 : decode cX5_init 122 = .ok (.iconst 0, 1) := by decide +kernel
theorem dX5_init_123 : decode cX5_init 123 = .ok (.invokespecial 58, 3) := by decide +kernel
theorem dX5_init_126 : decode cX5_init 126 = .ok (.invokevirtual 61, 3) := by decide +kernel
theorem dX5_init_129 : decode cX5_init 129 = .ok (.pop, 1) := by decide +kernel
theorem dX5_init_130 : decode cX5_init 130 = .ok (.iinc 1 1, 3) := by decide +kernel
theorem dX5_init_133 : decode cX5_init 133 = .ok (.goto (-32), 3) := by decide +kernel
theorem dX5_init_136 : decode cX5_init 136 = .ok (.aload_n 0, 1) := by decide +kernel
theorem dX5_init_137 : decode cX5_init 137 = .ok (.getfield 48, 3) := by decide +kernel
theorem dX5_init_140 : decode cX5_init 140 = .ok (.bipush 100, 2) := by decide +kernel
theorem dX5_init_142 : decode cX5_init 142 = .ok (.invokestatic 65, 3) := by decide +kernel
theorem dX5_init_145 : decode cX5_init 145 = .ok (.return_, 1) := by decide +kernel
theorem dX5_pass_0 : decode cX5_pass 0 = .ok (.iload_n 1, 1) := by decide +kernel
theorem dX5_pass_1 : decode cX5_pass 1 = .ok (.iconst 1, 1) := by decide +kernel
theorem dX5_pass_2 : decode cX5_pass 2 = .ok (.sipush 1000, 3) := by decide +kernel
theorem dX5_pass_5 : decode cX5_pass 5 = .ok (.invokestatic 71, 3) := by decide +kernel
theorem dX5_pass_8 : decode cX5_pass 8 = .ok (.aload_n 0, 1) := by decide +kernel
theorem dX5_pass_9 : decode cX5_pass 9 = .ok (.getfield 74, 3) := by decide +kernel
theorem dX5_pass_12 : decode cX5_pass 12 = .ok (.iload_n 1, 1) := by decide +kernel
theorem dX5_pass_13 : decode cX5_pass 13 = .ok (.iadd, 1) := by decide +kernel
theorem dX5_pass_14 : decode cX5_pass 14 = .ok (.sipush 9999, 3) := by decide +kernel
theorem dX5_pass_17 : decode cX5_pass 17 = .ok (.if_icmp .le 13, 3) := by decide +kernel
theorem dX5_pass_20 : decode cX5_pass 20 = .ok (.new 78, 3) := by decide +kernel
theorem dX5_pass_23 : decode cX5_pass 23 = .ok (.dup, 1) := by decide +kernel
theorem dX5_pass_24 : decode cX5_pass 24 = .ok (.ldc 80, 2) := by decide +kernel
theorem dX5_pass_26 : decode cX5_pass 26 = .ok (.invokespecial 82, 3) := by decide +kernel
theorem dX5_pass_29 : decode cX5_pass 29 = .ok (.athrow, 1) := by decide +kernel
theorem dX5_pass_30 : decode cX5_pass 30 = .ok (.aload_n 0, 1) := by decide +kernel
theorem dX5_pass_31 : decode cX5_pass 31 = .ok (.dup, 1) := by decide +kernel
theorem dX5_pass_32 : decode cX5_pass 32 = .ok (.getfield 74, 3) := by decide +kernel
theorem dX5_pass_35 : decode cX5_pass 35 = .ok (.iload_n 1, 1) := by decide +kernel
theorem dX5_pass_36 : decode cX5_pass 36 = .ok (.iadd, 1) := by decide +kernel
theorem dX5_pass_37 : decode cX5_pass 37 = .ok (.putfield 74, 3) := by decide +kernel
theorem dX5_pass_40 : decode cX5_pass 40 = .ok (.aload_n 0, 1) := by decide +kernel
theorem dX5_pass_41 : decode cX5_pass 41 = .ok (.getfield 74, 3) := by decide +kernel
theorem dX5_pass_44 : decode cX5_pass 44 = .ok (.ireturn, 1) := by decide +kernel
theorem dX5_format_0 : decode cX5_format 0 = .ok (.iload_n 1, 1) := by decide +kernel
theorem dX5_format_1 : decode cX5_format 1 = .ok (.iconst 0, 1) := by decide +kernel
theorem dX5_format_2 : decode cX5_format 2 = .ok (.sipush 9999, 3) := by decide +kernel
theorem dX5_format_5 : decode cX5_format 5 = .ok (.invokestatic 71, 3) := by decide +kernel
theorem dX5_format_8 : decode cX5_format 8 = .ok (.iload_n 2, 1) := by decide +kernel
theorem dX5_format_9 : decode cX5_format 9 = .ok (.iconst 0, 1) := by decide +kernel
theorem dX5_format_10 : decode cX5_format 10 = .ok (.bipush 7, 2) := by decide +kernel
theorem dX5_format_12 : decode cX5_format 12 = .ok (.invokestatic 71, 3) := by decide +kernel
theorem dX5_format_15 : decode cX5_format 15 = .ok (.iload_n 3, 1) := by decide +kernel
theorem dX5_format_16 : decode cX5_format 16 = .ok (.iconst 0, 1) := by decide +kernel
theorem dX5_format_17 : decode cX5_format 17 = .ok (.bipush 7, 2) := by decide +kernel
theorem dX5_format_19 : decode cX5_format 19 = .ok (.invokestatic 71, 3) := by decide +kernel
theorem dX5_format_22 : decode cX5_format 22 = .ok (.aload_n 0, 1) := by decide +kernel
theorem dX5_format_23 : decode cX5_format 23 = .ok (.getfield 21, 3) := by decide +kernel
theorem dX5_format_26 : decode cX5_format 26 = .ok (.invokevirtual 85, 3) := by decide +kernel
theorem dX5_format_29 : decode cX5_format 29 = .ok (.bipush 10, 2) := by decide +kernel
theorem dX5_format_31 : decode cX5_format 31 = .ok (.if_icmp .lt 13, 3) := by decide +kernel
theorem dX5_format_34 : decode cX5_format 34 = .ok (.new 78, 3) := by decide +kernel
theorem dX5_format_37 : decode cX5_format 37 = .ok (.dup, 1) := by decide +kernel
theorem dX5_format_38 : decode cX5_format 38 = .ok (.ldc 89, 2) := by decide +kernel
theorem dX5_format_40 : decode cX5_format 40 = .ok (.invokespecial 82, 3) := by decide +kernel
theorem dX5_format_43 : decode cX5_format 43 = .ok (.athrow, 1) := by decide +kernel
theorem dX5_format_44 : decode cX5_format 44 = .ok (.aload_n 0, 1) := by decide +kernel
theorem dX5_format_45 : decode cX5_format 45 = .ok (.getfield 21, 3) := by decide +kernel
theorem dX5_format_48 : decode cX5_format 48 = .ok (.new 9, 3) := by decide +kernel
theorem dX5_format_51 : decode cX5_format 51 = .ok (.dup, 1) := by decide +kernel
theorem dX5_format_52 : decode cX5_format 52 = .ok (.iload_n 1, 1) := by decide +kernel
theorem dX5_format_53 : decode cX5_format 53 = .ok (.iload_n 2, 1) := by decide +kernel
theorem dX5_format_54 : decode cX5_format 54 = .ok (.iload_n 3, 1) := by decide +kernel
theorem dX5_format_55 : decode cX5_format 55 = .ok (.invokespecial 11, 3) := by decide +kernel
theorem dX5_format_58 : decode cX5_format 58 = .ok (.invokevirtual 61, 3) := by decide +kernel
theorem dX5_format_61 : decode cX5_format 61 = .ok (.pop, 1) := by decide +kernel
theorem dX5_format_62 : decode cX5_format 62 = .ok (.aload_n 0, 1) := by decide +kernel
theorem dX5_format_63 : decode cX5_format 63 = .ok (.getfield 21, 3) := by decide +kernel
theorem dX5_format_66 : decode cX5_format 66 = .ok (.invokevirtual 85, 3) := by decide +kernel
theorem dX5_format_69 : decode cX5_format 69 = .ok (.ireturn, 1) := by decide +kernel
theorem dX5_line_0 : decode cX5_line 0 = .ok (.iload_n 1, 1) := by decide +kernel
theorem dX5_line_1 : decode cX5_line 1 = .ok (.iconst 0, 1) := by decide +kernel
theorem dX5_line_2 : decode cX5_line 2 = .ok (.bipush 99, 2) := by decide +kernel
theorem dX5_line_4 : decode cX5_line 4 = .ok (.invokestatic 71, 3) := by decide +kernel
theorem dX5_line_7 : decode cX5_line 7 = .ok (.aload_n 0, 1) := by decide +kernel
theorem dX5_line_8 : decode cX5_line 8 = .ok (.getfield 38, 3) := by decide +kernel
theorem dX5_line_11 : decode cX5_line 11 = .ok (.iload_n 1, 1) := by decide +kernel
theorem dX5_line_12 : decode cX5_line 12 = .ok (.invokevirtual 91, 3) := by decide +kernel
theorem dX5_line_15 : decode cX5_line 15 = .ok (.ifCond .ne 13, 3) := by decide +kernel
theorem dX5_line_18 : decode cX5_line 18 = .ok (.new 78, 3) := by decide +kernel
theorem dX5_line_21 : decode cX5_line 21 = .ok (.dup, 1) := by decide +kernel
theorem dX5_line_22 : decode cX5_line 22 = .ok (.ldc 95, 2) := by decide +kernel
theorem dX5_line_24 : decode cX5_line 24 = .ok (.invokespecial 82, 3) := by decide +kernel
theorem dX5_line_27 : decode cX5_line 27 = .ok (.athrow, 1) := by decide +kernel
theorem dX5_line_28 : decode cX5_line 28 = .ok (.aload_n 0, 1) := by decide +kernel
theorem dX5_line_29 : decode cX5_line 29 = .ok (.getfield 38, 3) := by decide +kernel
theorem dX5_line_32 : decode cX5_line 32 = .ok (.getfield 97, 3) := by decide +kernel
theorem dX5_line_35 : decode cX5_line 35 = .ok (.ireturn, 1) := by decide +kernel
theorem dX5_feed_0 : decode cX5_feed 0 = .ok (.aload_n 0, 1) := by decide +kernel
theorem dX5_feed_1 : decode cX5_feed 1 = .ok (.getfield 100, 3) := by decide +kernel
theorem dX5_feed_4 : decode cX5_feed 4 = .ok (.aload_n 0, 1) := by decide +kernel
theorem dX5_feed_5 : decode cX5_feed 5 = .ok (.getfield 31, 3) := by decide +kernel
theorem dX5_feed_8 : decode cX5_feed 8 = .ok (.getfield 103, 3) := by decide +kernel
theorem dX5_feed_11 : decode cX5_feed 11 = .ok (.invokevirtual 85, 3) := by decide +kernel
theorem dX5_feed_14 : decode cX5_feed 14 = .ok (.iadd, 1) := by decide +kernel
theorem dX5_feed_15 : decode cX5_feed 15 = .ok (.iconst 1, 1) := by decide +kernel
theorem dX5_feed_16 : decode cX5_feed 16 = .ok (.iadd, 1) := by decide +kernel
theorem dX5_feed_17 : decode cX5_feed 17 = .ok (.bipush 120, 2) := by decide +kernel
theorem dX5_feed_19 : decode cX5_feed 19 = .ok (.if_icmp .le 13, 3) := by decide +kernel
theorem dX5_feed_22 : decode cX5_feed 22 = .ok (.new 78, 3) := by decide +kernel
theorem dX5_feed_25 : decode cX5_feed 25 = .ok (.dup, 1) := by decide +kernel
theorem dX5_feed_26 : decode cX5_feed 26 = .ok (.ldc 106, 2) := by decide +kernel
theorem dX5_feed_28 : decode cX5_feed 28 = .ok (.invokespecial 82, 3) := by decide +kernel
theorem dX5_feed_31 : decode cX5_feed 31 = .ok (.athrow, 1) := by decide +kernel
theorem dX5_feed_32 : decode cX5_feed 32 = .ok (.aload_n 0, 1) := by decide +kernel
theorem dX5_feed_33 : decode cX5_feed 33 = .ok (.invokevirtual 108, 3) := by decide +kernel
theorem dX5_feed_36 : decode cX5_feed 36 = .ok (.aload_n 0, 1) := by decide +kernel
theorem dX5_feed_37 : decode cX5_feed 37 = .ok (.getfield 31, 3) := by decide +kernel
theorem dX5_feed_40 : decode cX5_feed 40 = .ok (.getfield 103, 3) := by decide +kernel
theorem dX5_feed_43 : decode cX5_feed 43 = .ok (.invokevirtual 85, 3) := by decide +kernel
theorem dX5_feed_46 : decode cX5_feed 46 = .ok (.ireturn, 1) := by decide +kernel
theorem dX5_end_0 : decode cX5_end 0 = .ok (.aload_n 0, 1) := by decide +kernel
theorem dX5_end_1 : decode cX5_end 1 = .ok (.getfield 31, 3) := by decide +kernel
theorem dX5_end_4 : decode cX5_end 4 = .ok (.getfield 103, 3) := by decide +kernel
theorem dX5_end_7 : decode cX5_end 7 = .ok (.invokevirtual 85, 3) := by decide +kernel
theorem dX5_end_10 : decode cX5_end 10 = .ok (.aload_n 0, 1) := by decide +kernel
theorem dX5_end_11 : decode cX5_end 11 = .ok (.getfield 38, 3) := by decide +kernel
theorem dX5_end_14 : decode cX5_end 14 = .ok (.invokevirtual 111, 3) := by decide +kernel
theorem dX5_end_17 : decode cX5_end 17 = .ok (.ifCond .eq 7, 3) := by decide +kernel
theorem dX5_end_20 : decode cX5_end 20 = .ok (.iconst 0, 1) := by decide +kernel
theorem dX5_end_21 : decode cX5_end 21 = .ok (.goto 4, 3) := by decide +kernel
theorem dX5_end_24 : decode cX5_end 24 = .ok (.iconst 1, 1) := by decide +kernel
theorem dX5_end_25 : decode cX5_end 25 = .ok (.iadd, 1) := by decide +kernel
theorem dX5_end_26 : decode cX5_end 26 = .ok (.istore_n 1, 1) := by decide +kernel
theorem dX5_end_27 : decode cX5_end 27 = .ok (.iload_n 1, 1) := by decide +kernel
theorem dX5_end_28 : decode cX5_end 28 = .ok (.ifCond .ne 13, 3) := by decide +kernel
theorem dX5_end_31 : decode cX5_end 31 = .ok (.new 78, 3) := by decide +kernel
theorem dX5_end_34 : decode cX5_end 34 = .ok (.dup, 1) := by decide +kernel
theorem dX5_end_35 : decode cX5_end 35 = .ok (.ldc 115, 2) := by decide +kernel
theorem dX5_end_37 : decode cX5_end 37 = .ok (.invokespecial 82, 3) := by decide +kernel
theorem dX5_end_40 : decode cX5_end 40 = .ok (.athrow, 1) := by decide +kernel
theorem dX5_end_41 : decode cX5_end 41 = .ok (.aload_n 0, 1) := by decide +kernel
theorem dX5_end_42 : decode cX5_end 42 = .ok (.getfield 25, 3) := by decide +kernel
theorem dX5_end_45 : decode cX5_end 45 = .ok (.invokevirtual 85, 3) := by decide +kernel
theorem dX5_end_48 : decode cX5_end 48 = .ok (.bipush 15, 2) := by decide +kernel
theorem dX5_end_50 : decode cX5_end 50 = .ok (.if_icmp .lt 13, 3) := by decide +kernel
theorem dX5_end_53 : decode cX5_end 53 = .ok (.new 78, 3) := by decide +kernel
theorem dX5_end_56 : decode cX5_end 56 = .ok (.dup, 1) := by decide +kernel
theorem dX5_end_57 : decode cX5_end 57 = .ok (.ldc 117, 2) := by decide +kernel
theorem dX5_end_59 : decode cX5_end 59 = .ok (.invokespecial 82, 3) := by decide +kernel
theorem dX5_end_62 : decode cX5_end 62 = .ok (.athrow, 1) := by decide +kernel
theorem dX5_end_63 : decode cX5_end 63 = .ok (.aload_n 0, 1) := by decide +kernel
theorem dX5_end_64 : decode cX5_end 64 = .ok (.getfield 100, 3) := by decide +kernel
theorem dX5_end_67 : decode cX5_end 67 = .ok (.iload_n 1, 1) := by decide +kernel
theorem dX5_end_68 : decode cX5_end 68 = .ok (.iadd, 1) := by decide +kernel
theorem dX5_end_69 : decode cX5_end 69 = .ok (.bipush 120, 2) := by decide +kernel
theorem dX5_end_71 : decode cX5_end 71 = .ok (.if_icmp .le 13, 3) := by decide +kernel
theorem dX5_end_74 : decode cX5_end 74 = .ok (.new 78, 3) := by decide +kernel
theorem dX5_end_77 : decode cX5_end 77 = .ok (.dup, 1) := by decide +kernel
theorem dX5_end_78 : decode cX5_end 78 = .ok (.ldc 106, 2) := by decide +kernel
theorem dX5_end_80 : decode cX5_end 80 = .ok (.invokespecial 82, 3) := by decide +kernel
theorem dX5_end_83 : decode cX5_end 83 = .ok (.athrow, 1) := by decide +kernel
theorem dX5_end_84 : decode cX5_end 84 = .ok (.aload_n 0, 1) := by decide +kernel
theorem dX5_end_85 : decode cX5_end 85 = .ok (.getfield 38, 3) := by decide +kernel
theorem dX5_end_88 : decode cX5_end 88 = .ok (.invokevirtual 111, 3) := by decide +kernel
theorem dX5_end_91 : decode cX5_end 91 = .ok (.ifCond .ne 7, 3) := by decide +kernel
theorem dX5_end_94 : decode cX5_end 94 = .ok (.aload_n 0, 1) := by decide +kernel
theorem dX5_end_95 : decode cX5_end 95 = .ok (.invokevirtual 108, 3) := by decide +kernel
theorem dX5_end_98 : decode cX5_end 98 = .ok (.aload_n 0, 1) := by decide +kernel
theorem dX5_end_99 : decode cX5_end 99 = .ok (.invokevirtual 119, 3) := by decide +kernel
theorem dX5_end_102 : decode cX5_end 102 = .ok (.aload_n 0, 1) := by decide +kernel
theorem dX5_end_103 : decode cX5_end 103 = .ok (.getfield 25, 3) := by decide +kernel
theorem dX5_end_106 : decode cX5_end 106 = .ok (.invokevirtual 85, 3) := by decide +kernel
theorem dX5_end_109 : decode cX5_end 109 = .ok (.iconst 1, 1) := by decide +kernel
theorem dX5_end_110 : decode cX5_end 110 = .ok (.isub, 1) := by decide +kernel
theorem dX5_end_111 : decode cX5_end 111 = .ok (.ireturn, 1) := by decide +kernel
theorem dX5_pages_0 : decode cX5_pages 0 = .ok (.aload_n 0, 1) := by decide +kernel
theorem dX5_pages_1 : decode cX5_pages 1 = .ok (.iload_n 1, 1) := by decide +kernel
theorem dX5_pages_2 : decode cX5_pages 2 = .ok (.invokevirtual 122, 3) := by decide +kernel
theorem dX5_pages_5 : decode cX5_pages 5 = .ok (.getfield 103, 3) := by decide +kernel
theorem dX5_pages_8 : decode cX5_pages 8 = .ok (.invokevirtual 85, 3) := by decide +kernel
theorem dX5_pages_11 : decode cX5_pages 11 = .ok (.ireturn, 1) := by decide +kernel
theorem dX5_twice_0 : decode cX5_twice 0 = .ok (.aload_n 0, 1) := by decide +kernel
theorem dX5_twice_1 : decode cX5_twice 1 = .ok (.iload_n 1, 1) := by decide +kernel
theorem dX5_twice_2 : decode cX5_twice 2 = .ok (.invokevirtual 122, 3) := by decide +kernel
theorem dX5_twice_5 : decode cX5_twice 5 = .ok (.astore_n 2, 1) := by decide +kernel
theorem dX5_twice_6 : decode cX5_twice 6 = .ok (.iconst 0, 1) := by decide +kernel
theorem dX5_twice_7 : decode cX5_twice 7 = .ok (.istore_n 3, 1) := by decide +kernel
theorem dX5_twice_8 : decode cX5_twice 8 = .ok (.iload_n 3, 1) := by decide +kernel
theorem dX5_twice_9 : decode cX5_twice 9 = .ok (.iload_n 1, 1) := by decide +kernel
theorem dX5_twice_10 : decode cX5_twice 10 = .ok (.if_icmp .ge 40, 3) := by decide +kernel
theorem dX5_twice_13 : decode cX5_twice 13 = .ok (.iload_n 3, 1) := by decide +kernel
theorem dX5_twice_14 : decode cX5_twice 14 = .ok (.aload_n 0, 1) := by decide +kernel
theorem dX5_twice_15 : decode cX5_twice 15 = .ok (.getfield 25, 3) := by decide +kernel
theorem dX5_twice_18 : decode cX5_twice 18 = .ok (.invokevirtual 85, 3) := by decide +kernel
theorem dX5_twice_21 : decode cX5_twice 21 = .ok (.if_icmp .ge 29, 3) := by decide +kernel
theorem dX5_twice_24 : decode cX5_twice 24 = .ok (.aload_n 2, 1) := by decide +kernel
theorem dX5_twice_25 : decode cX5_twice 25 = .ok (.aload_n 0, 1) := by decide +kernel
theorem dX5_twice_26 : decode cX5_twice 26 = .ok (.getfield 25, 3) := by decide +kernel
theorem dX5_twice_29 : decode cX5_twice 29 = .ok (.iload_n 3, 1) := by decide +kernel
theorem dX5_twice_30 : decode cX5_twice 30 = .ok (.invokevirtual 126, 3) := by decide +kernel
theorem dX5_twice_33 : decode cX5_twice 33 = .ok (.checkcast 28, 3) := by decide +kernel
theorem dX5_twice_36 : decode cX5_twice 36 = .ok (.invokevirtual 130, 3) := by decide +kernel
theorem dX5_twice_39 : decode cX5_twice 39 = .ok (.ifCond .eq 5, 3) := by decide +kernel
theorem dX5_twice_42 : decode cX5_twice 42 = .ok (.iload_n 3, 1) := by decide +kernel
theorem dX5_twice_43 : decode cX5_twice 43 = .ok (.ireturn, 1) := by decide +kernel
theorem dX5_twice_44 : decode cX5_twice 44 = .ok (.iinc 3 1, 3) := by decide +kernel
theorem dX5_twice_47 : decode cX5_twice 47 = .ok (.goto (-39), 3) := by decide +kernel
theorem dX5_twice_50 : decode cX5_twice 50 = .ok (.iconst (-1), 1) := by decide +kernel
theorem dX5_twice_51 : decode cX5_twice 51 = .ok (.ireturn, 1) := by decide +kernel
theorem dX5_reprint_0 : decode cX5_reprint 0 = .ok (.aload_n 0, 1) := by decide +kernel
theorem dX5_reprint_1 : decode cX5_reprint 1 = .ok (.iload_n 1, 1) := by decide +kernel
theorem dX5_reprint_2 : decode cX5_reprint 2 = .ok (.invokevirtual 122, 3) := by decide +kernel
theorem dX5_reprint_5 : decode cX5_reprint 5 = .ok (.astore 4, 2) := by decide +kernel
theorem dX5_reprint_7 : decode cX5_reprint 7 = .ok (.aload 4, 2) := by decide +kernel
theorem dX5_reprint_9 : decode cX5_reprint 9 = .ok (.iload_n 2, 1) := by decide +kernel
theorem dX5_reprint_10 : decode cX5_reprint 10 = .ok (.invokestatic 134, 3) := by decide +kernel
theorem dX5_reprint_13 : decode cX5_reprint 13 = .ok (.iload_n 3, 1) := by decide +kernel
theorem dX5_reprint_14 : decode cX5_reprint 14 = .ok (.iconst 1, 1) := by decide +kernel
theorem dX5_reprint_15 : decode cX5_reprint 15 = .ok (.bipush 9, 2) := by decide +kernel
theorem dX5_reprint_17 : decode cX5_reprint 17 = .ok (.invokestatic 71, 3) := by decide +kernel
theorem dX5_reprint_20 : decode cX5_reprint 20 = .ok (.iconst 0, 1) := by decide +kernel
theorem dX5_reprint_21 : decode cX5_reprint 21 = .ok (.istore 5, 2) := by decide +kernel
theorem dX5_reprint_23 : decode cX5_reprint 23 = .ok (.iload_n 2, 1) := by decide +kernel
theorem dX5_reprint_24 : decode cX5_reprint 24 = .ok (.istore 6, 2) := by decide +kernel
theorem dX5_reprint_26 : decode cX5_reprint 26 = .ok (.iload 6, 2) := by decide +kernel
theorem dX5_reprint_28 : decode cX5_reprint 28 = .ok (.aload 4, 2) := by decide +kernel
theorem dX5_reprint_30 : decode cX5_reprint 30 = .ok (.getfield 103, 3) := by decide +kernel
theorem dX5_reprint_33 : decode cX5_reprint 33 = .ok (.invokevirtual 85, 3) := by decide +kernel
theorem dX5_reprint_36 : decode cX5_reprint 36 = .ok (.if_icmp .ge 37, 3) := by decide +kernel
theorem dX5_reprint_39 : decode cX5_reprint 39 = .ok (.aload 4, 2) := by decide +kernel
theorem dX5_reprint_41 : decode cX5_reprint 41 = .ok (.getfield 103, 3) := by decide +kernel
theorem dX5_reprint_44 : decode cX5_reprint 44 = .ok (.iload 6, 2) := by decide +kernel
theorem dX5_reprint_46 : decode cX5_reprint 46 = .ok (.invokevirtual 126, 3) := by decide +kernel
theorem dX5_reprint_49 : decode cX5_reprint 49 = .ok (.checkcast 35, 3) := by decide +kernel
theorem dX5_reprint_52 : decode cX5_reprint 52 = .ok (.dup, 1) := by decide +kernel
theorem dX5_reprint_53 : decode cX5_reprint 53 = .ok (.getfield 138, 3) := by decide +kernel
theorem dX5_reprint_56 : decode cX5_reprint 56 = .ok (.iload_n 3, 1) := by decide +kernel
theorem dX5_reprint_57 : decode cX5_reprint 57 = .ok (.iadd, 1) := by decide +kernel
theorem dX5_reprint_58 : decode cX5_reprint 58 = .ok (.putfield 138, 3) := by decide +kernel
theorem dX5_reprint_61 : decode cX5_reprint 61 = .ok (.iload 5, 2) := by decide +kernel
theorem dX5_reprint_63 : decode cX5_reprint 63 = .ok (.iload_n 3, 1) := by decide +kernel
theorem dX5_reprint_64 : decode cX5_reprint 64 = .ok (.iadd, 1) := by decide +kernel
theorem dX5_reprint_65 : decode cX5_reprint 65 = .ok (.istore 5, 2) := by decide +kernel
theorem dX5_reprint_67 : decode cX5_reprint 67 = .ok (.iinc 6 1, 3) := by decide +kernel
theorem dX5_reprint_70 : decode cX5_reprint 70 = .ok (.goto (-44), 3) := by decide +kernel
theorem dX5_reprint_73 : decode cX5_reprint 73 = .ok (.iload 5, 2) := by decide +kernel
theorem dX5_reprint_75 : decode cX5_reprint 75 = .ok (.ireturn, 1) := by decide +kernel
theorem dX5_copies_0 : decode cX5_copies 0 = .ok (.aload_n 0, 1) := by decide +kernel
theorem dX5_copies_1 : decode cX5_copies 1 = .ok (.iload_n 1, 1) := by decide +kernel
theorem dX5_copies_2 : decode cX5_copies 2 = .ok (.invokevirtual 122, 3) := by decide +kernel
theorem dX5_copies_5 : decode cX5_copies 5 = .ok (.iload_n 2, 1) := by decide +kernel
theorem dX5_copies_6 : decode cX5_copies 6 = .ok (.invokestatic 141, 3) := by decide +kernel
theorem dX5_copies_9 : decode cX5_copies 9 = .ok (.getfield 138, 3) := by decide +kernel
theorem dX5_copies_12 : decode cX5_copies 12 = .ok (.ireturn, 1) := by decide +kernel
theorem dX5_documents_0 : decode cX5_documents 0 = .ok (.aload_n 0, 1) := by decide +kernel
theorem dX5_documents_1 : decode cX5_documents 1 = .ok (.getfield 42, 3) := by decide +kernel
theorem dX5_documents_4 : decode cX5_documents 4 = .ok (.invokevirtual 85, 3) := by decide +kernel
theorem dX5_documents_7 : decode cX5_documents 7 = .ok (.ireturn, 1) := by decide +kernel
theorem dX5_isThere_0 : decode cX5_isThere 0 = .ok (.aload_n 0, 1) := by decide +kernel
theorem dX5_isThere_1 : decode cX5_isThere 1 = .ok (.iload_n 1, 1) := by decide +kernel
theorem dX5_isThere_2 : decode cX5_isThere 2 = .ok (.invokevirtual 145, 3) := by decide +kernel
theorem dX5_isThere_5 : decode cX5_isThere 5 = .ok (.getfield 149, 3) := by decide +kernel
theorem dX5_isThere_8 : decode cX5_isThere 8 = .ok (.ifCond .ne 7, 3) := by decide +kernel
theorem dX5_isThere_11 : decode cX5_isThere 11 = .ok (.iconst 1, 1) := by decide +kernel
theorem dX5_isThere_12 : decode cX5_isThere 12 = .ok (.goto 4, 3) := by decide +kernel
theorem dX5_isThere_15 : decode cX5_isThere 15 = .ok (.iconst 0, 1) := by decide +kernel
theorem dX5_isThere_16 : decode cX5_isThere 16 = .ok (.ireturn, 1) := by decide +kernel
theorem dX5_account_0 : decode cX5_account 0 = .ok (.aload_n 0, 1) := by decide +kernel
theorem dX5_account_1 : decode cX5_account 1 = .ok (.iload_n 1, 1) := by decide +kernel
theorem dX5_account_2 : decode cX5_account 2 = .ok (.invokevirtual 145, 3) := by decide +kernel
theorem dX5_account_5 : decode cX5_account 5 = .ok (.getfield 155, 3) := by decide +kernel
theorem dX5_account_8 : decode cX5_account 8 = .ok (.ireturn, 1) := by decide +kernel
theorem dX5_kind_0 : decode cX5_kind 0 = .ok (.aload_n 0, 1) := by decide +kernel
theorem dX5_kind_1 : decode cX5_kind 1 = .ok (.iload_n 1, 1) := by decide +kernel
theorem dX5_kind_2 : decode cX5_kind 2 = .ok (.invokevirtual 145, 3) := by decide +kernel
theorem dX5_kind_5 : decode cX5_kind 5 = .ok (.getfield 158, 3) := by decide +kernel
theorem dX5_kind_8 : decode cX5_kind 8 = .ok (.ireturn, 1) := by decide +kernel
theorem dX5_length_0 : decode cX5_length 0 = .ok (.aload_n 0, 1) := by decide +kernel
theorem dX5_length_1 : decode cX5_length 1 = .ok (.iload_n 1, 1) := by decide +kernel
theorem dX5_length_2 : decode cX5_length 2 = .ok (.invokevirtual 145, 3) := by decide +kernel
theorem dX5_length_5 : decode cX5_length 5 = .ok (.getfield 161, 3) := by decide +kernel
theorem dX5_length_8 : decode cX5_length 8 = .ok (.ireturn, 1) := by decide +kernel
theorem dX5_found_0 : decode cX5_found 0 = .ok (.aload_n 0, 1) := by decide +kernel
theorem dX5_found_1 : decode cX5_found 1 = .ok (.iload_n 1, 1) := by decide +kernel
theorem dX5_found_2 : decode cX5_found 2 = .ok (.invokevirtual 164, 3) := by decide +kernel
theorem dX5_found_5 : decode cX5_found 5 = .ok (.astore 6, 2) := by decide +kernel
theorem dX5_found_7 : decode cX5_found 7 = .ok (.iload_n 2, 1) := by decide +kernel
theorem dX5_found_8 : decode cX5_found 8 = .ok (.iconst (-1), 1) := by decide +kernel
theorem dX5_found_9 : decode cX5_found 9 = .ok (.bipush 99, 2) := by decide +kernel
theorem dX5_found_11 : decode cX5_found 11 = .ok (.invokestatic 71, 3) := by decide +kernel
theorem dX5_found_14 : decode cX5_found 14 = .ok (.iload_n 3, 1) := by decide +kernel
theorem dX5_found_15 : decode cX5_found 15 = .ok (.iconst (-1), 1) := by decide +kernel
theorem dX5_found_16 : decode cX5_found 16 = .ok (.iconst 3, 1) := by decide +kernel
theorem dX5_found_17 : decode cX5_found 17 = .ok (.invokestatic 71, 3) := by decide +kernel
theorem dX5_found_20 : decode cX5_found 20 = .ok (.iload 4, 2) := by decide +kernel
theorem dX5_found_22 : decode cX5_found 22 = .ok (.iconst 0, 1) := by decide +kernel
theorem dX5_found_23 : decode cX5_found 23 = .ok (.sipush 9999, 3) := by decide +kernel
theorem dX5_found_26 : decode cX5_found 26 = .ok (.invokestatic 71, 3) := by decide +kernel
theorem dX5_found_29 : decode cX5_found 29 = .ok (.iconst 0, 1) := by decide +kernel
theorem dX5_found_30 : decode cX5_found 30 = .ok (.istore 7, 2) := by decide +kernel
theorem dX5_found_32 : decode cX5_found 32 = .ok (.iconst 0, 1) := by decide +kernel
theorem dX5_found_33 : decode cX5_found 33 = .ok (.istore 8, 2) := by decide +kernel
theorem dX5_found_35 : decode cX5_found 35 = .ok (.iload 8, 2) := by decide +kernel
theorem dX5_found_37 : decode cX5_found 37 = .ok (.aload_n 0, 1) := by decide +kernel
theorem dX5_found_38 : decode cX5_found 38 = .ok (.getfield 42, 3) := by decide +kernel
theorem dX5_found_41 : decode cX5_found 41 = .ok (.invokevirtual 85, 3) := by decide +kernel
theorem dX5_found_44 : decode cX5_found 44 = .ok (.if_icmp .ge 58, 3) := by decide +kernel
theorem dX5_found_47 : decode cX5_found 47 = .ok (.aload_n 0, 1) := by decide +kernel
theorem dX5_found_48 : decode cX5_found 48 = .ok (.getfield 42, 3) := by decide +kernel
theorem dX5_found_51 : decode cX5_found 51 = .ok (.iload 8, 2) := by decide +kernel
theorem dX5_found_53 : decode cX5_found 53 = .ok (.invokevirtual 126, 3) := by decide +kernel
theorem dX5_found_56 : decode cX5_found 56 = .ok (.checkcast 150, 3) := by decide +kernel
theorem dX5_found_59 : decode cX5_found 59 = .ok (.astore 9, 2) := by decide +kernel
theorem dX5_found_61 : decode cX5_found 61 = .ok (.aload 6, 2) := by decide +kernel
theorem dX5_found_63 : decode cX5_found 63 = .ok (.aload 9, 2) := by decide +kernel
theorem dX5_found_65 : decode cX5_found 65 = .ok (.invokevirtual 168, 3) := by decide +kernel
theorem dX5_found_68 : decode cX5_found 68 = .ok (.ifCond .eq 28, 3) := by decide +kernel
theorem dX5_found_71 : decode cX5_found 71 = .ok (.aload 9, 2) := by decide +kernel
theorem dX5_found_73 : decode cX5_found 73 = .ok (.iload_n 2, 1) := by decide +kernel
theorem dX5_found_74 : decode cX5_found 74 = .ok (.iload_n 3, 1) := by decide +kernel
theorem dX5_found_75 : decode cX5_found 75 = .ok (.iload 4, 2) := by decide +kernel
theorem dX5_found_77 : decode cX5_found 77 = .ok (.invokevirtual 172, 3) := by decide +kernel
theorem dX5_found_80 : decode cX5_found 80 = .ok (.ifCond .eq 16, 3) := by decide +kernel
theorem dX5_found_83 : decode cX5_found 83 = .ok (.iload 7, 2) := by decide +kernel
theorem dX5_found_85 : decode cX5_found 85 = .ok (.iload 5, 2) := by decide +kernel
theorem dX5_found_87 : decode cX5_found 87 = .ok (.if_icmp .ne 6, 3) := by decide +kernel
theorem dX5_found_90 : decode cX5_found 90 = .ok (.iload 8, 2) := by decide +kernel
theorem dX5_found_92 : decode cX5_found 92 = .ok (.ireturn, 1) := by decide +kernel
theorem dX5_found_93 : decode cX5_found 93 = .ok (.iinc 7 1, 3) := by decide +kernel
theorem dX5_found_96 : decode cX5_found 96 = .ok (.iinc 8 1, 3) := by decide +kernel
theorem dX5_found_99 : decode cX5_found 99 = .ok (.goto (-64), 3) := by decide +kernel
theorem dX5_found_102 : decode cX5_found 102 = .ok (.new 176, 3) := by decide +kernel
theorem dX5_found_105 : decode cX5_found 105 = .ok (.dup, 1) := by decide +kernel
theorem dX5_found_106 : decode cX5_found 106 = .ok (.ldc 178, 2) := by decide +kernel
theorem dX5_found_108 : decode cX5_found 108 = .ok (.invokespecial 180, 3) := by decide +kernel
theorem dX5_found_111 : decode cX5_found 111 = .ok (.athrow, 1) := by decide +kernel
theorem dX5_read_0 : decode cX5_read 0 = .ok (.aload_n 0, 1) := by decide +kernel
theorem dX5_read_1 : decode cX5_read 1 = .ok (.iload_n 1, 1) := by decide +kernel
theorem dX5_read_2 : decode cX5_read 2 = .ok (.invokevirtual 164, 3) := by decide +kernel
theorem dX5_read_5 : decode cX5_read 5 = .ok (.astore 5, 2) := by decide +kernel
theorem dX5_read_7 : decode cX5_read 7 = .ok (.aload_n 0, 1) := by decide +kernel
theorem dX5_read_8 : decode cX5_read 8 = .ok (.iload_n 2, 1) := by decide +kernel
theorem dX5_read_9 : decode cX5_read 9 = .ok (.invokevirtual 145, 3) := by decide +kernel
theorem dX5_read_12 : decode cX5_read 12 = .ok (.astore 6, 2) := by decide +kernel
theorem dX5_read_14 : decode cX5_read 14 = .ok (.aload 6, 2) := by decide +kernel
theorem dX5_read_16 : decode cX5_read 16 = .ok (.iload_n 3, 1) := by decide +kernel
theorem dX5_read_17 : decode cX5_read 17 = .ok (.invokestatic 181, 3) := by decide +kernel
theorem dX5_read_20 : decode cX5_read 20 = .ok (.astore 7, 2) := by decide +kernel
theorem dX5_read_22 : decode cX5_read 22 = .ok (.aload 7, 2) := by decide +kernel
theorem dX5_read_24 : decode cX5_read 24 = .ok (.iload 4, 2) := by decide +kernel
theorem dX5_read_26 : decode cX5_read 26 = .ok (.invokevirtual 185, 3) := by decide +kernel
theorem dX5_read_29 : decode cX5_read 29 = .ok (.ifCond .ne 13, 3) := by decide +kernel
theorem dX5_read_32 : decode cX5_read 32 = .ok (.new 176, 3) := by decide +kernel
theorem dX5_read_35 : decode cX5_read 35 = .ok (.dup, 1) := by decide +kernel
theorem dX5_read_36 : decode cX5_read 36 = .ok (.ldc 188, 2) := by decide +kernel
theorem dX5_read_38 : decode cX5_read 38 = .ok (.invokespecial 180, 3) := by decide +kernel
theorem dX5_read_41 : decode cX5_read 41 = .ok (.athrow, 1) := by decide +kernel
theorem dX5_read_42 : decode cX5_read 42 = .ok (.aload 5, 2) := by decide +kernel
theorem dX5_read_44 : decode cX5_read 44 = .ok (.aload 6, 2) := by decide +kernel
theorem dX5_read_46 : decode cX5_read 46 = .ok (.invokevirtual 168, 3) := by decide +kernel
theorem dX5_read_49 : decode cX5_read 49 = .ok (.ifCond .ne 13, 3) := by decide +kernel
theorem dX5_read_52 : decode cX5_read 52 = .ok (.new 190, 3) := by decide +kernel
theorem dX5_read_55 : decode cX5_read 55 = .ok (.dup, 1) := by decide +kernel
theorem dX5_read_56 : decode cX5_read 56 = .ok (.ldc 192, 2) := by decide +kernel
theorem dX5_read_58 : decode cX5_read 58 = .ok (.invokespecial 194, 3) := by decide +kernel
theorem dX5_read_61 : decode cX5_read 61 = .ok (.athrow, 1) := by decide +kernel
theorem dX5_read_62 : decode cX5_read 62 = .ok (.iload 4, 2) := by decide +kernel
theorem dX5_read_64 : decode cX5_read 64 = .ok (.aload 5, 2) := by decide +kernel
theorem dX5_read_66 : decode cX5_read 66 = .ok (.getfield 195, 3) := by decide +kernel
theorem dX5_read_69 : decode cX5_read 69 = .ok (.if_icmp .ne 7, 3) := by decide +kernel
theorem dX5_read_72 : decode cX5_read 72 = .ok (.iconst (-1), 1) := by decide +kernel
theorem dX5_read_73 : decode cX5_read 73 = .ok (.goto 10, 3) := by decide +kernel
theorem dX5_read_76 : decode cX5_read 76 = .ok (.aload 7, 2) := by decide +kernel
theorem dX5_read_78 : decode cX5_read 78 = .ok (.iload 4, 2) := by decide +kernel
theorem dX5_read_80 : decode cX5_read 80 = .ok (.invokevirtual 198, 3) := by decide +kernel
theorem dX5_read_83 : decode cX5_read 83 = .ok (.ireturn, 1) := by decide +kernel
theorem dX5_view_0 : decode cX5_view 0 = .ok (.aload_n 0, 1) := by decide +kernel
theorem dX5_view_1 : decode cX5_view 1 = .ok (.iload_n 1, 1) := by decide +kernel
theorem dX5_view_2 : decode cX5_view 2 = .ok (.invokevirtual 164, 3) := by decide +kernel
theorem dX5_view_5 : decode cX5_view 5 = .ok (.astore 5, 2) := by decide +kernel
theorem dX5_view_7 : decode cX5_view 7 = .ok (.iload_n 2, 1) := by decide +kernel
theorem dX5_view_8 : decode cX5_view 8 = .ok (.iconst 0, 1) := by decide +kernel
theorem dX5_view_9 : decode cX5_view 9 = .ok (.bipush 99, 2) := by decide +kernel
theorem dX5_view_11 : decode cX5_view 11 = .ok (.invokestatic 71, 3) := by decide +kernel
theorem dX5_view_14 : decode cX5_view 14 = .ok (.iload_n 3, 1) := by decide +kernel
theorem dX5_view_15 : decode cX5_view 15 = .ok (.iload_n 2, 1) := by decide +kernel
theorem dX5_view_16 : decode cX5_view 16 = .ok (.bipush 99, 2) := by decide +kernel
theorem dX5_view_18 : decode cX5_view 18 = .ok (.invokestatic 71, 3) := by decide +kernel
theorem dX5_view_21 : decode cX5_view 21 = .ok (.iload 4, 2) := by decide +kernel
theorem dX5_view_23 : decode cX5_view 23 = .ok (.iconst (-1), 1) := by decide +kernel
theorem dX5_view_24 : decode cX5_view 24 = .ok (.bipush 7, 2) := by decide +kernel
theorem dX5_view_26 : decode cX5_view 26 = .ok (.invokestatic 71, 3) := by decide +kernel
theorem dX5_view_29 : decode cX5_view 29 = .ok (.aload 5, 2) := by decide +kernel
theorem dX5_view_31 : decode cX5_view 31 = .ok (.iload_n 2, 1) := by decide +kernel
theorem dX5_view_32 : decode cX5_view 32 = .ok (.putfield 202, 3) := by decide +kernel
theorem dX5_view_35 : decode cX5_view 35 = .ok (.aload 5, 2) := by decide +kernel
theorem dX5_view_37 : decode cX5_view 37 = .ok (.iload_n 3, 1) := by decide +kernel
theorem dX5_view_38 : decode cX5_view 38 = .ok (.putfield 205, 3) := by decide +kernel
theorem dX5_view_41 : decode cX5_view 41 = .ok (.aload 5, 2) := by decide +kernel
theorem dX5_view_43 : decode cX5_view 43 = .ok (.iload 4, 2) := by decide +kernel
theorem dX5_view_45 : decode cX5_view 45 = .ok (.putfield 195, 3) := by decide +kernel
theorem dX5_view_48 : decode cX5_view 48 = .ok (.return_, 1) := by decide +kernel
theorem dX5_span_0 : decode cX5_span 0 = .ok (.aload_n 0, 1) := by decide +kernel
theorem dX5_span_1 : decode cX5_span 1 = .ok (.iload_n 1, 1) := by decide +kernel
theorem dX5_span_2 : decode cX5_span 2 = .ok (.invokevirtual 208, 3) := by decide +kernel
theorem dX5_span_5 : decode cX5_span 5 = .ok (.ifCond .ne 13, 3) := by decide +kernel
theorem dX5_span_8 : decode cX5_span 8 = .ok (.new 211, 3) := by decide +kernel
theorem dX5_span_11 : decode cX5_span 11 = .ok (.dup, 1) := by decide +kernel
theorem dX5_span_12 : decode cX5_span 12 = .ok (.ldc 213, 2) := by decide +kernel
theorem dX5_span_14 : decode cX5_span 14 = .ok (.invokespecial 215, 3) := by decide +kernel
theorem dX5_span_17 : decode cX5_span 17 = .ok (.athrow, 1) := by decide +kernel
theorem dX5_span_18 : decode cX5_span 18 = .ok (.iload_n 2, 1) := by decide +kernel
theorem dX5_span_19 : decode cX5_span 19 = .ok (.iconst 0, 1) := by decide +kernel
theorem dX5_span_20 : decode cX5_span 20 = .ok (.sipush 9999, 3) := by decide +kernel
theorem dX5_span_23 : decode cX5_span 23 = .ok (.invokestatic 71, 3) := by decide +kernel
theorem dX5_span_26 : decode cX5_span 26 = .ok (.aload_n 0, 1) := by decide +kernel
theorem dX5_span_27 : decode cX5_span 27 = .ok (.getfield 48, 3) := by decide +kernel
theorem dX5_span_30 : decode cX5_span 30 = .ok (.iload_n 1, 1) := by decide +kernel
theorem dX5_span_31 : decode cX5_span 31 = .ok (.iaload, 1) := by decide +kernel
theorem dX5_span_32 : decode cX5_span 32 = .ok (.istore_n 3, 1) := by decide +kernel
theorem dX5_span_33 : decode cX5_span 33 = .ok (.aload_n 0, 1) := by decide +kernel
theorem dX5_span_34 : decode cX5_span 34 = .ok (.getfield 48, 3) := by decide +kernel
theorem dX5_span_37 : decode cX5_span 37 = .ok (.iload_n 1, 1) := by decide +kernel
theorem dX5_span_38 : decode cX5_span 38 = .ok (.iload_n 2, 1) := by decide +kernel
theorem dX5_span_39 : decode cX5_span 39 = .ok (.iastore, 1) := by decide +kernel
theorem dX5_span_40 : decode cX5_span 40 = .ok (.iload_n 3, 1) := by decide +kernel
theorem dX5_span_41 : decode cX5_span 41 = .ok (.ireturn, 1) := by decide +kernel
theorem dX5_hold_0 : decode cX5_hold 0 = .ok (.aload_n 0, 1) := by decide +kernel
theorem dX5_hold_1 : decode cX5_hold 1 = .ok (.iload_n 1, 1) := by decide +kernel
theorem dX5_hold_2 : decode cX5_hold 2 = .ok (.invokevirtual 216, 3) := by decide +kernel
theorem dX5_hold_5 : decode cX5_hold 5 = .ok (.ifCond .ne 13, 3) := by decide +kernel
theorem dX5_hold_8 : decode cX5_hold 8 = .ok (.new 211, 3) := by decide +kernel
theorem dX5_hold_11 : decode cX5_hold 11 = .ok (.dup, 1) := by decide +kernel
theorem dX5_hold_12 : decode cX5_hold 12 = .ok (.ldc 219, 2) := by decide +kernel
theorem dX5_hold_14 : decode cX5_hold 14 = .ok (.invokespecial 215, 3) := by decide +kernel
theorem dX5_hold_17 : decode cX5_hold 17 = .ok (.athrow, 1) := by decide +kernel
theorem dX5_hold_18 : decode cX5_hold 18 = .ok (.aload_n 0, 1) := by decide +kernel
theorem dX5_hold_19 : decode cX5_hold 19 = .ok (.getfield 52, 3) := by decide +kernel
theorem dX5_hold_22 : decode cX5_hold 22 = .ok (.iload_n 1, 1) := by decide +kernel
theorem dX5_hold_23 : decode cX5_hold 23 = .ok (.baload, 1) := by decide +kernel
theorem dX5_hold_24 : decode cX5_hold 24 = .ok (.istore_n 3, 1) := by decide +kernel
theorem dX5_hold_25 : decode cX5_hold 25 = .ok (.aload_n 0, 1) := by decide +kernel
theorem dX5_hold_26 : decode cX5_hold 26 = .ok (.getfield 52, 3) := by decide +kernel
theorem dX5_hold_29 : decode cX5_hold 29 = .ok (.iload_n 1, 1) := by decide +kernel
theorem dX5_hold_30 : decode cX5_hold 30 = .ok (.iload_n 2, 1) := by decide +kernel
theorem dX5_hold_31 : decode cX5_hold 31 = .ok (.bastore, 1) := by decide +kernel
theorem dX5_hold_32 : decode cX5_hold 32 = .ok (.iload_n 3, 1) := by decide +kernel
theorem dX5_hold_33 : decode cX5_hold 33 = .ok (.ireturn, 1) := by decide +kernel
theorem dX5_clear_0 : decode cX5_clear 0 = .ok (.iconst 0, 1) := by decide +kernel
theorem dX5_clear_1 : decode cX5_clear 1 = .ok (.istore_n 1, 1) := by decide +kernel
theorem dX5_clear_2 : decode cX5_clear 2 = .ok (.iconst 0, 1) := by decide +kernel
theorem dX5_clear_3 : decode cX5_clear 3 = .ok (.istore_n 2, 1) := by decide +kernel
theorem dX5_clear_4 : decode cX5_clear 4 = .ok (.iload_n 2, 1) := by decide +kernel
theorem dX5_clear_5 : decode cX5_clear 5 = .ok (.aload_n 0, 1) := by decide +kernel
theorem dX5_clear_6 : decode cX5_clear 6 = .ok (.getfield 42, 3) := by decide +kernel
theorem dX5_clear_9 : decode cX5_clear 9 = .ok (.invokevirtual 85, 3) := by decide +kernel
theorem dX5_clear_12 : decode cX5_clear 12 = .ok (.if_icmp .ge 52, 3) := by decide +kernel
theorem dX5_clear_15 : decode cX5_clear 15 = .ok (.aload_n 0, 1) := by decide +kernel
theorem dX5_clear_16 : decode cX5_clear 16 = .ok (.getfield 42, 3) := by decide +kernel
theorem dX5_clear_19 : decode cX5_clear 19 = .ok (.iload_n 2, 1) := by decide +kernel
theorem dX5_clear_20 : decode cX5_clear 20 = .ok (.invokevirtual 126, 3) := by decide +kernel
theorem dX5_clear_23 : decode cX5_clear 23 = .ok (.checkcast 150, 3) := by decide +kernel
theorem dX5_clear_26 : decode cX5_clear 26 = .ok (.astore_n 3, 1) := by decide +kernel
theorem dX5_clear_27 : decode cX5_clear 27 = .ok (.aload_n 3, 1) := by decide +kernel
theorem dX5_clear_28 : decode cX5_clear 28 = .ok (.getfield 149, 3) := by decide +kernel
theorem dX5_clear_31 : decode cX5_clear 31 = .ok (.ifCond .ne 27, 3) := by decide +kernel
theorem dX5_clear_34 : decode cX5_clear 34 = .ok (.aload_n 0, 1) := by decide +kernel
theorem dX5_clear_35 : decode cX5_clear 35 = .ok (.aload_n 3, 1) := by decide +kernel
theorem dX5_clear_36 : decode cX5_clear 36 = .ok (.invokevirtual 221, 3) := by decide +kernel
theorem dX5_clear_39 : decode cX5_clear 39 = .ok (.ifCond .eq 19, 3) := by decide +kernel
theorem dX5_clear_42 : decode cX5_clear 42 = .ok (.aload_n 0, 1) := by decide +kernel
theorem dX5_clear_43 : decode cX5_clear 43 = .ok (.aload_n 3, 1) := by decide +kernel
theorem dX5_clear_44 : decode cX5_clear 44 = .ok (.invokevirtual 224, 3) := by decide +kernel
theorem dX5_clear_47 : decode cX5_clear 47 = .ok (.ifCond .ne 11, 3) := by decide +kernel
theorem dX5_clear_50 : decode cX5_clear 50 = .ok (.aload_n 3, 1) := by decide +kernel
theorem dX5_clear_51 : decode cX5_clear 51 = .ok (.iconst 1, 1) := by decide +kernel
theorem dX5_clear_52 : decode cX5_clear 52 = .ok (.putfield 149, 3) := by decide +kernel
theorem dX5_clear_55 : decode cX5_clear 55 = .ok (.iinc 1 1, 3) := by decide +kernel
theorem dX5_clear_58 : decode cX5_clear 58 = .ok (.iinc 2 1, 3) := by decide +kernel
theorem dX5_clear_61 : decode cX5_clear 61 = .ok (.goto (-57), 3) := by decide +kernel
theorem dX5_clear_64 : decode cX5_clear 64 = .ok (.iload_n 1, 1) := by decide +kernel
theorem dX5_clear_65 : decode cX5_clear 65 = .ok (.ireturn, 1) := by decide +kernel
theorem dX5_bundle_0 : decode cX5_bundle 0 = .ok (.aload_n 0, 1) := by decide +kernel
theorem dX5_bundle_1 : decode cX5_bundle 1 = .ok (.iload_n 1, 1) := by decide +kernel
theorem dX5_bundle_2 : decode cX5_bundle 2 = .ok (.invokevirtual 164, 3) := by decide +kernel
theorem dX5_bundle_5 : decode cX5_bundle 5 = .ok (.astore_n 3, 1) := by decide +kernel
theorem dX5_bundle_6 : decode cX5_bundle 6 = .ok (.iload_n 2, 1) := by decide +kernel
theorem dX5_bundle_7 : decode cX5_bundle 7 = .ok (.iconst 0, 1) := by decide +kernel
theorem dX5_bundle_8 : decode cX5_bundle 8 = .ok (.bipush 99, 2) := by decide +kernel
theorem dX5_bundle_10 : decode cX5_bundle 10 = .ok (.invokestatic 71, 3) := by decide +kernel
theorem dX5_bundle_13 : decode cX5_bundle 13 = .ok (.iconst 0, 1) := by decide +kernel
theorem dX5_bundle_14 : decode cX5_bundle 14 = .ok (.istore 4, 2) := by decide +kernel
theorem dX5_bundle_16 : decode cX5_bundle 16 = .ok (.iconst 0, 1) := by decide +kernel
theorem dX5_bundle_17 : decode cX5_bundle 17 = .ok (.istore 5, 2) := by decide +kernel
theorem dX5_bundle_19 : decode cX5_bundle 19 = .ok (.iload 5, 2) := by decide +kernel
theorem dX5_bundle_21 : decode cX5_bundle 21 = .ok (.aload_n 0, 1) := by decide +kernel
theorem dX5_bundle_22 : decode cX5_bundle 22 = .ok (.getfield 42, 3) := by decide +kernel
theorem dX5_bundle_25 : decode cX5_bundle 25 = .ok (.invokevirtual 85, 3) := by decide +kernel
theorem dX5_bundle_28 : decode cX5_bundle 28 = .ok (.if_icmp .ge 51, 3) := by decide +kernel
theorem dX5_bundle_31 : decode cX5_bundle 31 = .ok (.aload_n 0, 1) := by decide +kernel
theorem dX5_bundle_32 : decode cX5_bundle 32 = .ok (.getfield 42, 3) := by decide +kernel
theorem dX5_bundle_35 : decode cX5_bundle 35 = .ok (.iload 5, 2) := by decide +kernel
theorem dX5_bundle_37 : decode cX5_bundle 37 = .ok (.invokevirtual 126, 3) := by decide +kernel
theorem dX5_bundle_40 : decode cX5_bundle 40 = .ok (.checkcast 150, 3) := by decide +kernel
theorem dX5_bundle_43 : decode cX5_bundle 43 = .ok (.astore 6, 2) := by decide +kernel
theorem dX5_bundle_45 : decode cX5_bundle 45 = .ok (.aload 6, 2) := by decide +kernel
theorem dX5_bundle_47 : decode cX5_bundle 47 = .ok (.getfield 155, 3) := by decide +kernel
theorem dX5_bundle_50 : decode cX5_bundle 50 = .ok (.iload_n 2, 1) := by decide +kernel
theorem dX5_bundle_51 : decode cX5_bundle 51 = .ok (.if_icmp .ne 22, 3) := by decide +kernel
theorem dX5_bundle_54 : decode cX5_bundle 54 = .ok (.aload_n 3, 1) := by decide +kernel
theorem dX5_bundle_55 : decode cX5_bundle 55 = .ok (.aload 6, 2) := by decide +kernel
theorem dX5_bundle_57 : decode cX5_bundle 57 = .ok (.invokevirtual 168, 3) := by decide +kernel
theorem dX5_bundle_60 : decode cX5_bundle 60 = .ok (.ifCond .eq 13, 3) := by decide +kernel
theorem dX5_bundle_63 : decode cX5_bundle 63 = .ok (.iload 4, 2) := by decide +kernel
theorem dX5_bundle_65 : decode cX5_bundle 65 = .ok (.aload 6, 2) := by decide +kernel
theorem dX5_bundle_67 : decode cX5_bundle 67 = .ok (.getfield 161, 3) := by decide +kernel
theorem dX5_bundle_70 : decode cX5_bundle 70 = .ok (.iadd, 1) := by decide +kernel
theorem dX5_bundle_71 : decode cX5_bundle 71 = .ok (.istore 4, 2) := by decide +kernel
theorem dX5_bundle_73 : decode cX5_bundle 73 = .ok (.iinc 5 1, 3) := by decide +kernel
theorem dX5_bundle_76 : decode cX5_bundle 76 = .ok (.goto (-57), 3) := by decide +kernel
theorem dX5_bundle_79 : decode cX5_bundle 79 = .ok (.iload 4, 2) := by decide +kernel
theorem dX5_bundle_81 : decode cX5_bundle 81 = .ok (.ireturn, 1) := by decide +kernel
theorem dX5_demandRange_0 : decode cX5_demandRange 0 = .ok (.iload_n 0, 1) := by decide +kernel
theorem dX5_demandRange_1 : decode cX5_demandRange 1 = .ok (.iload_n 1, 1) := by decide +kernel
theorem dX5_demandRange_2 : decode cX5_demandRange 2 = .ok (.if_icmp .lt 8, 3) := by decide +kernel
theorem dX5_demandRange_5 : decode cX5_demandRange 5 = .ok (.iload_n 0, 1) := by decide +kernel
theorem dX5_demandRange_6 : decode cX5_demandRange 6 = .ok (.iload_n 2, 1) := by decide +kernel
theorem dX5_demandRange_7 : decode cX5_demandRange 7 = .ok (.if_icmp .le 13, 3) := by decide +kernel
theorem dX5_demandRange_10 : decode cX5_demandRange 10 = .ok (.new 211, 3) := by decide +kernel
theorem dX5_demandRange_13 : decode cX5_demandRange 13 = .ok (.dup, 1) := by decide +kernel
theorem dX5_demandRange_14 : decode cX5_demandRange 14 = .ok (.ldc 227, 2) := by decide +kernel
theorem dX5_demandRange_16 : decode cX5_demandRange 16 = .ok (.invokespecial 215, 3) := by decide +kernel
theorem dX5_demandRange_19 : decode cX5_demandRange 19 = .ok (.athrow, 1) := by decide +kernel
theorem dX5_demandRange_20 : decode cX5_demandRange 20 = .ok (.return_, 1) := by decide +kernel
theorem dX5_demandPage_0 : decode cX5_demandPage 0 = .ok (.iload_n 1, 1) := by decide +kernel
theorem dX5_demandPage_1 : decode cX5_demandPage 1 = .ok (.ifCond .lt 14, 3) := by decide +kernel
theorem dX5_demandPage_4 : decode cX5_demandPage 4 = .ok (.iload_n 1, 1) := by decide +kernel
theorem dX5_demandPage_5 : decode cX5_demandPage 5 = .ok (.aload_n 0, 1) := by decide +kernel
theorem dX5_demandPage_6 : decode cX5_demandPage 6 = .ok (.getfield 103, 3) := by decide +kernel
theorem dX5_demandPage_9 : decode cX5_demandPage 9 = .ok (.invokevirtual 85, 3) := by decide +kernel
theorem dX5_demandPage_12 : decode cX5_demandPage 12 = .ok (.if_icmp .lt 13, 3) := by decide +kernel
theorem dX5_demandPage_15 : decode cX5_demandPage 15 = .ok (.new 176, 3) := by decide +kernel
theorem dX5_demandPage_18 : decode cX5_demandPage 18 = .ok (.dup, 1) := by decide +kernel
theorem dX5_demandPage_19 : decode cX5_demandPage 19 = .ok (.ldc 229, 2) := by decide +kernel
theorem dX5_demandPage_21 : decode cX5_demandPage 21 = .ok (.invokespecial 180, 3) := by decide +kernel
theorem dX5_demandPage_24 : decode cX5_demandPage 24 = .ok (.athrow, 1) := by decide +kernel
theorem dX5_demandPage_25 : decode cX5_demandPage 25 = .ok (.return_, 1) := by decide +kernel
theorem dX5_isKind_0 : decode cX5_isKind 0 = .ok (.iload_n 1, 1) := by decide +kernel
theorem dX5_isKind_1 : decode cX5_isKind 1 = .ok (.ifCond .lt 16, 3) := by decide +kernel
theorem dX5_isKind_4 : decode cX5_isKind 4 = .ok (.iload_n 1, 1) := by decide +kernel
theorem dX5_isKind_5 : decode cX5_isKind 5 = .ok (.aload_n 0, 1) := by decide +kernel
theorem dX5_isKind_6 : decode cX5_isKind 6 = .ok (.getfield 48, 3) := by decide +kernel
theorem dX5_isKind_9 : decode cX5_isKind 9 = .ok (.arraylength, 1) := by decide +kernel
theorem dX5_isKind_10 : decode cX5_isKind 10 = .ok (.if_icmp .ge 7, 3) := by decide +kernel
theorem dX5_isKind_13 : decode cX5_isKind 13 = .ok (.iconst 1, 1) := by decide +kernel
theorem dX5_isKind_14 : decode cX5_isKind 14 = .ok (.goto 4, 3) := by decide +kernel
theorem dX5_isKind_17 : decode cX5_isKind 17 = .ok (.iconst 0, 1) := by decide +kernel
theorem dX5_isKind_18 : decode cX5_isKind 18 = .ok (.ireturn, 1) := by decide +kernel
theorem dX5_isAccount_0 : decode cX5_isAccount 0 = .ok (.iload_n 1, 1) := by decide +kernel
theorem dX5_isAccount_1 : decode cX5_isAccount 1 = .ok (.ifCond .lt 16, 3) := by decide +kernel
theorem dX5_isAccount_4 : decode cX5_isAccount 4 = .ok (.iload_n 1, 1) := by decide +kernel
theorem dX5_isAccount_5 : decode cX5_isAccount 5 = .ok (.aload_n 0, 1) := by decide +kernel
theorem dX5_isAccount_6 : decode cX5_isAccount 6 = .ok (.getfield 52, 3) := by decide +kernel
theorem dX5_isAccount_9 : decode cX5_isAccount 9 = .ok (.arraylength, 1) := by decide +kernel
theorem dX5_isAccount_10 : decode cX5_isAccount 10 = .ok (.if_icmp .ge 7, 3) := by decide +kernel
theorem dX5_isAccount_13 : decode cX5_isAccount 13 = .ok (.iconst 1, 1) := by decide +kernel
theorem dX5_isAccount_14 : decode cX5_isAccount 14 = .ok (.goto 4, 3) := by decide +kernel
theorem dX5_isAccount_17 : decode cX5_isAccount 17 = .ok (.iconst 0, 1) := by decide +kernel
theorem dX5_isAccount_18 : decode cX5_isAccount 18 = .ok (.ireturn, 1) := by decide +kernel
theorem dX5_runAt_0 : decode cX5_runAt 0 = .ok (.iload_n 1, 1) := by decide +kernel
theorem dX5_runAt_1 : decode cX5_runAt 1 = .ok (.ifCond .lt 14, 3) := by decide +kernel
theorem dX5_runAt_4 : decode cX5_runAt 4 = .ok (.iload_n 1, 1) := by decide +kernel
theorem dX5_runAt_5 : decode cX5_runAt 5 = .ok (.aload_n 0, 1) := by decide +kernel
theorem dX5_runAt_6 : decode cX5_runAt 6 = .ok (.getfield 25, 3) := by decide +kernel
theorem dX5_runAt_9 : decode cX5_runAt 9 = .ok (.invokevirtual 85, 3) := by decide +kernel
theorem dX5_runAt_12 : decode cX5_runAt 12 = .ok (.if_icmp .lt 13, 3) := by decide +kernel
theorem dX5_runAt_15 : decode cX5_runAt 15 = .ok (.new 176, 3) := by decide +kernel
theorem dX5_runAt_18 : decode cX5_runAt 18 = .ok (.dup, 1) := by decide +kernel
theorem dX5_runAt_19 : decode cX5_runAt 19 = .ok (.ldc 231, 2) := by decide +kernel
theorem dX5_runAt_21 : decode cX5_runAt 21 = .ok (.invokespecial 180, 3) := by decide +kernel
theorem dX5_runAt_24 : decode cX5_runAt 24 = .ok (.athrow, 1) := by decide +kernel
theorem dX5_runAt_25 : decode cX5_runAt 25 = .ok (.aload_n 0, 1) := by decide +kernel
theorem dX5_runAt_26 : decode cX5_runAt 26 = .ok (.getfield 25, 3) := by decide +kernel
theorem dX5_runAt_29 : decode cX5_runAt 29 = .ok (.iload_n 1, 1) := by decide +kernel
theorem dX5_runAt_30 : decode cX5_runAt 30 = .ok (.invokevirtual 126, 3) := by decide +kernel
theorem dX5_runAt_33 : decode cX5_runAt 33 = .ok (.checkcast 28, 3) := by decide +kernel
theorem dX5_runAt_36 : decode cX5_runAt 36 = .ok (.areturn, 1) := by decide +kernel
theorem dX5_pageAt_0 : decode cX5_pageAt 0 = .ok (.aload_n 0, 1) := by decide +kernel
theorem dX5_pageAt_1 : decode cX5_pageAt 1 = .ok (.iload_n 1, 1) := by decide +kernel
theorem dX5_pageAt_2 : decode cX5_pageAt 2 = .ok (.invokestatic 134, 3) := by decide +kernel
theorem dX5_pageAt_5 : decode cX5_pageAt 5 = .ok (.aload_n 0, 1) := by decide +kernel
theorem dX5_pageAt_6 : decode cX5_pageAt 6 = .ok (.getfield 103, 3) := by decide +kernel
theorem dX5_pageAt_9 : decode cX5_pageAt 9 = .ok (.iload_n 1, 1) := by decide +kernel
theorem dX5_pageAt_10 : decode cX5_pageAt 10 = .ok (.invokevirtual 126, 3) := by decide +kernel
theorem dX5_pageAt_13 : decode cX5_pageAt 13 = .ok (.checkcast 35, 3) := by decide +kernel
theorem dX5_pageAt_16 : decode cX5_pageAt 16 = .ok (.areturn, 1) := by decide +kernel
theorem dX5_documentAt_0 : decode cX5_documentAt 0 = .ok (.iload_n 1, 1) := by decide +kernel
theorem dX5_documentAt_1 : decode cX5_documentAt 1 = .ok (.ifCond .lt 14, 3) := by decide +kernel
theorem dX5_documentAt_4 : decode cX5_documentAt 4 = .ok (.iload_n 1, 1) := by decide +kernel
theorem dX5_documentAt_5 : decode cX5_documentAt 5 = .ok (.aload_n 0, 1) := by decide +kernel
theorem dX5_documentAt_6 : decode cX5_documentAt 6 = .ok (.getfield 42, 3) := by decide +kernel
theorem dX5_documentAt_9 : decode cX5_documentAt 9 = .ok (.invokevirtual 85, 3) := by decide +kernel
theorem dX5_documentAt_12 : decode cX5_documentAt 12 = .ok (.if_icmp .lt 13, 3) := by decide +kernel
theorem dX5_documentAt_15 : decode cX5_documentAt 15 = .ok (.new 176, 3) := by decide +kernel
theorem dX5_documentAt_18 : decode cX5_documentAt 18 = .ok (.dup, 1) := by decide +kernel
theorem dX5_documentAt_19 : decode cX5_documentAt 19 = .ok (.ldc 233, 2) := by decide +kernel
theorem dX5_documentAt_21 : decode cX5_documentAt 21 = .ok (.invokespecial 180, 3) := by decide +kernel
theorem dX5_documentAt_24 : decode cX5_documentAt 24 = .ok (.athrow, 1) := by decide +kernel
theorem dX5_documentAt_25 : decode cX5_documentAt 25 = .ok (.aload_n 0, 1) := by decide +kernel
theorem dX5_documentAt_26 : decode cX5_documentAt 26 = .ok (.getfield 42, 3) := by decide +kernel
theorem dX5_documentAt_29 : decode cX5_documentAt 29 = .ok (.iload_n 1, 1) := by decide +kernel
theorem dX5_documentAt_30 : decode cX5_documentAt 30 = .ok (.invokevirtual 126, 3) := by decide +kernel
theorem dX5_documentAt_33 : decode cX5_documentAt 33 = .ok (.checkcast 150, 3) := by decide +kernel
theorem dX5_documentAt_36 : decode cX5_documentAt 36 = .ok (.areturn, 1) := by decide +kernel
theorem dX5_pageOf_0 : decode cX5_pageOf 0 = .ok (.iload_n 1, 1) := by decide +kernel
theorem dX5_pageOf_1 : decode cX5_pageOf 1 = .ok (.ifCond .lt 11, 3) := by decide +kernel
theorem dX5_pageOf_4 : decode cX5_pageOf 4 = .ok (.iload_n 1, 1) := by decide +kernel
theorem dX5_pageOf_5 : decode cX5_pageOf 5 = .ok (.aload_n 0, 1) := by decide +kernel
theorem dX5_pageOf_6 : decode cX5_pageOf 6 = .ok (.getfield 161, 3) := by decide +kernel
theorem dX5_pageOf_9 : decode cX5_pageOf 9 = .ok (.if_icmp .lt 13, 3) := by decide +kernel
theorem dX5_pageOf_12 : decode cX5_pageOf 12 = .ok (.new 176, 3) := by decide +kernel
theorem dX5_pageOf_15 : decode cX5_pageOf 15 = .ok (.dup, 1) := by decide +kernel
theorem dX5_pageOf_16 : decode cX5_pageOf 16 = .ok (.ldc 229, 2) := by decide +kernel
theorem dX5_pageOf_18 : decode cX5_pageOf 18 = .ok (.invokespecial 180, 3) := by decide +kernel
theorem dX5_pageOf_21 : decode cX5_pageOf 21 = .ok (.athrow, 1) := by decide +kernel
theorem dX5_pageOf_22 : decode cX5_pageOf 22 = .ok (.aload_n 0, 1) := by decide +kernel
theorem dX5_pageOf_23 : decode cX5_pageOf 23 = .ok (.getfield 235, 3) := by decide +kernel
theorem dX5_pageOf_26 : decode cX5_pageOf 26 = .ok (.aload_n 0, 1) := by decide +kernel
theorem dX5_pageOf_27 : decode cX5_pageOf 27 = .ok (.getfield 238, 3) := by decide +kernel
theorem dX5_pageOf_30 : decode cX5_pageOf 30 = .ok (.iload_n 1, 1) := by decide +kernel
theorem dX5_pageOf_31 : decode cX5_pageOf 31 = .ok (.iadd, 1) := by decide +kernel
theorem dX5_pageOf_32 : decode cX5_pageOf 32 = .ok (.invokestatic 141, 3) := by decide +kernel
theorem dX5_pageOf_35 : decode cX5_pageOf 35 = .ok (.areturn, 1) := by decide +kernel
theorem dX5_readerAt_0 : decode cX5_readerAt 0 = .ok (.iload_n 1, 1) := by decide +kernel
theorem dX5_readerAt_1 : decode cX5_readerAt 1 = .ok (.ifCond .lt 14, 3) := by decide +kernel
theorem dX5_readerAt_4 : decode cX5_readerAt 4 = .ok (.iload_n 1, 1) := by decide +kernel
theorem dX5_readerAt_5 : decode cX5_readerAt 5 = .ok (.aload_n 0, 1) := by decide +kernel
theorem dX5_readerAt_6 : decode cX5_readerAt 6 = .ok (.getfield 45, 3) := by decide +kernel
theorem dX5_readerAt_9 : decode cX5_readerAt 9 = .ok (.invokevirtual 85, 3) := by decide +kernel
theorem dX5_readerAt_12 : decode cX5_readerAt 12 = .ok (.if_icmp .lt 13, 3) := by decide +kernel
theorem dX5_readerAt_15 : decode cX5_readerAt 15 = .ok (.new 211, 3) := by decide +kernel
theorem dX5_readerAt_18 : decode cX5_readerAt 18 = .ok (.dup, 1) := by decide +kernel
theorem dX5_readerAt_19 : decode cX5_readerAt 19 = .ok (.ldc 241, 2) := by decide +kernel
theorem dX5_readerAt_21 : decode cX5_readerAt 21 = .ok (.invokespecial 215, 3) := by decide +kernel
theorem dX5_readerAt_24 : decode cX5_readerAt 24 = .ok (.athrow, 1) := by decide +kernel
theorem dX5_readerAt_25 : decode cX5_readerAt 25 = .ok (.aload_n 0, 1) := by decide +kernel
theorem dX5_readerAt_26 : decode cX5_readerAt 26 = .ok (.getfield 45, 3) := by decide +kernel
theorem dX5_readerAt_29 : decode cX5_readerAt 29 = .ok (.iload_n 1, 1) := by decide +kernel
theorem dX5_readerAt_30 : decode cX5_readerAt 30 = .ok (.invokevirtual 126, 3) := by decide +kernel
theorem dX5_readerAt_33 : decode cX5_readerAt 33 = .ok (.checkcast 56, 3) := by decide +kernel
theorem dX5_readerAt_36 : decode cX5_readerAt 36 = .ok (.areturn, 1) := by decide +kernel
theorem dX5_closePage_0 : decode cX5_closePage 0 = .ok (.aload_n 0, 1) := by decide +kernel
theorem dX5_closePage_1 : decode cX5_closePage 1 = .ok (.getfield 31, 3) := by decide +kernel
theorem dX5_closePage_4 : decode cX5_closePage 4 = .ok (.getfield 103, 3) := by decide +kernel
theorem dX5_closePage_7 : decode cX5_closePage 7 = .ok (.aload_n 0, 1) := by decide +kernel
theorem dX5_closePage_8 : decode cX5_closePage 8 = .ok (.getfield 38, 3) := by decide +kernel
theorem dX5_closePage_11 : decode cX5_closePage 11 = .ok (.invokevirtual 61, 3) := by decide +kernel
theorem dX5_closePage_14 : decode cX5_closePage 14 = .ok (.pop, 1) := by decide +kernel
theorem dX5_closePage_15 : decode cX5_closePage 15 = .ok (.aload_n 0, 1) := by decide +kernel
theorem dX5_closePage_16 : decode cX5_closePage 16 = .ok (.new 35, 3) := by decide +kernel
theorem dX5_closePage_19 : decode cX5_closePage 19 = .ok (.dup, 1) := by decide +kernel
theorem dX5_closePage_20 : decode cX5_closePage 20 = .ok (.invokespecial 37, 3) := by decide +kernel
theorem dX5_closePage_23 : decode cX5_closePage 23 = .ok (.putfield 38, 3) := by decide +kernel
theorem dX5_closePage_26 : decode cX5_closePage 26 = .ok (.return_, 1) := by decide +kernel
theorem dX5_keepOpenRun_0 : decode cX5_keepOpenRun 0 = .ok (.aload_n 0, 1) := by decide +kernel
theorem dX5_keepOpenRun_1 : decode cX5_keepOpenRun 1 = .ok (.getfield 31, 3) := by decide +kernel
theorem dX5_keepOpenRun_4 : decode cX5_keepOpenRun 4 = .ok (.aload_n 0, 1) := by decide +kernel
theorem dX5_keepOpenRun_5 : decode cX5_keepOpenRun 5 = .ok (.getfield 74, 3) := by decide +kernel
theorem dX5_keepOpenRun_8 : decode cX5_keepOpenRun 8 = .ok (.putfield 243, 3) := by decide +kernel
theorem dX5_keepOpenRun_11 : decode cX5_keepOpenRun 11 = .ok (.aload_n 0, 1) := by decide +kernel
theorem dX5_keepOpenRun_12 : decode cX5_keepOpenRun 12 = .ok (.getfield 25, 3) := by decide +kernel
theorem dX5_keepOpenRun_15 : decode cX5_keepOpenRun 15 = .ok (.aload_n 0, 1) := by decide +kernel
theorem dX5_keepOpenRun_16 : decode cX5_keepOpenRun 16 = .ok (.getfield 31, 3) := by decide +kernel
theorem dX5_keepOpenRun_19 : decode cX5_keepOpenRun 19 = .ok (.invokevirtual 61, 3) := by decide +kernel
theorem dX5_keepOpenRun_22 : decode cX5_keepOpenRun 22 = .ok (.pop, 1) := by decide +kernel
theorem dX5_keepOpenRun_23 : decode cX5_keepOpenRun 23 = .ok (.aload_n 0, 1) := by decide +kernel
theorem dX5_keepOpenRun_24 : decode cX5_keepOpenRun 24 = .ok (.dup, 1) := by decide +kernel
theorem dX5_keepOpenRun_25 : decode cX5_keepOpenRun 25 = .ok (.getfield 100, 3) := by decide +kernel
theorem dX5_keepOpenRun_28 : decode cX5_keepOpenRun 28 = .ok (.aload_n 0, 1) := by decide +kernel
theorem dX5_keepOpenRun_29 : decode cX5_keepOpenRun 29 = .ok (.getfield 31, 3) := by decide +kernel
theorem dX5_keepOpenRun_32 : decode cX5_keepOpenRun 32 = .ok (.getfield 103, 3) := by decide +kernel
theorem dX5_keepOpenRun_35 : decode cX5_keepOpenRun 35 = .ok (.invokevirtual 85, 3) := by decide +kernel
theorem dX5_keepOpenRun_38 : decode cX5_keepOpenRun 38 = .ok (.iadd, 1) := by decide +kernel
theorem dX5_keepOpenRun_39 : decode cX5_keepOpenRun 39 = .ok (.putfield 100, 3) := by decide +kernel
theorem dX5_keepOpenRun_42 : decode cX5_keepOpenRun 42 = .ok (.aload_n 0, 1) := by decide +kernel
theorem dX5_keepOpenRun_43 : decode cX5_keepOpenRun 43 = .ok (.aload_n 0, 1) := by decide +kernel
theorem dX5_keepOpenRun_44 : decode cX5_keepOpenRun 44 = .ok (.getfield 31, 3) := by decide +kernel
theorem dX5_keepOpenRun_47 : decode cX5_keepOpenRun 47 = .ok (.invokevirtual 244, 3) := by decide +kernel
theorem dX5_keepOpenRun_50 : decode cX5_keepOpenRun 50 = .ok (.aload_n 0, 1) := by decide +kernel
theorem dX5_keepOpenRun_51 : decode cX5_keepOpenRun 51 = .ok (.new 28, 3) := by decide +kernel
theorem dX5_keepOpenRun_54 : decode cX5_keepOpenRun 54 = .ok (.dup, 1) := by decide +kernel
theorem dX5_keepOpenRun_55 : decode cX5_keepOpenRun 55 = .ok (.invokespecial 30, 3) := by decide +kernel
theorem dX5_keepOpenRun_58 : decode cX5_keepOpenRun 58 = .ok (.putfield 31, 3) := by decide +kernel
theorem dX5_keepOpenRun_61 : decode cX5_keepOpenRun 61 = .ok (.return_, 1) := by decide +kernel
theorem dX5_putTogether_0 : decode cX5_putTogether 0 = .ok (.aload_n 0, 1) := by decide +kernel
theorem dX5_putTogether_1 : decode cX5_putTogether 1 = .ok (.aload_n 1, 1) := by decide +kernel
theorem dX5_putTogether_2 : decode cX5_putTogether 2 = .ok (.getfield 243, 3) := by decide +kernel
theorem dX5_putTogether_5 : decode cX5_putTogether 5 = .ok (.invokevirtual 248, 3) := by decide +kernel
theorem dX5_putTogether_8 : decode cX5_putTogether 8 = .ok (.astore_n 2, 1) := by decide +kernel
theorem dX5_putTogether_9 : decode cX5_putTogether 9 = .ok (.aconst_null, 1) := by decide +kernel
theorem dX5_putTogether_10 : decode cX5_putTogether 10 = .ok (.astore_n 3, 1) := by decide +kernel
theorem dX5_putTogether_11 : decode cX5_putTogether 11 = .ok (.iconst 0, 1) := by decide +kernel
theorem dX5_putTogether_12 : decode cX5_putTogether 12 = .ok (.istore 4, 2) := by decide +kernel
theorem dX5_putTogether_14 : decode cX5_putTogether 14 = .ok (.iload 4, 2) := by decide +kernel
theorem dX5_putTogether_16 : decode cX5_putTogether 16 = .ok (.aload_n 1, 1) := by decide +kernel
theorem dX5_putTogether_17 : decode cX5_putTogether 17 = .ok (.getfield 103, 3) := by decide +kernel
theorem dX5_putTogether_20 : decode cX5_putTogether 20 = .ok (.invokevirtual 85, 3) := by decide +kernel
theorem dX5_putTogether_23 : decode cX5_putTogether 23 = .ok (.if_icmp .ge 91, 3) := by decide +kernel
theorem dX5_putTogether_26 : decode cX5_putTogether 26 = .ok (.aload_n 1, 1) := by decide +kernel
theorem dX5_putTogether_27 : decode cX5_putTogether 27 = .ok (.getfield 103, 3) := by decide +kernel
theorem dX5_putTogether_30 : decode cX5_putTogether 30 = .ok (.iload 4, 2) := by decide +kernel
theorem dX5_putTogether_32 : decode cX5_putTogether 32 = .ok (.invokevirtual 126, 3) := by decide +kernel
theorem dX5_putTogether_35 : decode cX5_putTogether 35 = .ok (.checkcast 35, 3) := by decide +kernel
theorem dX5_putTogether_38 : decode cX5_putTogether 38 = .ok (.astore 5, 2) := by decide +kernel
theorem dX5_putTogether_40 : decode cX5_putTogether 40 = .ok (.aload 5, 2) := by decide +kernel
theorem dX5_putTogether_42 : decode cX5_putTogether 42 = .ok (.aload_n 2, 1) := by decide +kernel
theorem dX5_putTogether_43 : decode cX5_putTogether 43 = .ok (.getfield 252, 3) := by decide +kernel
theorem dX5_putTogether_46 : decode cX5_putTogether 46 = .ok (.invokevirtual 198, 3) := by decide +kernel
theorem dX5_putTogether_49 : decode cX5_putTogether 49 = .ok (.istore 6, 2) := by decide +kernel
theorem dX5_putTogether_51 : decode cX5_putTogether 51 = .ok (.aload_n 3, 1) := by decide +kernel
theorem dX5_putTogether_52 : decode cX5_putTogether 52 = .ok (.ifnull 18, 3) := by decide +kernel
theorem dX5_putTogether_55 : decode cX5_putTogether 55 = .ok (.iload 6, 2) := by decide +kernel
theorem dX5_putTogether_57 : decode cX5_putTogether 57 = .ok (.iconst (-1), 1) := by decide +kernel
theorem dX5_putTogether_58 : decode cX5_putTogether 58 = .ok (.if_icmp .eq 40, 3) := by decide +kernel
theorem dX5_putTogether_61 : decode cX5_putTogether 61 = .ok (.iload 6, 2) := by decide +kernel
theorem dX5_putTogether_63 : decode cX5_putTogether 63 = .ok (.aload_n 3, 1) := by decide +kernel
theorem dX5_putTogether_64 : decode cX5_putTogether 64 = .ok (.getfield 155, 3) := by decide +kernel
theorem dX5_putTogether_67 : decode cX5_putTogether 67 = .ok (.if_icmp .eq 31, 3) := by decide +kernel
theorem dX5_putTogether_70 : decode cX5_putTogether 70 = .ok (.new 150, 3) := by decide +kernel
theorem dX5_putTogether_73 : decode cX5_putTogether 73 = .ok (.dup, 1) := by decide +kernel
theorem dX5_putTogether_74 : decode cX5_putTogether 74 = .ok (.aload_n 1, 1) := by decide +kernel
theorem dX5_putTogether_75 : decode cX5_putTogether 75 = .ok (.iload 4, 2) := by decide +kernel
theorem dX5_putTogether_77 : decode cX5_putTogether 77 = .ok (.iload 6, 2) := by decide +kernel
theorem dX5_putTogether_79 : decode cX5_putTogether 79 = .ok (.aload 5, 2) := by decide +kernel
theorem dX5_putTogether_81 : decode cX5_putTogether 81 = .ok (.aload_n 2, 1) := by decide +kernel
theorem dX5_putTogether_82 : decode cX5_putTogether 82 = .ok (.invokestatic 255, 3) := by decide +kernel
theorem dX5_putTogether_85 : decode cX5_putTogether 85 = .ok (.invokespecial 259, 3) := by decide +kernel
theorem dX5_putTogether_88 : decode cX5_putTogether 88 = .ok (.astore_n 3, 1) := by decide +kernel
theorem dX5_putTogether_89 : decode cX5_putTogether 89 = .ok (.aload_n 0, 1) := by decide +kernel
theorem dX5_putTogether_90 : decode cX5_putTogether 90 = .ok (.getfield 42, 3) := by decide +kernel
theorem dX5_putTogether_93 : decode cX5_putTogether 93 = .ok (.aload_n 3, 1) := by decide +kernel
theorem dX5_putTogether_94 : decode cX5_putTogether 94 = .ok (.invokevirtual 61, 3) := by decide +kernel
theorem dX5_putTogether_97 : decode cX5_putTogether 97 = .ok (.pop, 1) := by decide +kernel
theorem dX5_putTogether_98 : decode cX5_putTogether 98 = .ok (.aload_n 3, 1) := by decide +kernel
theorem dX5_putTogether_99 : decode cX5_putTogether 99 = .ok (.dup, 1) := by decide +kernel
theorem dX5_putTogether_100 : decode cX5_putTogether 100 = .ok (.getfield 161, 3) := by decide +kernel
theorem dX5_putTogether_103 : decode cX5_putTogether 103 = .ok (.iconst 1, 1) := by decide +kernel
theorem dX5_putTogether_104 : decode cX5_putTogether 104 = .ok (.iadd, 1) := by decide +kernel
theorem dX5_putTogether_105 : decode cX5_putTogether 105 = .ok (.putfield 161, 3) := by decide +kernel
theorem dX5_putTogether_108 : decode cX5_putTogether 108 = .ok (.iinc 4 1, 3) := by decide +kernel
theorem dX5_putTogether_111 : decode cX5_putTogether 111 = .ok (.goto (-97), 3) := by decide +kernel
theorem dX5_putTogether_114 : decode cX5_putTogether 114 = .ok (.return_, 1) := by decide +kernel
theorem dX5_kindOf_0 : decode cX5_kindOf 0 = .ok (.aload_n 0, 1) := by decide +kernel
theorem dX5_kindOf_1 : decode cX5_kindOf 1 = .ok (.aload_n 1, 1) := by decide +kernel
theorem dX5_kindOf_2 : decode cX5_kindOf 2 = .ok (.getfield 262, 3) := by decide +kernel
theorem dX5_kindOf_5 : decode cX5_kindOf 5 = .ok (.invokevirtual 185, 3) := by decide +kernel
theorem dX5_kindOf_8 : decode cX5_kindOf 8 = .ok (.ifCond .eq 16, 3) := by decide +kernel
theorem dX5_kindOf_11 : decode cX5_kindOf 11 = .ok (.aload_n 0, 1) := by decide +kernel
theorem dX5_kindOf_12 : decode cX5_kindOf 12 = .ok (.aload_n 1, 1) := by decide +kernel
theorem dX5_kindOf_13 : decode cX5_kindOf 13 = .ok (.getfield 262, 3) := by decide +kernel
theorem dX5_kindOf_16 : decode cX5_kindOf 16 = .ok (.invokevirtual 198, 3) := by decide +kernel
theorem dX5_kindOf_19 : decode cX5_kindOf 19 = .ok (.iconst 4, 1) := by decide +kernel
theorem dX5_kindOf_20 : decode cX5_kindOf 20 = .ok (.irem, 1) := by decide +kernel
theorem dX5_kindOf_21 : decode cX5_kindOf 21 = .ok (.goto 4, 3) := by decide +kernel
theorem dX5_kindOf_24 : decode cX5_kindOf 24 = .ok (.iconst 0, 1) := by decide +kernel
theorem dX5_kindOf_25 : decode cX5_kindOf 25 = .ok (.ireturn, 1) := by decide +kernel
theorem dX5_formatOn_0 : decode cX5_formatOn 0 = .ok (.aload_n 0, 1) := by decide +kernel
theorem dX5_formatOn_1 : decode cX5_formatOn 1 = .ok (.getfield 14, 3) := by decide +kernel
theorem dX5_formatOn_4 : decode cX5_formatOn 4 = .ok (.astore_n 2, 1) := by decide +kernel
theorem dX5_formatOn_5 : decode cX5_formatOn 5 = .ok (.iconst 0, 1) := by decide +kernel
theorem dX5_formatOn_6 : decode cX5_formatOn 6 = .ok (.istore_n 3, 1) := by decide +kernel
theorem dX5_formatOn_7 : decode cX5_formatOn 7 = .ok (.iload_n 3, 1) := by decide +kernel
theorem dX5_formatOn_8 : decode cX5_formatOn 8 = .ok (.aload_n 0, 1) := by decide +kernel
theorem dX5_formatOn_9 : decode cX5_formatOn 9 = .ok (.getfield 21, 3) := by decide +kernel
theorem dX5_formatOn_12 : decode cX5_formatOn 12 = .ok (.invokevirtual 85, 3) := by decide +kernel
theorem dX5_formatOn_15 : decode cX5_formatOn 15 = .ok (.if_icmp .ge 46, 3) := by decide +kernel
theorem dX5_formatOn_18 : decode cX5_formatOn 18 = .ok (.aload_n 0, 1) := by decide +kernel
theorem dX5_formatOn_19 : decode cX5_formatOn 19 = .ok (.getfield 21, 3) := by decide +kernel
theorem dX5_formatOn_22 : decode cX5_formatOn 22 = .ok (.iload_n 3, 1) := by decide +kernel
theorem dX5_formatOn_23 : decode cX5_formatOn 23 = .ok (.invokevirtual 126, 3) := by decide +kernel
theorem dX5_formatOn_26 : decode cX5_formatOn 26 = .ok (.checkcast 9, 3) := by decide +kernel
theorem dX5_formatOn_29 : decode cX5_formatOn 29 = .ok (.astore 4, 2) := by decide +kernel
theorem dX5_formatOn_31 : decode cX5_formatOn 31 = .ok (.aload 4, 2) := by decide +kernel
theorem dX5_formatOn_33 : decode cX5_formatOn 33 = .ok (.getfield 265, 3) := by decide +kernel
theorem dX5_formatOn_36 : decode cX5_formatOn 36 = .ok (.iload_n 1, 1) := by decide +kernel
theorem dX5_formatOn_37 : decode cX5_formatOn 37 = .ok (.if_icmp .gt 18, 3) := by decide +kernel
theorem dX5_formatOn_40 : decode cX5_formatOn 40 = .ok (.aload 4, 2) := by decide +kernel
theorem dX5_formatOn_42 : decode cX5_formatOn 42 = .ok (.getfield 265, 3) := by decide +kernel
theorem dX5_formatOn_45 : decode cX5_formatOn 45 = .ok (.aload_n 2, 1) := by decide +kernel
theorem dX5_formatOn_46 : decode cX5_formatOn 46 = .ok (.getfield 265, 3) := by decide +kernel
theorem dX5_formatOn_49 : decode cX5_formatOn 49 = .ok (.if_icmp .lt 6, 3) := by decide +kernel
theorem dX5_formatOn_52 : decode cX5_formatOn 52 = .ok (.aload 4, 2) := by decide +kernel
theorem dX5_formatOn_54 : decode cX5_formatOn 54 = .ok (.astore_n 2, 1) := by decide +kernel
theorem dX5_formatOn_55 : decode cX5_formatOn 55 = .ok (.iinc 3 1, 3) := by decide +kernel
theorem dX5_formatOn_58 : decode cX5_formatOn 58 = .ok (.goto (-51), 3) := by decide +kernel
theorem dX5_formatOn_61 : decode cX5_formatOn 61 = .ok (.aload_n 2, 1) := by decide +kernel
theorem dX5_formatOn_62 : decode cX5_formatOn 62 = .ok (.areturn, 1) := by decide +kernel
theorem dX5_isOver_0 : decode cX5_isOver 0 = .ok (.aload_n 0, 1) := by decide +kernel
theorem dX5_isOver_1 : decode cX5_isOver 1 = .ok (.aload_n 1, 1) := by decide +kernel
theorem dX5_isOver_2 : decode cX5_isOver 2 = .ok (.getfield 158, 3) := by decide +kernel
theorem dX5_isOver_5 : decode cX5_isOver 5 = .ok (.invokevirtual 208, 3) := by decide +kernel
theorem dX5_isOver_8 : decode cX5_isOver 8 = .ok (.ifCond .eq 31, 3) := by decide +kernel
theorem dX5_isOver_11 : decode cX5_isOver 11 = .ok (.aload_n 0, 1) := by decide +kernel
theorem dX5_isOver_12 : decode cX5_isOver 12 = .ok (.getfield 74, 3) := by decide +kernel
theorem dX5_isOver_15 : decode cX5_isOver 15 = .ok (.aload_n 1, 1) := by decide +kernel
theorem dX5_isOver_16 : decode cX5_isOver 16 = .ok (.getfield 235, 3) := by decide +kernel
theorem dX5_isOver_19 : decode cX5_isOver 19 = .ok (.getfield 243, 3) := by decide +kernel
theorem dX5_isOver_22 : decode cX5_isOver 22 = .ok (.aload_n 0, 1) := by decide +kernel
theorem dX5_isOver_23 : decode cX5_isOver 23 = .ok (.getfield 48, 3) := by decide +kernel
theorem dX5_isOver_26 : decode cX5_isOver 26 = .ok (.aload_n 1, 1) := by decide +kernel
theorem dX5_isOver_27 : decode cX5_isOver 27 = .ok (.getfield 158, 3) := by decide +kernel
theorem dX5_isOver_30 : decode cX5_isOver 30 = .ok (.iaload, 1) := by decide +kernel
theorem dX5_isOver_31 : decode cX5_isOver 31 = .ok (.iadd, 1) := by decide +kernel
theorem dX5_isOver_32 : decode cX5_isOver 32 = .ok (.if_icmp .le 7, 3) := by decide +kernel
theorem dX5_isOver_35 : decode cX5_isOver 35 = .ok (.iconst 1, 1) := by decide +kernel
theorem dX5_isOver_36 : decode cX5_isOver 36 = .ok (.goto 4, 3) := by decide +kernel
theorem dX5_isOver_39 : decode cX5_isOver 39 = .ok (.iconst 0, 1) := by decide +kernel
theorem dX5_isOver_40 : decode cX5_isOver 40 = .ok (.ireturn, 1) := by decide +kernel
theorem dX5_isHeld_0 : decode cX5_isHeld 0 = .ok (.aload_n 0, 1) := by decide +kernel
theorem dX5_isHeld_1 : decode cX5_isHeld 1 = .ok (.aload_n 1, 1) := by decide +kernel
theorem dX5_isHeld_2 : decode cX5_isHeld 2 = .ok (.getfield 155, 3) := by decide +kernel
theorem dX5_isHeld_5 : decode cX5_isHeld 5 = .ok (.invokevirtual 216, 3) := by decide +kernel
theorem dX5_isHeld_8 : decode cX5_isHeld 8 = .ok (.ifCond .eq 19, 3) := by decide +kernel
theorem dX5_isHeld_11 : decode cX5_isHeld 11 = .ok (.aload_n 0, 1) := by decide +kernel
theorem dX5_isHeld_12 : decode cX5_isHeld 12 = .ok (.getfield 52, 3) := by decide +kernel
theorem dX5_isHeld_15 : decode cX5_isHeld 15 = .ok (.aload_n 1, 1) := by decide +kernel
theorem dX5_isHeld_16 : decode cX5_isHeld 16 = .ok (.getfield 155, 3) := by decide +kernel
theorem dX5_isHeld_19 : decode cX5_isHeld 19 = .ok (.baload, 1) := by decide +kernel
theorem dX5_isHeld_20 : decode cX5_isHeld 20 = .ok (.ifCond .eq 7, 3) := by decide +kernel
theorem dX5_isHeld_23 : decode cX5_isHeld 23 = .ok (.iconst 1, 1) := by decide +kernel
theorem dX5_isHeld_24 : decode cX5_isHeld 24 = .ok (.goto 4, 3) := by decide +kernel
theorem dX5_isHeld_27 : decode cX5_isHeld 27 = .ok (.iconst 0, 1) := by decide +kernel
theorem dX5_isHeld_28 : decode cX5_isHeld 28 = .ok (.ireturn, 1) := by decide +kernel
theorem dX6_init_0 : decode cX6_init 0 = .ok (.aload_n 0, 1) := by decide +kernel
theorem dX6_init_1 : decode cX6_init 1 = .ok (.invokespecial 1, 3) := by decide +kernel
theorem dX6_init_4 : decode cX6_init 4 = .ok (.aload_n 0, 1) := by decide +kernel
theorem dX6_init_5 : decode cX6_init 5 = .ok (.bipush 10, 2) := by decide +kernel
theorem dX6_init_7 : decode cX6_init 7 = .ok (.newarray .int, 2) := by decide +kernel
theorem dX6_init_9 : decode cX6_init 9 = .ok (.putfield 7, 3) := by decide +kernel
theorem dX6_init_12 : decode cX6_init 12 = .ok (.aload_n 0, 1) := by decide +kernel
theorem dX6_init_13 : decode cX6_init 13 = .ok (.bipush 10, 2) := by decide +kernel
theorem dX6_init_15 : decode cX6_init 15 = .ok (.newarray .int, 2) := by decide +kernel
theorem dX6_init_17 : decode cX6_init 17 = .ok (.putfield 13, 3) := by decide +kernel
theorem dX6_init_20 : decode cX6_init 20 = .ok (.aload_n 0, 1) := by decide +kernel
theorem dX6_init_21 : decode cX6_init 21 = .ok (.bipush 10, 2) := by decide +kernel
theorem dX6_init_23 : decode cX6_init 23 = .ok (.newarray .int, 2) := by decide +kernel
theorem dX6_init_25 : decode cX6_init 25 = .ok (.putfield 16, 3) := by decide +kernel
theorem dX6_init_28 : decode cX6_init 28 = .ok (.aload_n 0, 1) := by decide +kernel
theorem dX6_init_29 : decode cX6_init 29 = .ok (.bipush 121, 2) := by decide +kernel
theorem dX6_init_31 : decode cX6_init 31 = .ok (.newarray .int, 2) := by decide +kernel
theorem dX6_init_33 : decode cX6_init 33 = .ok (.putfield 19, 3) := by decide +kernel
theorem dX6_init_36 : decode cX6_init 36 = .ok (.aload_n 0, 1) := by decide +kernel
theorem dX6_init_37 : decode cX6_init 37 = .ok (.sipush 968, 3) := by decide +kernel
theorem dX6_init_40 : decode cX6_init 40 = .ok (.newarray .int, 2) := by decide +kernel
theorem dX6_init_42 : decode cX6_init 42 = .ok (.putfield 22, 3) := by decide +kernel
theorem dX6_init_45 : decode cX6_init 45 = .ok (.aload_n 0, 1) := by decide +kernel
theorem dX6_init_46 : decode cX6_init 46 = .ok (.bipush 8, 2) := by decide +kernel
theorem dX6_init_48 : decode cX6_init 48 = .ok (.newarray .int, 2) := by decide +kernel
theorem dX6_init_50 : decode cX6_init 50 = .ok (.putfield 25, 3) := by decide +kernel
theorem dX6_init_53 : decode cX6_init 53 = .ok (.aload_n 0, 1) := by decide +kernel
theorem dX6_init_54 : decode cX6_init 54 = .ok (.bipush 121, 2) := by decide +kernel
theorem dX6_init_56 : decode cX6_init 56 = .ok (.newarray .int, 2) := by decide +kernel
theorem dX6_init_58 : decode cX6_init 58 = .ok (.putfield 28, 3) := by decide +kernel
theorem dX6_init_61 : decode cX6_init 61 = .ok (.aload_n 0, 1) := by decide +kernel
theorem dX6_init_62 : decode cX6_init 62 = .ok (.bipush 15, 2) := by decide +kernel
theorem dX6_init_64 : decode cX6_init 64 = .ok (.newarray .int, 2) := by decide +kernel
theorem dX6_init_66 : decode cX6_init 66 = .ok (.putfield 31, 3) := by decide +kernel
theorem dX6_init_69 : decode cX6_init 69 = .ok (.aload_n 0, 1) := by decide +kernel
theorem dX6_init_70 : decode cX6_init 70 = .ok (.bipush 15, 2) := by decide +kernel
theorem dX6_init_72 : decode cX6_init 72 = .ok (.newarray .int, 2) := by decide +kernel
theorem dX6_init_74 : decode cX6_init 74 = .ok (.putfield 34, 3) := by decide +kernel
theorem dX6_init_77 : decode cX6_init 77 = .ok (.aload_n 0, 1) := by decide +kernel
theorem dX6_init_78 : decode cX6_init 78 = .ok (.bipush 15, 2) := by decide +kernel
theorem dX6_init_80 : decode cX6_init 80 = .ok (.newarray .int, 2) := by decide +kernel
theorem dX6_init_82 : decode cX6_init 82 = .ok (.putfield 37, 3) := by decide +kernel
theorem dX6_init_85 : decode cX6_init 85 = .ok (.aload_n 0, 1) := by decide +kernel
theorem dX6_init_86 : decode cX6_init 86 = .ok (.bipush 120, 2) := by decide +kernel
theorem dX6_init_88 : decode cX6_init 88 = .ok (.newarray .int, 2) := by decide +kernel
theorem dX6_init_90 : decode cX6_init 90 = .ok (.putfield 40, 3) := by decide +kernel
theorem dX6_init_93 : decode cX6_init 93 = .ok (.aload_n 0, 1) := by decide +kernel
theorem dX6_init_94 : decode cX6_init 94 = .ok (.bipush 120, 2) := by decide +kernel
theorem dX6_init_96 : decode cX6_init 96 = .ok (.newarray .int, 2) := by decide +kernel
theorem dX6_init_98 : decode cX6_init 98 = .ok (.putfield 43, 3) := by decide +kernel
theorem dX6_init_101 : decode cX6_init 101 = .ok (.aload_n 0, 1) := by decide +kernel
theorem dX6_init_102 : decode cX6_init 102 = .ok (.bipush 120, 2) := by decide +kernel
theorem dX6_init_104 : decode cX6_init 104 = .ok (.newarray .int, 2) := by decide +kernel
theorem dX6_init_106 : decode cX6_init 106 = .ok (.putfield 46, 3) := by decide +kernel
theorem dX6_init_109 : decode cX6_init 109 = .ok (.aload_n 0, 1) := by decide +kernel
theorem dX6_init_110 : decode cX6_init 110 = .ok (.bipush 120, 2) := by decide +kernel
theorem dX6_init_112 : decode cX6_init 112 = .ok (.newarray .int, 2) := by decide +kernel
theorem dX6_init_114 : decode cX6_init 114 = .ok (.putfield 49, 3) := by decide +kernel
theorem dX6_init_117 : decode cX6_init 117 = .ok (.aload_n 0, 1) := by decide +kernel
theorem dX6_init_118 : decode cX6_init 118 = .ok (.bipush 120, 2) := by decide +kernel
theorem dX6_init_120 : decode cX6_init 120 = .ok (.newarray .int, 2) := by decide +kernel
theorem dX6_init_122 : decode cX6_init 122 = .ok (.putfield 52, 3) := by decide +kernel
theorem dX6_init_125 : decode cX6_init 125 = .ok (.aload_n 0, 1) := by decide +kernel
theorem dX6_init_126 : decode cX6_init 126 = .ok (.bipush 120, 2) := by decide +kernel
theorem dX6_init_128 : decode cX6_init 128 = .ok (.newarray .boolean, 2) := by decide +kernel
theorem dX6_init_130 : decode cX6_init 130 = .ok (.putfield 55, 3) := by decide +kernel
theorem dX6_init_133 : decode cX6_init 133 = .ok (.aload_n 0, 1) := by decide +kernel
theorem dX6_init_134 : decode cX6_init 134 = .ok (.iconst 4, 1) := by decide +kernel
theorem dX6_init_135 : decode cX6_init 135 = .ok (.newarray .int, 2) := by decide +kernel
theorem dX6_init_137 : decode cX6_init 137 = .ok (.putfield 59, 3) := by decide +kernel
theorem dX6_init_140 : decode cX6_init 140 = .ok (.aload_n 0, 1) := by decide +kernel
theorem dX6_init_141 : decode cX6_init 141 = .ok (.iconst 4, 1) := by decide +kernel
theorem dX6_init_142 : decode cX6_init 142 = .ok (.newarray .int, 2) := by decide +kernel
theorem dX6_init_144 : decode cX6_init 144 = .ok (.dup, 1) := by decide +kernel
theorem dX6_init_145 : decode cX6_init 145 = .ok (.iconst 0, 1) := by decide +kernel
theorem dX6_init_146 : decode cX6_init 146 = .ok (.bipush 99, 2) := by decide +kernel
theorem dX6_init_148 : decode cX6_init 148 = .ok (.iastore, 1) := by decide +kernel
theorem dX6_init_149 : decode cX6_init 149 = .ok (.dup, 1) := by decide +kernel
theorem dX6_init_150 : decode cX6_init 150 = .ok (.iconst 1, 1) := by decide +kernel
theorem dX6_init_151 : decode cX6_init 151 = .ok (.bipush 99, 2) := by decide +kernel
theorem dX6_init_153 : decode cX6_init 153 = .ok (.iastore, 1) := by decide +kernel
theorem dX6_init_154 : decode cX6_init 154 = .ok (.dup, 1) := by decide +kernel
theorem dX6_init_155 : decode cX6_init 155 = .ok (.iconst 2, 1) := by decide +kernel
theorem dX6_init_156 : decode cX6_init 156 = .ok (.bipush 99, 2) := by decide +kernel
theorem dX6_init_158 : decode cX6_init 158 = .ok (.iastore, 1) := by decide +kernel
theorem dX6_init_159 : decode cX6_init 159 = .ok (.dup, 1) := by decide +kernel
theorem dX6_init_160 : decode cX6_init 160 = .ok (.iconst 3, 1) := by decide +kernel
theorem dX6_init_161 : decode cX6_init 161 = .ok (.bipush 99, 2) := by decide +kernel
theorem dX6_init_163 : decode cX6_init 163 = .ok (.iastore, 1) := by decide +kernel
theorem dX6_init_164 : decode cX6_init 164 = .ok (.putfield 62, 3) := by decide +kernel
theorem dX6_init_167 : decode cX6_init 167 = .ok (.aload_n 0, 1) := by decide +kernel
theorem dX6_init_168 : decode cX6_init 168 = .ok (.iconst 4, 1) := by decide +kernel
theorem dX6_init_169 : decode cX6_init 169 = .ok (.newarray .int, 2) := by decide +kernel
theorem dX6_init_171 : decode cX6_init 171 = .ok (.dup, 1) := by decide +kernel
theorem dX6_init_172 : decode cX6_init 172 = .ok (.iconst 0, 1) := by decide +kernel
theorem dX6_init_173 : decode cX6_init 173 = .ok (.iconst (-1), 1) := by decide +kernel
theorem dX6_init_174 : decode cX6_init 174 = .ok (.iastore, 1) := by decide +kernel
theorem dX6_init_175 : decode cX6_init 175 = .ok (.dup, 1) := by decide +kernel
theorem dX6_init_176 : decode cX6_init 176 = .ok (.iconst 1, 1) := by decide +kernel
theorem dX6_init_177 : decode cX6_init 177 = .ok (.iconst (-1), 1) := by decide +kernel
theorem dX6_init_178 : decode cX6_init 178 = .ok (.iastore, 1) := by decide +kernel
theorem dX6_init_179 : decode cX6_init 179 = .ok (.dup, 1) := by decide +kernel
theorem dX6_init_180 : decode cX6_init 180 = .ok (.iconst 2, 1) := by decide +kernel
theorem dX6_init_181 : decode cX6_init 181 = .ok (.iconst (-1), 1) := by decide +kernel
theorem dX6_init_182 : decode cX6_init 182 = .ok (.iastore, 1) := by decide +kernel
theorem dX6_init_183 : decode cX6_init 183 = .ok (.dup, 1) := by decide +kernel
theorem dX6_init_184 : decode cX6_init 184 = .ok (.iconst 3, 1) := by decide +kernel
theorem dX6_init_185 : decode cX6_init 185 = .ok (.iconst (-1), 1) := by decide +kernel
theorem dX6_init_186 : decode cX6_init 186 = .ok (.iastore, 1) := by decide +kernel
theorem dX6_init_187 : decode cX6_init 187 = .ok (.putfield 65, 3) := by decide +kernel
theorem dX6_init_190 : decode cX6_init 190 = .ok (.aload_n 0, 1) := by decide +kernel
theorem dX6_init_191 : decode cX6_init 191 = .ok (.iconst 4, 1) := by decide +kernel
theorem dX6_init_192 : decode cX6_init 192 = .ok (.newarray .int, 2) := by decide +kernel
theorem dX6_init_194 : decode cX6_init 194 = .ok (.dup, 1) := by decide +kernel
theorem dX6_init_195 : decode cX6_init 195 = .ok (.iconst 0, 1) := by decide +kernel
theorem dX6_init_196 : decode cX6_init 196 = .ok (.bipush 100, 2) := by decide +kernel
theorem dX6_init_198 : decode cX6_init 198 = .ok (.iastore, 1) := by decide +kernel
theorem dX6_init_199 : decode cX6_init 199 = .ok (.dup, 1) := by decide +kernel
theorem dX6_init_200 : decode cX6_init 200 = .ok (.iconst 1, 1) := by decide +kernel
theorem dX6_init_201 : decode cX6_init 201 = .ok (.bipush 100, 2) := by decide +kernel
theorem dX6_init_203 : decode cX6_init 203 = .ok (.iastore, 1) := by decide +kernel
theorem dX6_init_204 : decode cX6_init 204 = .ok (.dup, 1) := by decide +kernel
theorem dX6_init_205 : decode cX6_init 205 = .ok (.iconst 2, 1) := by decide +kernel
theorem dX6_init_206 : decode cX6_init 206 = .ok (.bipush 100, 2) := by decide +kernel
theorem dX6_init_208 : decode cX6_init 208 = .ok (.iastore, 1) := by decide +kernel
theorem dX6_init_209 : decode cX6_init 209 = .ok (.dup, 1) := by decide +kernel
theorem dX6_init_210 : decode cX6_init 210 = .ok (.iconst 3, 1) := by decide +kernel
theorem dX6_init_211 : decode cX6_init 211 = .ok (.bipush 100, 2) := by decide +kernel
theorem dX6_init_213 : decode cX6_init 213 = .ok (.iastore, 1) := by decide +kernel
theorem dX6_init_214 : decode cX6_init 214 = .ok (.putfield 68, 3) := by decide +kernel
theorem dX6_init_217 : decode cX6_init 217 = .ok (.aload_n 0, 1) := by decide +kernel
theorem dX6_init_218 : decode cX6_init 218 = .ok (.bipush 100, 2) := by decide +kernel
theorem dX6_init_220 : decode cX6_init 220 = .ok (.newarray .boolean, 2) := by decide +kernel
theorem dX6_init_222 : decode cX6_init 222 = .ok (.putfield 71, 3) := by decide +kernel
theorem dX6_init_225 : decode cX6_init 225 = .ok (.return_, 1) := by decide +kernel
theorem dX6_thrown_0 : decode cX6_thrown 0 = .ok (.aload_n 0, 1) := by decide +kernel
theorem dX6_thrown_1 : decode cX6_thrown 1 = .ok (.getfield 74, 3) := by decide +kernel
theorem dX6_thrown_4 : decode cX6_thrown 4 = .ok (.ireturn, 1) := by decide +kernel
theorem dX6_in_0 : decode cX6_in 0 = .ok (.iload_n 0, 1) := by decide +kernel
theorem dX6_in_1 : decode cX6_in 1 = .ok (.iload_n 1, 1) := by decide +kernel
theorem dX6_in_2 : decode cX6_in 2 = .ok (.if_icmp .lt 12, 3) := by decide +kernel
theorem dX6_in_5 : decode cX6_in 5 = .ok (.iload_n 0, 1) := by decide +kernel
theorem dX6_in_6 : decode cX6_in 6 = .ok (.iload_n 2, 1) := by decide +kernel
theorem dX6_in_7 : decode cX6_in 7 = .ok (.if_icmp .gt 7, 3) := by decide +kernel
theorem dX6_in_10 : decode cX6_in 10 = .ok (.iconst 1, 1) := by decide +kernel
theorem dX6_in_11 : decode cX6_in 11 = .ok (.goto 4, 3) := by decide +kernel
theorem dX6_in_14 : decode cX6_in 14 = .ok (.iconst 0, 1) := by decide +kernel
theorem dX6_in_15 : decode cX6_in 15 = .ok (.ireturn, 1) := by decide +kernel
theorem dX6_isRun_0 : decode cX6_isRun 0 = .ok (.iload_n 1, 1) := by decide +kernel
theorem dX6_isRun_1 : decode cX6_isRun 1 = .ok (.iconst 0, 1) := by decide +kernel
theorem dX6_isRun_2 : decode cX6_isRun 2 = .ok (.aload_n 0, 1) := by decide +kernel
theorem dX6_isRun_3 : decode cX6_isRun 3 = .ok (.getfield 78, 3) := by decide +kernel
theorem dX6_isRun_6 : decode cX6_isRun 6 = .ok (.iconst 1, 1) := by decide +kernel
theorem dX6_isRun_7 : decode cX6_isRun 7 = .ok (.isub, 1) := by decide +kernel
theorem dX6_isRun_8 : decode cX6_isRun 8 = .ok (.invokestatic 81, 3) := by decide +kernel
theorem dX6_isRun_11 : decode cX6_isRun 11 = .ok (.ireturn, 1) := by decide +kernel
theorem dX6_pass_0 : decode cX6_pass 0 = .ok (.aload_n 0, 1) := by decide +kernel
theorem dX6_pass_1 : decode cX6_pass 1 = .ok (.iload_n 1, 1) := by decide +kernel
theorem dX6_pass_2 : decode cX6_pass 2 = .ok (.iconst 1, 1) := by decide +kernel
theorem dX6_pass_3 : decode cX6_pass 3 = .ok (.sipush 1000, 3) := by decide +kernel
theorem dX6_pass_6 : decode cX6_pass 6 = .ok (.invokestatic 81, 3) := by decide +kernel
theorem dX6_pass_9 : decode cX6_pass 9 = .ok (.ifCond .ne 7, 3) := by decide +kernel
theorem dX6_pass_12 : decode cX6_pass 12 = .ok (.iconst 1, 1) := by decide +kernel
theorem dX6_pass_13 : decode cX6_pass 13 = .ok (.goto 20, 3) := by decide +kernel
theorem dX6_pass_16 : decode cX6_pass 16 = .ok (.aload_n 0, 1) := by decide +kernel
theorem dX6_pass_17 : decode cX6_pass 17 = .ok (.getfield 85, 3) := by decide +kernel
theorem dX6_pass_20 : decode cX6_pass 20 = .ok (.iload_n 1, 1) := by decide +kernel
theorem dX6_pass_21 : decode cX6_pass 21 = .ok (.iadd, 1) := by decide +kernel
theorem dX6_pass_22 : decode cX6_pass 22 = .ok (.sipush 9999, 3) := by decide +kernel
theorem dX6_pass_25 : decode cX6_pass 25 = .ok (.if_icmp .le 7, 3) := by decide +kernel
theorem dX6_pass_28 : decode cX6_pass 28 = .ok (.iconst 2, 1) := by decide +kernel
theorem dX6_pass_29 : decode cX6_pass 29 = .ok (.goto 4, 3) := by decide +kernel
theorem dX6_pass_32 : decode cX6_pass 32 = .ok (.iconst 0, 1) := by decide +kernel
theorem dX6_pass_33 : decode cX6_pass 33 = .ok (.putfield 74, 3) := by decide +kernel
theorem dX6_pass_36 : decode cX6_pass 36 = .ok (.aload_n 0, 1) := by decide +kernel
theorem dX6_pass_37 : decode cX6_pass 37 = .ok (.getfield 74, 3) := by decide +kernel
theorem dX6_pass_40 : decode cX6_pass 40 = .ok (.ifCond .le 5, 3) := by decide +kernel
theorem dX6_pass_43 : decode cX6_pass 43 = .ok (.iconst 0, 1) := by decide +kernel
theorem dX6_pass_44 : decode cX6_pass 44 = .ok (.ireturn, 1) := by decide +kernel
theorem dX6_pass_45 : decode cX6_pass 45 = .ok (.aload_n 0, 1) := by decide +kernel
theorem dX6_pass_46 : decode cX6_pass 46 = .ok (.dup, 1) := by decide +kernel
theorem dX6_pass_47 : decode cX6_pass 47 = .ok (.getfield 85, 3) := by decide +kernel
theorem dX6_pass_50 : decode cX6_pass 50 = .ok (.iload_n 1, 1) := by decide +kernel
theorem dX6_pass_51 : decode cX6_pass 51 = .ok (.iadd, 1) := by decide +kernel
theorem dX6_pass_52 : decode cX6_pass 52 = .ok (.putfield 85, 3) := by decide +kernel
theorem dX6_pass_55 : decode cX6_pass 55 = .ok (.aload_n 0, 1) := by decide +kernel
theorem dX6_pass_56 : decode cX6_pass 56 = .ok (.getfield 85, 3) := by decide +kernel
theorem dX6_pass_59 : decode cX6_pass 59 = .ok (.ireturn, 1) := by decide +kernel
theorem dX6_format_0 : decode cX6_format 0 = .ok (.iload_n 1, 1) := by decide +kernel
theorem dX6_format_1 : decode cX6_format 1 = .ok (.iconst 0, 1) := by decide +kernel
theorem dX6_format_2 : decode cX6_format 2 = .ok (.sipush 9999, 3) := by decide +kernel
theorem dX6_format_5 : decode cX6_format 5 = .ok (.invokestatic 81, 3) := by decide +kernel
theorem dX6_format_8 : decode cX6_format 8 = .ok (.ifCond .eq 27, 3) := by decide +kernel
theorem dX6_format_11 : decode cX6_format 11 = .ok (.iload_n 2, 1) := by decide +kernel
theorem dX6_format_12 : decode cX6_format 12 = .ok (.iconst 0, 1) := by decide +kernel
theorem dX6_format_13 : decode cX6_format 13 = .ok (.bipush 7, 2) := by decide +kernel
theorem dX6_format_15 : decode cX6_format 15 = .ok (.invokestatic 81, 3) := by decide +kernel
theorem dX6_format_18 : decode cX6_format 18 = .ok (.ifCond .eq 17, 3) := by decide +kernel
theorem dX6_format_21 : decode cX6_format 21 = .ok (.iload_n 3, 1) := by decide +kernel
theorem dX6_format_22 : decode cX6_format 22 = .ok (.iconst 0, 1) := by decide +kernel
theorem dX6_format_23 : decode cX6_format 23 = .ok (.bipush 7, 2) := by decide +kernel
theorem dX6_format_25 : decode cX6_format 25 = .ok (.invokestatic 81, 3) := by decide +kernel
theorem dX6_format_28 : decode cX6_format 28 = .ok (.ifCond .eq 7, 3) := by decide +kernel
theorem dX6_format_31 : decode cX6_format 31 = .ok (.iconst 1, 1) := by decide +kernel
theorem dX6_format_32 : decode cX6_format 32 = .ok (.goto 4, 3) := by decide +kernel
theorem dX6_format_35 : decode cX6_format 35 = .ok (.iconst 0, 1) := by decide +kernel
theorem dX6_format_36 : decode cX6_format 36 = .ok (.istore 4, 2) := by decide +kernel
theorem dX6_format_38 : decode cX6_format 38 = .ok (.aload_n 0, 1) := by decide +kernel
theorem dX6_format_39 : decode cX6_format 39 = .ok (.iload 4, 2) := by decide +kernel
theorem dX6_format_41 : decode cX6_format 41 = .ok (.ifCond .ne 7, 3) := by decide +kernel
theorem dX6_format_44 : decode cX6_format 44 = .ok (.iconst 1, 1) := by decide +kernel
theorem dX6_format_45 : decode cX6_format 45 = .ok (.goto 17, 3) := by decide +kernel
theorem dX6_format_48 : decode cX6_format 48 = .ok (.aload_n 0, 1) := by decide +kernel
theorem dX6_format_49 : decode cX6_format 49 = .ok (.getfield 88, 3) := by decide +kernel
theorem dX6_format_52 : decode cX6_format 52 = .ok (.bipush 10, 2) := by decide +kernel
theorem dX6_format_54 : decode cX6_format 54 = .ok (.if_icmp .ne 7, 3) := by decide +kernel
theorem dX6_format_57 : decode cX6_format 57 = .ok (.iconst 2, 1) := by decide +kernel
theorem dX6_format_58 : decode cX6_format 58 = .ok (.goto 4, 3) := by decide +kernel
theorem dX6_format_61 : decode cX6_format 61 = .ok (.iconst 0, 1) := by decide +kernel
theorem dX6_format_62 : decode cX6_format 62 = .ok (.putfield 74, 3) := by decide +kernel
theorem dX6_format_65 : decode cX6_format 65 = .ok (.aload_n 0, 1) := by decide +kernel
theorem dX6_format_66 : decode cX6_format 66 = .ok (.getfield 74, 3) := by decide +kernel
theorem dX6_format_69 : decode cX6_format 69 = .ok (.ifCond .le 5, 3) := by decide +kernel
theorem dX6_format_72 : decode cX6_format 72 = .ok (.iconst 0, 1) := by decide +kernel
theorem dX6_format_73 : decode cX6_format 73 = .ok (.ireturn, 1) := by decide +kernel
theorem dX6_format_74 : decode cX6_format 74 = .ok (.aload_n 0, 1) := by decide +kernel
theorem dX6_format_75 : decode cX6_format 75 = .ok (.getfield 7, 3) := by decide +kernel
theorem dX6_format_78 : decode cX6_format 78 = .ok (.aload_n 0, 1) := by decide +kernel
theorem dX6_format_79 : decode cX6_format 79 = .ok (.getfield 88, 3) := by decide +kernel
theorem dX6_format_82 : decode cX6_format 82 = .ok (.iload_n 1, 1) := by decide +kernel
theorem dX6_format_83 : decode cX6_format 83 = .ok (.iastore, 1) := by decide +kernel
theorem dX6_format_84 : decode cX6_format 84 = .ok (.aload_n 0, 1) := by decide +kernel
theorem dX6_format_85 : decode cX6_format 85 = .ok (.getfield 13, 3) := by decide +kernel
theorem dX6_format_88 : decode cX6_format 88 = .ok (.aload_n 0, 1) := by decide +kernel
theorem dX6_format_89 : decode cX6_format 89 = .ok (.getfield 88, 3) := by decide +kernel
theorem dX6_format_92 : decode cX6_format 92 = .ok (.iload_n 2, 1) := by decide +kernel
theorem dX6_format_93 : decode cX6_format 93 = .ok (.iastore, 1) := by decide +kernel
theorem dX6_format_94 : decode cX6_format 94 = .ok (.aload_n 0, 1) := by decide +kernel
theorem dX6_format_95 : decode cX6_format 95 = .ok (.getfield 16, 3) := by decide +kernel
theorem dX6_format_98 : decode cX6_format 98 = .ok (.aload_n 0, 1) := by decide +kernel
theorem dX6_format_99 : decode cX6_format 99 = .ok (.getfield 88, 3) := by decide +kernel
theorem dX6_format_102 : decode cX6_format 102 = .ok (.iload_n 3, 1) := by decide +kernel
theorem dX6_format_103 : decode cX6_format 103 = .ok (.iastore, 1) := by decide +kernel
theorem dX6_format_104 : decode cX6_format 104 = .ok (.aload_n 0, 1) := by decide +kernel
theorem dX6_format_105 : decode cX6_format 105 = .ok (.dup, 1) := by decide +kernel
theorem dX6_format_106 : decode cX6_format 106 = .ok (.getfield 88, 3) := by decide +kernel
theorem dX6_format_109 : decode cX6_format 109 = .ok (.iconst 1, 1) := by decide +kernel
theorem dX6_format_110 : decode cX6_format 110 = .ok (.iadd, 1) := by decide +kernel
theorem dX6_format_111 : decode cX6_format 111 = .ok (.putfield 88, 3) := by decide +kernel
theorem dX6_format_114 : decode cX6_format 114 = .ok (.aload_n 0, 1) := by decide +kernel
theorem dX6_format_115 : decode cX6_format 115 = .ok (.getfield 88, 3) := by decide +kernel
theorem dX6_format_118 : decode cX6_format 118 = .ok (.ireturn, 1) := by decide +kernel
theorem dX6_formatNow_0 : decode cX6_formatNow 0 = .ok (.iconst (-1), 1) := by decide +kernel
theorem dX6_formatNow_1 : decode cX6_formatNow 1 = .ok (.istore_n 1, 1) := by decide +kernel
theorem dX6_formatNow_2 : decode cX6_formatNow 2 = .ok (.iconst 0, 1) := by decide +kernel
theorem dX6_formatNow_3 : decode cX6_formatNow 3 = .ok (.istore_n 2, 1) := by decide +kernel
theorem dX6_formatNow_4 : decode cX6_formatNow 4 = .ok (.iload_n 2, 1) := by decide +kernel
theorem dX6_formatNow_5 : decode cX6_formatNow 5 = .ok (.aload_n 0, 1) := by decide +kernel
theorem dX6_formatNow_6 : decode cX6_formatNow 6 = .ok (.getfield 88, 3) := by decide +kernel
theorem dX6_formatNow_9 : decode cX6_formatNow 9 = .ok (.if_icmp .ge 58, 3) := by decide +kernel
theorem dX6_formatNow_12 : decode cX6_formatNow 12 = .ok (.aload_n 0, 1) := by decide +kernel
theorem dX6_formatNow_13 : decode cX6_formatNow 13 = .ok (.getfield 7, 3) := by decide +kernel
theorem dX6_formatNow_16 : decode cX6_formatNow 16 = .ok (.iload_n 2, 1) := by decide +kernel
theorem dX6_formatNow_17 : decode cX6_formatNow 17 = .ok (.iaload, 1) := by decide +kernel
theorem dX6_formatNow_18 : decode cX6_formatNow 18 = .ok (.aload_n 0, 1) := by decide +kernel
theorem dX6_formatNow_19 : decode cX6_formatNow 19 = .ok (.getfield 85, 3) := by decide +kernel
theorem dX6_formatNow_22 : decode cX6_formatNow 22 = .ok (.if_icmp .gt 27, 3) := by decide +kernel
theorem dX6_formatNow_25 : decode cX6_formatNow 25 = .ok (.iload_n 1, 1) := by decide +kernel
theorem dX6_formatNow_26 : decode cX6_formatNow 26 = .ok (.iconst (-1), 1) := by decide +kernel
theorem dX6_formatNow_27 : decode cX6_formatNow 27 = .ok (.if_icmp .eq 18, 3) := by decide +kernel
theorem dX6_formatNow_30 : decode cX6_formatNow 30 = .ok (.aload_n 0, 1) := by decide +kernel
theorem dX6_formatNow_31 : decode cX6_formatNow 31 = .ok (.getfield 7, 3) := by decide +kernel
theorem dX6_formatNow_34 : decode cX6_formatNow 34 = .ok (.iload_n 2, 1) := by decide +kernel
theorem dX6_formatNow_35 : decode cX6_formatNow 35 = .ok (.iaload, 1) := by decide +kernel
theorem dX6_formatNow_36 : decode cX6_formatNow 36 = .ok (.aload_n 0, 1) := by decide +kernel
theorem dX6_formatNow_37 : decode cX6_formatNow 37 = .ok (.getfield 7, 3) := by decide +kernel
theorem dX6_formatNow_40 : decode cX6_formatNow 40 = .ok (.iload_n 1, 1) := by decide +kernel
theorem dX6_formatNow_41 : decode cX6_formatNow 41 = .ok (.iaload, 1) := by decide +kernel
theorem dX6_formatNow_42 : decode cX6_formatNow 42 = .ok (.if_icmp .lt 7, 3) := by decide +kernel
theorem dX6_formatNow_45 : decode cX6_formatNow 45 = .ok (.iconst 1, 1) := by decide +kernel
theorem dX6_formatNow_46 : decode cX6_formatNow 46 = .ok (.goto 4, 3) := by decide +kernel
theorem dX6_formatNow_49 : decode cX6_formatNow 49 = .ok (.iconst 0, 1) := by decide +kernel
theorem dX6_formatNow_50 : decode cX6_formatNow 50 = .ok (.istore_n 3, 1) := by decide +kernel
theorem dX6_formatNow_51 : decode cX6_formatNow 51 = .ok (.iload_n 3, 1) := by decide +kernel
theorem dX6_formatNow_52 : decode cX6_formatNow 52 = .ok (.ifCond .eq 7, 3) := by decide +kernel
theorem dX6_formatNow_55 : decode cX6_formatNow 55 = .ok (.iload_n 2, 1) := by decide +kernel
theorem dX6_formatNow_56 : decode cX6_formatNow 56 = .ok (.goto 4, 3) := by decide +kernel
theorem dX6_formatNow_59 : decode cX6_formatNow 59 = .ok (.iload_n 1, 1) := by decide +kernel
theorem dX6_formatNow_60 : decode cX6_formatNow 60 = .ok (.istore_n 1, 1) := by decide +kernel
theorem dX6_formatNow_61 : decode cX6_formatNow 61 = .ok (.iinc 2 1, 3) := by decide +kernel
theorem dX6_formatNow_64 : decode cX6_formatNow 64 = .ok (.goto (-60), 3) := by decide +kernel
theorem dX6_formatNow_67 : decode cX6_formatNow 67 = .ok (.iload_n 1, 1) := by decide +kernel
theorem dX6_formatNow_68 : decode cX6_formatNow 68 = .ok (.ireturn, 1) := by decide +kernel
theorem dX6_line_0 : decode cX6_line 0 = .ok (.aload_n 0, 1) := by decide +kernel
theorem dX6_line_1 : decode cX6_line 1 = .ok (.iload_n 1, 1) := by decide +kernel
theorem dX6_line_2 : decode cX6_line 2 = .ok (.iconst 0, 1) := by decide +kernel
theorem dX6_line_3 : decode cX6_line 3 = .ok (.bipush 99, 2) := by decide +kernel
theorem dX6_line_5 : decode cX6_line 5 = .ok (.invokestatic 81, 3) := by decide +kernel
theorem dX6_line_8 : decode cX6_line 8 = .ok (.ifCond .ne 7, 3) := by decide +kernel
theorem dX6_line_11 : decode cX6_line 11 = .ok (.iconst 1, 1) := by decide +kernel
theorem dX6_line_12 : decode cX6_line 12 = .ok (.goto 17, 3) := by decide +kernel
theorem dX6_line_15 : decode cX6_line 15 = .ok (.aload_n 0, 1) := by decide +kernel
theorem dX6_line_16 : decode cX6_line 16 = .ok (.getfield 91, 3) := by decide +kernel
theorem dX6_line_19 : decode cX6_line 19 = .ok (.bipush 8, 2) := by decide +kernel
theorem dX6_line_21 : decode cX6_line 21 = .ok (.if_icmp .ne 7, 3) := by decide +kernel
theorem dX6_line_24 : decode cX6_line 24 = .ok (.iconst 2, 1) := by decide +kernel
theorem dX6_line_25 : decode cX6_line 25 = .ok (.goto 4, 3) := by decide +kernel
theorem dX6_line_28 : decode cX6_line 28 = .ok (.iconst 0, 1) := by decide +kernel
theorem dX6_line_29 : decode cX6_line 29 = .ok (.putfield 74, 3) := by decide +kernel
theorem dX6_line_32 : decode cX6_line 32 = .ok (.aload_n 0, 1) := by decide +kernel
theorem dX6_line_33 : decode cX6_line 33 = .ok (.getfield 74, 3) := by decide +kernel
theorem dX6_line_36 : decode cX6_line 36 = .ok (.ifCond .le 5, 3) := by decide +kernel
theorem dX6_line_39 : decode cX6_line 39 = .ok (.iconst 0, 1) := by decide +kernel
theorem dX6_line_40 : decode cX6_line 40 = .ok (.ireturn, 1) := by decide +kernel
theorem dX6_line_41 : decode cX6_line 41 = .ok (.aload_n 0, 1) := by decide +kernel
theorem dX6_line_42 : decode cX6_line 42 = .ok (.getfield 25, 3) := by decide +kernel
theorem dX6_line_45 : decode cX6_line 45 = .ok (.aload_n 0, 1) := by decide +kernel
theorem dX6_line_46 : decode cX6_line 46 = .ok (.getfield 91, 3) := by decide +kernel
theorem dX6_line_49 : decode cX6_line 49 = .ok (.iload_n 1, 1) := by decide +kernel
theorem dX6_line_50 : decode cX6_line 50 = .ok (.iastore, 1) := by decide +kernel
theorem dX6_line_51 : decode cX6_line 51 = .ok (.aload_n 0, 1) := by decide +kernel
theorem dX6_line_52 : decode cX6_line 52 = .ok (.dup, 1) := by decide +kernel
theorem dX6_line_53 : decode cX6_line 53 = .ok (.getfield 91, 3) := by decide +kernel
theorem dX6_line_56 : decode cX6_line 56 = .ok (.iconst 1, 1) := by decide +kernel
theorem dX6_line_57 : decode cX6_line 57 = .ok (.iadd, 1) := by decide +kernel
theorem dX6_line_58 : decode cX6_line 58 = .ok (.putfield 91, 3) := by decide +kernel
theorem dX6_line_61 : decode cX6_line 61 = .ok (.aload_n 0, 1) := by decide +kernel
theorem dX6_line_62 : decode cX6_line 62 = .ok (.getfield 91, 3) := by decide +kernel
theorem dX6_line_65 : decode cX6_line 65 = .ok (.ireturn, 1) := by decide +kernel
theorem dX6_endsPage_0 : decode cX6_endsPage 0 = .ok (.aload_n 0, 1) := by decide +kernel
theorem dX6_endsPage_1 : decode cX6_endsPage 1 = .ok (.getfield 94, 3) := by decide +kernel
theorem dX6_endsPage_4 : decode cX6_endsPage 4 = .ok (.aload_n 0, 1) := by decide +kernel
theorem dX6_endsPage_5 : decode cX6_endsPage 5 = .ok (.getfield 97, 3) := by decide +kernel
theorem dX6_endsPage_8 : decode cX6_endsPage 8 = .ok (.iadd, 1) := by decide +kernel
theorem dX6_endsPage_9 : decode cX6_endsPage 9 = .ok (.istore_n 1, 1) := by decide +kernel
theorem dX6_endsPage_10 : decode cX6_endsPage 10 = .ok (.aload_n 0, 1) := by decide +kernel
theorem dX6_endsPage_11 : decode cX6_endsPage 11 = .ok (.getfield 19, 3) := by decide +kernel
theorem dX6_endsPage_14 : decode cX6_endsPage 14 = .ok (.iload_n 1, 1) := by decide +kernel
theorem dX6_endsPage_15 : decode cX6_endsPage 15 = .ok (.aload_n 0, 1) := by decide +kernel
theorem dX6_endsPage_16 : decode cX6_endsPage 16 = .ok (.getfield 91, 3) := by decide +kernel
theorem dX6_endsPage_19 : decode cX6_endsPage 19 = .ok (.iastore, 1) := by decide +kernel
theorem dX6_endsPage_20 : decode cX6_endsPage 20 = .ok (.iconst 0, 1) := by decide +kernel
theorem dX6_endsPage_21 : decode cX6_endsPage 21 = .ok (.istore_n 2, 1) := by decide +kernel
theorem dX6_endsPage_22 : decode cX6_endsPage 22 = .ok (.iload_n 2, 1) := by decide +kernel
theorem dX6_endsPage_23 : decode cX6_endsPage 23 = .ok (.aload_n 0, 1) := by decide +kernel
theorem dX6_endsPage_24 : decode cX6_endsPage 24 = .ok (.getfield 91, 3) := by decide +kernel
theorem dX6_endsPage_27 : decode cX6_endsPage 27 = .ok (.if_icmp .ge 26, 3) := by decide +kernel
theorem dX6_endsPage_30 : decode cX6_endsPage 30 = .ok (.aload_n 0, 1) := by decide +kernel
theorem dX6_endsPage_31 : decode cX6_endsPage 31 = .ok (.getfield 22, 3) := by decide +kernel
theorem dX6_endsPage_34 : decode cX6_endsPage 34 = .ok (.bipush 8, 2) := by decide +kernel
theorem dX6_endsPage_36 : decode cX6_endsPage 36 = .ok (.iload_n 1, 1) := by decide +kernel
theorem dX6_endsPage_37 : decode cX6_endsPage 37 = .ok (.imul, 1) := by decide +kernel
theorem dX6_endsPage_38 : decode cX6_endsPage 38 = .ok (.iload_n 2, 1) := by decide +kernel
theorem dX6_endsPage_39 : decode cX6_endsPage 39 = .ok (.iadd, 1) := by decide +kernel
theorem dX6_endsPage_40 : decode cX6_endsPage 40 = .ok (.aload_n 0, 1) := by decide +kernel
theorem dX6_endsPage_41 : decode cX6_endsPage 41 = .ok (.getfield 25, 3) := by decide +kernel
theorem dX6_endsPage_44 : decode cX6_endsPage 44 = .ok (.iload_n 2, 1) := by decide +kernel
theorem dX6_endsPage_45 : decode cX6_endsPage 45 = .ok (.iaload, 1) := by decide +kernel
theorem dX6_endsPage_46 : decode cX6_endsPage 46 = .ok (.iastore, 1) := by decide +kernel
theorem dX6_endsPage_47 : decode cX6_endsPage 47 = .ok (.iinc 2 1, 3) := by decide +kernel
theorem dX6_endsPage_50 : decode cX6_endsPage 50 = .ok (.goto (-28), 3) := by decide +kernel
theorem dX6_endsPage_53 : decode cX6_endsPage 53 = .ok (.aload_n 0, 1) := by decide +kernel
theorem dX6_endsPage_54 : decode cX6_endsPage 54 = .ok (.getfield 28, 3) := by decide +kernel
theorem dX6_endsPage_57 : decode cX6_endsPage 57 = .ok (.iload_n 1, 1) := by decide +kernel
theorem dX6_endsPage_58 : decode cX6_endsPage 58 = .ok (.iconst 1, 1) := by decide +kernel
theorem dX6_endsPage_59 : decode cX6_endsPage 59 = .ok (.iastore, 1) := by decide +kernel
theorem dX6_endsPage_60 : decode cX6_endsPage 60 = .ok (.aload_n 0, 1) := by decide +kernel
theorem dX6_endsPage_61 : decode cX6_endsPage 61 = .ok (.iconst 0, 1) := by decide +kernel
theorem dX6_endsPage_62 : decode cX6_endsPage 62 = .ok (.putfield 91, 3) := by decide +kernel
theorem dX6_endsPage_65 : decode cX6_endsPage 65 = .ok (.aload_n 0, 1) := by decide +kernel
theorem dX6_endsPage_66 : decode cX6_endsPage 66 = .ok (.dup, 1) := by decide +kernel
theorem dX6_endsPage_67 : decode cX6_endsPage 67 = .ok (.getfield 97, 3) := by decide +kernel
theorem dX6_endsPage_70 : decode cX6_endsPage 70 = .ok (.iconst 1, 1) := by decide +kernel
theorem dX6_endsPage_71 : decode cX6_endsPage 71 = .ok (.iadd, 1) := by decide +kernel
theorem dX6_endsPage_72 : decode cX6_endsPage 72 = .ok (.putfield 97, 3) := by decide +kernel
theorem dX6_endsPage_75 : decode cX6_endsPage 75 = .ok (.return_, 1) := by decide +kernel
theorem dX6_feed_0 : decode cX6_feed 0 = .ok (.aload_n 0, 1) := by decide +kernel
theorem dX6_feed_1 : decode cX6_feed 1 = .ok (.aload_n 0, 1) := by decide +kernel
theorem dX6_feed_2 : decode cX6_feed 2 = .ok (.getfield 94, 3) := by decide +kernel
theorem dX6_feed_5 : decode cX6_feed 5 = .ok (.aload_n 0, 1) := by decide +kernel
theorem dX6_feed_6 : decode cX6_feed 6 = .ok (.getfield 97, 3) := by decide +kernel
theorem dX6_feed_9 : decode cX6_feed 9 = .ok (.iadd, 1) := by decide +kernel
theorem dX6_feed_10 : decode cX6_feed 10 = .ok (.iconst 1, 1) := by decide +kernel
theorem dX6_feed_11 : decode cX6_feed 11 = .ok (.iadd, 1) := by decide +kernel
theorem dX6_feed_12 : decode cX6_feed 12 = .ok (.bipush 120, 2) := by decide +kernel
theorem dX6_feed_14 : decode cX6_feed 14 = .ok (.if_icmp .le 7, 3) := by decide +kernel
theorem dX6_feed_17 : decode cX6_feed 17 = .ok (.iconst 1, 1) := by decide +kernel
theorem dX6_feed_18 : decode cX6_feed 18 = .ok (.goto 4, 3) := by decide +kernel
theorem dX6_feed_21 : decode cX6_feed 21 = .ok (.iconst 0, 1) := by decide +kernel
theorem dX6_feed_22 : decode cX6_feed 22 = .ok (.putfield 74, 3) := by decide +kernel
theorem dX6_feed_25 : decode cX6_feed 25 = .ok (.aload_n 0, 1) := by decide +kernel
theorem dX6_feed_26 : decode cX6_feed 26 = .ok (.getfield 74, 3) := by decide +kernel
theorem dX6_feed_29 : decode cX6_feed 29 = .ok (.ifCond .le 5, 3) := by decide +kernel
theorem dX6_feed_32 : decode cX6_feed 32 = .ok (.iconst 0, 1) := by decide +kernel
theorem dX6_feed_33 : decode cX6_feed 33 = .ok (.ireturn, 1) := by decide +kernel
theorem dX6_feed_34 : decode cX6_feed 34 = .ok (.aload_n 0, 1) := by decide +kernel
theorem dX6_feed_35 : decode cX6_feed 35 = .ok (.invokevirtual 100, 3) := by decide +kernel
theorem dX6_feed_38 : decode cX6_feed 38 = .ok (.aload_n 0, 1) := by decide +kernel
theorem dX6_feed_39 : decode cX6_feed 39 = .ok (.getfield 97, 3) := by decide +kernel
theorem dX6_feed_42 : decode cX6_feed 42 = .ok (.ireturn, 1) := by decide +kernel
theorem dX6_lineOf_0 : decode cX6_lineOf 0 = .ok (.iload_n 2, 1) := by decide +kernel
theorem dX6_lineOf_1 : decode cX6_lineOf 1 = .ok (.aload_n 0, 1) := by decide +kernel
theorem dX6_lineOf_2 : decode cX6_lineOf 2 = .ok (.getfield 19, 3) := by decide +kernel
theorem dX6_lineOf_5 : decode cX6_lineOf 5 = .ok (.iload_n 1, 1) := by decide +kernel
theorem dX6_lineOf_6 : decode cX6_lineOf 6 = .ok (.iaload, 1) := by decide +kernel
theorem dX6_lineOf_7 : decode cX6_lineOf 7 = .ok (.if_icmp .ge 17, 3) := by decide +kernel
theorem dX6_lineOf_10 : decode cX6_lineOf 10 = .ok (.aload_n 0, 1) := by decide +kernel
theorem dX6_lineOf_11 : decode cX6_lineOf 11 = .ok (.getfield 22, 3) := by decide +kernel
theorem dX6_lineOf_14 : decode cX6_lineOf 14 = .ok (.bipush 8, 2) := by decide +kernel
theorem dX6_lineOf_16 : decode cX6_lineOf 16 = .ok (.iload_n 1, 1) := by decide +kernel
theorem dX6_lineOf_17 : decode cX6_lineOf 17 = .ok (.imul, 1) := by decide +kernel
theorem dX6_lineOf_18 : decode cX6_lineOf 18 = .ok (.iload_n 2, 1) := by decide +kernel
theorem dX6_lineOf_19 : decode cX6_lineOf 19 = .ok (.iadd, 1) := by decide +kernel
theorem dX6_lineOf_20 : decode cX6_lineOf 20 = .ok (.iaload, 1) := by decide +kernel
theorem dX6_lineOf_21 : decode cX6_lineOf 21 = .ok (.goto 4, 3) := by decide +kernel
theorem dX6_lineOf_24 : decode cX6_lineOf 24 = .ok (.iconst (-1), 1) := by decide +kernel
theorem dX6_lineOf_25 : decode cX6_lineOf 25 = .ok (.ireturn, 1) := by decide +kernel
theorem dX6_begins_0 : decode cX6_begins 0 = .ok (.aload_n 0, 1) := by decide +kernel
theorem dX6_begins_1 : decode cX6_begins 1 = .ok (.iload_n 1, 1) := by decide +kernel
theorem dX6_begins_2 : decode cX6_begins 2 = .ok (.iload_n 3, 1) := by decide +kernel
theorem dX6_begins_3 : decode cX6_begins 3 = .ok (.invokevirtual 103, 3) := by decide +kernel
theorem dX6_begins_6 : decode cX6_begins 6 = .ok (.istore 4, 2) := by decide +kernel
theorem dX6_begins_8 : decode cX6_begins 8 = .ok (.aload_n 0, 1) := by decide +kernel
theorem dX6_begins_9 : decode cX6_begins 9 = .ok (.getfield 40, 3) := by decide +kernel
theorem dX6_begins_12 : decode cX6_begins 12 = .ok (.aload_n 0, 1) := by decide +kernel
theorem dX6_begins_13 : decode cX6_begins 13 = .ok (.getfield 107, 3) := by decide +kernel
theorem dX6_begins_16 : decode cX6_begins 16 = .ok (.iload_n 1, 1) := by decide +kernel
theorem dX6_begins_17 : decode cX6_begins 17 = .ok (.iastore, 1) := by decide +kernel
theorem dX6_begins_18 : decode cX6_begins 18 = .ok (.aload_n 0, 1) := by decide +kernel
theorem dX6_begins_19 : decode cX6_begins 19 = .ok (.getfield 43, 3) := by decide +kernel
theorem dX6_begins_22 : decode cX6_begins 22 = .ok (.aload_n 0, 1) := by decide +kernel
theorem dX6_begins_23 : decode cX6_begins 23 = .ok (.getfield 107, 3) := by decide +kernel
theorem dX6_begins_26 : decode cX6_begins 26 = .ok (.iconst 0, 1) := by decide +kernel
theorem dX6_begins_27 : decode cX6_begins 27 = .ok (.iastore, 1) := by decide +kernel
theorem dX6_begins_28 : decode cX6_begins 28 = .ok (.aload_n 0, 1) := by decide +kernel
theorem dX6_begins_29 : decode cX6_begins 29 = .ok (.getfield 46, 3) := by decide +kernel
theorem dX6_begins_32 : decode cX6_begins 32 = .ok (.aload_n 0, 1) := by decide +kernel
theorem dX6_begins_33 : decode cX6_begins 33 = .ok (.getfield 107, 3) := by decide +kernel
theorem dX6_begins_36 : decode cX6_begins 36 = .ok (.iload_n 2, 1) := by decide +kernel
theorem dX6_begins_37 : decode cX6_begins 37 = .ok (.iastore, 1) := by decide +kernel
theorem dX6_begins_38 : decode cX6_begins 38 = .ok (.aload_n 0, 1) := by decide +kernel
theorem dX6_begins_39 : decode cX6_begins 39 = .ok (.getfield 49, 3) := by decide +kernel
theorem dX6_begins_42 : decode cX6_begins 42 = .ok (.aload_n 0, 1) := by decide +kernel
theorem dX6_begins_43 : decode cX6_begins 43 = .ok (.getfield 107, 3) := by decide +kernel
theorem dX6_begins_46 : decode cX6_begins 46 = .ok (.iload 4, 2) := by decide +kernel
theorem dX6_begins_48 : decode cX6_begins 48 = .ok (.iconst (-1), 1) := by decide +kernel
theorem dX6_begins_49 : decode cX6_begins 49 = .ok (.if_icmp .ne 7, 3) := by decide +kernel
theorem dX6_begins_52 : decode cX6_begins 52 = .ok (.iconst 0, 1) := by decide +kernel
theorem dX6_begins_53 : decode cX6_begins 53 = .ok (.goto 7, 3) := by decide +kernel
theorem dX6_begins_56 : decode cX6_begins 56 = .ok (.iload 4, 2) := by decide +kernel
theorem dX6_begins_58 : decode cX6_begins 58 = .ok (.iconst 4, 1) := by decide +kernel
theorem dX6_begins_59 : decode cX6_begins 59 = .ok (.irem, 1) := by decide +kernel
theorem dX6_begins_60 : decode cX6_begins 60 = .ok (.iastore, 1) := by decide +kernel
theorem dX6_begins_61 : decode cX6_begins 61 = .ok (.aload_n 0, 1) := by decide +kernel
theorem dX6_begins_62 : decode cX6_begins 62 = .ok (.getfield 52, 3) := by decide +kernel
theorem dX6_begins_65 : decode cX6_begins 65 = .ok (.aload_n 0, 1) := by decide +kernel
theorem dX6_begins_66 : decode cX6_begins 66 = .ok (.getfield 107, 3) := by decide +kernel
theorem dX6_begins_69 : decode cX6_begins 69 = .ok (.aload_n 0, 1) := by decide +kernel
theorem dX6_begins_70 : decode cX6_begins 70 = .ok (.getfield 85, 3) := by decide +kernel
theorem dX6_begins_73 : decode cX6_begins 73 = .ok (.iastore, 1) := by decide +kernel
theorem dX6_begins_74 : decode cX6_begins 74 = .ok (.aload_n 0, 1) := by decide +kernel
theorem dX6_begins_75 : decode cX6_begins 75 = .ok (.getfield 55, 3) := by decide +kernel
theorem dX6_begins_78 : decode cX6_begins 78 = .ok (.aload_n 0, 1) := by decide +kernel
theorem dX6_begins_79 : decode cX6_begins 79 = .ok (.getfield 107, 3) := by decide +kernel
theorem dX6_begins_82 : decode cX6_begins 82 = .ok (.iconst 0, 1) := by decide +kernel
theorem dX6_begins_83 : decode cX6_begins 83 = .ok (.bastore, 1) := by decide +kernel
theorem dX6_begins_84 : decode cX6_begins 84 = .ok (.aload_n 0, 1) := by decide +kernel
theorem dX6_begins_85 : decode cX6_begins 85 = .ok (.dup, 1) := by decide +kernel
theorem dX6_begins_86 : decode cX6_begins 86 = .ok (.getfield 107, 3) := by decide +kernel
theorem dX6_begins_89 : decode cX6_begins 89 = .ok (.iconst 1, 1) := by decide +kernel
theorem dX6_begins_90 : decode cX6_begins 90 = .ok (.iadd, 1) := by decide +kernel
theorem dX6_begins_91 : decode cX6_begins 91 = .ok (.putfield 107, 3) := by decide +kernel
theorem dX6_begins_94 : decode cX6_begins 94 = .ok (.return_, 1) := by decide +kernel
theorem dX6_putsTogether_0 : decode cX6_putsTogether 0 = .ok (.aload_n 0, 1) := by decide +kernel
theorem dX6_putsTogether_1 : decode cX6_putsTogether 1 = .ok (.invokevirtual 110, 3) := by decide +kernel
theorem dX6_putsTogether_4 : decode cX6_putsTogether 4 = .ok (.istore_n 1, 1) := by decide +kernel
theorem dX6_putsTogether_5 : decode cX6_putsTogether 5 = .ok (.iload_n 1, 1) := by decide +kernel
theorem dX6_putsTogether_6 : decode cX6_putsTogether 6 = .ok (.iconst (-1), 1) := by decide +kernel
theorem dX6_putsTogether_7 : decode cX6_putsTogether 7 = .ok (.if_icmp .ne 7, 3) := by decide +kernel
theorem dX6_putsTogether_10 : decode cX6_putsTogether 10 = .ok (.iconst 0, 1) := by decide +kernel
theorem dX6_putsTogether_11 : decode cX6_putsTogether 11 = .ok (.goto 9, 3) := by decide +kernel
theorem dX6_putsTogether_14 : decode cX6_putsTogether 14 = .ok (.aload_n 0, 1) := by decide +kernel
theorem dX6_putsTogether_15 : decode cX6_putsTogether 15 = .ok (.getfield 13, 3) := by decide +kernel
theorem dX6_putsTogether_18 : decode cX6_putsTogether 18 = .ok (.iload_n 1, 1) := by decide +kernel
theorem dX6_putsTogether_19 : decode cX6_putsTogether 19 = .ok (.iaload, 1) := by decide +kernel
theorem dX6_putsTogether_20 : decode cX6_putsTogether 20 = .ok (.istore_n 2, 1) := by decide +kernel
theorem dX6_putsTogether_21 : decode cX6_putsTogether 21 = .ok (.iload_n 1, 1) := by decide +kernel
theorem dX6_putsTogether_22 : decode cX6_putsTogether 22 = .ok (.iconst (-1), 1) := by decide +kernel
theorem dX6_putsTogether_23 : decode cX6_putsTogether 23 = .ok (.if_icmp .ne 7, 3) := by decide +kernel
theorem dX6_putsTogether_26 : decode cX6_putsTogether 26 = .ok (.iconst 1, 1) := by decide +kernel
theorem dX6_putsTogether_27 : decode cX6_putsTogether 27 = .ok (.goto 9, 3) := by decide +kernel
theorem dX6_putsTogether_30 : decode cX6_putsTogether 30 = .ok (.aload_n 0, 1) := by decide +kernel
theorem dX6_putsTogether_31 : decode cX6_putsTogether 31 = .ok (.getfield 16, 3) := by decide +kernel
theorem dX6_putsTogether_34 : decode cX6_putsTogether 34 = .ok (.iload_n 1, 1) := by decide +kernel
theorem dX6_putsTogether_35 : decode cX6_putsTogether 35 = .ok (.iaload, 1) := by decide +kernel
theorem dX6_putsTogether_36 : decode cX6_putsTogether 36 = .ok (.istore_n 3, 1) := by decide +kernel
theorem dX6_putsTogether_37 : decode cX6_putsTogether 37 = .ok (.aload_n 0, 1) := by decide +kernel
theorem dX6_putsTogether_38 : decode cX6_putsTogether 38 = .ok (.getfield 94, 3) := by decide +kernel
theorem dX6_putsTogether_41 : decode cX6_putsTogether 41 = .ok (.istore 4, 2) := by decide +kernel
theorem dX6_putsTogether_43 : decode cX6_putsTogether 43 = .ok (.iload 4, 2) := by decide +kernel
theorem dX6_putsTogether_45 : decode cX6_putsTogether 45 = .ok (.aload_n 0, 1) := by decide +kernel
theorem dX6_putsTogether_46 : decode cX6_putsTogether 46 = .ok (.getfield 94, 3) := by decide +kernel
theorem dX6_putsTogether_49 : decode cX6_putsTogether 49 = .ok (.aload_n 0, 1) := by decide +kernel
theorem dX6_putsTogether_50 : decode cX6_putsTogether 50 = .ok (.getfield 97, 3) := by decide +kernel
theorem dX6_putsTogether_53 : decode cX6_putsTogether 53 = .ok (.iadd, 1) := by decide +kernel
theorem dX6_putsTogether_54 : decode cX6_putsTogether 54 = .ok (.if_icmp .ge 73, 3) := by decide +kernel
theorem dX6_putsTogether_57 : decode cX6_putsTogether 57 = .ok (.aload_n 0, 1) := by decide +kernel
theorem dX6_putsTogether_58 : decode cX6_putsTogether 58 = .ok (.iload 4, 2) := by decide +kernel
theorem dX6_putsTogether_60 : decode cX6_putsTogether 60 = .ok (.iload_n 2, 1) := by decide +kernel
theorem dX6_putsTogether_61 : decode cX6_putsTogether 61 = .ok (.invokevirtual 103, 3) := by decide +kernel
theorem dX6_putsTogether_64 : decode cX6_putsTogether 64 = .ok (.istore 5, 2) := by decide +kernel
theorem dX6_putsTogether_66 : decode cX6_putsTogether 66 = .ok (.iload 4, 2) := by decide +kernel
theorem dX6_putsTogether_68 : decode cX6_putsTogether 68 = .ok (.aload_n 0, 1) := by decide +kernel
theorem dX6_putsTogether_69 : decode cX6_putsTogether 69 = .ok (.getfield 94, 3) := by decide +kernel
theorem dX6_putsTogether_72 : decode cX6_putsTogether 72 = .ok (.if_icmp .eq 25, 3) := by decide +kernel
theorem dX6_putsTogether_75 : decode cX6_putsTogether 75 = .ok (.iload 5, 2) := by decide +kernel
theorem dX6_putsTogether_77 : decode cX6_putsTogether 77 = .ok (.iconst (-1), 1) := by decide +kernel
theorem dX6_putsTogether_78 : decode cX6_putsTogether 78 = .ok (.if_icmp .eq 28, 3) := by decide +kernel
theorem dX6_putsTogether_81 : decode cX6_putsTogether 81 = .ok (.aload_n 0, 1) := by decide +kernel
theorem dX6_putsTogether_82 : decode cX6_putsTogether 82 = .ok (.getfield 46, 3) := by decide +kernel
theorem dX6_putsTogether_85 : decode cX6_putsTogether 85 = .ok (.aload_n 0, 1) := by decide +kernel
theorem dX6_putsTogether_86 : decode cX6_putsTogether 86 = .ok (.getfield 107, 3) := by decide +kernel
theorem dX6_putsTogether_89 : decode cX6_putsTogether 89 = .ok (.iconst 1, 1) := by decide +kernel
theorem dX6_putsTogether_90 : decode cX6_putsTogether 90 = .ok (.isub, 1) := by decide +kernel
theorem dX6_putsTogether_91 : decode cX6_putsTogether 91 = .ok (.iaload, 1) := by decide +kernel
theorem dX6_putsTogether_92 : decode cX6_putsTogether 92 = .ok (.iload 5, 2) := by decide +kernel
theorem dX6_putsTogether_94 : decode cX6_putsTogether 94 = .ok (.if_icmp .eq 12, 3) := by decide +kernel
theorem dX6_putsTogether_97 : decode cX6_putsTogether 97 = .ok (.aload_n 0, 1) := by decide +kernel
theorem dX6_putsTogether_98 : decode cX6_putsTogether 98 = .ok (.iload 4, 2) := by decide +kernel
theorem dX6_putsTogether_100 : decode cX6_putsTogether 100 = .ok (.iload 5, 2) := by decide +kernel
theorem dX6_putsTogether_102 : decode cX6_putsTogether 102 = .ok (.iload_n 3, 1) := by decide +kernel
theorem dX6_putsTogether_103 : decode cX6_putsTogether 103 = .ok (.invokevirtual 114, 3) := by decide +kernel
theorem dX6_putsTogether_106 : decode cX6_putsTogether 106 = .ok (.aload_n 0, 1) := by decide +kernel
theorem dX6_putsTogether_107 : decode cX6_putsTogether 107 = .ok (.getfield 43, 3) := by decide +kernel
theorem dX6_putsTogether_110 : decode cX6_putsTogether 110 = .ok (.aload_n 0, 1) := by decide +kernel
theorem dX6_putsTogether_111 : decode cX6_putsTogether 111 = .ok (.getfield 107, 3) := by decide +kernel
theorem dX6_putsTogether_114 : decode cX6_putsTogether 114 = .ok (.iconst 1, 1) := by decide +kernel
theorem dX6_putsTogether_115 : decode cX6_putsTogether 115 = .ok (.isub, 1) := by decide +kernel
theorem dX6_putsTogether_116 : decode cX6_putsTogether 116 = .ok (.dup2, 1) := by decide +kernel
theorem dX6_putsTogether_117 : decode cX6_putsTogether 117 = .ok (.iaload, 1) := by decide +kernel
theorem dX6_putsTogether_118 : decode cX6_putsTogether 118 = .ok (.iconst 1, 1) := by decide +kernel
theorem dX6_putsTogether_119 : decode cX6_putsTogether 119 = .ok (.iadd, 1) := by decide +kernel
theorem dX6_putsTogether_120 : decode cX6_putsTogether 120 = .ok (.iastore, 1) := by decide +kernel
theorem dX6_putsTogether_121 : decode cX6_putsTogether 121 = .ok (.iinc 4 1, 3) := by decide +kernel
theorem dX6_putsTogether_124 : decode cX6_putsTogether 124 = .ok (.goto (-81), 3) := by decide +kernel
theorem dX6_putsTogether_127 : decode cX6_putsTogether 127 = .ok (.return_, 1) := by decide +kernel
theorem dX6_end_0 : decode cX6_end 0 = .ok (.aload_n 0, 1) := by decide +kernel
theorem dX6_end_1 : decode cX6_end 1 = .ok (.getfield 97, 3) := by decide +kernel
theorem dX6_end_4 : decode cX6_end 4 = .ok (.aload_n 0, 1) := by decide +kernel
theorem dX6_end_5 : decode cX6_end 5 = .ok (.getfield 91, 3) := by decide +kernel
theorem dX6_end_8 : decode cX6_end 8 = .ok (.ifCond .le 7, 3) := by decide +kernel
theorem dX6_end_11 : decode cX6_end 11 = .ok (.iconst 1, 1) := by decide +kernel
theorem dX6_end_12 : decode cX6_end 12 = .ok (.goto 4, 3) := by decide +kernel
theorem dX6_end_15 : decode cX6_end 15 = .ok (.iconst 0, 1) := by decide +kernel
theorem dX6_end_16 : decode cX6_end 16 = .ok (.iadd, 1) := by decide +kernel
theorem dX6_end_17 : decode cX6_end 17 = .ok (.istore_n 1, 1) := by decide +kernel
theorem dX6_end_18 : decode cX6_end 18 = .ok (.aload_n 0, 1) := by decide +kernel
theorem dX6_end_19 : decode cX6_end 19 = .ok (.iload_n 1, 1) := by decide +kernel
theorem dX6_end_20 : decode cX6_end 20 = .ok (.ifCond .eq 23, 3) := by decide +kernel
theorem dX6_end_23 : decode cX6_end 23 = .ok (.aload_n 0, 1) := by decide +kernel
theorem dX6_end_24 : decode cX6_end 24 = .ok (.getfield 78, 3) := by decide +kernel
theorem dX6_end_27 : decode cX6_end 27 = .ok (.bipush 15, 2) := by decide +kernel
theorem dX6_end_29 : decode cX6_end 29 = .ok (.if_icmp .eq 14, 3) := by decide +kernel
theorem dX6_end_32 : decode cX6_end 32 = .ok (.aload_n 0, 1) := by decide +kernel
theorem dX6_end_33 : decode cX6_end 33 = .ok (.getfield 94, 3) := by decide +kernel
theorem dX6_end_36 : decode cX6_end 36 = .ok (.iload_n 1, 1) := by decide +kernel
theorem dX6_end_37 : decode cX6_end 37 = .ok (.iadd, 1) := by decide +kernel
theorem dX6_end_38 : decode cX6_end 38 = .ok (.bipush 120, 2) := by decide +kernel
theorem dX6_end_40 : decode cX6_end 40 = .ok (.if_icmp .le 7, 3) := by decide +kernel
theorem dX6_end_43 : decode cX6_end 43 = .ok (.iconst 1, 1) := by decide +kernel
theorem dX6_end_44 : decode cX6_end 44 = .ok (.goto 4, 3) := by decide +kernel
theorem dX6_end_47 : decode cX6_end 47 = .ok (.iconst 0, 1) := by decide +kernel
theorem dX6_end_48 : decode cX6_end 48 = .ok (.putfield 74, 3) := by decide +kernel
theorem dX6_end_51 : decode cX6_end 51 = .ok (.aload_n 0, 1) := by decide +kernel
theorem dX6_end_52 : decode cX6_end 52 = .ok (.getfield 74, 3) := by decide +kernel
theorem dX6_end_55 : decode cX6_end 55 = .ok (.ifCond .le 5, 3) := by decide +kernel
theorem dX6_end_58 : decode cX6_end 58 = .ok (.iconst 0, 1) := by decide +kernel
theorem dX6_end_59 : decode cX6_end 59 = .ok (.ireturn, 1) := by decide +kernel
theorem dX6_end_60 : decode cX6_end 60 = .ok (.aload_n 0, 1) := by decide +kernel
theorem dX6_end_61 : decode cX6_end 61 = .ok (.getfield 91, 3) := by decide +kernel
theorem dX6_end_64 : decode cX6_end 64 = .ok (.ifCond .le 7, 3) := by decide +kernel
theorem dX6_end_67 : decode cX6_end 67 = .ok (.aload_n 0, 1) := by decide +kernel
theorem dX6_end_68 : decode cX6_end 68 = .ok (.invokevirtual 100, 3) := by decide +kernel
theorem dX6_end_71 : decode cX6_end 71 = .ok (.aload_n 0, 1) := by decide +kernel
theorem dX6_end_72 : decode cX6_end 72 = .ok (.invokevirtual 118, 3) := by decide +kernel
theorem dX6_end_75 : decode cX6_end 75 = .ok (.aload_n 0, 1) := by decide +kernel
theorem dX6_end_76 : decode cX6_end 76 = .ok (.getfield 31, 3) := by decide +kernel
theorem dX6_end_79 : decode cX6_end 79 = .ok (.aload_n 0, 1) := by decide +kernel
theorem dX6_end_80 : decode cX6_end 80 = .ok (.getfield 78, 3) := by decide +kernel
theorem dX6_end_83 : decode cX6_end 83 = .ok (.aload_n 0, 1) := by decide +kernel
theorem dX6_end_84 : decode cX6_end 84 = .ok (.getfield 85, 3) := by decide +kernel
theorem dX6_end_87 : decode cX6_end 87 = .ok (.iastore, 1) := by decide +kernel
theorem dX6_end_88 : decode cX6_end 88 = .ok (.aload_n 0, 1) := by decide +kernel
theorem dX6_end_89 : decode cX6_end 89 = .ok (.getfield 34, 3) := by decide +kernel
theorem dX6_end_92 : decode cX6_end 92 = .ok (.aload_n 0, 1) := by decide +kernel
theorem dX6_end_93 : decode cX6_end 93 = .ok (.getfield 78, 3) := by decide +kernel
theorem dX6_end_96 : decode cX6_end 96 = .ok (.aload_n 0, 1) := by decide +kernel
theorem dX6_end_97 : decode cX6_end 97 = .ok (.getfield 94, 3) := by decide +kernel
theorem dX6_end_100 : decode cX6_end 100 = .ok (.iastore, 1) := by decide +kernel
theorem dX6_end_101 : decode cX6_end 101 = .ok (.aload_n 0, 1) := by decide +kernel
theorem dX6_end_102 : decode cX6_end 102 = .ok (.getfield 37, 3) := by decide +kernel
theorem dX6_end_105 : decode cX6_end 105 = .ok (.aload_n 0, 1) := by decide +kernel
theorem dX6_end_106 : decode cX6_end 106 = .ok (.getfield 78, 3) := by decide +kernel
theorem dX6_end_109 : decode cX6_end 109 = .ok (.aload_n 0, 1) := by decide +kernel
theorem dX6_end_110 : decode cX6_end 110 = .ok (.getfield 97, 3) := by decide +kernel
theorem dX6_end_113 : decode cX6_end 113 = .ok (.iastore, 1) := by decide +kernel
theorem dX6_end_114 : decode cX6_end 114 = .ok (.aload_n 0, 1) := by decide +kernel
theorem dX6_end_115 : decode cX6_end 115 = .ok (.dup, 1) := by decide +kernel
theorem dX6_end_116 : decode cX6_end 116 = .ok (.getfield 94, 3) := by decide +kernel
theorem dX6_end_119 : decode cX6_end 119 = .ok (.aload_n 0, 1) := by decide +kernel
theorem dX6_end_120 : decode cX6_end 120 = .ok (.getfield 97, 3) := by decide +kernel
theorem dX6_end_123 : decode cX6_end 123 = .ok (.iadd, 1) := by decide +kernel
theorem dX6_end_124 : decode cX6_end 124 = .ok (.putfield 94, 3) := by decide +kernel
theorem dX6_end_127 : decode cX6_end 127 = .ok (.aload_n 0, 1) := by decide +kernel
theorem dX6_end_128 : decode cX6_end 128 = .ok (.iconst 0, 1) := by decide +kernel
theorem dX6_end_129 : decode cX6_end 129 = .ok (.putfield 97, 3) := by decide +kernel
theorem dX6_end_132 : decode cX6_end 132 = .ok (.aload_n 0, 1) := by decide +kernel
theorem dX6_end_133 : decode cX6_end 133 = .ok (.dup, 1) := by decide +kernel
theorem dX6_end_134 : decode cX6_end 134 = .ok (.getfield 78, 3) := by decide +kernel
theorem dX6_end_137 : decode cX6_end 137 = .ok (.iconst 1, 1) := by decide +kernel
theorem dX6_end_138 : decode cX6_end 138 = .ok (.iadd, 1) := by decide +kernel
theorem dX6_end_139 : decode cX6_end 139 = .ok (.putfield 78, 3) := by decide +kernel
theorem dX6_end_142 : decode cX6_end 142 = .ok (.aload_n 0, 1) := by decide +kernel
theorem dX6_end_143 : decode cX6_end 143 = .ok (.getfield 78, 3) := by decide +kernel
theorem dX6_end_146 : decode cX6_end 146 = .ok (.iconst 1, 1) := by decide +kernel
theorem dX6_end_147 : decode cX6_end 147 = .ok (.isub, 1) := by decide +kernel
theorem dX6_end_148 : decode cX6_end 148 = .ok (.ireturn, 1) := by decide +kernel
theorem dX6_pages_0 : decode cX6_pages 0 = .ok (.aload_n 0, 1) := by decide +kernel
theorem dX6_pages_1 : decode cX6_pages 1 = .ok (.aload_n 0, 1) := by decide +kernel
theorem dX6_pages_2 : decode cX6_pages 2 = .ok (.iload_n 1, 1) := by decide +kernel
theorem dX6_pages_3 : decode cX6_pages 3 = .ok (.invokevirtual 121, 3) := by decide +kernel
theorem dX6_pages_6 : decode cX6_pages 6 = .ok (.ifCond .eq 7, 3) := by decide +kernel
theorem dX6_pages_9 : decode cX6_pages 9 = .ok (.iconst 0, 1) := by decide +kernel
theorem dX6_pages_10 : decode cX6_pages 10 = .ok (.goto 4, 3) := by decide +kernel
theorem dX6_pages_13 : decode cX6_pages 13 = .ok (.iconst 1, 1) := by decide +kernel
theorem dX6_pages_14 : decode cX6_pages 14 = .ok (.putfield 74, 3) := by decide +kernel
theorem dX6_pages_17 : decode cX6_pages 17 = .ok (.aload_n 0, 1) := by decide +kernel
theorem dX6_pages_18 : decode cX6_pages 18 = .ok (.getfield 74, 3) := by decide +kernel
theorem dX6_pages_21 : decode cX6_pages 21 = .ok (.ifCond .le 7, 3) := by decide +kernel
theorem dX6_pages_24 : decode cX6_pages 24 = .ok (.iconst 0, 1) := by decide +kernel
theorem dX6_pages_25 : decode cX6_pages 25 = .ok (.goto 9, 3) := by decide +kernel
theorem dX6_pages_28 : decode cX6_pages 28 = .ok (.aload_n 0, 1) := by decide +kernel
theorem dX6_pages_29 : decode cX6_pages 29 = .ok (.getfield 37, 3) := by decide +kernel
theorem dX6_pages_32 : decode cX6_pages 32 = .ok (.iload_n 1, 1) := by decide +kernel
theorem dX6_pages_33 : decode cX6_pages 33 = .ok (.iaload, 1) := by decide +kernel
theorem dX6_pages_34 : decode cX6_pages 34 = .ok (.ireturn, 1) := by decide +kernel
theorem dX6_areAlike_0 : decode cX6_areAlike 0 = .ok (.aload_n 0, 1) := by decide +kernel
theorem dX6_areAlike_1 : decode cX6_areAlike 1 = .ok (.getfield 31, 3) := by decide +kernel
theorem dX6_areAlike_4 : decode cX6_areAlike 4 = .ok (.iload_n 1, 1) := by decide +kernel
theorem dX6_areAlike_5 : decode cX6_areAlike 5 = .ok (.iaload, 1) := by decide +kernel
theorem dX6_areAlike_6 : decode cX6_areAlike 6 = .ok (.aload_n 0, 1) := by decide +kernel
theorem dX6_areAlike_7 : decode cX6_areAlike 7 = .ok (.getfield 31, 3) := by decide +kernel
theorem dX6_areAlike_10 : decode cX6_areAlike 10 = .ok (.iload_n 2, 1) := by decide +kernel
theorem dX6_areAlike_11 : decode cX6_areAlike 11 = .ok (.iaload, 1) := by decide +kernel
theorem dX6_areAlike_12 : decode cX6_areAlike 12 = .ok (.if_icmp .ne 22, 3) := by decide +kernel
theorem dX6_areAlike_15 : decode cX6_areAlike 15 = .ok (.aload_n 0, 1) := by decide +kernel
theorem dX6_areAlike_16 : decode cX6_areAlike 16 = .ok (.getfield 37, 3) := by decide +kernel
theorem dX6_areAlike_19 : decode cX6_areAlike 19 = .ok (.iload_n 1, 1) := by decide +kernel
theorem dX6_areAlike_20 : decode cX6_areAlike 20 = .ok (.iaload, 1) := by decide +kernel
theorem dX6_areAlike_21 : decode cX6_areAlike 21 = .ok (.aload_n 0, 1) := by decide +kernel
theorem dX6_areAlike_22 : decode cX6_areAlike 22 = .ok (.getfield 37, 3) := by decide +kernel
theorem dX6_areAlike_25 : decode cX6_areAlike 25 = .ok (.iload_n 2, 1) := by decide +kernel
theorem dX6_areAlike_26 : decode cX6_areAlike 26 = .ok (.iaload, 1) := by decide +kernel
theorem dX6_areAlike_27 : decode cX6_areAlike 27 = .ok (.if_icmp .ne 7, 3) := by decide +kernel
theorem dX6_areAlike_30 : decode cX6_areAlike 30 = .ok (.iconst 1, 1) := by decide +kernel
theorem dX6_areAlike_31 : decode cX6_areAlike 31 = .ok (.goto 4, 3) := by decide +kernel
theorem dX6_areAlike_34 : decode cX6_areAlike 34 = .ok (.iconst 0, 1) := by decide +kernel
theorem dX6_areAlike_35 : decode cX6_areAlike 35 = .ok (.istore_n 3, 1) := by decide +kernel
theorem dX6_areAlike_36 : decode cX6_areAlike 36 = .ok (.iconst 0, 1) := by decide +kernel
theorem dX6_areAlike_37 : decode cX6_areAlike 37 = .ok (.istore 4, 2) := by decide +kernel
theorem dX6_areAlike_39 : decode cX6_areAlike 39 = .ok (.iload 4, 2) := by decide +kernel
theorem dX6_areAlike_41 : decode cX6_areAlike 41 = .ok (.aload_n 0, 1) := by decide +kernel
theorem dX6_areAlike_42 : decode cX6_areAlike 42 = .ok (.getfield 37, 3) := by decide +kernel
theorem dX6_areAlike_45 : decode cX6_areAlike 45 = .ok (.iload_n 1, 1) := by decide +kernel
theorem dX6_areAlike_46 : decode cX6_areAlike 46 = .ok (.iaload, 1) := by decide +kernel
theorem dX6_areAlike_47 : decode cX6_areAlike 47 = .ok (.if_icmp .ge 108, 3) := by decide +kernel
theorem dX6_areAlike_50 : decode cX6_areAlike 50 = .ok (.iload_n 3, 1) := by decide +kernel
theorem dX6_areAlike_51 : decode cX6_areAlike 51 = .ok (.ifCond .eq 104, 3) := by decide +kernel
theorem dX6_areAlike_54 : decode cX6_areAlike 54 = .ok (.aload_n 0, 1) := by decide +kernel
theorem dX6_areAlike_55 : decode cX6_areAlike 55 = .ok (.getfield 34, 3) := by decide +kernel
theorem dX6_areAlike_58 : decode cX6_areAlike 58 = .ok (.iload_n 1, 1) := by decide +kernel
theorem dX6_areAlike_59 : decode cX6_areAlike 59 = .ok (.iaload, 1) := by decide +kernel
theorem dX6_areAlike_60 : decode cX6_areAlike 60 = .ok (.iload 4, 2) := by decide +kernel
theorem dX6_areAlike_62 : decode cX6_areAlike 62 = .ok (.iadd, 1) := by decide +kernel
theorem dX6_areAlike_63 : decode cX6_areAlike 63 = .ok (.istore 5, 2) := by decide +kernel
theorem dX6_areAlike_65 : decode cX6_areAlike 65 = .ok (.aload_n 0, 1) := by decide +kernel
theorem dX6_areAlike_66 : decode cX6_areAlike 66 = .ok (.getfield 34, 3) := by decide +kernel
theorem dX6_areAlike_69 : decode cX6_areAlike 69 = .ok (.iload_n 2, 1) := by decide +kernel
theorem dX6_areAlike_70 : decode cX6_areAlike 70 = .ok (.iaload, 1) := by decide +kernel
theorem dX6_areAlike_71 : decode cX6_areAlike 71 = .ok (.iload 4, 2) := by decide +kernel
theorem dX6_areAlike_73 : decode cX6_areAlike 73 = .ok (.iadd, 1) := by decide +kernel
theorem dX6_areAlike_74 : decode cX6_areAlike 74 = .ok (.istore 6, 2) := by decide +kernel
theorem dX6_areAlike_76 : decode cX6_areAlike 76 = .ok (.aload_n 0, 1) := by decide +kernel
theorem dX6_areAlike_77 : decode cX6_areAlike 77 = .ok (.getfield 19, 3) := by decide +kernel
theorem dX6_areAlike_80 : decode cX6_areAlike 80 = .ok (.iload 5, 2) := by decide +kernel
theorem dX6_areAlike_82 : decode cX6_areAlike 82 = .ok (.iaload, 1) := by decide +kernel
theorem dX6_areAlike_83 : decode cX6_areAlike 83 = .ok (.aload_n 0, 1) := by decide +kernel
theorem dX6_areAlike_84 : decode cX6_areAlike 84 = .ok (.getfield 19, 3) := by decide +kernel
theorem dX6_areAlike_87 : decode cX6_areAlike 87 = .ok (.iload 6, 2) := by decide +kernel
theorem dX6_areAlike_89 : decode cX6_areAlike 89 = .ok (.iaload, 1) := by decide +kernel
theorem dX6_areAlike_90 : decode cX6_areAlike 90 = .ok (.if_icmp .ne 7, 3) := by decide +kernel
theorem dX6_areAlike_93 : decode cX6_areAlike 93 = .ok (.iconst 1, 1) := by decide +kernel
theorem dX6_areAlike_94 : decode cX6_areAlike 94 = .ok (.goto 4, 3) := by decide +kernel
theorem dX6_areAlike_97 : decode cX6_areAlike 97 = .ok (.iconst 0, 1) := by decide +kernel
theorem dX6_areAlike_98 : decode cX6_areAlike 98 = .ok (.istore_n 3, 1) := by decide +kernel
theorem dX6_areAlike_99 : decode cX6_areAlike 99 = .ok (.iconst 0, 1) := by decide +kernel
theorem dX6_areAlike_100 : decode cX6_areAlike 100 = .ok (.istore 7, 2) := by decide +kernel
theorem dX6_areAlike_102 : decode cX6_areAlike 102 = .ok (.iload 7, 2) := by decide +kernel
theorem dX6_areAlike_104 : decode cX6_areAlike 104 = .ok (.aload_n 0, 1) := by decide +kernel
theorem dX6_areAlike_105 : decode cX6_areAlike 105 = .ok (.getfield 19, 3) := by decide +kernel
theorem dX6_areAlike_108 : decode cX6_areAlike 108 = .ok (.iload 5, 2) := by decide +kernel
theorem dX6_areAlike_110 : decode cX6_areAlike 110 = .ok (.iaload, 1) := by decide +kernel
theorem dX6_areAlike_111 : decode cX6_areAlike 111 = .ok (.if_icmp .ge 38, 3) := by decide +kernel
theorem dX6_areAlike_114 : decode cX6_areAlike 114 = .ok (.iload_n 3, 1) := by decide +kernel
theorem dX6_areAlike_115 : decode cX6_areAlike 115 = .ok (.ifCond .eq 34, 3) := by decide +kernel
theorem dX6_areAlike_118 : decode cX6_areAlike 118 = .ok (.aload_n 0, 1) := by decide +kernel
theorem dX6_areAlike_119 : decode cX6_areAlike 119 = .ok (.iload 5, 2) := by decide +kernel
theorem dX6_areAlike_121 : decode cX6_areAlike 121 = .ok (.iload 7, 2) := by decide +kernel
theorem dX6_areAlike_123 : decode cX6_areAlike 123 = .ok (.invokevirtual 103, 3) := by decide +kernel
theorem dX6_areAlike_126 : decode cX6_areAlike 126 = .ok (.aload_n 0, 1) := by decide +kernel
theorem dX6_areAlike_127 : decode cX6_areAlike 127 = .ok (.iload 6, 2) := by decide +kernel
theorem dX6_areAlike_129 : decode cX6_areAlike 129 = .ok (.iload 7, 2) := by decide +kernel
theorem dX6_areAlike_131 : decode cX6_areAlike 131 = .ok (.invokevirtual 103, 3) := by decide +kernel
theorem dX6_areAlike_134 : decode cX6_areAlike 134 = .ok (.if_icmp .ne 7, 3) := by decide +kernel
theorem dX6_areAlike_137 : decode cX6_areAlike 137 = .ok (.iconst 1, 1) := by decide +kernel
theorem dX6_areAlike_138 : decode cX6_areAlike 138 = .ok (.goto 4, 3) := by decide +kernel
theorem dX6_areAlike_141 : decode cX6_areAlike 141 = .ok (.iconst 0, 1) := by decide +kernel
theorem dX6_areAlike_142 : decode cX6_areAlike 142 = .ok (.istore_n 3, 1) := by decide +kernel
theorem dX6_areAlike_143 : decode cX6_areAlike 143 = .ok (.iinc 7 1, 3) := by decide +kernel
theorem dX6_areAlike_146 : decode cX6_areAlike 146 = .ok (.goto (-44), 3) := by decide +kernel
theorem dX6_areAlike_149 : decode cX6_areAlike 149 = .ok (.iinc 4 1, 3) := by decide +kernel
theorem dX6_areAlike_152 : decode cX6_areAlike 152 = .ok (.goto (-113), 3) := by decide +kernel
theorem dX6_areAlike_155 : decode cX6_areAlike 155 = .ok (.iload_n 3, 1) := by decide +kernel
theorem dX6_areAlike_156 : decode cX6_areAlike 156 = .ok (.ireturn, 1) := by decide +kernel
theorem dX6_twice_0 : decode cX6_twice 0 = .ok (.aload_n 0, 1) := by decide +kernel
theorem dX6_twice_1 : decode cX6_twice 1 = .ok (.aload_n 0, 1) := by decide +kernel
theorem dX6_twice_2 : decode cX6_twice 2 = .ok (.iload_n 1, 1) := by decide +kernel
theorem dX6_twice_3 : decode cX6_twice 3 = .ok (.invokevirtual 121, 3) := by decide +kernel
theorem dX6_twice_6 : decode cX6_twice 6 = .ok (.ifCond .eq 7, 3) := by decide +kernel
theorem dX6_twice_9 : decode cX6_twice 9 = .ok (.iconst 0, 1) := by decide +kernel
theorem dX6_twice_10 : decode cX6_twice 10 = .ok (.goto 4, 3) := by decide +kernel
theorem dX6_twice_13 : decode cX6_twice 13 = .ok (.iconst 1, 1) := by decide +kernel
theorem dX6_twice_14 : decode cX6_twice 14 = .ok (.putfield 74, 3) := by decide +kernel
theorem dX6_twice_17 : decode cX6_twice 17 = .ok (.iconst (-1), 1) := by decide +kernel
theorem dX6_twice_18 : decode cX6_twice 18 = .ok (.istore_n 2, 1) := by decide +kernel
theorem dX6_twice_19 : decode cX6_twice 19 = .ok (.iload_n 1, 1) := by decide +kernel
theorem dX6_twice_20 : decode cX6_twice 20 = .ok (.iconst 1, 1) := by decide +kernel
theorem dX6_twice_21 : decode cX6_twice 21 = .ok (.isub, 1) := by decide +kernel
theorem dX6_twice_22 : decode cX6_twice 22 = .ok (.istore_n 3, 1) := by decide +kernel
theorem dX6_twice_23 : decode cX6_twice 23 = .ok (.iload_n 3, 1) := by decide +kernel
theorem dX6_twice_24 : decode cX6_twice 24 = .ok (.ifCond .lt 31, 3) := by decide +kernel
theorem dX6_twice_27 : decode cX6_twice 27 = .ok (.aload_n 0, 1) := by decide +kernel
theorem dX6_twice_28 : decode cX6_twice 28 = .ok (.getfield 74, 3) := by decide +kernel
theorem dX6_twice_31 : decode cX6_twice 31 = .ok (.ifCond .ne 24, 3) := by decide +kernel
theorem dX6_twice_34 : decode cX6_twice 34 = .ok (.aload_n 0, 1) := by decide +kernel
theorem dX6_twice_35 : decode cX6_twice 35 = .ok (.iload_n 3, 1) := by decide +kernel
theorem dX6_twice_36 : decode cX6_twice 36 = .ok (.iload_n 1, 1) := by decide +kernel
theorem dX6_twice_37 : decode cX6_twice 37 = .ok (.invokevirtual 125, 3) := by decide +kernel
theorem dX6_twice_40 : decode cX6_twice 40 = .ok (.ifCond .eq 7, 3) := by decide +kernel
theorem dX6_twice_43 : decode cX6_twice 43 = .ok (.iload_n 3, 1) := by decide +kernel
theorem dX6_twice_44 : decode cX6_twice 44 = .ok (.goto 4, 3) := by decide +kernel
theorem dX6_twice_47 : decode cX6_twice 47 = .ok (.iload_n 2, 1) := by decide +kernel
theorem dX6_twice_48 : decode cX6_twice 48 = .ok (.istore_n 2, 1) := by decide +kernel
theorem dX6_twice_49 : decode cX6_twice 49 = .ok (.iinc 3 (-1), 3) := by decide +kernel
theorem dX6_twice_52 : decode cX6_twice 52 = .ok (.goto (-29), 3) := by decide +kernel
theorem dX6_twice_55 : decode cX6_twice 55 = .ok (.aload_n 0, 1) := by decide +kernel
theorem dX6_twice_56 : decode cX6_twice 56 = .ok (.getfield 74, 3) := by decide +kernel
theorem dX6_twice_59 : decode cX6_twice 59 = .ok (.ifCond .le 7, 3) := by decide +kernel
theorem dX6_twice_62 : decode cX6_twice 62 = .ok (.iconst 0, 1) := by decide +kernel
theorem dX6_twice_63 : decode cX6_twice 63 = .ok (.goto 4, 3) := by decide +kernel
theorem dX6_twice_66 : decode cX6_twice 66 = .ok (.iload_n 2, 1) := by decide +kernel
theorem dX6_twice_67 : decode cX6_twice 67 = .ok (.ireturn, 1) := by decide +kernel
theorem dX6_isPage_0 : decode cX6_isPage 0 = .ok (.aload_n 0, 1) := by decide +kernel
theorem dX6_isPage_1 : decode cX6_isPage 1 = .ok (.iload_n 1, 1) := by decide +kernel
theorem dX6_isPage_2 : decode cX6_isPage 2 = .ok (.invokevirtual 121, 3) := by decide +kernel
theorem dX6_isPage_5 : decode cX6_isPage 5 = .ok (.ifCond .eq 23, 3) := by decide +kernel
theorem dX6_isPage_8 : decode cX6_isPage 8 = .ok (.iload_n 2, 1) := by decide +kernel
theorem dX6_isPage_9 : decode cX6_isPage 9 = .ok (.iconst 0, 1) := by decide +kernel
theorem dX6_isPage_10 : decode cX6_isPage 10 = .ok (.aload_n 0, 1) := by decide +kernel
theorem dX6_isPage_11 : decode cX6_isPage 11 = .ok (.getfield 37, 3) := by decide +kernel
theorem dX6_isPage_14 : decode cX6_isPage 14 = .ok (.iload_n 1, 1) := by decide +kernel
theorem dX6_isPage_15 : decode cX6_isPage 15 = .ok (.iaload, 1) := by decide +kernel
theorem dX6_isPage_16 : decode cX6_isPage 16 = .ok (.iconst 1, 1) := by decide +kernel
theorem dX6_isPage_17 : decode cX6_isPage 17 = .ok (.isub, 1) := by decide +kernel
theorem dX6_isPage_18 : decode cX6_isPage 18 = .ok (.invokestatic 81, 3) := by decide +kernel
theorem dX6_isPage_21 : decode cX6_isPage 21 = .ok (.ifCond .eq 7, 3) := by decide +kernel
theorem dX6_isPage_24 : decode cX6_isPage 24 = .ok (.iconst 1, 1) := by decide +kernel
theorem dX6_isPage_25 : decode cX6_isPage 25 = .ok (.goto 4, 3) := by decide +kernel
theorem dX6_isPage_28 : decode cX6_isPage 28 = .ok (.iconst 0, 1) := by decide +kernel
theorem dX6_isPage_29 : decode cX6_isPage 29 = .ok (.ireturn, 1) := by decide +kernel
theorem dX6_reprint_0 : decode cX6_reprint 0 = .ok (.aload_n 0, 1) := by decide +kernel
theorem dX6_reprint_1 : decode cX6_reprint 1 = .ok (.aload_n 0, 1) := by decide +kernel
theorem dX6_reprint_2 : decode cX6_reprint 2 = .ok (.iload_n 1, 1) := by decide +kernel
theorem dX6_reprint_3 : decode cX6_reprint 3 = .ok (.iload_n 2, 1) := by decide +kernel
theorem dX6_reprint_4 : decode cX6_reprint 4 = .ok (.invokevirtual 129, 3) := by decide +kernel
theorem dX6_reprint_7 : decode cX6_reprint 7 = .ok (.ifCond .ne 7, 3) := by decide +kernel
theorem dX6_reprint_10 : decode cX6_reprint 10 = .ok (.iconst 1, 1) := by decide +kernel
theorem dX6_reprint_11 : decode cX6_reprint 11 = .ok (.goto 18, 3) := by decide +kernel
theorem dX6_reprint_14 : decode cX6_reprint 14 = .ok (.iload_n 3, 1) := by decide +kernel
theorem dX6_reprint_15 : decode cX6_reprint 15 = .ok (.iconst 1, 1) := by decide +kernel
theorem dX6_reprint_16 : decode cX6_reprint 16 = .ok (.bipush 9, 2) := by decide +kernel
theorem dX6_reprint_18 : decode cX6_reprint 18 = .ok (.invokestatic 81, 3) := by decide +kernel
theorem dX6_reprint_21 : decode cX6_reprint 21 = .ok (.ifCond .eq 7, 3) := by decide +kernel
theorem dX6_reprint_24 : decode cX6_reprint 24 = .ok (.iconst 0, 1) := by decide +kernel
theorem dX6_reprint_25 : decode cX6_reprint 25 = .ok (.goto 4, 3) := by decide +kernel
theorem dX6_reprint_28 : decode cX6_reprint 28 = .ok (.iconst 2, 1) := by decide +kernel
theorem dX6_reprint_29 : decode cX6_reprint 29 = .ok (.putfield 74, 3) := by decide +kernel
theorem dX6_reprint_32 : decode cX6_reprint 32 = .ok (.aload_n 0, 1) := by decide +kernel
theorem dX6_reprint_33 : decode cX6_reprint 33 = .ok (.getfield 74, 3) := by decide +kernel
theorem dX6_reprint_36 : decode cX6_reprint 36 = .ok (.ifCond .le 5, 3) := by decide +kernel
theorem dX6_reprint_39 : decode cX6_reprint 39 = .ok (.iconst 0, 1) := by decide +kernel
theorem dX6_reprint_40 : decode cX6_reprint 40 = .ok (.ireturn, 1) := by decide +kernel
theorem dX6_reprint_41 : decode cX6_reprint 41 = .ok (.iload_n 2, 1) := by decide +kernel
theorem dX6_reprint_42 : decode cX6_reprint 42 = .ok (.istore 4, 2) := by decide +kernel
theorem dX6_reprint_44 : decode cX6_reprint 44 = .ok (.iload 4, 2) := by decide +kernel
theorem dX6_reprint_46 : decode cX6_reprint 46 = .ok (.aload_n 0, 1) := by decide +kernel
theorem dX6_reprint_47 : decode cX6_reprint 47 = .ok (.getfield 37, 3) := by decide +kernel
theorem dX6_reprint_50 : decode cX6_reprint 50 = .ok (.iload_n 1, 1) := by decide +kernel
theorem dX6_reprint_51 : decode cX6_reprint 51 = .ok (.iaload, 1) := by decide +kernel
theorem dX6_reprint_52 : decode cX6_reprint 52 = .ok (.if_icmp .ge 27, 3) := by decide +kernel
theorem dX6_reprint_55 : decode cX6_reprint 55 = .ok (.aload_n 0, 1) := by decide +kernel
theorem dX6_reprint_56 : decode cX6_reprint 56 = .ok (.getfield 28, 3) := by decide +kernel
theorem dX6_reprint_59 : decode cX6_reprint 59 = .ok (.aload_n 0, 1) := by decide +kernel
theorem dX6_reprint_60 : decode cX6_reprint 60 = .ok (.getfield 34, 3) := by decide +kernel
theorem dX6_reprint_63 : decode cX6_reprint 63 = .ok (.iload_n 1, 1) := by decide +kernel
theorem dX6_reprint_64 : decode cX6_reprint 64 = .ok (.iaload, 1) := by decide +kernel
theorem dX6_reprint_65 : decode cX6_reprint 65 = .ok (.iload 4, 2) := by decide +kernel
theorem dX6_reprint_67 : decode cX6_reprint 67 = .ok (.iadd, 1) := by decide +kernel
theorem dX6_reprint_68 : decode cX6_reprint 68 = .ok (.dup2, 1) := by decide +kernel
theorem dX6_reprint_69 : decode cX6_reprint 69 = .ok (.iaload, 1) := by decide +kernel
theorem dX6_reprint_70 : decode cX6_reprint 70 = .ok (.iload_n 3, 1) := by decide +kernel
theorem dX6_reprint_71 : decode cX6_reprint 71 = .ok (.iadd, 1) := by decide +kernel
theorem dX6_reprint_72 : decode cX6_reprint 72 = .ok (.iastore, 1) := by decide +kernel
theorem dX6_reprint_73 : decode cX6_reprint 73 = .ok (.iinc 4 1, 3) := by decide +kernel
theorem dX6_reprint_76 : decode cX6_reprint 76 = .ok (.goto (-32), 3) := by decide +kernel
theorem dX6_reprint_79 : decode cX6_reprint 79 = .ok (.iload_n 3, 1) := by decide +kernel
theorem dX6_reprint_80 : decode cX6_reprint 80 = .ok (.aload_n 0, 1) := by decide +kernel
theorem dX6_reprint_81 : decode cX6_reprint 81 = .ok (.getfield 37, 3) := by decide +kernel
theorem dX6_reprint_84 : decode cX6_reprint 84 = .ok (.iload_n 1, 1) := by decide +kernel
theorem dX6_reprint_85 : decode cX6_reprint 85 = .ok (.iaload, 1) := by decide +kernel
theorem dX6_reprint_86 : decode cX6_reprint 86 = .ok (.iload_n 2, 1) := by decide +kernel
theorem dX6_reprint_87 : decode cX6_reprint 87 = .ok (.isub, 1) := by decide +kernel
theorem dX6_reprint_88 : decode cX6_reprint 88 = .ok (.imul, 1) := by decide +kernel
theorem dX6_reprint_89 : decode cX6_reprint 89 = .ok (.ireturn, 1) := by decide +kernel
theorem dX6_copies_0 : decode cX6_copies 0 = .ok (.aload_n 0, 1) := by decide +kernel
theorem dX6_copies_1 : decode cX6_copies 1 = .ok (.aload_n 0, 1) := by decide +kernel
theorem dX6_copies_2 : decode cX6_copies 2 = .ok (.iload_n 1, 1) := by decide +kernel
theorem dX6_copies_3 : decode cX6_copies 3 = .ok (.iload_n 2, 1) := by decide +kernel
theorem dX6_copies_4 : decode cX6_copies 4 = .ok (.invokevirtual 129, 3) := by decide +kernel
theorem dX6_copies_7 : decode cX6_copies 7 = .ok (.ifCond .eq 7, 3) := by decide +kernel
theorem dX6_copies_10 : decode cX6_copies 10 = .ok (.iconst 0, 1) := by decide +kernel
theorem dX6_copies_11 : decode cX6_copies 11 = .ok (.goto 4, 3) := by decide +kernel
theorem dX6_copies_14 : decode cX6_copies 14 = .ok (.iconst 1, 1) := by decide +kernel
theorem dX6_copies_15 : decode cX6_copies 15 = .ok (.putfield 74, 3) := by decide +kernel
theorem dX6_copies_18 : decode cX6_copies 18 = .ok (.aload_n 0, 1) := by decide +kernel
theorem dX6_copies_19 : decode cX6_copies 19 = .ok (.getfield 74, 3) := by decide +kernel
theorem dX6_copies_22 : decode cX6_copies 22 = .ok (.ifCond .le 7, 3) := by decide +kernel
theorem dX6_copies_25 : decode cX6_copies 25 = .ok (.iconst 0, 1) := by decide +kernel
theorem dX6_copies_26 : decode cX6_copies 26 = .ok (.goto 16, 3) := by decide +kernel
theorem dX6_copies_29 : decode cX6_copies 29 = .ok (.aload_n 0, 1) := by decide +kernel
theorem dX6_copies_30 : decode cX6_copies 30 = .ok (.getfield 28, 3) := by decide +kernel
theorem dX6_copies_33 : decode cX6_copies 33 = .ok (.aload_n 0, 1) := by decide +kernel
theorem dX6_copies_34 : decode cX6_copies 34 = .ok (.getfield 34, 3) := by decide +kernel
theorem dX6_copies_37 : decode cX6_copies 37 = .ok (.iload_n 1, 1) := by decide +kernel
theorem dX6_copies_38 : decode cX6_copies 38 = .ok (.iaload, 1) := by decide +kernel
theorem dX6_copies_39 : decode cX6_copies 39 = .ok (.iload_n 2, 1) := by decide +kernel
theorem dX6_copies_40 : decode cX6_copies 40 = .ok (.iadd, 1) := by decide +kernel
theorem dX6_copies_41 : decode cX6_copies 41 = .ok (.iaload, 1) := by decide +kernel
theorem dX6_copies_42 : decode cX6_copies 42 = .ok (.ireturn, 1) := by decide +kernel
theorem dX6_documents_0 : decode cX6_documents 0 = .ok (.aload_n 0, 1) := by decide +kernel
theorem dX6_documents_1 : decode cX6_documents 1 = .ok (.iconst 0, 1) := by decide +kernel
theorem dX6_documents_2 : decode cX6_documents 2 = .ok (.putfield 74, 3) := by decide +kernel
theorem dX6_documents_5 : decode cX6_documents 5 = .ok (.aload_n 0, 1) := by decide +kernel
theorem dX6_documents_6 : decode cX6_documents 6 = .ok (.getfield 107, 3) := by decide +kernel
theorem dX6_documents_9 : decode cX6_documents 9 = .ok (.ireturn, 1) := by decide +kernel
theorem dX6_asks_0 : decode cX6_asks 0 = .ok (.aload_n 0, 1) := by decide +kernel
theorem dX6_asks_1 : decode cX6_asks 1 = .ok (.iload_n 1, 1) := by decide +kernel
theorem dX6_asks_2 : decode cX6_asks 2 = .ok (.iconst 0, 1) := by decide +kernel
theorem dX6_asks_3 : decode cX6_asks 3 = .ok (.aload_n 0, 1) := by decide +kernel
theorem dX6_asks_4 : decode cX6_asks 4 = .ok (.getfield 107, 3) := by decide +kernel
theorem dX6_asks_7 : decode cX6_asks 7 = .ok (.iconst 1, 1) := by decide +kernel
theorem dX6_asks_8 : decode cX6_asks 8 = .ok (.isub, 1) := by decide +kernel
theorem dX6_asks_9 : decode cX6_asks 9 = .ok (.invokestatic 81, 3) := by decide +kernel
theorem dX6_asks_12 : decode cX6_asks 12 = .ok (.ifCond .eq 7, 3) := by decide +kernel
theorem dX6_asks_15 : decode cX6_asks 15 = .ok (.iconst 0, 1) := by decide +kernel
theorem dX6_asks_16 : decode cX6_asks 16 = .ok (.goto 4, 3) := by decide +kernel
theorem dX6_asks_19 : decode cX6_asks 19 = .ok (.iconst 1, 1) := by decide +kernel
theorem dX6_asks_20 : decode cX6_asks 20 = .ok (.putfield 74, 3) := by decide +kernel
theorem dX6_asks_23 : decode cX6_asks 23 = .ok (.aload_n 0, 1) := by decide +kernel
theorem dX6_asks_24 : decode cX6_asks 24 = .ok (.getfield 74, 3) := by decide +kernel
theorem dX6_asks_27 : decode cX6_asks 27 = .ok (.ifCond .ne 7, 3) := by decide +kernel
theorem dX6_asks_30 : decode cX6_asks 30 = .ok (.iconst 1, 1) := by decide +kernel
theorem dX6_asks_31 : decode cX6_asks 31 = .ok (.goto 4, 3) := by decide +kernel
theorem dX6_asks_34 : decode cX6_asks 34 = .ok (.iconst 0, 1) := by decide +kernel
theorem dX6_asks_35 : decode cX6_asks 35 = .ok (.ireturn, 1) := by decide +kernel
theorem dX6_isThere_0 : decode cX6_isThere 0 = .ok (.aload_n 0, 1) := by decide +kernel
theorem dX6_isThere_1 : decode cX6_isThere 1 = .ok (.iload_n 1, 1) := by decide +kernel
theorem dX6_isThere_2 : decode cX6_isThere 2 = .ok (.invokevirtual 132, 3) := by decide +kernel
theorem dX6_isThere_5 : decode cX6_isThere 5 = .ok (.ifCond .eq 16, 3) := by decide +kernel
theorem dX6_isThere_8 : decode cX6_isThere 8 = .ok (.aload_n 0, 1) := by decide +kernel
theorem dX6_isThere_9 : decode cX6_isThere 9 = .ok (.getfield 55, 3) := by decide +kernel
theorem dX6_isThere_12 : decode cX6_isThere 12 = .ok (.iload_n 1, 1) := by decide +kernel
theorem dX6_isThere_13 : decode cX6_isThere 13 = .ok (.baload, 1) := by decide +kernel
theorem dX6_isThere_14 : decode cX6_isThere 14 = .ok (.ifCond .ne 7, 3) := by decide +kernel
theorem dX6_isThere_17 : decode cX6_isThere 17 = .ok (.iconst 1, 1) := by decide +kernel
theorem dX6_isThere_18 : decode cX6_isThere 18 = .ok (.goto 4, 3) := by decide +kernel
theorem dX6_isThere_21 : decode cX6_isThere 21 = .ok (.iconst 0, 1) := by decide +kernel
theorem dX6_isThere_22 : decode cX6_isThere 22 = .ok (.ireturn, 1) := by decide +kernel
theorem dX6_account_0 : decode cX6_account 0 = .ok (.aload_n 0, 1) := by decide +kernel
theorem dX6_account_1 : decode cX6_account 1 = .ok (.iload_n 1, 1) := by decide +kernel
theorem dX6_account_2 : decode cX6_account 2 = .ok (.invokevirtual 132, 3) := by decide +kernel
theorem dX6_account_5 : decode cX6_account 5 = .ok (.ifCond .eq 12, 3) := by decide +kernel
theorem dX6_account_8 : decode cX6_account 8 = .ok (.aload_n 0, 1) := by decide +kernel
theorem dX6_account_9 : decode cX6_account 9 = .ok (.getfield 46, 3) := by decide +kernel
theorem dX6_account_12 : decode cX6_account 12 = .ok (.iload_n 1, 1) := by decide +kernel
theorem dX6_account_13 : decode cX6_account 13 = .ok (.iaload, 1) := by decide +kernel
theorem dX6_account_14 : decode cX6_account 14 = .ok (.goto 4, 3) := by decide +kernel
theorem dX6_account_17 : decode cX6_account 17 = .ok (.iconst 0, 1) := by decide +kernel
theorem dX6_account_18 : decode cX6_account 18 = .ok (.ireturn, 1) := by decide +kernel
theorem dX6_kind_0 : decode cX6_kind 0 = .ok (.aload_n 0, 1) := by decide +kernel
theorem dX6_kind_1 : decode cX6_kind 1 = .ok (.iload_n 1, 1) := by decide +kernel
theorem dX6_kind_2 : decode cX6_kind 2 = .ok (.invokevirtual 132, 3) := by decide +kernel
theorem dX6_kind_5 : decode cX6_kind 5 = .ok (.ifCond .eq 12, 3) := by decide +kernel
theorem dX6_kind_8 : decode cX6_kind 8 = .ok (.aload_n 0, 1) := by decide +kernel
theorem dX6_kind_9 : decode cX6_kind 9 = .ok (.getfield 49, 3) := by decide +kernel
theorem dX6_kind_12 : decode cX6_kind 12 = .ok (.iload_n 1, 1) := by decide +kernel
theorem dX6_kind_13 : decode cX6_kind 13 = .ok (.iaload, 1) := by decide +kernel
theorem dX6_kind_14 : decode cX6_kind 14 = .ok (.goto 4, 3) := by decide +kernel
theorem dX6_kind_17 : decode cX6_kind 17 = .ok (.iconst 0, 1) := by decide +kernel
theorem dX6_kind_18 : decode cX6_kind 18 = .ok (.ireturn, 1) := by decide +kernel
theorem dX6_length_0 : decode cX6_length 0 = .ok (.aload_n 0, 1) := by decide +kernel
theorem dX6_length_1 : decode cX6_length 1 = .ok (.iload_n 1, 1) := by decide +kernel
theorem dX6_length_2 : decode cX6_length 2 = .ok (.invokevirtual 132, 3) := by decide +kernel
theorem dX6_length_5 : decode cX6_length 5 = .ok (.ifCond .eq 12, 3) := by decide +kernel
theorem dX6_length_8 : decode cX6_length 8 = .ok (.aload_n 0, 1) := by decide +kernel
theorem dX6_length_9 : decode cX6_length 9 = .ok (.getfield 43, 3) := by decide +kernel
theorem dX6_length_12 : decode cX6_length 12 = .ok (.iload_n 1, 1) := by decide +kernel
theorem dX6_length_13 : decode cX6_length 13 = .ok (.iaload, 1) := by decide +kernel
theorem dX6_length_14 : decode cX6_length 14 = .ok (.goto 4, 3) := by decide +kernel
theorem dX6_length_17 : decode cX6_length 17 = .ok (.iconst 0, 1) := by decide +kernel
theorem dX6_length_18 : decode cX6_length 18 = .ok (.ireturn, 1) := by decide +kernel
theorem dX6_isReader_0 : decode cX6_isReader 0 = .ok (.iload_n 0, 1) := by decide +kernel
theorem dX6_isReader_1 : decode cX6_isReader 1 = .ok (.iconst 0, 1) := by decide +kernel
theorem dX6_isReader_2 : decode cX6_isReader 2 = .ok (.iconst 3, 1) := by decide +kernel
theorem dX6_isReader_3 : decode cX6_isReader 3 = .ok (.invokestatic 81, 3) := by decide +kernel
theorem dX6_isReader_6 : decode cX6_isReader 6 = .ok (.ireturn, 1) := by decide +kernel
theorem dX6_sees_0 : decode cX6_sees 0 = .ok (.aload_n 0, 1) := by decide +kernel
theorem dX6_sees_1 : decode cX6_sees 1 = .ok (.getfield 46, 3) := by decide +kernel
theorem dX6_sees_4 : decode cX6_sees 4 = .ok (.iload_n 2, 1) := by decide +kernel
theorem dX6_sees_5 : decode cX6_sees 5 = .ok (.iaload, 1) := by decide +kernel
theorem dX6_sees_6 : decode cX6_sees 6 = .ok (.iconst (-1), 1) := by decide +kernel
theorem dX6_sees_7 : decode cX6_sees 7 = .ok (.if_icmp .ne 15, 3) := by decide +kernel
theorem dX6_sees_10 : decode cX6_sees 10 = .ok (.iload_n 1, 1) := by decide +kernel
theorem dX6_sees_11 : decode cX6_sees 11 = .ok (.ifCond .ne 7, 3) := by decide +kernel
theorem dX6_sees_14 : decode cX6_sees 14 = .ok (.iconst 1, 1) := by decide +kernel
theorem dX6_sees_15 : decode cX6_sees 15 = .ok (.goto 28, 3) := by decide +kernel
theorem dX6_sees_18 : decode cX6_sees 18 = .ok (.iconst 0, 1) := by decide +kernel
theorem dX6_sees_19 : decode cX6_sees 19 = .ok (.goto 24, 3) := by decide +kernel
theorem dX6_sees_22 : decode cX6_sees 22 = .ok (.aload_n 0, 1) := by decide +kernel
theorem dX6_sees_23 : decode cX6_sees 23 = .ok (.getfield 46, 3) := by decide +kernel
theorem dX6_sees_26 : decode cX6_sees 26 = .ok (.iload_n 2, 1) := by decide +kernel
theorem dX6_sees_27 : decode cX6_sees 27 = .ok (.iaload, 1) := by decide +kernel
theorem dX6_sees_28 : decode cX6_sees 28 = .ok (.aload_n 0, 1) := by decide +kernel
theorem dX6_sees_29 : decode cX6_sees 29 = .ok (.getfield 59, 3) := by decide +kernel
theorem dX6_sees_32 : decode cX6_sees 32 = .ok (.iload_n 1, 1) := by decide +kernel
theorem dX6_sees_33 : decode cX6_sees 33 = .ok (.iaload, 1) := by decide +kernel
theorem dX6_sees_34 : decode cX6_sees 34 = .ok (.aload_n 0, 1) := by decide +kernel
theorem dX6_sees_35 : decode cX6_sees 35 = .ok (.getfield 62, 3) := by decide +kernel
theorem dX6_sees_38 : decode cX6_sees 38 = .ok (.iload_n 1, 1) := by decide +kernel
theorem dX6_sees_39 : decode cX6_sees 39 = .ok (.iaload, 1) := by decide +kernel
theorem dX6_sees_40 : decode cX6_sees 40 = .ok (.invokestatic 81, 3) := by decide +kernel
theorem dX6_sees_43 : decode cX6_sees 43 = .ok (.istore_n 3, 1) := by decide +kernel
theorem dX6_sees_44 : decode cX6_sees 44 = .ok (.iload_n 3, 1) := by decide +kernel
theorem dX6_sees_45 : decode cX6_sees 45 = .ok (.ifCond .eq 16, 3) := by decide +kernel
theorem dX6_sees_48 : decode cX6_sees 48 = .ok (.aload_n 0, 1) := by decide +kernel
theorem dX6_sees_49 : decode cX6_sees 49 = .ok (.getfield 55, 3) := by decide +kernel
theorem dX6_sees_52 : decode cX6_sees 52 = .ok (.iload_n 2, 1) := by decide +kernel
theorem dX6_sees_53 : decode cX6_sees 53 = .ok (.baload, 1) := by decide +kernel
theorem dX6_sees_54 : decode cX6_sees 54 = .ok (.ifCond .ne 7, 3) := by decide +kernel
theorem dX6_sees_57 : decode cX6_sees 57 = .ok (.iconst 1, 1) := by decide +kernel
theorem dX6_sees_58 : decode cX6_sees 58 = .ok (.goto 4, 3) := by decide +kernel
theorem dX6_sees_61 : decode cX6_sees 61 = .ok (.iconst 0, 1) := by decide +kernel
theorem dX6_sees_62 : decode cX6_sees 62 = .ok (.ireturn, 1) := by decide +kernel
theorem dX6_found_0 : decode cX6_found 0 = .ok (.iload_n 1, 1) := by decide +kernel
theorem dX6_found_1 : decode cX6_found 1 = .ok (.invokestatic 135, 3) := by decide +kernel
theorem dX6_found_4 : decode cX6_found 4 = .ok (.ifCond .eq 38, 3) := by decide +kernel
theorem dX6_found_7 : decode cX6_found 7 = .ok (.iload_n 2, 1) := by decide +kernel
theorem dX6_found_8 : decode cX6_found 8 = .ok (.iconst (-1), 1) := by decide +kernel
theorem dX6_found_9 : decode cX6_found 9 = .ok (.bipush 99, 2) := by decide +kernel
theorem dX6_found_11 : decode cX6_found 11 = .ok (.invokestatic 81, 3) := by decide +kernel
theorem dX6_found_14 : decode cX6_found 14 = .ok (.ifCond .eq 28, 3) := by decide +kernel
theorem dX6_found_17 : decode cX6_found 17 = .ok (.iload_n 3, 1) := by decide +kernel
theorem dX6_found_18 : decode cX6_found 18 = .ok (.iconst (-1), 1) := by decide +kernel
theorem dX6_found_19 : decode cX6_found 19 = .ok (.iconst 3, 1) := by decide +kernel
theorem dX6_found_20 : decode cX6_found 20 = .ok (.invokestatic 81, 3) := by decide +kernel
theorem dX6_found_23 : decode cX6_found 23 = .ok (.ifCond .eq 19, 3) := by decide +kernel
theorem dX6_found_26 : decode cX6_found 26 = .ok (.iload 4, 2) := by decide +kernel
theorem dX6_found_28 : decode cX6_found 28 = .ok (.iconst 0, 1) := by decide +kernel
theorem dX6_found_29 : decode cX6_found 29 = .ok (.sipush 9999, 3) := by decide +kernel
theorem dX6_found_32 : decode cX6_found 32 = .ok (.invokestatic 81, 3) := by decide +kernel
theorem dX6_found_35 : decode cX6_found 35 = .ok (.ifCond .eq 7, 3) := by decide +kernel
theorem dX6_found_38 : decode cX6_found 38 = .ok (.iconst 1, 1) := by decide +kernel
theorem dX6_found_39 : decode cX6_found 39 = .ok (.goto 4, 3) := by decide +kernel
theorem dX6_found_42 : decode cX6_found 42 = .ok (.iconst 0, 1) := by decide +kernel
theorem dX6_found_43 : decode cX6_found 43 = .ok (.istore 6, 2) := by decide +kernel
theorem dX6_found_45 : decode cX6_found 45 = .ok (.aload_n 0, 1) := by decide +kernel
theorem dX6_found_46 : decode cX6_found 46 = .ok (.iload 6, 2) := by decide +kernel
theorem dX6_found_48 : decode cX6_found 48 = .ok (.ifCond .eq 7, 3) := by decide +kernel
theorem dX6_found_51 : decode cX6_found 51 = .ok (.iconst 0, 1) := by decide +kernel
theorem dX6_found_52 : decode cX6_found 52 = .ok (.goto 4, 3) := by decide +kernel
theorem dX6_found_55 : decode cX6_found 55 = .ok (.iconst 1, 1) := by decide +kernel
theorem dX6_found_56 : decode cX6_found 56 = .ok (.putfield 74, 3) := by decide +kernel
theorem dX6_found_59 : decode cX6_found 59 = .ok (.aload_n 0, 1) := by decide +kernel
theorem dX6_found_60 : decode cX6_found 60 = .ok (.getfield 74, 3) := by decide +kernel
theorem dX6_found_63 : decode cX6_found 63 = .ok (.ifCond .le 5, 3) := by decide +kernel
theorem dX6_found_66 : decode cX6_found 66 = .ok (.iconst 0, 1) := by decide +kernel
theorem dX6_found_67 : decode cX6_found 67 = .ok (.ireturn, 1) := by decide +kernel
theorem dX6_found_68 : decode cX6_found 68 = .ok (.iconst 0, 1) := by decide +kernel
theorem dX6_found_69 : decode cX6_found 69 = .ok (.istore 7, 2) := by decide +kernel
theorem dX6_found_71 : decode cX6_found 71 = .ok (.iconst (-1), 1) := by decide +kernel
theorem dX6_found_72 : decode cX6_found 72 = .ok (.istore 8, 2) := by decide +kernel
theorem dX6_found_74 : decode cX6_found 74 = .ok (.iconst 0, 1) := by decide +kernel
theorem dX6_found_75 : decode cX6_found 75 = .ok (.istore 9, 2) := by decide +kernel
theorem dX6_found_77 : decode cX6_found 77 = .ok (.iload 9, 2) := by decide +kernel
theorem dX6_found_79 : decode cX6_found 79 = .ok (.aload_n 0, 1) := by decide +kernel
theorem dX6_found_80 : decode cX6_found 80 = .ok (.getfield 107, 3) := by decide +kernel
theorem dX6_found_83 : decode cX6_found 83 = .ok (.if_icmp .ge 106, 3) := by decide +kernel
theorem dX6_found_86 : decode cX6_found 86 = .ok (.aload_n 0, 1) := by decide +kernel
theorem dX6_found_87 : decode cX6_found 87 = .ok (.iload_n 1, 1) := by decide +kernel
theorem dX6_found_88 : decode cX6_found 88 = .ok (.iload 9, 2) := by decide +kernel
theorem dX6_found_90 : decode cX6_found 90 = .ok (.invokevirtual 138, 3) := by decide +kernel
theorem dX6_found_93 : decode cX6_found 93 = .ok (.ifCond .eq 51, 3) := by decide +kernel
theorem dX6_found_96 : decode cX6_found 96 = .ok (.iload_n 2, 1) := by decide +kernel
theorem dX6_found_97 : decode cX6_found 97 = .ok (.iconst (-1), 1) := by decide +kernel
theorem dX6_found_98 : decode cX6_found 98 = .ok (.if_icmp .eq 14, 3) := by decide +kernel
theorem dX6_found_101 : decode cX6_found 101 = .ok (.aload_n 0, 1) := by decide +kernel
theorem dX6_found_102 : decode cX6_found 102 = .ok (.getfield 46, 3) := by decide +kernel
theorem dX6_found_105 : decode cX6_found 105 = .ok (.iload 9, 2) := by decide +kernel
theorem dX6_found_107 : decode cX6_found 107 = .ok (.iaload, 1) := by decide +kernel
theorem dX6_found_108 : decode cX6_found 108 = .ok (.iload_n 2, 1) := by decide +kernel
theorem dX6_found_109 : decode cX6_found 109 = .ok (.if_icmp .ne 35, 3) := by decide +kernel
theorem dX6_found_112 : decode cX6_found 112 = .ok (.iload_n 3, 1) := by decide +kernel
theorem dX6_found_113 : decode cX6_found 113 = .ok (.iconst (-1), 1) := by decide +kernel
theorem dX6_found_114 : decode cX6_found 114 = .ok (.if_icmp .eq 14, 3) := by decide +kernel
theorem dX6_found_117 : decode cX6_found 117 = .ok (.aload_n 0, 1) := by decide +kernel
theorem dX6_found_118 : decode cX6_found 118 = .ok (.getfield 49, 3) := by decide +kernel
theorem dX6_found_121 : decode cX6_found 121 = .ok (.iload 9, 2) := by decide +kernel
theorem dX6_found_123 : decode cX6_found 123 = .ok (.iaload, 1) := by decide +kernel
theorem dX6_found_124 : decode cX6_found 124 = .ok (.iload_n 3, 1) := by decide +kernel
theorem dX6_found_125 : decode cX6_found 125 = .ok (.if_icmp .ne 19, 3) := by decide +kernel
theorem dX6_found_128 : decode cX6_found 128 = .ok (.aload_n 0, 1) := by decide +kernel
theorem dX6_found_129 : decode cX6_found 129 = .ok (.getfield 52, 3) := by decide +kernel
theorem dX6_found_132 : decode cX6_found 132 = .ok (.iload 9, 2) := by decide +kernel
theorem dX6_found_134 : decode cX6_found 134 = .ok (.iaload, 1) := by decide +kernel
theorem dX6_found_135 : decode cX6_found 135 = .ok (.iload 4, 2) := by decide +kernel
theorem dX6_found_137 : decode cX6_found 137 = .ok (.if_icmp .lt 7, 3) := by decide +kernel
theorem dX6_found_140 : decode cX6_found 140 = .ok (.iconst 1, 1) := by decide +kernel
theorem dX6_found_141 : decode cX6_found 141 = .ok (.goto 4, 3) := by decide +kernel
theorem dX6_found_144 : decode cX6_found 144 = .ok (.iconst 0, 1) := by decide +kernel
theorem dX6_found_145 : decode cX6_found 145 = .ok (.istore 10, 2) := by decide +kernel
theorem dX6_found_147 : decode cX6_found 147 = .ok (.iload 10, 2) := by decide +kernel
theorem dX6_found_149 : decode cX6_found 149 = .ok (.ifCond .eq 15, 3) := by decide +kernel
theorem dX6_found_152 : decode cX6_found 152 = .ok (.iload 7, 2) := by decide +kernel
theorem dX6_found_154 : decode cX6_found 154 = .ok (.iload 5, 2) := by decide +kernel
theorem dX6_found_156 : decode cX6_found 156 = .ok (.if_icmp .ne 8, 3) := by decide +kernel
theorem dX6_found_159 : decode cX6_found 159 = .ok (.iload 9, 2) := by decide +kernel
theorem dX6_found_161 : decode cX6_found 161 = .ok (.goto 5, 3) := by decide +kernel
theorem dX6_found_164 : decode cX6_found 164 = .ok (.iload 8, 2) := by decide +kernel
theorem dX6_found_166 : decode cX6_found 166 = .ok (.istore 8, 2) := by decide +kernel
theorem dX6_found_168 : decode cX6_found 168 = .ok (.iload 7, 2) := by decide +kernel
theorem dX6_found_170 : decode cX6_found 170 = .ok (.iload 10, 2) := by decide +kernel
theorem dX6_found_172 : decode cX6_found 172 = .ok (.ifCond .eq 7, 3) := by decide +kernel
theorem dX6_found_175 : decode cX6_found 175 = .ok (.iconst 1, 1) := by decide +kernel
theorem dX6_found_176 : decode cX6_found 176 = .ok (.goto 4, 3) := by decide +kernel
theorem dX6_found_179 : decode cX6_found 179 = .ok (.iconst 0, 1) := by decide +kernel
theorem dX6_found_180 : decode cX6_found 180 = .ok (.iadd, 1) := by decide +kernel
theorem dX6_found_181 : decode cX6_found 181 = .ok (.istore 7, 2) := by decide +kernel
theorem dX6_found_183 : decode cX6_found 183 = .ok (.iinc 9 1, 3) := by decide +kernel
theorem dX6_found_186 : decode cX6_found 186 = .ok (.goto (-109), 3) := by decide +kernel
theorem dX6_found_189 : decode cX6_found 189 = .ok (.aload_n 0, 1) := by decide +kernel
theorem dX6_found_190 : decode cX6_found 190 = .ok (.iload 8, 2) := by decide +kernel
theorem dX6_found_192 : decode cX6_found 192 = .ok (.iconst (-1), 1) := by decide +kernel
theorem dX6_found_193 : decode cX6_found 193 = .ok (.if_icmp .ne 7, 3) := by decide +kernel
theorem dX6_found_196 : decode cX6_found 196 = .ok (.iconst 2, 1) := by decide +kernel
theorem dX6_found_197 : decode cX6_found 197 = .ok (.goto 4, 3) := by decide +kernel
theorem dX6_found_200 : decode cX6_found 200 = .ok (.iconst 0, 1) := by decide +kernel
theorem dX6_found_201 : decode cX6_found 201 = .ok (.putfield 74, 3) := by decide +kernel
theorem dX6_found_204 : decode cX6_found 204 = .ok (.aload_n 0, 1) := by decide +kernel
theorem dX6_found_205 : decode cX6_found 205 = .ok (.getfield 74, 3) := by decide +kernel
theorem dX6_found_208 : decode cX6_found 208 = .ok (.ifCond .le 7, 3) := by decide +kernel
theorem dX6_found_211 : decode cX6_found 211 = .ok (.iconst 0, 1) := by decide +kernel
theorem dX6_found_212 : decode cX6_found 212 = .ok (.goto 5, 3) := by decide +kernel
theorem dX6_found_215 : decode cX6_found 215 = .ok (.iload 8, 2) := by decide +kernel
theorem dX6_found_217 : decode cX6_found 217 = .ok (.ireturn, 1) := by decide +kernel
theorem dX6_read_0 : decode cX6_read 0 = .ok (.aload_n 0, 1) := by decide +kernel
theorem dX6_read_1 : decode cX6_read 1 = .ok (.iload_n 1, 1) := by decide +kernel
theorem dX6_read_2 : decode cX6_read 2 = .ok (.invokestatic 135, 3) := by decide +kernel
theorem dX6_read_5 : decode cX6_read 5 = .ok (.ifCond .eq 7, 3) := by decide +kernel
theorem dX6_read_8 : decode cX6_read 8 = .ok (.iconst 0, 1) := by decide +kernel
theorem dX6_read_9 : decode cX6_read 9 = .ok (.goto 4, 3) := by decide +kernel
theorem dX6_read_12 : decode cX6_read 12 = .ok (.iconst 1, 1) := by decide +kernel
theorem dX6_read_13 : decode cX6_read 13 = .ok (.putfield 74, 3) := by decide +kernel
theorem dX6_read_16 : decode cX6_read 16 = .ok (.aload_n 0, 1) := by decide +kernel
theorem dX6_read_17 : decode cX6_read 17 = .ok (.getfield 74, 3) := by decide +kernel
theorem dX6_read_20 : decode cX6_read 20 = .ok (.ifCond .ne 78, 3) := by decide +kernel
theorem dX6_read_23 : decode cX6_read 23 = .ok (.iload_n 2, 1) := by decide +kernel
theorem dX6_read_24 : decode cX6_read 24 = .ok (.iconst 0, 1) := by decide +kernel
theorem dX6_read_25 : decode cX6_read 25 = .ok (.aload_n 0, 1) := by decide +kernel
theorem dX6_read_26 : decode cX6_read 26 = .ok (.getfield 107, 3) := by decide +kernel
theorem dX6_read_29 : decode cX6_read 29 = .ok (.iconst 1, 1) := by decide +kernel
theorem dX6_read_30 : decode cX6_read 30 = .ok (.isub, 1) := by decide +kernel
theorem dX6_read_31 : decode cX6_read 31 = .ok (.invokestatic 81, 3) := by decide +kernel
theorem dX6_read_34 : decode cX6_read 34 = .ok (.ifCond .eq 47, 3) := by decide +kernel
theorem dX6_read_37 : decode cX6_read 37 = .ok (.iload_n 3, 1) := by decide +kernel
theorem dX6_read_38 : decode cX6_read 38 = .ok (.iconst 0, 1) := by decide +kernel
theorem dX6_read_39 : decode cX6_read 39 = .ok (.aload_n 0, 1) := by decide +kernel
theorem dX6_read_40 : decode cX6_read 40 = .ok (.getfield 43, 3) := by decide +kernel
theorem dX6_read_43 : decode cX6_read 43 = .ok (.iload_n 2, 1) := by decide +kernel
theorem dX6_read_44 : decode cX6_read 44 = .ok (.iaload, 1) := by decide +kernel
theorem dX6_read_45 : decode cX6_read 45 = .ok (.iconst 1, 1) := by decide +kernel
theorem dX6_read_46 : decode cX6_read 46 = .ok (.isub, 1) := by decide +kernel
theorem dX6_read_47 : decode cX6_read 47 = .ok (.invokestatic 81, 3) := by decide +kernel
theorem dX6_read_50 : decode cX6_read 50 = .ok (.ifCond .eq 31, 3) := by decide +kernel
theorem dX6_read_53 : decode cX6_read 53 = .ok (.iload 4, 2) := by decide +kernel
theorem dX6_read_55 : decode cX6_read 55 = .ok (.iconst 0, 1) := by decide +kernel
theorem dX6_read_56 : decode cX6_read 56 = .ok (.aload_n 0, 1) := by decide +kernel
theorem dX6_read_57 : decode cX6_read 57 = .ok (.getfield 19, 3) := by decide +kernel
theorem dX6_read_60 : decode cX6_read 60 = .ok (.aload_n 0, 1) := by decide +kernel
theorem dX6_read_61 : decode cX6_read 61 = .ok (.getfield 40, 3) := by decide +kernel
theorem dX6_read_64 : decode cX6_read 64 = .ok (.iload_n 2, 1) := by decide +kernel
theorem dX6_read_65 : decode cX6_read 65 = .ok (.iaload, 1) := by decide +kernel
theorem dX6_read_66 : decode cX6_read 66 = .ok (.iload_n 3, 1) := by decide +kernel
theorem dX6_read_67 : decode cX6_read 67 = .ok (.iadd, 1) := by decide +kernel
theorem dX6_read_68 : decode cX6_read 68 = .ok (.iaload, 1) := by decide +kernel
theorem dX6_read_69 : decode cX6_read 69 = .ok (.iconst 1, 1) := by decide +kernel
theorem dX6_read_70 : decode cX6_read 70 = .ok (.isub, 1) := by decide +kernel
theorem dX6_read_71 : decode cX6_read 71 = .ok (.invokestatic 81, 3) := by decide +kernel
theorem dX6_read_74 : decode cX6_read 74 = .ok (.ifCond .eq 7, 3) := by decide +kernel
theorem dX6_read_77 : decode cX6_read 77 = .ok (.iconst 1, 1) := by decide +kernel
theorem dX6_read_78 : decode cX6_read 78 = .ok (.goto 4, 3) := by decide +kernel
theorem dX6_read_81 : decode cX6_read 81 = .ok (.iconst 0, 1) := by decide +kernel
theorem dX6_read_82 : decode cX6_read 82 = .ok (.istore 5, 2) := by decide +kernel
theorem dX6_read_84 : decode cX6_read 84 = .ok (.aload_n 0, 1) := by decide +kernel
theorem dX6_read_85 : decode cX6_read 85 = .ok (.iload 5, 2) := by decide +kernel
theorem dX6_read_87 : decode cX6_read 87 = .ok (.ifCond .eq 7, 3) := by decide +kernel
theorem dX6_read_90 : decode cX6_read 90 = .ok (.iconst 0, 1) := by decide +kernel
theorem dX6_read_91 : decode cX6_read 91 = .ok (.goto 4, 3) := by decide +kernel
theorem dX6_read_94 : decode cX6_read 94 = .ok (.iconst 2, 1) := by decide +kernel
theorem dX6_read_95 : decode cX6_read 95 = .ok (.putfield 74, 3) := by decide +kernel
theorem dX6_read_98 : decode cX6_read 98 = .ok (.aload_n 0, 1) := by decide +kernel
theorem dX6_read_99 : decode cX6_read 99 = .ok (.getfield 74, 3) := by decide +kernel
theorem dX6_read_102 : decode cX6_read 102 = .ok (.ifCond .ne 21, 3) := by decide +kernel
theorem dX6_read_105 : decode cX6_read 105 = .ok (.aload_n 0, 1) := by decide +kernel
theorem dX6_read_106 : decode cX6_read 106 = .ok (.aload_n 0, 1) := by decide +kernel
theorem dX6_read_107 : decode cX6_read 107 = .ok (.iload_n 1, 1) := by decide +kernel
theorem dX6_read_108 : decode cX6_read 108 = .ok (.iload_n 2, 1) := by decide +kernel
theorem dX6_read_109 : decode cX6_read 109 = .ok (.invokevirtual 138, 3) := by decide +kernel
theorem dX6_read_112 : decode cX6_read 112 = .ok (.ifCond .eq 7, 3) := by decide +kernel
theorem dX6_read_115 : decode cX6_read 115 = .ok (.iconst 0, 1) := by decide +kernel
theorem dX6_read_116 : decode cX6_read 116 = .ok (.goto 4, 3) := by decide +kernel
theorem dX6_read_119 : decode cX6_read 119 = .ok (.iconst 3, 1) := by decide +kernel
theorem dX6_read_120 : decode cX6_read 120 = .ok (.putfield 74, 3) := by decide +kernel
theorem dX6_read_123 : decode cX6_read 123 = .ok (.aload_n 0, 1) := by decide +kernel
theorem dX6_read_124 : decode cX6_read 124 = .ok (.getfield 74, 3) := by decide +kernel
theorem dX6_read_127 : decode cX6_read 127 = .ok (.ifCond .le 7, 3) := by decide +kernel
theorem dX6_read_130 : decode cX6_read 130 = .ok (.iconst 0, 1) := by decide +kernel
theorem dX6_read_131 : decode cX6_read 131 = .ok (.goto 32, 3) := by decide +kernel
theorem dX6_read_134 : decode cX6_read 134 = .ok (.aload_n 0, 1) := by decide +kernel
theorem dX6_read_135 : decode cX6_read 135 = .ok (.getfield 65, 3) := by decide +kernel
theorem dX6_read_138 : decode cX6_read 138 = .ok (.iload_n 1, 1) := by decide +kernel
theorem dX6_read_139 : decode cX6_read 139 = .ok (.iaload, 1) := by decide +kernel
theorem dX6_read_140 : decode cX6_read 140 = .ok (.iload 4, 2) := by decide +kernel
theorem dX6_read_142 : decode cX6_read 142 = .ok (.if_icmp .ne 7, 3) := by decide +kernel
theorem dX6_read_145 : decode cX6_read 145 = .ok (.iconst (-1), 1) := by decide +kernel
theorem dX6_read_146 : decode cX6_read 146 = .ok (.goto 17, 3) := by decide +kernel
theorem dX6_read_149 : decode cX6_read 149 = .ok (.aload_n 0, 1) := by decide +kernel
theorem dX6_read_150 : decode cX6_read 150 = .ok (.aload_n 0, 1) := by decide +kernel
theorem dX6_read_151 : decode cX6_read 151 = .ok (.getfield 40, 3) := by decide +kernel
theorem dX6_read_154 : decode cX6_read 154 = .ok (.iload_n 2, 1) := by decide +kernel
theorem dX6_read_155 : decode cX6_read 155 = .ok (.iaload, 1) := by decide +kernel
theorem dX6_read_156 : decode cX6_read 156 = .ok (.iload_n 3, 1) := by decide +kernel
theorem dX6_read_157 : decode cX6_read 157 = .ok (.iadd, 1) := by decide +kernel
theorem dX6_read_158 : decode cX6_read 158 = .ok (.iload 4, 2) := by decide +kernel
theorem dX6_read_160 : decode cX6_read 160 = .ok (.invokevirtual 103, 3) := by decide +kernel
theorem dX6_read_163 : decode cX6_read 163 = .ok (.ireturn, 1) := by decide +kernel
theorem dX6_view_0 : decode cX6_view 0 = .ok (.iload_n 1, 1) := by decide +kernel
theorem dX6_view_1 : decode cX6_view 1 = .ok (.invokestatic 135, 3) := by decide +kernel
theorem dX6_view_4 : decode cX6_view 4 = .ok (.ifCond .eq 38, 3) := by decide +kernel
theorem dX6_view_7 : decode cX6_view 7 = .ok (.iload_n 2, 1) := by decide +kernel
theorem dX6_view_8 : decode cX6_view 8 = .ok (.iconst 0, 1) := by decide +kernel
theorem dX6_view_9 : decode cX6_view 9 = .ok (.bipush 99, 2) := by decide +kernel
theorem dX6_view_11 : decode cX6_view 11 = .ok (.invokestatic 81, 3) := by decide +kernel
theorem dX6_view_14 : decode cX6_view 14 = .ok (.ifCond .eq 28, 3) := by decide +kernel
theorem dX6_view_17 : decode cX6_view 17 = .ok (.iload_n 3, 1) := by decide +kernel
theorem dX6_view_18 : decode cX6_view 18 = .ok (.iload_n 2, 1) := by decide +kernel
theorem dX6_view_19 : decode cX6_view 19 = .ok (.bipush 99, 2) := by decide +kernel
theorem dX6_view_21 : decode cX6_view 21 = .ok (.invokestatic 81, 3) := by decide +kernel
theorem dX6_view_24 : decode cX6_view 24 = .ok (.ifCond .eq 18, 3) := by decide +kernel
theorem dX6_view_27 : decode cX6_view 27 = .ok (.iload 4, 2) := by decide +kernel
theorem dX6_view_29 : decode cX6_view 29 = .ok (.iconst (-1), 1) := by decide +kernel
theorem dX6_view_30 : decode cX6_view 30 = .ok (.bipush 7, 2) := by decide +kernel
theorem dX6_view_32 : decode cX6_view 32 = .ok (.invokestatic 81, 3) := by decide +kernel
theorem dX6_view_35 : decode cX6_view 35 = .ok (.ifCond .eq 7, 3) := by decide +kernel
theorem dX6_view_38 : decode cX6_view 38 = .ok (.iconst 1, 1) := by decide +kernel
theorem dX6_view_39 : decode cX6_view 39 = .ok (.goto 4, 3) := by decide +kernel
theorem dX6_view_42 : decode cX6_view 42 = .ok (.iconst 0, 1) := by decide +kernel
theorem dX6_view_43 : decode cX6_view 43 = .ok (.istore 5, 2) := by decide +kernel
theorem dX6_view_45 : decode cX6_view 45 = .ok (.aload_n 0, 1) := by decide +kernel
theorem dX6_view_46 : decode cX6_view 46 = .ok (.iload 5, 2) := by decide +kernel
theorem dX6_view_48 : decode cX6_view 48 = .ok (.ifCond .eq 7, 3) := by decide +kernel
theorem dX6_view_51 : decode cX6_view 51 = .ok (.iconst 0, 1) := by decide +kernel
theorem dX6_view_52 : decode cX6_view 52 = .ok (.goto 4, 3) := by decide +kernel
theorem dX6_view_55 : decode cX6_view 55 = .ok (.iconst 1, 1) := by decide +kernel
theorem dX6_view_56 : decode cX6_view 56 = .ok (.putfield 74, 3) := by decide +kernel
theorem dX6_view_59 : decode cX6_view 59 = .ok (.aload_n 0, 1) := by decide +kernel
theorem dX6_view_60 : decode cX6_view 60 = .ok (.getfield 74, 3) := by decide +kernel
theorem dX6_view_63 : decode cX6_view 63 = .ok (.ifCond .ne 25, 3) := by decide +kernel
theorem dX6_view_66 : decode cX6_view 66 = .ok (.aload_n 0, 1) := by decide +kernel
theorem dX6_view_67 : decode cX6_view 67 = .ok (.getfield 59, 3) := by decide +kernel
theorem dX6_view_70 : decode cX6_view 70 = .ok (.iload_n 1, 1) := by decide +kernel
theorem dX6_view_71 : decode cX6_view 71 = .ok (.iload_n 2, 1) := by decide +kernel
theorem dX6_view_72 : decode cX6_view 72 = .ok (.iastore, 1) := by decide +kernel
theorem dX6_view_73 : decode cX6_view 73 = .ok (.aload_n 0, 1) := by decide +kernel
theorem dX6_view_74 : decode cX6_view 74 = .ok (.getfield 62, 3) := by decide +kernel
theorem dX6_view_77 : decode cX6_view 77 = .ok (.iload_n 1, 1) := by decide +kernel
theorem dX6_view_78 : decode cX6_view 78 = .ok (.iload_n 3, 1) := by decide +kernel
theorem dX6_view_79 : decode cX6_view 79 = .ok (.iastore, 1) := by decide +kernel
theorem dX6_view_80 : decode cX6_view 80 = .ok (.aload_n 0, 1) := by decide +kernel
theorem dX6_view_81 : decode cX6_view 81 = .ok (.getfield 65, 3) := by decide +kernel
theorem dX6_view_84 : decode cX6_view 84 = .ok (.iload_n 1, 1) := by decide +kernel
theorem dX6_view_85 : decode cX6_view 85 = .ok (.iload 4, 2) := by decide +kernel
theorem dX6_view_87 : decode cX6_view 87 = .ok (.iastore, 1) := by decide +kernel
theorem dX6_view_88 : decode cX6_view 88 = .ok (.return_, 1) := by decide +kernel
theorem dX6_span_0 : decode cX6_span 0 = .ok (.aload_n 0, 1) := by decide +kernel
theorem dX6_span_1 : decode cX6_span 1 = .ok (.iload_n 1, 1) := by decide +kernel
theorem dX6_span_2 : decode cX6_span 2 = .ok (.iconst 0, 1) := by decide +kernel
theorem dX6_span_3 : decode cX6_span 3 = .ok (.iconst 3, 1) := by decide +kernel
theorem dX6_span_4 : decode cX6_span 4 = .ok (.invokestatic 81, 3) := by decide +kernel
theorem dX6_span_7 : decode cX6_span 7 = .ok (.ifCond .eq 18, 3) := by decide +kernel
theorem dX6_span_10 : decode cX6_span 10 = .ok (.iload_n 2, 1) := by decide +kernel
theorem dX6_span_11 : decode cX6_span 11 = .ok (.iconst 0, 1) := by decide +kernel
theorem dX6_span_12 : decode cX6_span 12 = .ok (.sipush 9999, 3) := by decide +kernel
theorem dX6_span_15 : decode cX6_span 15 = .ok (.invokestatic 81, 3) := by decide +kernel
theorem dX6_span_18 : decode cX6_span 18 = .ok (.ifCond .eq 7, 3) := by decide +kernel
theorem dX6_span_21 : decode cX6_span 21 = .ok (.iconst 0, 1) := by decide +kernel
theorem dX6_span_22 : decode cX6_span 22 = .ok (.goto 4, 3) := by decide +kernel
theorem dX6_span_25 : decode cX6_span 25 = .ok (.iconst 1, 1) := by decide +kernel
theorem dX6_span_26 : decode cX6_span 26 = .ok (.putfield 74, 3) := by decide +kernel
theorem dX6_span_29 : decode cX6_span 29 = .ok (.aload_n 0, 1) := by decide +kernel
theorem dX6_span_30 : decode cX6_span 30 = .ok (.getfield 74, 3) := by decide +kernel
theorem dX6_span_33 : decode cX6_span 33 = .ok (.ifCond .le 5, 3) := by decide +kernel
theorem dX6_span_36 : decode cX6_span 36 = .ok (.iconst 0, 1) := by decide +kernel
theorem dX6_span_37 : decode cX6_span 37 = .ok (.ireturn, 1) := by decide +kernel
theorem dX6_span_38 : decode cX6_span 38 = .ok (.aload_n 0, 1) := by decide +kernel
theorem dX6_span_39 : decode cX6_span 39 = .ok (.getfield 68, 3) := by decide +kernel
theorem dX6_span_42 : decode cX6_span 42 = .ok (.iload_n 1, 1) := by decide +kernel
theorem dX6_span_43 : decode cX6_span 43 = .ok (.iaload, 1) := by decide +kernel
theorem dX6_span_44 : decode cX6_span 44 = .ok (.istore_n 3, 1) := by decide +kernel
theorem dX6_span_45 : decode cX6_span 45 = .ok (.aload_n 0, 1) := by decide +kernel
theorem dX6_span_46 : decode cX6_span 46 = .ok (.getfield 68, 3) := by decide +kernel
theorem dX6_span_49 : decode cX6_span 49 = .ok (.iload_n 1, 1) := by decide +kernel
theorem dX6_span_50 : decode cX6_span 50 = .ok (.iload_n 2, 1) := by decide +kernel
theorem dX6_span_51 : decode cX6_span 51 = .ok (.iastore, 1) := by decide +kernel
theorem dX6_span_52 : decode cX6_span 52 = .ok (.iload_n 3, 1) := by decide +kernel
theorem dX6_span_53 : decode cX6_span 53 = .ok (.ireturn, 1) := by decide +kernel
theorem dX6_hold_0 : decode cX6_hold 0 = .ok (.aload_n 0, 1) := by decide +kernel
theorem dX6_hold_1 : decode cX6_hold 1 = .ok (.iload_n 1, 1) := by decide +kernel
theorem dX6_hold_2 : decode cX6_hold 2 = .ok (.iconst 0, 1) := by decide +kernel
theorem dX6_hold_3 : decode cX6_hold 3 = .ok (.bipush 99, 2) := by decide +kernel
theorem dX6_hold_5 : decode cX6_hold 5 = .ok (.invokestatic 81, 3) := by decide +kernel
theorem dX6_hold_8 : decode cX6_hold 8 = .ok (.ifCond .eq 7, 3) := by decide +kernel
theorem dX6_hold_11 : decode cX6_hold 11 = .ok (.iconst 0, 1) := by decide +kernel
theorem dX6_hold_12 : decode cX6_hold 12 = .ok (.goto 4, 3) := by decide +kernel
theorem dX6_hold_15 : decode cX6_hold 15 = .ok (.iconst 1, 1) := by decide +kernel
theorem dX6_hold_16 : decode cX6_hold 16 = .ok (.putfield 74, 3) := by decide +kernel
theorem dX6_hold_19 : decode cX6_hold 19 = .ok (.aload_n 0, 1) := by decide +kernel
theorem dX6_hold_20 : decode cX6_hold 20 = .ok (.getfield 74, 3) := by decide +kernel
theorem dX6_hold_23 : decode cX6_hold 23 = .ok (.ifCond .le 5, 3) := by decide +kernel
theorem dX6_hold_26 : decode cX6_hold 26 = .ok (.iconst 0, 1) := by decide +kernel
theorem dX6_hold_27 : decode cX6_hold 27 = .ok (.ireturn, 1) := by decide +kernel
theorem dX6_hold_28 : decode cX6_hold 28 = .ok (.aload_n 0, 1) := by decide +kernel
theorem dX6_hold_29 : decode cX6_hold 29 = .ok (.getfield 71, 3) := by decide +kernel
theorem dX6_hold_32 : decode cX6_hold 32 = .ok (.iload_n 1, 1) := by decide +kernel
theorem dX6_hold_33 : decode cX6_hold 33 = .ok (.baload, 1) := by decide +kernel
theorem dX6_hold_34 : decode cX6_hold 34 = .ok (.istore_n 3, 1) := by decide +kernel
theorem dX6_hold_35 : decode cX6_hold 35 = .ok (.aload_n 0, 1) := by decide +kernel
theorem dX6_hold_36 : decode cX6_hold 36 = .ok (.getfield 71, 3) := by decide +kernel
theorem dX6_hold_39 : decode cX6_hold 39 = .ok (.iload_n 1, 1) := by decide +kernel
theorem dX6_hold_40 : decode cX6_hold 40 = .ok (.iload_n 2, 1) := by decide +kernel
theorem dX6_hold_41 : decode cX6_hold 41 = .ok (.bastore, 1) := by decide +kernel
theorem dX6_hold_42 : decode cX6_hold 42 = .ok (.iload_n 3, 1) := by decide +kernel
theorem dX6_hold_43 : decode cX6_hold 43 = .ok (.ireturn, 1) := by decide +kernel
theorem dX6_clear_0 : decode cX6_clear 0 = .ok (.aload_n 0, 1) := by decide +kernel
theorem dX6_clear_1 : decode cX6_clear 1 = .ok (.iconst 0, 1) := by decide +kernel
theorem dX6_clear_2 : decode cX6_clear 2 = .ok (.putfield 74, 3) := by decide +kernel
theorem dX6_clear_5 : decode cX6_clear 5 = .ok (.iconst 0, 1) := by decide +kernel
theorem dX6_clear_6 : decode cX6_clear 6 = .ok (.istore_n 1, 1) := by decide +kernel
theorem dX6_clear_7 : decode cX6_clear 7 = .ok (.iconst 0, 1) := by decide +kernel
theorem dX6_clear_8 : decode cX6_clear 8 = .ok (.istore_n 2, 1) := by decide +kernel
theorem dX6_clear_9 : decode cX6_clear 9 = .ok (.iload_n 2, 1) := by decide +kernel
theorem dX6_clear_10 : decode cX6_clear 10 = .ok (.aload_n 0, 1) := by decide +kernel
theorem dX6_clear_11 : decode cX6_clear 11 = .ok (.getfield 107, 3) := by decide +kernel
theorem dX6_clear_14 : decode cX6_clear 14 = .ok (.if_icmp .ge 87, 3) := by decide +kernel
theorem dX6_clear_17 : decode cX6_clear 17 = .ok (.aload_n 0, 1) := by decide +kernel
theorem dX6_clear_18 : decode cX6_clear 18 = .ok (.getfield 46, 3) := by decide +kernel
theorem dX6_clear_21 : decode cX6_clear 21 = .ok (.iload_n 2, 1) := by decide +kernel
theorem dX6_clear_22 : decode cX6_clear 22 = .ok (.iaload, 1) := by decide +kernel
theorem dX6_clear_23 : decode cX6_clear 23 = .ok (.iconst (-1), 1) := by decide +kernel
theorem dX6_clear_24 : decode cX6_clear 24 = .ok (.if_icmp .eq 21, 3) := by decide +kernel
theorem dX6_clear_27 : decode cX6_clear 27 = .ok (.aload_n 0, 1) := by decide +kernel
theorem dX6_clear_28 : decode cX6_clear 28 = .ok (.getfield 71, 3) := by decide +kernel
theorem dX6_clear_31 : decode cX6_clear 31 = .ok (.aload_n 0, 1) := by decide +kernel
theorem dX6_clear_32 : decode cX6_clear 32 = .ok (.getfield 46, 3) := by decide +kernel
theorem dX6_clear_35 : decode cX6_clear 35 = .ok (.iload_n 2, 1) := by decide +kernel
theorem dX6_clear_36 : decode cX6_clear 36 = .ok (.iaload, 1) := by decide +kernel
theorem dX6_clear_37 : decode cX6_clear 37 = .ok (.baload, 1) := by decide +kernel
theorem dX6_clear_38 : decode cX6_clear 38 = .ok (.ifCond .eq 7, 3) := by decide +kernel
theorem dX6_clear_41 : decode cX6_clear 41 = .ok (.iconst 1, 1) := by decide +kernel
theorem dX6_clear_42 : decode cX6_clear 42 = .ok (.goto 4, 3) := by decide +kernel
theorem dX6_clear_45 : decode cX6_clear 45 = .ok (.iconst 0, 1) := by decide +kernel
theorem dX6_clear_46 : decode cX6_clear 46 = .ok (.istore_n 3, 1) := by decide +kernel
theorem dX6_clear_47 : decode cX6_clear 47 = .ok (.aload_n 0, 1) := by decide +kernel
theorem dX6_clear_48 : decode cX6_clear 48 = .ok (.getfield 55, 3) := by decide +kernel
theorem dX6_clear_51 : decode cX6_clear 51 = .ok (.iload_n 2, 1) := by decide +kernel
theorem dX6_clear_52 : decode cX6_clear 52 = .ok (.baload, 1) := by decide +kernel
theorem dX6_clear_53 : decode cX6_clear 53 = .ok (.ifCond .ne 42, 3) := by decide +kernel
theorem dX6_clear_56 : decode cX6_clear 56 = .ok (.iload_n 3, 1) := by decide +kernel
theorem dX6_clear_57 : decode cX6_clear 57 = .ok (.ifCond .ne 38, 3) := by decide +kernel
theorem dX6_clear_60 : decode cX6_clear 60 = .ok (.aload_n 0, 1) := by decide +kernel
theorem dX6_clear_61 : decode cX6_clear 61 = .ok (.getfield 85, 3) := by decide +kernel
theorem dX6_clear_64 : decode cX6_clear 64 = .ok (.aload_n 0, 1) := by decide +kernel
theorem dX6_clear_65 : decode cX6_clear 65 = .ok (.getfield 52, 3) := by decide +kernel
theorem dX6_clear_68 : decode cX6_clear 68 = .ok (.iload_n 2, 1) := by decide +kernel
theorem dX6_clear_69 : decode cX6_clear 69 = .ok (.iaload, 1) := by decide +kernel
theorem dX6_clear_70 : decode cX6_clear 70 = .ok (.aload_n 0, 1) := by decide +kernel
theorem dX6_clear_71 : decode cX6_clear 71 = .ok (.getfield 68, 3) := by decide +kernel
theorem dX6_clear_74 : decode cX6_clear 74 = .ok (.aload_n 0, 1) := by decide +kernel
theorem dX6_clear_75 : decode cX6_clear 75 = .ok (.getfield 49, 3) := by decide +kernel
theorem dX6_clear_78 : decode cX6_clear 78 = .ok (.iload_n 2, 1) := by decide +kernel
theorem dX6_clear_79 : decode cX6_clear 79 = .ok (.iaload, 1) := by decide +kernel
theorem dX6_clear_80 : decode cX6_clear 80 = .ok (.iaload, 1) := by decide +kernel
theorem dX6_clear_81 : decode cX6_clear 81 = .ok (.iadd, 1) := by decide +kernel
theorem dX6_clear_82 : decode cX6_clear 82 = .ok (.if_icmp .le 13, 3) := by decide +kernel
theorem dX6_clear_85 : decode cX6_clear 85 = .ok (.aload_n 0, 1) := by decide +kernel
theorem dX6_clear_86 : decode cX6_clear 86 = .ok (.getfield 55, 3) := by decide +kernel
theorem dX6_clear_89 : decode cX6_clear 89 = .ok (.iload_n 2, 1) := by decide +kernel
theorem dX6_clear_90 : decode cX6_clear 90 = .ok (.iconst 1, 1) := by decide +kernel
theorem dX6_clear_91 : decode cX6_clear 91 = .ok (.bastore, 1) := by decide +kernel
theorem dX6_clear_92 : decode cX6_clear 92 = .ok (.iinc 1 1, 3) := by decide +kernel
theorem dX6_clear_95 : decode cX6_clear 95 = .ok (.iinc 2 1, 3) := by decide +kernel
theorem dX6_clear_98 : decode cX6_clear 98 = .ok (.goto (-89), 3) := by decide +kernel
theorem dX6_clear_101 : decode cX6_clear 101 = .ok (.iload_n 1, 1) := by decide +kernel
theorem dX6_clear_102 : decode cX6_clear 102 = .ok (.ireturn, 1) := by decide +kernel
theorem dX6_bundle_0 : decode cX6_bundle 0 = .ok (.aload_n 0, 1) := by decide +kernel
theorem dX6_bundle_1 : decode cX6_bundle 1 = .ok (.iload_n 1, 1) := by decide +kernel
theorem dX6_bundle_2 : decode cX6_bundle 2 = .ok (.invokestatic 135, 3) := by decide +kernel
theorem dX6_bundle_5 : decode cX6_bundle 5 = .ok (.ifCond .eq 17, 3) := by decide +kernel
theorem dX6_bundle_8 : decode cX6_bundle 8 = .ok (.iload_n 2, 1) := by decide +kernel
theorem dX6_bundle_9 : decode cX6_bundle 9 = .ok (.iconst 0, 1) := by decide +kernel
theorem dX6_bundle_10 : decode cX6_bundle 10 = .ok (.bipush 99, 2) := by decide +kernel
theorem dX6_bundle_12 : decode cX6_bundle 12 = .ok (.invokestatic 81, 3) := by decide +kernel
theorem dX6_bundle_15 : decode cX6_bundle 15 = .ok (.ifCond .eq 7, 3) := by decide +kernel
theorem dX6_bundle_18 : decode cX6_bundle 18 = .ok (.iconst 0, 1) := by decide +kernel
theorem dX6_bundle_19 : decode cX6_bundle 19 = .ok (.goto 4, 3) := by decide +kernel
theorem dX6_bundle_22 : decode cX6_bundle 22 = .ok (.iconst 1, 1) := by decide +kernel
theorem dX6_bundle_23 : decode cX6_bundle 23 = .ok (.putfield 74, 3) := by decide +kernel
theorem dX6_bundle_26 : decode cX6_bundle 26 = .ok (.iconst 0, 1) := by decide +kernel
theorem dX6_bundle_27 : decode cX6_bundle 27 = .ok (.istore_n 3, 1) := by decide +kernel
theorem dX6_bundle_28 : decode cX6_bundle 28 = .ok (.iconst 0, 1) := by decide +kernel
theorem dX6_bundle_29 : decode cX6_bundle 29 = .ok (.istore 4, 2) := by decide +kernel
theorem dX6_bundle_31 : decode cX6_bundle 31 = .ok (.iload 4, 2) := by decide +kernel
theorem dX6_bundle_33 : decode cX6_bundle 33 = .ok (.aload_n 0, 1) := by decide +kernel
theorem dX6_bundle_34 : decode cX6_bundle 34 = .ok (.getfield 107, 3) := by decide +kernel
theorem dX6_bundle_37 : decode cX6_bundle 37 = .ok (.if_icmp .ge 51, 3) := by decide +kernel
theorem dX6_bundle_40 : decode cX6_bundle 40 = .ok (.aload_n 0, 1) := by decide +kernel
theorem dX6_bundle_41 : decode cX6_bundle 41 = .ok (.getfield 74, 3) := by decide +kernel
theorem dX6_bundle_44 : decode cX6_bundle 44 = .ok (.ifCond .ne 44, 3) := by decide +kernel
theorem dX6_bundle_47 : decode cX6_bundle 47 = .ok (.iload_n 3, 1) := by decide +kernel
theorem dX6_bundle_48 : decode cX6_bundle 48 = .ok (.aload_n 0, 1) := by decide +kernel
theorem dX6_bundle_49 : decode cX6_bundle 49 = .ok (.iload_n 1, 1) := by decide +kernel
theorem dX6_bundle_50 : decode cX6_bundle 50 = .ok (.iload 4, 2) := by decide +kernel
theorem dX6_bundle_52 : decode cX6_bundle 52 = .ok (.invokevirtual 138, 3) := by decide +kernel
theorem dX6_bundle_55 : decode cX6_bundle 55 = .ok (.ifCond .eq 24, 3) := by decide +kernel
theorem dX6_bundle_58 : decode cX6_bundle 58 = .ok (.aload_n 0, 1) := by decide +kernel
theorem dX6_bundle_59 : decode cX6_bundle 59 = .ok (.getfield 46, 3) := by decide +kernel
theorem dX6_bundle_62 : decode cX6_bundle 62 = .ok (.iload 4, 2) := by decide +kernel
theorem dX6_bundle_64 : decode cX6_bundle 64 = .ok (.iaload, 1) := by decide +kernel
theorem dX6_bundle_65 : decode cX6_bundle 65 = .ok (.iload_n 2, 1) := by decide +kernel
theorem dX6_bundle_66 : decode cX6_bundle 66 = .ok (.if_icmp .ne 13, 3) := by decide +kernel
theorem dX6_bundle_69 : decode cX6_bundle 69 = .ok (.aload_n 0, 1) := by decide +kernel
theorem dX6_bundle_70 : decode cX6_bundle 70 = .ok (.getfield 43, 3) := by decide +kernel
theorem dX6_bundle_73 : decode cX6_bundle 73 = .ok (.iload 4, 2) := by decide +kernel
theorem dX6_bundle_75 : decode cX6_bundle 75 = .ok (.iaload, 1) := by decide +kernel
theorem dX6_bundle_76 : decode cX6_bundle 76 = .ok (.goto 4, 3) := by decide +kernel
theorem dX6_bundle_79 : decode cX6_bundle 79 = .ok (.iconst 0, 1) := by decide +kernel
theorem dX6_bundle_80 : decode cX6_bundle 80 = .ok (.iadd, 1) := by decide +kernel
theorem dX6_bundle_81 : decode cX6_bundle 81 = .ok (.istore_n 3, 1) := by decide +kernel
theorem dX6_bundle_82 : decode cX6_bundle 82 = .ok (.iinc 4 1, 3) := by decide +kernel
theorem dX6_bundle_85 : decode cX6_bundle 85 = .ok (.goto (-54), 3) := by decide +kernel
theorem dX6_bundle_88 : decode cX6_bundle 88 = .ok (.iload_n 3, 1) := by decide +kernel
theorem dX6_bundle_89 : decode cX6_bundle 89 = .ok (.ireturn, 1) := by decide +kernel
theorem dJ9_max_7cf53_0 : decode cJ9_max_7cf53 0 = .ok (.iload_n 0, 1) := by decide +kernel
theorem dJ9_max_7cf53_1 : decode cJ9_max_7cf53 1 = .ok (.iload_n 1, 1) := by decide +kernel
theorem dJ9_max_7cf53_2 : decode cJ9_max_7cf53 2 = .ok (.if_icmp .lt 7, 3) := by decide +kernel
theorem dJ9_max_7cf53_5 : decode cJ9_max_7cf53 5 = .ok (.iload_n 0, 1) := by decide +kernel
theorem dJ9_max_7cf53_6 : decode cJ9_max_7cf53 6 = .ok (.goto 4, 3) := by decide +kernel
theorem dJ9_max_7cf53_9 : decode cJ9_max_7cf53 9 = .ok (.iload_n 1, 1) := by decide +kernel
theorem dJ9_max_7cf53_10 : decode cJ9_max_7cf53 10 = .ok (.ireturn, 1) := by decide +kernel
theorem dJ9_min_7cf53_0 : decode cJ9_min_7cf53 0 = .ok (.iload_n 0, 1) := by decide +kernel
theorem dJ9_min_7cf53_1 : decode cJ9_min_7cf53 1 = .ok (.iload_n 1, 1) := by decide +kernel
theorem dJ9_min_7cf53_2 : decode cJ9_min_7cf53 2 = .ok (.if_icmp .gt 7, 3) := by decide +kernel
theorem dJ9_min_7cf53_5 : decode cJ9_min_7cf53 5 = .ok (.iload_n 0, 1) := by decide +kernel
theorem dJ9_min_7cf53_6 : decode cJ9_min_7cf53 6 = .ok (.goto 4, 3) := by decide +kernel
theorem dJ9_min_7cf53_9 : decode cJ9_min_7cf53 9 = .ok (.iload_n 1, 1) := by decide +kernel
theorem dJ9_min_7cf53_10 : decode cJ9_min_7cf53 10 = .ok (.ireturn, 1) := by decide +kernel
theorem dJxa1e45_init_da8c8_0 : decode cJxa1e45_init_da8c8 0 = .ok (.aload_n 0, 1) := by decide +kernel
theorem dJxa1e45_init_da8c8_1 : decode cJxa1e45_init_da8c8 1 = .ok (.invokespecial 1, 3) := by decide +kernel
theorem dJxa1e45_init_da8c8_4 : decode cJxa1e45_init_da8c8 4 = .ok (.return_, 1) := by decide +kernel
theorem dJxc12de_init_da8c8_0 : decode cJxc12de_init_da8c8 0 = .ok (.aload_n 0, 1) := by decide +kernel
theorem dJxc12de_init_da8c8_1 : decode cJxc12de_init_da8c8 1 = .ok (.invokespecial 1, 3) := by decide +kernel
theorem dJxc12de_init_da8c8_4 : decode cJxc12de_init_da8c8 4 = .ok (.aload_n 0, 1) := by decide +kernel
theorem dJxc12de_init_da8c8_5 : decode cJxc12de_init_da8c8 5 = .ok (.iconst 0, 1) := by decide +kernel
theorem dJxc12de_init_da8c8_6 : decode cJxc12de_init_da8c8 6 = .ok (.putfield 7, 3) := by decide +kernel
theorem dJxc12de_init_da8c8_9 : decode cJxc12de_init_da8c8 9 = .ok (.return_, 1) := by decide +kernel
theorem dJx4a65c_init_da8c8_0 : decode cJx4a65c_init_da8c8 0 = .ok (.aload_n 0, 1) := by decide +kernel
theorem dJx4a65c_init_da8c8_1 : decode cJx4a65c_init_da8c8 1 = .ok (.invokespecial 1, 3) := by decide +kernel
theorem dJx4a65c_init_da8c8_4 : decode cJx4a65c_init_da8c8 4 = .ok (.aload_n 0, 1) := by decide +kernel
theorem dJx4a65c_init_da8c8_5 : decode cJx4a65c_init_da8c8 5 = .ok (.getstatic 39, 3) := by decide +kernel
theorem dJx4a65c_init_da8c8_8 : decode cJx4a65c_init_da8c8 8 = .ok (.putfield 9, 3) := by decide +kernel
theorem dJx4a65c_init_da8c8_11 : decode cJx4a65c_init_da8c8 11 = .ok (.return_, 1) := by decide +kernel
theorem dJx4a65c_grow_92f84_0 : decode cJx4a65c_grow_92f84 0 = .ok (.aload_n 0, 1) := by decide +kernel
theorem dJx4a65c_grow_92f84_1 : decode cJx4a65c_grow_92f84 1 = .ok (.getfield 9, 3) := by decide +kernel
theorem dJx4a65c_grow_92f84_4 : decode cJx4a65c_grow_92f84 4 = .ok (.arraylength, 1) := by decide +kernel
theorem dJx4a65c_grow_92f84_5 : decode cJx4a65c_grow_92f84 5 = .ok (.istore_n 2, 1) := by decide +kernel
theorem dJx4a65c_grow_92f84_6 : decode cJx4a65c_grow_92f84 6 = .ok (.iload_n 2, 1) := by decide +kernel
theorem dJx4a65c_grow_92f84_7 : decode cJx4a65c_grow_92f84 7 = .ok (.ifCond .gt 13, 3) := by decide +kernel
theorem dJx4a65c_grow_92f84_10 : decode cJx4a65c_grow_92f84 10 = .ok (.aload_n 0, 1) := by decide +kernel
theorem dJx4a65c_grow_92f84_11 : decode cJx4a65c_grow_92f84 11 = .ok (.getfield 9, 3) := by decide +kernel
theorem dJx4a65c_grow_92f84_14 : decode cJx4a65c_grow_92f84 14 = .ok (.getstatic 39, 3) := by decide +kernel
theorem dJx4a65c_grow_92f84_17 : decode cJx4a65c_grow_92f84 17 = .ok (.if_acmp .eq 28, 3) := by decide +kernel
theorem dJx4a65c_grow_92f84_20 : decode cJx4a65c_grow_92f84 20 = .ok (.iload_n 2, 1) := by decide +kernel
theorem dJx4a65c_grow_92f84_21 : decode cJx4a65c_grow_92f84 21 = .ok (.iload_n 1, 1) := by decide +kernel
theorem dJx4a65c_grow_92f84_22 : decode cJx4a65c_grow_92f84 22 = .ok (.iload_n 2, 1) := by decide +kernel
theorem dJx4a65c_grow_92f84_23 : decode cJx4a65c_grow_92f84 23 = .ok (.isub, 1) := by decide +kernel
theorem dJx4a65c_grow_92f84_24 : decode cJx4a65c_grow_92f84 24 = .ok (.iload_n 2, 1) := by decide +kernel
theorem dJx4a65c_grow_92f84_25 : decode cJx4a65c_grow_92f84 25 = .ok (.iconst 1, 1) := by decide +kernel
theorem dJx4a65c_grow_92f84_26 : decode cJx4a65c_grow_92f84 26 = .ok (.ishr, 1) := by decide +kernel
theorem dJx4a65c_grow_92f84_27 : decode cJx4a65c_grow_92f84 27 = .ok (.invokestatic 73, 3) := by decide +kernel
theorem dJx4a65c_grow_92f84_30 : decode cJx4a65c_grow_92f84 30 = .ok (.istore_n 3, 1) := by decide +kernel
theorem dJx4a65c_grow_92f84_31 : decode cJx4a65c_grow_92f84 31 = .ok (.aload_n 0, 1) := by decide +kernel
theorem dJx4a65c_grow_92f84_32 : decode cJx4a65c_grow_92f84 32 = .ok (.aload_n 0, 1) := by decide +kernel
theorem dJx4a65c_grow_92f84_33 : decode cJx4a65c_grow_92f84 33 = .ok (.getfield 9, 3) := by decide +kernel
theorem dJx4a65c_grow_92f84_36 : decode cJx4a65c_grow_92f84 36 = .ok (.iload_n 3, 1) := by decide +kernel
theorem dJx4a65c_grow_92f84_37 : decode cJx4a65c_grow_92f84 37 = .ok (.invokestatic 66, 3) := by decide +kernel
theorem dJx4a65c_grow_92f84_40 : decode cJx4a65c_grow_92f84 40 = .ok (.dup_x1, 1) := by decide +kernel
theorem dJx4a65c_grow_92f84_41 : decode cJx4a65c_grow_92f84 41 = .ok (.putfield 9, 3) := by decide +kernel
theorem dJx4a65c_grow_92f84_44 : decode cJx4a65c_grow_92f84 44 = .ok (.areturn, 1) := by decide +kernel
theorem dJx4a65c_grow_92f84_45 : decode cJx4a65c_grow_92f84 45 = .ok (.aload_n 0, 1) := by decide +kernel
theorem dJx4a65c_grow_92f84_46 : decode cJx4a65c_grow_92f84 46 = .ok (.bipush 10, 2) := by decide +kernel
theorem dJx4a65c_grow_92f84_48 : decode cJx4a65c_grow_92f84 48 = .ok (.iload_n 1, 1) := by decide +kernel
theorem dJx4a65c_grow_92f84_49 : decode cJx4a65c_grow_92f84 49 = .ok (.invokestatic 79, 3) := by decide +kernel
theorem dJx4a65c_grow_92f84_52 : decode cJx4a65c_grow_92f84 52 = .ok (.anewarray 7, 3) := by decide +kernel
theorem dJx4a65c_grow_92f84_55 : decode cJx4a65c_grow_92f84 55 = .ok (.dup_x1, 1) := by decide +kernel
theorem dJx4a65c_grow_92f84_56 : decode cJx4a65c_grow_92f84 56 = .ok (.putfield 9, 3) := by decide +kernel
theorem dJx4a65c_grow_92f84_59 : decode cJx4a65c_grow_92f84 59 = .ok (.areturn, 1) := by decide +kernel
theorem dJx4a65c_grow_d5877_0 : decode cJx4a65c_grow_d5877 0 = .ok (.aload_n 0, 1) := by decide +kernel
theorem dJx4a65c_grow_d5877_1 : decode cJx4a65c_grow_d5877 1 = .ok (.aload_n 0, 1) := by decide +kernel
theorem dJx4a65c_grow_d5877_2 : decode cJx4a65c_grow_d5877 2 = .ok (.getfield 48, 3) := by decide +kernel
theorem dJx4a65c_grow_d5877_5 : decode cJx4a65c_grow_d5877 5 = .ok (.iconst 1, 1) := by decide +kernel
theorem dJx4a65c_grow_d5877_6 : decode cJx4a65c_grow_d5877 6 = .ok (.iadd, 1) := by decide +kernel
theorem dJx4a65c_grow_d5877_7 : decode cJx4a65c_grow_d5877 7 = .ok (.invokevirtual 69, 3) := by decide +kernel
theorem dJx4a65c_grow_d5877_10 : decode cJx4a65c_grow_d5877 10 = .ok (.areturn, 1) := by decide +kernel
theorem dJx4a65c_size_8abf5_0 : decode cJx4a65c_size_8abf5 0 = .ok (.aload_n 0, 1) := by decide +kernel
theorem dJx4a65c_size_8abf5_1 : decode cJx4a65c_size_8abf5 1 = .ok (.getfield 48, 3) := by decide +kernel
theorem dJx4a65c_size_8abf5_4 : decode cJx4a65c_size_8abf5 4 = .ok (.ireturn, 1) := by decide +kernel
theorem dJx4a65c_elementData_915e3_0 : decode cJx4a65c_elementData_915e3 0 = .ok (.aload_n 0, 1) := by decide +kernel
theorem dJx4a65c_elementData_915e3_1 : decode cJx4a65c_elementData_915e3 1 = .ok (.getfield 9, 3) := by decide +kernel
theorem dJx4a65c_elementData_915e3_4 : decode cJx4a65c_elementData_915e3 4 = .ok (.iload_n 1, 1) := by decide +kernel
theorem dJx4a65c_elementData_915e3_5 : decode cJx4a65c_elementData_915e3 5 = .ok (.aaload, 1) := by decide +kernel
theorem dJx4a65c_elementData_915e3_6 : decode cJx4a65c_elementData_915e3 6 = .ok (.areturn, 1) := by decide +kernel
theorem dJx4a65c_get_915e3_0 : decode cJx4a65c_get_915e3 0 = .ok (.iload_n 1, 1) := by decide +kernel
theorem dJx4a65c_get_915e3_1 : decode cJx4a65c_get_915e3 1 = .ok (.aload_n 0, 1) := by decide +kernel
theorem dJx4a65c_get_915e3_2 : decode cJx4a65c_get_915e3 2 = .ok (.getfield 48, 3) := by decide +kernel
theorem dJx4a65c_get_915e3_5 : decode cJx4a65c_get_915e3 5 = .ok (.invokestatic 118, 3) := by decide +kernel
theorem dJx4a65c_get_915e3_8 : decode cJx4a65c_get_915e3 8 = .ok (.pop, 1) := by decide +kernel
theorem dJx4a65c_get_915e3_9 : decode cJx4a65c_get_915e3 9 = .ok (.aload_n 0, 1) := by decide +kernel
theorem dJx4a65c_get_915e3_10 : decode cJx4a65c_get_915e3 10 = .ok (.iload_n 1, 1) := by decide +kernel
theorem dJx4a65c_get_915e3_11 : decode cJx4a65c_get_915e3 11 = .ok (.invokevirtual 123, 3) := by decide +kernel
theorem dJx4a65c_get_915e3_14 : decode cJx4a65c_get_915e3 14 = .ok (.areturn, 1) := by decide +kernel
theorem dJx4a65c_add_72be8_0 : decode cJx4a65c_add_72be8 0 = .ok (.iload_n 3, 1) := by decide +kernel
theorem dJx4a65c_add_72be8_1 : decode cJx4a65c_add_72be8 1 = .ok (.aload_n 2, 1) := by decide +kernel
theorem dJx4a65c_add_72be8_2 : decode cJx4a65c_add_72be8 2 = .ok (.arraylength, 1) := by decide +kernel
theorem dJx4a65c_add_72be8_3 : decode cJx4a65c_add_72be8 3 = .ok (.if_icmp .ne 8, 3) := by decide +kernel
theorem dJx4a65c_add_72be8_6 : decode cJx4a65c_add_72be8 6 = .ok (.aload_n 0, 1) := by decide +kernel
theorem dJx4a65c_add_72be8_7 : decode cJx4a65c_add_72be8 7 = .ok (.invokevirtual 129, 3) := by decide +kernel
theorem dJx4a65c_add_72be8_10 : decode cJx4a65c_add_72be8 10 = .ok (.astore_n 2, 1) := by decide +kernel
theorem dJx4a65c_add_72be8_11 : decode cJx4a65c_add_72be8 11 = .ok (.aload_n 2, 1) := by decide +kernel
theorem dJx4a65c_add_72be8_12 : decode cJx4a65c_add_72be8 12 = .ok (.iload_n 3, 1) := by decide +kernel
theorem dJx4a65c_add_72be8_13 : decode cJx4a65c_add_72be8 13 = .ok (.aload_n 1, 1) := by decide +kernel
theorem dJx4a65c_add_72be8_14 : decode cJx4a65c_add_72be8 14 = .ok (.aastore, 1) := by decide +kernel
theorem dJx4a65c_add_72be8_15 : decode cJx4a65c_add_72be8 15 = .ok (.aload_n 0, 1) := by decide +kernel
theorem dJx4a65c_add_72be8_16 : decode cJx4a65c_add_72be8 16 = .ok (.iload_n 3, 1) := by decide +kernel
theorem dJx4a65c_add_72be8_17 : decode cJx4a65c_add_72be8 17 = .ok (.iconst 1, 1) := by decide +kernel
theorem dJx4a65c_add_72be8_18 : decode cJx4a65c_add_72be8 18 = .ok (.iadd, 1) := by decide +kernel
theorem dJx4a65c_add_72be8_19 : decode cJx4a65c_add_72be8 19 = .ok (.putfield 48, 3) := by decide +kernel
theorem dJx4a65c_add_72be8_22 : decode cJx4a65c_add_72be8 22 = .ok (.return_, 1) := by decide +kernel
theorem dJx4a65c_add_9ea2d_0 : decode cJx4a65c_add_9ea2d 0 = .ok (.aload_n 0, 1) := by decide +kernel
theorem dJx4a65c_add_9ea2d_1 : decode cJx4a65c_add_9ea2d 1 = .ok (.dup, 1) := by decide +kernel
theorem dJx4a65c_add_9ea2d_2 : decode cJx4a65c_add_9ea2d 2 = .ok (.getfield 63, 3) := by decide +kernel
theorem dJx4a65c_add_9ea2d_5 : decode cJx4a65c_add_9ea2d 5 = .ok (.iconst 1, 1) := by decide +kernel
theorem dJx4a65c_add_9ea2d_6 : decode cJx4a65c_add_9ea2d 6 = .ok (.iadd, 1) := by decide +kernel
theorem dJx4a65c_add_9ea2d_7 : decode cJx4a65c_add_9ea2d 7 = .ok (.putfield 63, 3) := by decide +kernel
theorem dJx4a65c_add_9ea2d_10 : decode cJx4a65c_add_9ea2d 10 = .ok (.aload_n 0, 1) := by decide +kernel
theorem dJx4a65c_add_9ea2d_11 : decode cJx4a65c_add_9ea2d 11 = .ok (.aload_n 1, 1) := by decide +kernel
theorem dJx4a65c_add_9ea2d_12 : decode cJx4a65c_add_9ea2d 12 = .ok (.aload_n 0, 1) := by decide +kernel
theorem dJx4a65c_add_9ea2d_13 : decode cJx4a65c_add_9ea2d 13 = .ok (.getfield 9, 3) := by decide +kernel
theorem dJx4a65c_add_9ea2d_16 : decode cJx4a65c_add_9ea2d 16 = .ok (.aload_n 0, 1) := by decide +kernel
theorem dJx4a65c_add_9ea2d_17 : decode cJx4a65c_add_9ea2d 17 = .ok (.getfield 48, 3) := by decide +kernel
theorem dJx4a65c_add_9ea2d_20 : decode cJx4a65c_add_9ea2d 20 = .ok (.invokevirtual 131, 3) := by decide +kernel
theorem dJx4a65c_add_9ea2d_23 : decode cJx4a65c_add_9ea2d 23 = .ok (.iconst 1, 1) := by decide +kernel
theorem dJx4a65c_add_9ea2d_24 : decode cJx4a65c_add_9ea2d 24 = .ok (.ireturn, 1) := by decide +kernel
theorem dJ7_fill_53178_0 : decode cJ7_fill_53178 0 = .ok (.iconst 0, 1) := by decide +kernel
theorem dJ7_fill_53178_1 : decode cJ7_fill_53178 1 = .ok (.istore_n 2, 1) := by decide +kernel
theorem dJ7_fill_53178_2 : decode cJ7_fill_53178 2 = .ok (.aload_n 0, 1) := by decide +kernel
theorem dJ7_fill_53178_3 : decode cJ7_fill_53178 3 = .ok (.arraylength, 1) := by decide +kernel
theorem dJ7_fill_53178_4 : decode cJ7_fill_53178 4 = .ok (.istore_n 3, 1) := by decide +kernel
theorem dJ7_fill_53178_5 : decode cJ7_fill_53178 5 = .ok (.iload_n 2, 1) := by decide +kernel
theorem dJ7_fill_53178_6 : decode cJ7_fill_53178 6 = .ok (.iload_n 3, 1) := by decide +kernel
theorem dJ7_fill_53178_7 : decode cJ7_fill_53178 7 = .ok (.if_icmp .ge 13, 3) := by decide +kernel
theorem dJ7_fill_53178_10 : decode cJ7_fill_53178 10 = .ok (.aload_n 0, 1) := by decide +kernel
theorem dJ7_fill_53178_11 : decode cJ7_fill_53178 11 = .ok (.iload_n 2, 1) := by decide +kernel
theorem dJ7_fill_53178_12 : decode cJ7_fill_53178 12 = .ok (.iload_n 1, 1) := by decide +kernel
theorem dJ7_fill_53178_13 : decode cJ7_fill_53178 13 = .ok (.iastore, 1) := by decide +kernel
theorem dJ7_fill_53178_14 : decode cJ7_fill_53178 14 = .ok (.iinc 2 1, 3) := by decide +kernel
theorem dJ7_fill_53178_17 : decode cJ7_fill_53178 17 = .ok (.goto (-12), 3) := by decide +kernel
theorem dJ7_fill_53178_20 : decode cJ7_fill_53178 20 = .ok (.return_, 1) := by decide +kernel
theorem dJ7_copyOf_1904c_0 : decode cJ7_copyOf_1904c 0 = .ok (.aload_n 0, 1) := by decide +kernel
theorem dJ7_copyOf_1904c_1 : decode cJ7_copyOf_1904c 1 = .ok (.iload_n 1, 1) := by decide +kernel
theorem dJ7_copyOf_1904c_2 : decode cJ7_copyOf_1904c 2 = .ok (.aload_n 0, 1) := by decide +kernel
theorem dJ7_copyOf_1904c_3 : decode cJ7_copyOf_1904c 3 = .ok (.invokevirtual 86, 3) := by decide +kernel
theorem dJ7_copyOf_1904c_6 : decode cJ7_copyOf_1904c 6 = .ok (.invokestatic 300, 3) := by decide +kernel
theorem dJ7_copyOf_1904c_9 : decode cJ7_copyOf_1904c 9 = .ok (.areturn, 1) := by decide +kernel
theorem dJ7_copyOf_6403c_0 : decode cJ7_copyOf_6403c 0 = .ok (.aload_n 2, 1) := by decide +kernel
theorem dJ7_copyOf_6403c_1 : decode cJ7_copyOf_6403c 1 = .ok (.ldc 110, 2) := by decide +kernel
theorem dJ7_copyOf_6403c_3 : decode cJ7_copyOf_6403c 3 = .ok (.if_acmp .ne 10, 3) := by decide +kernel
theorem dJ7_copyOf_6403c_6 : decode cJ7_copyOf_6403c 6 = .ok (.iload_n 1, 1) := by decide +kernel
theorem dJ7_copyOf_6403c_7 : decode cJ7_copyOf_6403c 7 = .ok (.anewarray 2, 3) := by decide +kernel
theorem dJ7_copyOf_6403c_10 : decode cJ7_copyOf_6403c 10 = .ok (.goto 14, 3) := by decide +kernel
theorem dJ7_copyOf_6403c_13 : decode cJ7_copyOf_6403c 13 = .ok (.aload_n 2, 1) := by decide +kernel
theorem dJ7_copyOf_6403c_14 : decode cJ7_copyOf_6403c 14 = .ok (.invokevirtual 90, 3) := by decide +kernel
theorem dJ7_copyOf_6403c_17 : decode cJ7_copyOf_6403c 17 = .ok (.iload_n 1, 1) := by decide +kernel
theorem dJ7_copyOf_6403c_18 : decode cJ7_copyOf_6403c 18 = .ok (.invokestatic 95, 3) := by decide +kernel
theorem dJ7_copyOf_6403c_21 : decode cJ7_copyOf_6403c 21 = .ok (.checkcast 110, 3) := by decide +kernel
theorem dJ7_copyOf_6403c_24 : decode cJ7_copyOf_6403c 24 = .ok (.astore_n 3, 1) := by decide +kernel
theorem dJ7_copyOf_6403c_25 : decode cJ7_copyOf_6403c 25 = .ok (.aload_n 0, 1) := by decide +kernel
theorem dJ7_copyOf_6403c_26 : decode cJ7_copyOf_6403c 26 = .ok (.iconst 0, 1) := by decide +kernel
theorem dJ7_copyOf_6403c_27 : decode cJ7_copyOf_6403c 27 = .ok (.aload_n 3, 1) := by decide +kernel
theorem dJ7_copyOf_6403c_28 : decode cJ7_copyOf_6403c 28 = .ok (.iconst 0, 1) := by decide +kernel
theorem dJ7_copyOf_6403c_29 : decode cJ7_copyOf_6403c 29 = .ok (.aload_n 0, 1) := by decide +kernel
theorem dJ7_copyOf_6403c_30 : decode cJ7_copyOf_6403c 30 = .ok (.arraylength, 1) := by decide +kernel
theorem dJ7_copyOf_6403c_31 : decode cJ7_copyOf_6403c 31 = .ok (.iload_n 1, 1) := by decide +kernel
theorem dJ7_copyOf_6403c_32 : decode cJ7_copyOf_6403c 32 = .ok (.invokestatic 304, 3) := by decide +kernel
theorem dJ7_copyOf_6403c_35 : decode cJ7_copyOf_6403c 35 = .ok (.invokestatic 150, 3) := by decide +kernel
theorem dJ7_copyOf_6403c_38 : decode cJ7_copyOf_6403c 38 = .ok (.aload_n 3, 1) := by decide +kernel
theorem dJ7_copyOf_6403c_39 : decode cJ7_copyOf_6403c 39 = .ok (.areturn, 1) := by decide +kernel
theorem dJ15_checkIndex_7cf53_0 : decode cJ15_checkIndex_7cf53 0 = .ok (.iload_n 0, 1) := by decide +kernel
theorem dJ15_checkIndex_7cf53_1 : decode cJ15_checkIndex_7cf53 1 = .ok (.iload_n 1, 1) := by decide +kernel
theorem dJ15_checkIndex_7cf53_2 : decode cJ15_checkIndex_7cf53 2 = .ok (.aconst_null, 1) := by decide +kernel
theorem dJ15_checkIndex_7cf53_3 : decode cJ15_checkIndex_7cf53 3 = .ok (.invokestatic 105, 3) := by decide +kernel
theorem dJ15_checkIndex_7cf53_6 : decode cJ15_checkIndex_7cf53 6 = .ok (.ireturn, 1) := by decide +kernel
theorem dJ8_newLength_cabcc_0 : decode cJ8_newLength_cabcc 0 = .ok (.iload_n 0, 1) := by decide +kernel
theorem dJ8_newLength_cabcc_1 : decode cJ8_newLength_cabcc 1 = .ok (.iload_n 1, 1) := by decide +kernel
theorem dJ8_newLength_cabcc_2 : decode cJ8_newLength_cabcc 2 = .ok (.iload_n 2, 1) := by decide +kernel
theorem dJ8_newLength_cabcc_3 : decode cJ8_newLength_cabcc 3 = .ok (.invokestatic 194, 3) := by decide +kernel
theorem dJ8_newLength_cabcc_6 : decode cJ8_newLength_cabcc 6 = .ok (.iadd, 1) := by decide +kernel
theorem dJ8_newLength_cabcc_7 : decode cJ8_newLength_cabcc 7 = .ok (.istore_n 3, 1) := by decide +kernel
theorem dJ8_newLength_cabcc_8 : decode cJ8_newLength_cabcc 8 = .ok (.iconst 0, 1) := by decide +kernel
theorem dJ8_newLength_cabcc_9 : decode cJ8_newLength_cabcc 9 = .ok (.iload_n 3, 1) := by decide +kernel
theorem dJ8_newLength_cabcc_10 : decode cJ8_newLength_cabcc 10 = .ok (.if_icmp .ge 11, 3) := by decide +kernel
theorem dJ8_newLength_cabcc_13 : decode cJ8_newLength_cabcc 13 = .ok (.iload_n 3, 1) := by decide +kernel
theorem dJ8_newLength_cabcc_14 : decode cJ8_newLength_cabcc 14 = .ok (.ldc 200, 2) := by decide +kernel
theorem dJ8_newLength_cabcc_16 : decode cJ8_newLength_cabcc 16 = .ok (.if_icmp .gt 5, 3) := by decide +kernel
theorem dJ8_newLength_cabcc_19 : decode cJ8_newLength_cabcc 19 = .ok (.iload_n 3, 1) := by decide +kernel
theorem dJ8_newLength_cabcc_20 : decode cJ8_newLength_cabcc 20 = .ok (.ireturn, 1) := by decide +kernel
theorem dJ8_newLength_cabcc_21 : decode cJ8_newLength_cabcc 21 = .ok (.iload_n 0, 1) := by decide +kernel
theorem dJ8_newLength_cabcc_22 : decode cJ8_newLength_cabcc 22 = .ok (.iload_n 1, 1) := by decide +kernel
theorem dJ8_newLength_cabcc_23 : decode cJ8_newLength_cabcc 23 = .ok (.invokestatic 201, 3) := by decide +kernel
theorem dJ8_newLength_cabcc_26 : decode cJ8_newLength_cabcc 26 = .ok (.ireturn, 1) := by decide +kernel
theorem dJ8_hugeLength_7cf53_0 : decode cJ8_hugeLength_7cf53 0 = .ok (.iload_n 0, 1) := by decide +kernel
theorem dJ8_hugeLength_7cf53_1 : decode cJ8_hugeLength_7cf53 1 = .ok (.iload_n 1, 1) := by decide +kernel
theorem dJ8_hugeLength_7cf53_2 : decode cJ8_hugeLength_7cf53 2 = .ok (.iadd, 1) := by decide +kernel
theorem dJ8_hugeLength_7cf53_3 : decode cJ8_hugeLength_7cf53 3 = .ok (.istore_n 2, 1) := by decide +kernel
theorem dJ8_hugeLength_7cf53_4 : decode cJ8_hugeLength_7cf53 4 = .ok (.iload_n 2, 1) := by decide +kernel
theorem dJ8_hugeLength_7cf53_5 : decode cJ8_hugeLength_7cf53 5 = .ok (.ifCond .ge 44, 3) := by decide +kernel
theorem dJ8_hugeLength_7cf53_8 : decode cJ8_hugeLength_7cf53 8 = .ok (.new 204, 3) := by decide +kernel
theorem dJ8_hugeLength_7cf53_11 : decode cJ8_hugeLength_7cf53 11 = .ok (.dup, 1) := by decide +kernel
theorem dJ8_hugeLength_7cf53_12 : decode cJ8_hugeLength_7cf53 12 = .ok (.new 89, 3) := by decide +kernel
theorem dJ8_hugeLength_7cf53_15 : decode cJ8_hugeLength_7cf53 15 = .ok (.dup, 1) := by decide +kernel
theorem dJ8_hugeLength_7cf53_16 : decode cJ8_hugeLength_7cf53 16 = .ok (.invokespecial 91, 3) := by decide +kernel
theorem dJ8_hugeLength_7cf53_19 : decode cJ8_hugeLength_7cf53 19 = .ok (.ldc 206, 2) := by decide +kernel
theorem dJ8_hugeLength_7cf53_21 : decode cJ8_hugeLength_7cf53 21 = .ok (.invokevirtual 94, 3) := by decide +kernel
theorem dJ8_hugeLength_7cf53_24 : decode cJ8_hugeLength_7cf53 24 = .ok (.iload_n 0, 1) := by decide +kernel
theorem dJ8_hugeLength_7cf53_25 : decode cJ8_hugeLength_7cf53 25 = .ok (.invokevirtual 98, 3) := by decide +kernel
theorem dJ8_hugeLength_7cf53_28 : decode cJ8_hugeLength_7cf53 28 = .ok (.ldc 208, 2) := by decide +kernel
theorem dJ8_hugeLength_7cf53_30 : decode cJ8_hugeLength_7cf53 30 = .ok (.invokevirtual 94, 3) := by decide +kernel
theorem dJ8_hugeLength_7cf53_33 : decode cJ8_hugeLength_7cf53 33 = .ok (.iload_n 1, 1) := by decide +kernel
theorem dJ8_hugeLength_7cf53_34 : decode cJ8_hugeLength_7cf53 34 = .ok (.invokevirtual 98, 3) := by decide +kernel
theorem dJ8_hugeLength_7cf53_37 : decode cJ8_hugeLength_7cf53 37 = .ok (.ldc 210, 2) := by decide +kernel
theorem dJ8_hugeLength_7cf53_39 : decode cJ8_hugeLength_7cf53 39 = .ok (.invokevirtual 94, 3) := by decide +kernel
theorem dJ8_hugeLength_7cf53_42 : decode cJ8_hugeLength_7cf53 42 = .ok (.invokevirtual 101, 3) := by decide +kernel
theorem dJ8_hugeLength_7cf53_45 : decode cJ8_hugeLength_7cf53 45 = .ok (.invokespecial 212, 3) := by decide +kernel
theorem dJ8_hugeLength_7cf53_48 : decode cJ8_hugeLength_7cf53 48 = .ok (.athrow, 1) := by decide +kernel
theorem dJ8_hugeLength_7cf53_49 : decode cJ8_hugeLength_7cf53 49 = .ok (.iload_n 2, 1) := by decide +kernel
theorem dJ8_hugeLength_7cf53_50 : decode cJ8_hugeLength_7cf53 50 = .ok (.ldc 200, 2) := by decide +kernel
theorem dJ8_hugeLength_7cf53_52 : decode cJ8_hugeLength_7cf53 52 = .ok (.if_icmp .gt 6, 3) := by decide +kernel
theorem dJ8_hugeLength_7cf53_55 : decode cJ8_hugeLength_7cf53 55 = .ok (.ldc 200, 2) := by decide +kernel
theorem dJ8_hugeLength_7cf53_57 : decode cJ8_hugeLength_7cf53 57 = .ok (.ireturn, 1) := by decide +kernel
theorem dJ8_hugeLength_7cf53_58 : decode cJ8_hugeLength_7cf53 58 = .ok (.iload_n 2, 1) := by decide +kernel
theorem dJ8_hugeLength_7cf53_59 : decode cJ8_hugeLength_7cf53 59 = .ok (.ireturn, 1) := by decide +kernel
theorem dJ3_checkIndex_8e157_0 : decode cJ3_checkIndex_8e157 0 = .ok (.iload_n 0, 1) := by decide +kernel
theorem dJ3_checkIndex_8e157_1 : decode cJ3_checkIndex_8e157 1 = .ok (.ifCond .lt 8, 3) := by decide +kernel
theorem dJ3_checkIndex_8e157_4 : decode cJ3_checkIndex_8e157 4 = .ok (.iload_n 0, 1) := by decide +kernel
theorem dJ3_checkIndex_8e157_5 : decode cJ3_checkIndex_8e157 5 = .ok (.iload_n 1, 1) := by decide +kernel
theorem dJ3_checkIndex_8e157_6 : decode cJ3_checkIndex_8e157 6 = .ok (.if_icmp .lt 10, 3) := by decide +kernel
theorem dJ3_checkIndex_8e157_9 : decode cJ3_checkIndex_8e157 9 = .ok (.aload_n 2, 1) := by decide +kernel
theorem dJ3_checkIndex_8e157_10 : decode cJ3_checkIndex_8e157 10 = .ok (.iload_n 0, 1) := by decide +kernel
theorem dJ3_checkIndex_8e157_11 : decode cJ3_checkIndex_8e157 11 = .ok (.iload_n 1, 1) := by decide +kernel
theorem dJ3_checkIndex_8e157_12 : decode cJ3_checkIndex_8e157 12 = .ok (.invokestatic 95, 3) := by decide +kernel
theorem dJ3_checkIndex_8e157_15 : decode cJ3_checkIndex_8e157 15 = .ok (.athrow, 1) := by decide +kernel
theorem dJ3_checkIndex_8e157_16 : decode cJ3_checkIndex_8e157 16 = .ok (.iload_n 0, 1) := by decide +kernel
theorem dJ3_checkIndex_8e157_17 : decode cJ3_checkIndex_8e157 17 = .ok (.ireturn, 1) := by decide +kernel
theorem dL_pass_0 : decode cL_pass 0 = .ok (.aload_n 2, 1) := by decide +kernel
theorem dL_pass_1 : decode cL_pass 1 = .ok (.iconst 0, 1) := by decide +kernel
theorem dL_pass_2 : decode cL_pass 2 = .ok (.aload_n 0, 1) := by decide +kernel
theorem dL_pass_3 : decode cL_pass 3 = .ok (.iload_n 1, 1) := by decide +kernel
theorem dL_pass_4 : decode cL_pass 4 = .ok (.invokevirtual 7, 3) := by decide +kernel
theorem dL_pass_7 : decode cL_pass 7 = .ok (.i2l, 1) := by decide +kernel
theorem dL_pass_8 : decode cL_pass 8 = .ok (.lastore, 1) := by decide +kernel
theorem dL_pass_9 : decode cL_pass 9 = .ok (.goto 9, 3) := by decide +kernel
theorem dL_pass_12 : decode cL_pass 12 = .ok (.astore_n 3, 1) := by decide +kernel
theorem dL_pass_13 : decode cL_pass 13 = .ok (.iconst 1, 1) := by decide +kernel
theorem dL_pass_14 : decode cL_pass 14 = .ok (.ireturn, 1) := by decide +kernel
theorem dL_pass_15 : decode cL_pass 15 = .ok (.astore_n 3, 1) := by decide +kernel
theorem dL_pass_16 : decode cL_pass 16 = .ok (.iconst 2, 1) := by decide +kernel
theorem dL_pass_17 : decode cL_pass 17 = .ok (.ireturn, 1) := by decide +kernel
theorem dL_pass_18 : decode cL_pass 18 = .ok (.iconst 0, 1) := by decide +kernel
theorem dL_pass_19 : decode cL_pass 19 = .ok (.ireturn, 1) := by decide +kernel
theorem dL_format_0 : decode cL_format 0 = .ok (.aload 4, 2) := by decide +kernel
theorem dL_format_2 : decode cL_format 2 = .ok (.iconst 0, 1) := by decide +kernel
theorem dL_format_3 : decode cL_format 3 = .ok (.aload_n 0, 1) := by decide +kernel
theorem dL_format_4 : decode cL_format 4 = .ok (.iload_n 1, 1) := by decide +kernel
theorem dL_format_5 : decode cL_format 5 = .ok (.iload_n 2, 1) := by decide +kernel
theorem dL_format_6 : decode cL_format 6 = .ok (.iload_n 3, 1) := by decide +kernel
theorem dL_format_7 : decode cL_format 7 = .ok (.invokevirtual 17, 3) := by decide +kernel
theorem dL_format_10 : decode cL_format 10 = .ok (.i2l, 1) := by decide +kernel
theorem dL_format_11 : decode cL_format 11 = .ok (.lastore, 1) := by decide +kernel
theorem dL_format_12 : decode cL_format 12 = .ok (.goto 11, 3) := by decide +kernel
theorem dL_format_15 : decode cL_format 15 = .ok (.astore 5, 2) := by decide +kernel
theorem dL_format_17 : decode cL_format 17 = .ok (.iconst 1, 1) := by decide +kernel
theorem dL_format_18 : decode cL_format 18 = .ok (.ireturn, 1) := by decide +kernel
theorem dL_format_19 : decode cL_format 19 = .ok (.astore 5, 2) := by decide +kernel
theorem dL_format_21 : decode cL_format 21 = .ok (.iconst 2, 1) := by decide +kernel
theorem dL_format_22 : decode cL_format 22 = .ok (.ireturn, 1) := by decide +kernel
theorem dL_format_23 : decode cL_format 23 = .ok (.iconst 0, 1) := by decide +kernel
theorem dL_format_24 : decode cL_format 24 = .ok (.ireturn, 1) := by decide +kernel
theorem dL_line_0 : decode cL_line 0 = .ok (.aload_n 2, 1) := by decide +kernel
theorem dL_line_1 : decode cL_line 1 = .ok (.iconst 0, 1) := by decide +kernel
theorem dL_line_2 : decode cL_line 2 = .ok (.aload_n 0, 1) := by decide +kernel
theorem dL_line_3 : decode cL_line 3 = .ok (.iload_n 1, 1) := by decide +kernel
theorem dL_line_4 : decode cL_line 4 = .ok (.invokevirtual 21, 3) := by decide +kernel
theorem dL_line_7 : decode cL_line 7 = .ok (.i2l, 1) := by decide +kernel
theorem dL_line_8 : decode cL_line 8 = .ok (.lastore, 1) := by decide +kernel
theorem dL_line_9 : decode cL_line 9 = .ok (.goto 9, 3) := by decide +kernel
theorem dL_line_12 : decode cL_line 12 = .ok (.astore_n 3, 1) := by decide +kernel
theorem dL_line_13 : decode cL_line 13 = .ok (.iconst 1, 1) := by decide +kernel
theorem dL_line_14 : decode cL_line 14 = .ok (.ireturn, 1) := by decide +kernel
theorem dL_line_15 : decode cL_line 15 = .ok (.astore_n 3, 1) := by decide +kernel
theorem dL_line_16 : decode cL_line 16 = .ok (.iconst 2, 1) := by decide +kernel
theorem dL_line_17 : decode cL_line 17 = .ok (.ireturn, 1) := by decide +kernel
theorem dL_line_18 : decode cL_line 18 = .ok (.iconst 0, 1) := by decide +kernel
theorem dL_line_19 : decode cL_line 19 = .ok (.ireturn, 1) := by decide +kernel
theorem dL_feed_0 : decode cL_feed 0 = .ok (.aload_n 1, 1) := by decide +kernel
theorem dL_feed_1 : decode cL_feed 1 = .ok (.iconst 0, 1) := by decide +kernel
theorem dL_feed_2 : decode cL_feed 2 = .ok (.aload_n 0, 1) := by decide +kernel
theorem dL_feed_3 : decode cL_feed 3 = .ok (.invokevirtual 24, 3) := by decide +kernel
theorem dL_feed_6 : decode cL_feed 6 = .ok (.i2l, 1) := by decide +kernel
theorem dL_feed_7 : decode cL_feed 7 = .ok (.lastore, 1) := by decide +kernel
theorem dL_feed_8 : decode cL_feed 8 = .ok (.goto 6, 3) := by decide +kernel
theorem dL_feed_11 : decode cL_feed 11 = .ok (.astore_n 2, 1) := by decide +kernel
theorem dL_feed_12 : decode cL_feed 12 = .ok (.iconst 1, 1) := by decide +kernel
theorem dL_feed_13 : decode cL_feed 13 = .ok (.ireturn, 1) := by decide +kernel
theorem dL_feed_14 : decode cL_feed 14 = .ok (.iconst 0, 1) := by decide +kernel
theorem dL_feed_15 : decode cL_feed 15 = .ok (.ireturn, 1) := by decide +kernel
theorem dL_end_0 : decode cL_end 0 = .ok (.aload_n 1, 1) := by decide +kernel
theorem dL_end_1 : decode cL_end 1 = .ok (.iconst 0, 1) := by decide +kernel
theorem dL_end_2 : decode cL_end 2 = .ok (.aload_n 0, 1) := by decide +kernel
theorem dL_end_3 : decode cL_end 3 = .ok (.invokevirtual 28, 3) := by decide +kernel
theorem dL_end_6 : decode cL_end 6 = .ok (.i2l, 1) := by decide +kernel
theorem dL_end_7 : decode cL_end 7 = .ok (.lastore, 1) := by decide +kernel
theorem dL_end_8 : decode cL_end 8 = .ok (.goto 6, 3) := by decide +kernel
theorem dL_end_11 : decode cL_end 11 = .ok (.astore_n 2, 1) := by decide +kernel
theorem dL_end_12 : decode cL_end 12 = .ok (.iconst 1, 1) := by decide +kernel
theorem dL_end_13 : decode cL_end 13 = .ok (.ireturn, 1) := by decide +kernel
theorem dL_end_14 : decode cL_end 14 = .ok (.iconst 0, 1) := by decide +kernel
theorem dL_end_15 : decode cL_end 15 = .ok (.ireturn, 1) := by decide +kernel
theorem dL_pages_0 : decode cL_pages 0 = .ok (.aload_n 2, 1) := by decide +kernel
theorem dL_pages_1 : decode cL_pages 1 = .ok (.iconst 0, 1) := by decide +kernel
theorem dL_pages_2 : decode cL_pages 2 = .ok (.aload_n 0, 1) := by decide +kernel
theorem dL_pages_3 : decode cL_pages 3 = .ok (.iload_n 1, 1) := by decide +kernel
theorem dL_pages_4 : decode cL_pages 4 = .ok (.invokevirtual 31, 3) := by decide +kernel
theorem dL_pages_7 : decode cL_pages 7 = .ok (.i2l, 1) := by decide +kernel
theorem dL_pages_8 : decode cL_pages 8 = .ok (.lastore, 1) := by decide +kernel
theorem dL_pages_9 : decode cL_pages 9 = .ok (.goto 6, 3) := by decide +kernel
theorem dL_pages_12 : decode cL_pages 12 = .ok (.astore_n 3, 1) := by decide +kernel
theorem dL_pages_13 : decode cL_pages 13 = .ok (.iconst 1, 1) := by decide +kernel
theorem dL_pages_14 : decode cL_pages 14 = .ok (.ireturn, 1) := by decide +kernel
theorem dL_pages_15 : decode cL_pages 15 = .ok (.iconst 0, 1) := by decide +kernel
theorem dL_pages_16 : decode cL_pages 16 = .ok (.ireturn, 1) := by decide +kernel
theorem dL_twice_0 : decode cL_twice 0 = .ok (.aload_n 2, 1) := by decide +kernel
theorem dL_twice_1 : decode cL_twice 1 = .ok (.iconst 0, 1) := by decide +kernel
theorem dL_twice_2 : decode cL_twice 2 = .ok (.aload_n 0, 1) := by decide +kernel
theorem dL_twice_3 : decode cL_twice 3 = .ok (.iload_n 1, 1) := by decide +kernel
theorem dL_twice_4 : decode cL_twice 4 = .ok (.invokevirtual 36, 3) := by decide +kernel
theorem dL_twice_7 : decode cL_twice 7 = .ok (.i2l, 1) := by decide +kernel
theorem dL_twice_8 : decode cL_twice 8 = .ok (.lastore, 1) := by decide +kernel
theorem dL_twice_9 : decode cL_twice 9 = .ok (.goto 6, 3) := by decide +kernel
theorem dL_twice_12 : decode cL_twice 12 = .ok (.astore_n 3, 1) := by decide +kernel
theorem dL_twice_13 : decode cL_twice 13 = .ok (.iconst 1, 1) := by decide +kernel
theorem dL_twice_14 : decode cL_twice 14 = .ok (.ireturn, 1) := by decide +kernel
theorem dL_twice_15 : decode cL_twice 15 = .ok (.iconst 0, 1) := by decide +kernel
theorem dL_twice_16 : decode cL_twice 16 = .ok (.ireturn, 1) := by decide +kernel
theorem dL_reprint_0 : decode cL_reprint 0 = .ok (.aload 4, 2) := by decide +kernel
theorem dL_reprint_2 : decode cL_reprint 2 = .ok (.iconst 0, 1) := by decide +kernel
theorem dL_reprint_3 : decode cL_reprint 3 = .ok (.aload_n 0, 1) := by decide +kernel
theorem dL_reprint_4 : decode cL_reprint 4 = .ok (.iload_n 1, 1) := by decide +kernel
theorem dL_reprint_5 : decode cL_reprint 5 = .ok (.iload_n 2, 1) := by decide +kernel
theorem dL_reprint_6 : decode cL_reprint 6 = .ok (.iload_n 3, 1) := by decide +kernel
theorem dL_reprint_7 : decode cL_reprint 7 = .ok (.invokevirtual 39, 3) := by decide +kernel
theorem dL_reprint_10 : decode cL_reprint 10 = .ok (.i2l, 1) := by decide +kernel
theorem dL_reprint_11 : decode cL_reprint 11 = .ok (.lastore, 1) := by decide +kernel
theorem dL_reprint_12 : decode cL_reprint 12 = .ok (.goto 11, 3) := by decide +kernel
theorem dL_reprint_15 : decode cL_reprint 15 = .ok (.astore 5, 2) := by decide +kernel
theorem dL_reprint_17 : decode cL_reprint 17 = .ok (.iconst 1, 1) := by decide +kernel
theorem dL_reprint_18 : decode cL_reprint 18 = .ok (.ireturn, 1) := by decide +kernel
theorem dL_reprint_19 : decode cL_reprint 19 = .ok (.astore 5, 2) := by decide +kernel
theorem dL_reprint_21 : decode cL_reprint 21 = .ok (.iconst 2, 1) := by decide +kernel
theorem dL_reprint_22 : decode cL_reprint 22 = .ok (.ireturn, 1) := by decide +kernel
theorem dL_reprint_23 : decode cL_reprint 23 = .ok (.iconst 0, 1) := by decide +kernel
theorem dL_reprint_24 : decode cL_reprint 24 = .ok (.ireturn, 1) := by decide +kernel
theorem dL_copies_0 : decode cL_copies 0 = .ok (.aload_n 3, 1) := by decide +kernel
theorem dL_copies_1 : decode cL_copies 1 = .ok (.iconst 0, 1) := by decide +kernel
theorem dL_copies_2 : decode cL_copies 2 = .ok (.aload_n 0, 1) := by decide +kernel
theorem dL_copies_3 : decode cL_copies 3 = .ok (.iload_n 1, 1) := by decide +kernel
theorem dL_copies_4 : decode cL_copies 4 = .ok (.iload_n 2, 1) := by decide +kernel
theorem dL_copies_5 : decode cL_copies 5 = .ok (.invokevirtual 42, 3) := by decide +kernel
theorem dL_copies_8 : decode cL_copies 8 = .ok (.i2l, 1) := by decide +kernel
theorem dL_copies_9 : decode cL_copies 9 = .ok (.lastore, 1) := by decide +kernel
theorem dL_copies_10 : decode cL_copies 10 = .ok (.goto 7, 3) := by decide +kernel
theorem dL_copies_13 : decode cL_copies 13 = .ok (.astore 4, 2) := by decide +kernel
theorem dL_copies_15 : decode cL_copies 15 = .ok (.iconst 1, 1) := by decide +kernel
theorem dL_copies_16 : decode cL_copies 16 = .ok (.ireturn, 1) := by decide +kernel
theorem dL_copies_17 : decode cL_copies 17 = .ok (.iconst 0, 1) := by decide +kernel
theorem dL_copies_18 : decode cL_copies 18 = .ok (.ireturn, 1) := by decide +kernel
theorem dL_isThere_0 : decode cL_isThere 0 = .ok (.aload_n 2, 1) := by decide +kernel
theorem dL_isThere_1 : decode cL_isThere 1 = .ok (.iconst 0, 1) := by decide +kernel
theorem dL_isThere_2 : decode cL_isThere 2 = .ok (.aload_n 0, 1) := by decide +kernel
theorem dL_isThere_3 : decode cL_isThere 3 = .ok (.iload_n 1, 1) := by decide +kernel
theorem dL_isThere_4 : decode cL_isThere 4 = .ok (.invokevirtual 46, 3) := by decide +kernel
theorem dL_isThere_7 : decode cL_isThere 7 = .ok (.ifCond .eq 7, 3) := by decide +kernel
theorem dL_isThere_10 : decode cL_isThere 10 = .ok (.lconst 1, 1) := by decide +kernel
theorem dL_isThere_11 : decode cL_isThere 11 = .ok (.goto 4, 3) := by decide +kernel
theorem dL_isThere_14 : decode cL_isThere 14 = .ok (.lconst 0, 1) := by decide +kernel
theorem dL_isThere_15 : decode cL_isThere 15 = .ok (.lastore, 1) := by decide +kernel
theorem dL_isThere_16 : decode cL_isThere 16 = .ok (.goto 6, 3) := by decide +kernel
theorem dL_isThere_19 : decode cL_isThere 19 = .ok (.astore_n 3, 1) := by decide +kernel
theorem dL_isThere_20 : decode cL_isThere 20 = .ok (.iconst 1, 1) := by decide +kernel
theorem dL_isThere_21 : decode cL_isThere 21 = .ok (.ireturn, 1) := by decide +kernel
theorem dL_isThere_22 : decode cL_isThere 22 = .ok (.iconst 0, 1) := by decide +kernel
theorem dL_isThere_23 : decode cL_isThere 23 = .ok (.ireturn, 1) := by decide +kernel
theorem dL_account_0 : decode cL_account 0 = .ok (.aload_n 2, 1) := by decide +kernel
theorem dL_account_1 : decode cL_account 1 = .ok (.iconst 0, 1) := by decide +kernel
theorem dL_account_2 : decode cL_account 2 = .ok (.aload_n 0, 1) := by decide +kernel
theorem dL_account_3 : decode cL_account 3 = .ok (.iload_n 1, 1) := by decide +kernel
theorem dL_account_4 : decode cL_account 4 = .ok (.invokevirtual 50, 3) := by decide +kernel
theorem dL_account_7 : decode cL_account 7 = .ok (.i2l, 1) := by decide +kernel
theorem dL_account_8 : decode cL_account 8 = .ok (.lastore, 1) := by decide +kernel
theorem dL_account_9 : decode cL_account 9 = .ok (.goto 6, 3) := by decide +kernel
theorem dL_account_12 : decode cL_account 12 = .ok (.astore_n 3, 1) := by decide +kernel
theorem dL_account_13 : decode cL_account 13 = .ok (.iconst 1, 1) := by decide +kernel
theorem dL_account_14 : decode cL_account 14 = .ok (.ireturn, 1) := by decide +kernel
theorem dL_account_15 : decode cL_account 15 = .ok (.iconst 0, 1) := by decide +kernel
theorem dL_account_16 : decode cL_account 16 = .ok (.ireturn, 1) := by decide +kernel
theorem dL_kind_0 : decode cL_kind 0 = .ok (.aload_n 2, 1) := by decide +kernel
theorem dL_kind_1 : decode cL_kind 1 = .ok (.iconst 0, 1) := by decide +kernel
theorem dL_kind_2 : decode cL_kind 2 = .ok (.aload_n 0, 1) := by decide +kernel
theorem dL_kind_3 : decode cL_kind 3 = .ok (.iload_n 1, 1) := by decide +kernel
theorem dL_kind_4 : decode cL_kind 4 = .ok (.invokevirtual 53, 3) := by decide +kernel
theorem dL_kind_7 : decode cL_kind 7 = .ok (.i2l, 1) := by decide +kernel
theorem dL_kind_8 : decode cL_kind 8 = .ok (.lastore, 1) := by decide +kernel
theorem dL_kind_9 : decode cL_kind 9 = .ok (.goto 6, 3) := by decide +kernel
theorem dL_kind_12 : decode cL_kind 12 = .ok (.astore_n 3, 1) := by decide +kernel
theorem dL_kind_13 : decode cL_kind 13 = .ok (.iconst 1, 1) := by decide +kernel
theorem dL_kind_14 : decode cL_kind 14 = .ok (.ireturn, 1) := by decide +kernel
theorem dL_kind_15 : decode cL_kind 15 = .ok (.iconst 0, 1) := by decide +kernel
theorem dL_kind_16 : decode cL_kind 16 = .ok (.ireturn, 1) := by decide +kernel
theorem dL_length_0 : decode cL_length 0 = .ok (.aload_n 2, 1) := by decide +kernel
theorem dL_length_1 : decode cL_length 1 = .ok (.iconst 0, 1) := by decide +kernel
theorem dL_length_2 : decode cL_length 2 = .ok (.aload_n 0, 1) := by decide +kernel
theorem dL_length_3 : decode cL_length 3 = .ok (.iload_n 1, 1) := by decide +kernel
theorem dL_length_4 : decode cL_length 4 = .ok (.invokevirtual 56, 3) := by decide +kernel
theorem dL_length_7 : decode cL_length 7 = .ok (.i2l, 1) := by decide +kernel
theorem dL_length_8 : decode cL_length 8 = .ok (.lastore, 1) := by decide +kernel
theorem dL_length_9 : decode cL_length 9 = .ok (.goto 6, 3) := by decide +kernel
theorem dL_length_12 : decode cL_length 12 = .ok (.astore_n 3, 1) := by decide +kernel
theorem dL_length_13 : decode cL_length 13 = .ok (.iconst 1, 1) := by decide +kernel
theorem dL_length_14 : decode cL_length 14 = .ok (.ireturn, 1) := by decide +kernel
theorem dL_length_15 : decode cL_length 15 = .ok (.iconst 0, 1) := by decide +kernel
theorem dL_length_16 : decode cL_length 16 = .ok (.ireturn, 1) := by decide +kernel
theorem dL_found_0 : decode cL_found 0 = .ok (.aload 6, 2) := by decide +kernel
theorem dL_found_2 : decode cL_found 2 = .ok (.iconst 0, 1) := by decide +kernel
theorem dL_found_3 : decode cL_found 3 = .ok (.aload_n 0, 1) := by decide +kernel
theorem dL_found_4 : decode cL_found 4 = .ok (.iload_n 1, 1) := by decide +kernel
theorem dL_found_5 : decode cL_found 5 = .ok (.iload_n 2, 1) := by decide +kernel
theorem dL_found_6 : decode cL_found 6 = .ok (.iload_n 3, 1) := by decide +kernel
theorem dL_found_7 : decode cL_found 7 = .ok (.iload 4, 2) := by decide +kernel
theorem dL_found_9 : decode cL_found 9 = .ok (.iload 5, 2) := by decide +kernel
theorem dL_found_11 : decode cL_found 11 = .ok (.invokevirtual 59, 3) := by decide +kernel
theorem dL_found_14 : decode cL_found 14 = .ok (.i2l, 1) := by decide +kernel
theorem dL_found_15 : decode cL_found 15 = .ok (.lastore, 1) := by decide +kernel
theorem dL_found_16 : decode cL_found 16 = .ok (.goto 11, 3) := by decide +kernel
theorem dL_found_19 : decode cL_found 19 = .ok (.astore 7, 2) := by decide +kernel
theorem dL_found_21 : decode cL_found 21 = .ok (.iconst 1, 1) := by decide +kernel
theorem dL_found_22 : decode cL_found 22 = .ok (.ireturn, 1) := by decide +kernel
theorem dL_found_23 : decode cL_found 23 = .ok (.astore 7, 2) := by decide +kernel
theorem dL_found_25 : decode cL_found 25 = .ok (.iconst 2, 1) := by decide +kernel
theorem dL_found_26 : decode cL_found 26 = .ok (.ireturn, 1) := by decide +kernel
theorem dL_found_27 : decode cL_found 27 = .ok (.iconst 0, 1) := by decide +kernel
theorem dL_found_28 : decode cL_found 28 = .ok (.ireturn, 1) := by decide +kernel
theorem dL_read_0 : decode cL_read 0 = .ok (.aload 5, 2) := by decide +kernel
theorem dL_read_2 : decode cL_read 2 = .ok (.iconst 0, 1) := by decide +kernel
theorem dL_read_3 : decode cL_read 3 = .ok (.aload_n 0, 1) := by decide +kernel
theorem dL_read_4 : decode cL_read 4 = .ok (.iload_n 1, 1) := by decide +kernel
theorem dL_read_5 : decode cL_read 5 = .ok (.iload_n 2, 1) := by decide +kernel
theorem dL_read_6 : decode cL_read 6 = .ok (.iload_n 3, 1) := by decide +kernel
theorem dL_read_7 : decode cL_read 7 = .ok (.iload 4, 2) := by decide +kernel
theorem dL_read_9 : decode cL_read 9 = .ok (.invokevirtual 63, 3) := by decide +kernel
theorem dL_read_12 : decode cL_read 12 = .ok (.i2l, 1) := by decide +kernel
theorem dL_read_13 : decode cL_read 13 = .ok (.lastore, 1) := by decide +kernel
theorem dL_read_14 : decode cL_read 14 = .ok (.goto 15, 3) := by decide +kernel
theorem dL_read_17 : decode cL_read 17 = .ok (.astore 6, 2) := by decide +kernel
theorem dL_read_19 : decode cL_read 19 = .ok (.iconst 1, 1) := by decide +kernel
theorem dL_read_20 : decode cL_read 20 = .ok (.ireturn, 1) := by decide +kernel
theorem dL_read_21 : decode cL_read 21 = .ok (.astore 6, 2) := by decide +kernel
theorem dL_read_23 : decode cL_read 23 = .ok (.iconst 2, 1) := by decide +kernel
theorem dL_read_24 : decode cL_read 24 = .ok (.ireturn, 1) := by decide +kernel
theorem dL_read_25 : decode cL_read 25 = .ok (.astore 6, 2) := by decide +kernel
theorem dL_read_27 : decode cL_read 27 = .ok (.iconst 3, 1) := by decide +kernel
theorem dL_read_28 : decode cL_read 28 = .ok (.ireturn, 1) := by decide +kernel
theorem dL_read_29 : decode cL_read 29 = .ok (.iconst 0, 1) := by decide +kernel
theorem dL_read_30 : decode cL_read 30 = .ok (.ireturn, 1) := by decide +kernel
theorem dL_view_0 : decode cL_view 0 = .ok (.aload_n 0, 1) := by decide +kernel
theorem dL_view_1 : decode cL_view 1 = .ok (.iload_n 1, 1) := by decide +kernel
theorem dL_view_2 : decode cL_view 2 = .ok (.iload_n 2, 1) := by decide +kernel
theorem dL_view_3 : decode cL_view 3 = .ok (.iload_n 3, 1) := by decide +kernel
theorem dL_view_4 : decode cL_view 4 = .ok (.iload 4, 2) := by decide +kernel
theorem dL_view_6 : decode cL_view 6 = .ok (.invokevirtual 69, 3) := by decide +kernel
theorem dL_view_9 : decode cL_view 9 = .ok (.goto 7, 3) := by decide +kernel
theorem dL_view_12 : decode cL_view 12 = .ok (.astore 5, 2) := by decide +kernel
theorem dL_view_14 : decode cL_view 14 = .ok (.iconst 1, 1) := by decide +kernel
theorem dL_view_15 : decode cL_view 15 = .ok (.ireturn, 1) := by decide +kernel
theorem dL_view_16 : decode cL_view 16 = .ok (.iconst 0, 1) := by decide +kernel
theorem dL_view_17 : decode cL_view 17 = .ok (.ireturn, 1) := by decide +kernel
theorem dL_span_0 : decode cL_span 0 = .ok (.aload_n 3, 1) := by decide +kernel
theorem dL_span_1 : decode cL_span 1 = .ok (.iconst 0, 1) := by decide +kernel
theorem dL_span_2 : decode cL_span 2 = .ok (.aload_n 0, 1) := by decide +kernel
theorem dL_span_3 : decode cL_span 3 = .ok (.iload_n 1, 1) := by decide +kernel
theorem dL_span_4 : decode cL_span 4 = .ok (.iload_n 2, 1) := by decide +kernel
theorem dL_span_5 : decode cL_span 5 = .ok (.invokevirtual 73, 3) := by decide +kernel
theorem dL_span_8 : decode cL_span 8 = .ok (.i2l, 1) := by decide +kernel
theorem dL_span_9 : decode cL_span 9 = .ok (.lastore, 1) := by decide +kernel
theorem dL_span_10 : decode cL_span 10 = .ok (.goto 7, 3) := by decide +kernel
theorem dL_span_13 : decode cL_span 13 = .ok (.astore 4, 2) := by decide +kernel
theorem dL_span_15 : decode cL_span 15 = .ok (.iconst 1, 1) := by decide +kernel
theorem dL_span_16 : decode cL_span 16 = .ok (.ireturn, 1) := by decide +kernel
theorem dL_span_17 : decode cL_span 17 = .ok (.iconst 0, 1) := by decide +kernel
theorem dL_span_18 : decode cL_span 18 = .ok (.ireturn, 1) := by decide +kernel
theorem dL_hold_0 : decode cL_hold 0 = .ok (.aload_n 3, 1) := by decide +kernel
theorem dL_hold_1 : decode cL_hold 1 = .ok (.iconst 0, 1) := by decide +kernel
theorem dL_hold_2 : decode cL_hold 2 = .ok (.aload_n 0, 1) := by decide +kernel
theorem dL_hold_3 : decode cL_hold 3 = .ok (.iload_n 1, 1) := by decide +kernel
theorem dL_hold_4 : decode cL_hold 4 = .ok (.iload_n 2, 1) := by decide +kernel
theorem dL_hold_5 : decode cL_hold 5 = .ok (.invokevirtual 76, 3) := by decide +kernel
theorem dL_hold_8 : decode cL_hold 8 = .ok (.ifCond .eq 7, 3) := by decide +kernel
theorem dL_hold_11 : decode cL_hold 11 = .ok (.lconst 1, 1) := by decide +kernel
theorem dL_hold_12 : decode cL_hold 12 = .ok (.goto 4, 3) := by decide +kernel
theorem dL_hold_15 : decode cL_hold 15 = .ok (.lconst 0, 1) := by decide +kernel
theorem dL_hold_16 : decode cL_hold 16 = .ok (.lastore, 1) := by decide +kernel
theorem dL_hold_17 : decode cL_hold 17 = .ok (.goto 7, 3) := by decide +kernel
theorem dL_hold_20 : decode cL_hold 20 = .ok (.astore 4, 2) := by decide +kernel
theorem dL_hold_22 : decode cL_hold 22 = .ok (.iconst 1, 1) := by decide +kernel
theorem dL_hold_23 : decode cL_hold 23 = .ok (.ireturn, 1) := by decide +kernel
theorem dL_hold_24 : decode cL_hold 24 = .ok (.iconst 0, 1) := by decide +kernel
theorem dL_hold_25 : decode cL_hold 25 = .ok (.ireturn, 1) := by decide +kernel
theorem dL_bundle_0 : decode cL_bundle 0 = .ok (.aload_n 3, 1) := by decide +kernel
theorem dL_bundle_1 : decode cL_bundle 1 = .ok (.iconst 0, 1) := by decide +kernel
theorem dL_bundle_2 : decode cL_bundle 2 = .ok (.aload_n 0, 1) := by decide +kernel
theorem dL_bundle_3 : decode cL_bundle 3 = .ok (.iload_n 1, 1) := by decide +kernel
theorem dL_bundle_4 : decode cL_bundle 4 = .ok (.iload_n 2, 1) := by decide +kernel
theorem dL_bundle_5 : decode cL_bundle 5 = .ok (.invokevirtual 80, 3) := by decide +kernel
theorem dL_bundle_8 : decode cL_bundle 8 = .ok (.i2l, 1) := by decide +kernel
theorem dL_bundle_9 : decode cL_bundle 9 = .ok (.lastore, 1) := by decide +kernel
theorem dL_bundle_10 : decode cL_bundle 10 = .ok (.goto 7, 3) := by decide +kernel
theorem dL_bundle_13 : decode cL_bundle 13 = .ok (.astore 4, 2) := by decide +kernel
theorem dL_bundle_15 : decode cL_bundle 15 = .ok (.iconst 1, 1) := by decide +kernel
theorem dL_bundle_16 : decode cL_bundle 16 = .ok (.ireturn, 1) := by decide +kernel
theorem dL_bundle_17 : decode cL_bundle 17 = .ok (.iconst 0, 1) := by decide +kernel
theorem dL_bundle_18 : decode cL_bundle 18 = .ok (.ireturn, 1) := by decide +kernel
theorem dL_law_0 : decode cL_law 0 = .ok (.new 8, 3) := by decide +kernel
theorem dL_law_3 : decode cL_law 3 = .ok (.dup, 1) := by decide +kernel
theorem dL_law_4 : decode cL_law 4 = .ok (.invokespecial 83, 3) := by decide +kernel
theorem dL_law_7 : decode cL_law 7 = .ok (.astore_n 1, 1) := by decide +kernel
theorem dL_law_8 : decode cL_law 8 = .ok (.new 84, 3) := by decide +kernel
theorem dL_law_11 : decode cL_law 11 = .ok (.dup, 1) := by decide +kernel
theorem dL_law_12 : decode cL_law 12 = .ok (.invokespecial 86, 3) := by decide +kernel
theorem dL_law_15 : decode cL_law 15 = .ok (.astore_n 2, 1) := by decide +kernel
theorem dL_law_16 : decode cL_law 16 = .ok (.iconst 1, 1) := by decide +kernel
theorem dL_law_17 : decode cL_law 17 = .ok (.newarray .long, 2) := by decide +kernel
theorem dL_law_19 : decode cL_law 19 = .ok (.astore_n 3, 1) := by decide +kernel
theorem dL_law_20 : decode cL_law 20 = .ok (.iconst 0, 1) := by decide +kernel
theorem dL_law_21 : decode cL_law 21 = .ok (.istore 4, 2) := by decide +kernel
theorem dL_law_23 : decode cL_law 23 = .ok (.iload 4, 2) := by decide +kernel
theorem dL_law_25 : decode cL_law 25 = .ok (.aload_n 0, 1) := by decide +kernel
theorem dL_law_26 : decode cL_law 26 = .ok (.arraylength, 1) := by decide +kernel
theorem dL_law_27 : decode cL_law 27 = .ok (.bipush 6, 2) := by decide +kernel
theorem dL_law_29 : decode cL_law 29 = .ok (.isub, 1) := by decide +kernel
theorem dL_law_30 : decode cL_law 30 = .ok (.if_icmp .gt 1408, 3) := by decide +kernel
theorem dL_law_33 : decode cL_law 33 = .ok (.aload_n 0, 1) := by decide +kernel
theorem dL_law_34 : decode cL_law 34 = .ok (.iload 4, 2) := by decide +kernel
theorem dL_law_36 : decode cL_law 36 = .ok (.iaload, 1) := by decide +kernel
theorem dL_law_37 : decode cL_law 37 = .ok (.bipush 31, 2) := by decide +kernel
theorem dL_law_39 : decode cL_law 39 = .ok (.iand, 1) := by decide +kernel
theorem dL_law_40 : decode cL_law 40 = .ok (.tableswitch 1392 0 20 #[100, 156, 236, 292, 336, 380, 436, 492, 572, 640, 653, 716, 772, 828, 884, 988, 1080, 1152, 1220, 1311, 1324], 100) := by decide +kernel
theorem dL_law_140 : decode cL_law 140 = .ok (.aload_n 1, 1) := by decide +kernel
theorem dL_law_141 : decode cL_law 141 = .ok (.aload_n 0, 1) := by decide +kernel
theorem dL_law_142 : decode cL_law 142 = .ok (.iload 4, 2) := by decide +kernel
theorem dL_law_144 : decode cL_law 144 = .ok (.iconst 1, 1) := by decide +kernel
theorem dL_law_145 : decode cL_law 145 = .ok (.iadd, 1) := by decide +kernel
theorem dL_law_146 : decode cL_law 146 = .ok (.iaload, 1) := by decide +kernel
theorem dL_law_147 : decode cL_law 147 = .ok (.aload_n 3, 1) := by decide +kernel
theorem dL_law_148 : decode cL_law 148 = .ok (.invokestatic 87, 3) := by decide +kernel
theorem dL_law_151 : decode cL_law 151 = .ok (.istore 5, 2) := by decide +kernel
theorem dL_law_153 : decode cL_law 153 = .ok (.aload_n 2, 1) := by decide +kernel
theorem dL_law_154 : decode cL_law 154 = .ok (.aload_n 0, 1) := by decide +kernel
theorem dL_law_155 : decode cL_law 155 = .ok (.iload 4, 2) := by decide +kernel
theorem dL_law_157 : decode cL_law 157 = .ok (.iconst 1, 1) := by decide +kernel
theorem dL_law_158 : decode cL_law 158 = .ok (.iadd, 1) := by decide +kernel
theorem dL_law_159 : decode cL_law 159 = .ok (.iaload, 1) := by decide +kernel
theorem dL_law_160 : decode cL_law 160 = .ok (.invokevirtual 92, 3) := by decide +kernel
theorem dL_law_163 : decode cL_law 163 = .ok (.istore 6, 2) := by decide +kernel
theorem dL_law_165 : decode cL_law 165 = .ok (.aload_n 2, 1) := by decide +kernel
theorem dL_law_166 : decode cL_law 166 = .ok (.invokevirtual 93, 3) := by decide +kernel
theorem dL_law_169 : decode cL_law 169 = .ok (.iload 5, 2) := by decide +kernel
theorem dL_law_171 : decode cL_law 171 = .ok (.if_icmp .eq 5, 3) := by decide +kernel
theorem dL_law_174 : decode cL_law 174 = .ok (.iconst 0, 1) := by decide +kernel
theorem dL_law_175 : decode cL_law 175 = .ok (.ireturn, 1) := by decide +kernel
theorem dL_law_176 : decode cL_law 176 = .ok (.iload 5, 2) := by decide +kernel
theorem dL_law_178 : decode cL_law 178 = .ok (.ifCond .ne 15, 3) := by decide +kernel
theorem dL_law_181 : decode cL_law 181 = .ok (.aload_n 3, 1) := by decide +kernel
theorem dL_law_182 : decode cL_law 182 = .ok (.iconst 0, 1) := by decide +kernel
theorem dL_law_183 : decode cL_law 183 = .ok (.laload, 1) := by decide +kernel
theorem dL_law_184 : decode cL_law 184 = .ok (.iload 6, 2) := by decide +kernel
theorem dL_law_186 : decode cL_law 186 = .ok (.i2l, 1) := by decide +kernel
theorem dL_law_187 : decode cL_law 187 = .ok (.lcmp, 1) := by decide +kernel
theorem dL_law_188 : decode cL_law 188 = .ok (.ifCond .eq 5, 3) := by decide +kernel
theorem dL_law_191 : decode cL_law 191 = .ok (.iconst 0, 1) := by decide +kernel
theorem dL_law_192 : decode cL_law 192 = .ok (.ireturn, 1) := by decide +kernel
theorem dL_law_193 : decode cL_law 193 = .ok (.goto 1239, 3) := by decide +kernel
theorem dL_law_196 : decode cL_law 196 = .ok (.aload_n 1, 1) := by decide +kernel
theorem dL_law_197 : decode cL_law 197 = .ok (.aload_n 0, 1) := by decide +kernel
theorem dL_law_198 : decode cL_law 198 = .ok (.iload 4, 2) := by decide +kernel
theorem dL_law_200 : decode cL_law 200 = .ok (.iconst 1, 1) := by decide +kernel
theorem dL_law_201 : decode cL_law 201 = .ok (.iadd, 1) := by decide +kernel
theorem dL_law_202 : decode cL_law 202 = .ok (.iaload, 1) := by decide +kernel
theorem dL_law_203 : decode cL_law 203 = .ok (.aload_n 0, 1) := by decide +kernel
theorem dL_law_204 : decode cL_law 204 = .ok (.iload 4, 2) := by decide +kernel
theorem dL_law_206 : decode cL_law 206 = .ok (.iconst 2, 1) := by decide +kernel
theorem dL_law_207 : decode cL_law 207 = .ok (.iadd, 1) := by decide +kernel
theorem dL_law_208 : decode cL_law 208 = .ok (.iaload, 1) := by decide +kernel
theorem dL_law_209 : decode cL_law 209 = .ok (.aload_n 0, 1) := by decide +kernel
theorem dL_law_210 : decode cL_law 210 = .ok (.iload 4, 2) := by decide +kernel
theorem dL_law_212 : decode cL_law 212 = .ok (.iconst 3, 1) := by decide +kernel
theorem dL_law_213 : decode cL_law 213 = .ok (.iadd, 1) := by decide +kernel
theorem dL_law_214 : decode cL_law 214 = .ok (.iaload, 1) := by decide +kernel
theorem dL_law_215 : decode cL_law 215 = .ok (.aload_n 3, 1) := by decide +kernel
theorem dL_law_216 : decode cL_law 216 = .ok (.invokestatic 96, 3) := by decide +kernel
theorem dL_law_219 : decode cL_law 219 = .ok (.istore 5, 2) := by decide +kernel
theorem dL_law_221 : decode cL_law 221 = .ok (.aload_n 2, 1) := by decide +kernel
theorem dL_law_222 : decode cL_law 222 = .ok (.aload_n 0, 1) := by decide +kernel
theorem dL_law_223 : decode cL_law 223 = .ok (.iload 4, 2) := by decide +kernel
theorem dL_law_225 : decode cL_law 225 = .ok (.iconst 1, 1) := by decide +kernel
theorem dL_law_226 : decode cL_law 226 = .ok (.iadd, 1) := by decide +kernel
theorem dL_law_227 : decode cL_law 227 = .ok (.iaload, 1) := by decide +kernel
theorem dL_law_228 : decode cL_law 228 = .ok (.aload_n 0, 1) := by decide +kernel
theorem dL_law_229 : decode cL_law 229 = .ok (.iload 4, 2) := by decide +kernel
theorem dL_law_231 : decode cL_law 231 = .ok (.iconst 2, 1) := by decide +kernel
theorem dL_law_232 : decode cL_law 232 = .ok (.iadd, 1) := by decide +kernel
theorem dL_law_233 : decode cL_law 233 = .ok (.iaload, 1) := by decide +kernel
theorem dL_law_234 : decode cL_law 234 = .ok (.aload_n 0, 1) := by decide +kernel
theorem dL_law_235 : decode cL_law 235 = .ok (.iload 4, 2) := by decide +kernel
theorem dL_law_237 : decode cL_law 237 = .ok (.iconst 3, 1) := by decide +kernel
theorem dL_law_238 : decode cL_law 238 = .ok (.iadd, 1) := by decide +kernel
theorem dL_law_239 : decode cL_law 239 = .ok (.iaload, 1) := by decide +kernel
theorem dL_law_240 : decode cL_law 240 = .ok (.invokevirtual 99, 3) := by decide +kernel
theorem dL_law_243 : decode cL_law 243 = .ok (.istore 6, 2) := by decide +kernel
theorem dL_law_245 : decode cL_law 245 = .ok (.aload_n 2, 1) := by decide +kernel
theorem dL_law_246 : decode cL_law 246 = .ok (.invokevirtual 93, 3) := by decide +kernel
theorem dL_law_249 : decode cL_law 249 = .ok (.iload 5, 2) := by decide +kernel
theorem dL_law_251 : decode cL_law 251 = .ok (.if_icmp .eq 5, 3) := by decide +kernel
theorem dL_law_254 : decode cL_law 254 = .ok (.iconst 0, 1) := by decide +kernel
theorem dL_law_255 : decode cL_law 255 = .ok (.ireturn, 1) := by decide +kernel
theorem dL_law_256 : decode cL_law 256 = .ok (.iload 5, 2) := by decide +kernel
theorem dL_law_258 : decode cL_law 258 = .ok (.ifCond .ne 15, 3) := by decide +kernel
theorem dL_law_261 : decode cL_law 261 = .ok (.aload_n 3, 1) := by decide +kernel
theorem dL_law_262 : decode cL_law 262 = .ok (.iconst 0, 1) := by decide +kernel
theorem dL_law_263 : decode cL_law 263 = .ok (.laload, 1) := by decide +kernel
theorem dL_law_264 : decode cL_law 264 = .ok (.iload 6, 2) := by decide +kernel
theorem dL_law_266 : decode cL_law 266 = .ok (.i2l, 1) := by decide +kernel
theorem dL_law_267 : decode cL_law 267 = .ok (.lcmp, 1) := by decide +kernel
theorem dL_law_268 : decode cL_law 268 = .ok (.ifCond .eq 5, 3) := by decide +kernel
theorem dL_law_271 : decode cL_law 271 = .ok (.iconst 0, 1) := by decide +kernel
theorem dL_law_272 : decode cL_law 272 = .ok (.ireturn, 1) := by decide +kernel
theorem dL_law_273 : decode cL_law 273 = .ok (.goto 1159, 3) := by decide +kernel
theorem dL_law_276 : decode cL_law 276 = .ok (.aload_n 1, 1) := by decide +kernel
theorem dL_law_277 : decode cL_law 277 = .ok (.aload_n 0, 1) := by decide +kernel
theorem dL_law_278 : decode cL_law 278 = .ok (.iload 4, 2) := by decide +kernel
theorem dL_law_280 : decode cL_law 280 = .ok (.iconst 1, 1) := by decide +kernel
theorem dL_law_281 : decode cL_law 281 = .ok (.iadd, 1) := by decide +kernel
theorem dL_law_282 : decode cL_law 282 = .ok (.iaload, 1) := by decide +kernel
theorem dL_law_283 : decode cL_law 283 = .ok (.aload_n 3, 1) := by decide +kernel
theorem dL_law_284 : decode cL_law 284 = .ok (.invokestatic 100, 3) := by decide +kernel
theorem dL_law_287 : decode cL_law 287 = .ok (.istore 5, 2) := by decide +kernel
theorem dL_law_289 : decode cL_law 289 = .ok (.aload_n 2, 1) := by decide +kernel
theorem dL_law_290 : decode cL_law 290 = .ok (.aload_n 0, 1) := by decide +kernel
theorem dL_law_291 : decode cL_law 291 = .ok (.iload 4, 2) := by decide +kernel
theorem dL_law_293 : decode cL_law 293 = .ok (.iconst 1, 1) := by decide +kernel
theorem dL_law_294 : decode cL_law 294 = .ok (.iadd, 1) := by decide +kernel
theorem dL_law_295 : decode cL_law 295 = .ok (.iaload, 1) := by decide +kernel
theorem dL_law_296 : decode cL_law 296 = .ok (.invokevirtual 102, 3) := by decide +kernel
theorem dL_law_299 : decode cL_law 299 = .ok (.istore 6, 2) := by decide +kernel
theorem dL_law_301 : decode cL_law 301 = .ok (.aload_n 2, 1) := by decide +kernel
theorem dL_law_302 : decode cL_law 302 = .ok (.invokevirtual 93, 3) := by decide +kernel
theorem dL_law_305 : decode cL_law 305 = .ok (.iload 5, 2) := by decide +kernel
theorem dL_law_307 : decode cL_law 307 = .ok (.if_icmp .eq 5, 3) := by decide +kernel
theorem dL_law_310 : decode cL_law 310 = .ok (.iconst 0, 1) := by decide +kernel
theorem dL_law_311 : decode cL_law 311 = .ok (.ireturn, 1) := by decide +kernel
theorem dL_law_312 : decode cL_law 312 = .ok (.iload 5, 2) := by decide +kernel
theorem dL_law_314 : decode cL_law 314 = .ok (.ifCond .ne 15, 3) := by decide +kernel
theorem dL_law_317 : decode cL_law 317 = .ok (.aload_n 3, 1) := by decide +kernel
theorem dL_law_318 : decode cL_law 318 = .ok (.iconst 0, 1) := by decide +kernel
theorem dL_law_319 : decode cL_law 319 = .ok (.laload, 1) := by decide +kernel
theorem dL_law_320 : decode cL_law 320 = .ok (.iload 6, 2) := by decide +kernel
theorem dL_law_322 : decode cL_law 322 = .ok (.i2l, 1) := by decide +kernel
theorem dL_law_323 : decode cL_law 323 = .ok (.lcmp, 1) := by decide +kernel
theorem dL_law_324 : decode cL_law 324 = .ok (.ifCond .eq 5, 3) := by decide +kernel
theorem dL_law_327 : decode cL_law 327 = .ok (.iconst 0, 1) := by decide +kernel
theorem dL_law_328 : decode cL_law 328 = .ok (.ireturn, 1) := by decide +kernel
theorem dL_law_329 : decode cL_law 329 = .ok (.goto 1103, 3) := by decide +kernel
theorem dL_law_332 : decode cL_law 332 = .ok (.aload_n 1, 1) := by decide +kernel
theorem dL_law_333 : decode cL_law 333 = .ok (.aload_n 3, 1) := by decide +kernel
theorem dL_law_334 : decode cL_law 334 = .ok (.invokestatic 103, 3) := by decide +kernel
theorem dL_law_337 : decode cL_law 337 = .ok (.istore 5, 2) := by decide +kernel
theorem dL_law_339 : decode cL_law 339 = .ok (.aload_n 2, 1) := by decide +kernel
theorem dL_law_340 : decode cL_law 340 = .ok (.invokevirtual 106, 3) := by decide +kernel
theorem dL_law_343 : decode cL_law 343 = .ok (.istore 6, 2) := by decide +kernel
theorem dL_law_345 : decode cL_law 345 = .ok (.aload_n 2, 1) := by decide +kernel
theorem dL_law_346 : decode cL_law 346 = .ok (.invokevirtual 93, 3) := by decide +kernel
theorem dL_law_349 : decode cL_law 349 = .ok (.iload 5, 2) := by decide +kernel
theorem dL_law_351 : decode cL_law 351 = .ok (.if_icmp .eq 5, 3) := by decide +kernel
theorem dL_law_354 : decode cL_law 354 = .ok (.iconst 0, 1) := by decide +kernel
theorem dL_law_355 : decode cL_law 355 = .ok (.ireturn, 1) := by decide +kernel
theorem dL_law_356 : decode cL_law 356 = .ok (.iload 5, 2) := by decide +kernel
theorem dL_law_358 : decode cL_law 358 = .ok (.ifCond .ne 15, 3) := by decide +kernel
theorem dL_law_361 : decode cL_law 361 = .ok (.aload_n 3, 1) := by decide +kernel
theorem dL_law_362 : decode cL_law 362 = .ok (.iconst 0, 1) := by decide +kernel
theorem dL_law_363 : decode cL_law 363 = .ok (.laload, 1) := by decide +kernel
theorem dL_law_364 : decode cL_law 364 = .ok (.iload 6, 2) := by decide +kernel
theorem dL_law_366 : decode cL_law 366 = .ok (.i2l, 1) := by decide +kernel
theorem dL_law_367 : decode cL_law 367 = .ok (.lcmp, 1) := by decide +kernel
theorem dL_law_368 : decode cL_law 368 = .ok (.ifCond .eq 5, 3) := by decide +kernel
theorem dL_law_371 : decode cL_law 371 = .ok (.iconst 0, 1) := by decide +kernel
theorem dL_law_372 : decode cL_law 372 = .ok (.ireturn, 1) := by decide +kernel
theorem dL_law_373 : decode cL_law 373 = .ok (.goto 1059, 3) := by decide +kernel
theorem dL_law_376 : decode cL_law 376 = .ok (.aload_n 1, 1) := by decide +kernel
theorem dL_law_377 : decode cL_law 377 = .ok (.aload_n 3, 1) := by decide +kernel
theorem dL_law_378 : decode cL_law 378 = .ok (.invokestatic 107, 3) := by decide +kernel
theorem dL_law_381 : decode cL_law 381 = .ok (.istore 5, 2) := by decide +kernel
theorem dL_law_383 : decode cL_law 383 = .ok (.aload_n 2, 1) := by decide +kernel
theorem dL_law_384 : decode cL_law 384 = .ok (.invokevirtual 109, 3) := by decide +kernel
theorem dL_law_387 : decode cL_law 387 = .ok (.istore 6, 2) := by decide +kernel
theorem dL_law_389 : decode cL_law 389 = .ok (.aload_n 2, 1) := by decide +kernel
theorem dL_law_390 : decode cL_law 390 = .ok (.invokevirtual 93, 3) := by decide +kernel
theorem dL_law_393 : decode cL_law 393 = .ok (.iload 5, 2) := by decide +kernel
theorem dL_law_395 : decode cL_law 395 = .ok (.if_icmp .eq 5, 3) := by decide +kernel
theorem dL_law_398 : decode cL_law 398 = .ok (.iconst 0, 1) := by decide +kernel
theorem dL_law_399 : decode cL_law 399 = .ok (.ireturn, 1) := by decide +kernel
theorem dL_law_400 : decode cL_law 400 = .ok (.iload 5, 2) := by decide +kernel
theorem dL_law_402 : decode cL_law 402 = .ok (.ifCond .ne 15, 3) := by decide +kernel
theorem dL_law_405 : decode cL_law 405 = .ok (.aload_n 3, 1) := by decide +kernel
theorem dL_law_406 : decode cL_law 406 = .ok (.iconst 0, 1) := by decide +kernel
theorem dL_law_407 : decode cL_law 407 = .ok (.laload, 1) := by decide +kernel
theorem dL_law_408 : decode cL_law 408 = .ok (.iload 6, 2) := by decide +kernel
theorem dL_law_410 : decode cL_law 410 = .ok (.i2l, 1) := by decide +kernel
theorem dL_law_411 : decode cL_law 411 = .ok (.lcmp, 1) := by decide +kernel
theorem dL_law_412 : decode cL_law 412 = .ok (.ifCond .eq 5, 3) := by decide +kernel
theorem dL_law_415 : decode cL_law 415 = .ok (.iconst 0, 1) := by decide +kernel
theorem dL_law_416 : decode cL_law 416 = .ok (.ireturn, 1) := by decide +kernel
theorem dL_law_417 : decode cL_law 417 = .ok (.goto 1015, 3) := by decide +kernel
theorem dL_law_420 : decode cL_law 420 = .ok (.aload_n 1, 1) := by decide +kernel
theorem dL_law_421 : decode cL_law 421 = .ok (.aload_n 0, 1) := by decide +kernel
theorem dL_law_422 : decode cL_law 422 = .ok (.iload 4, 2) := by decide +kernel
theorem dL_law_424 : decode cL_law 424 = .ok (.iconst 1, 1) := by decide +kernel
theorem dL_law_425 : decode cL_law 425 = .ok (.iadd, 1) := by decide +kernel
theorem dL_law_426 : decode cL_law 426 = .ok (.iaload, 1) := by decide +kernel
theorem dL_law_427 : decode cL_law 427 = .ok (.aload_n 3, 1) := by decide +kernel
theorem dL_law_428 : decode cL_law 428 = .ok (.invokestatic 110, 3) := by decide +kernel
theorem dL_law_431 : decode cL_law 431 = .ok (.istore 5, 2) := by decide +kernel
theorem dL_law_433 : decode cL_law 433 = .ok (.aload_n 2, 1) := by decide +kernel
theorem dL_law_434 : decode cL_law 434 = .ok (.aload_n 0, 1) := by decide +kernel
theorem dL_law_435 : decode cL_law 435 = .ok (.iload 4, 2) := by decide +kernel
theorem dL_law_437 : decode cL_law 437 = .ok (.iconst 1, 1) := by decide +kernel
theorem dL_law_438 : decode cL_law 438 = .ok (.iadd, 1) := by decide +kernel
theorem dL_law_439 : decode cL_law 439 = .ok (.iaload, 1) := by decide +kernel
theorem dL_law_440 : decode cL_law 440 = .ok (.invokevirtual 112, 3) := by decide +kernel
theorem dL_law_443 : decode cL_law 443 = .ok (.istore 6, 2) := by decide +kernel
theorem dL_law_445 : decode cL_law 445 = .ok (.aload_n 2, 1) := by decide +kernel
theorem dL_law_446 : decode cL_law 446 = .ok (.invokevirtual 93, 3) := by decide +kernel
theorem dL_law_449 : decode cL_law 449 = .ok (.iload 5, 2) := by decide +kernel
theorem dL_law_451 : decode cL_law 451 = .ok (.if_icmp .eq 5, 3) := by decide +kernel
theorem dL_law_454 : decode cL_law 454 = .ok (.iconst 0, 1) := by decide +kernel
theorem dL_law_455 : decode cL_law 455 = .ok (.ireturn, 1) := by decide +kernel
theorem dL_law_456 : decode cL_law 456 = .ok (.iload 5, 2) := by decide +kernel
theorem dL_law_458 : decode cL_law 458 = .ok (.ifCond .ne 15, 3) := by decide +kernel
theorem dL_law_461 : decode cL_law 461 = .ok (.aload_n 3, 1) := by decide +kernel
theorem dL_law_462 : decode cL_law 462 = .ok (.iconst 0, 1) := by decide +kernel
theorem dL_law_463 : decode cL_law 463 = .ok (.laload, 1) := by decide +kernel
theorem dL_law_464 : decode cL_law 464 = .ok (.iload 6, 2) := by decide +kernel
theorem dL_law_466 : decode cL_law 466 = .ok (.i2l, 1) := by decide +kernel
theorem dL_law_467 : decode cL_law 467 = .ok (.lcmp, 1) := by decide +kernel
theorem dL_law_468 : decode cL_law 468 = .ok (.ifCond .eq 5, 3) := by decide +kernel
theorem dL_law_471 : decode cL_law 471 = .ok (.iconst 0, 1) := by decide +kernel
theorem dL_law_472 : decode cL_law 472 = .ok (.ireturn, 1) := by decide +kernel
theorem dL_law_473 : decode cL_law 473 = .ok (.goto 959, 3) := by decide +kernel
theorem dL_law_476 : decode cL_law 476 = .ok (.aload_n 1, 1) := by decide +kernel
theorem dL_law_477 : decode cL_law 477 = .ok (.aload_n 0, 1) := by decide +kernel
theorem dL_law_478 : decode cL_law 478 = .ok (.iload 4, 2) := by decide +kernel
theorem dL_law_480 : decode cL_law 480 = .ok (.iconst 1, 1) := by decide +kernel
theorem dL_law_481 : decode cL_law 481 = .ok (.iadd, 1) := by decide +kernel
theorem dL_law_482 : decode cL_law 482 = .ok (.iaload, 1) := by decide +kernel
theorem dL_law_483 : decode cL_law 483 = .ok (.aload_n 3, 1) := by decide +kernel
theorem dL_law_484 : decode cL_law 484 = .ok (.invokestatic 113, 3) := by decide +kernel
theorem dL_law_487 : decode cL_law 487 = .ok (.istore 5, 2) := by decide +kernel
theorem dL_law_489 : decode cL_law 489 = .ok (.aload_n 2, 1) := by decide +kernel
theorem dL_law_490 : decode cL_law 490 = .ok (.aload_n 0, 1) := by decide +kernel
theorem dL_law_491 : decode cL_law 491 = .ok (.iload 4, 2) := by decide +kernel
theorem dL_law_493 : decode cL_law 493 = .ok (.iconst 1, 1) := by decide +kernel
theorem dL_law_494 : decode cL_law 494 = .ok (.iadd, 1) := by decide +kernel
theorem dL_law_495 : decode cL_law 495 = .ok (.iaload, 1) := by decide +kernel
theorem dL_law_496 : decode cL_law 496 = .ok (.invokevirtual 115, 3) := by decide +kernel
theorem dL_law_499 : decode cL_law 499 = .ok (.istore 6, 2) := by decide +kernel
theorem dL_law_501 : decode cL_law 501 = .ok (.aload_n 2, 1) := by decide +kernel
theorem dL_law_502 : decode cL_law 502 = .ok (.invokevirtual 93, 3) := by decide +kernel
theorem dL_law_505 : decode cL_law 505 = .ok (.iload 5, 2) := by decide +kernel
theorem dL_law_507 : decode cL_law 507 = .ok (.if_icmp .eq 5, 3) := by decide +kernel
theorem dL_law_510 : decode cL_law 510 = .ok (.iconst 0, 1) := by decide +kernel
theorem dL_law_511 : decode cL_law 511 = .ok (.ireturn, 1) := by decide +kernel
theorem dL_law_512 : decode cL_law 512 = .ok (.iload 5, 2) := by decide +kernel
theorem dL_law_514 : decode cL_law 514 = .ok (.ifCond .ne 15, 3) := by decide +kernel
theorem dL_law_517 : decode cL_law 517 = .ok (.aload_n 3, 1) := by decide +kernel
theorem dL_law_518 : decode cL_law 518 = .ok (.iconst 0, 1) := by decide +kernel
theorem dL_law_519 : decode cL_law 519 = .ok (.laload, 1) := by decide +kernel
theorem dL_law_520 : decode cL_law 520 = .ok (.iload 6, 2) := by decide +kernel
theorem dL_law_522 : decode cL_law 522 = .ok (.i2l, 1) := by decide +kernel
theorem dL_law_523 : decode cL_law 523 = .ok (.lcmp, 1) := by decide +kernel
theorem dL_law_524 : decode cL_law 524 = .ok (.ifCond .eq 5, 3) := by decide +kernel
theorem dL_law_527 : decode cL_law 527 = .ok (.iconst 0, 1) := by decide +kernel
theorem dL_law_528 : decode cL_law 528 = .ok (.ireturn, 1) := by decide +kernel
theorem dL_law_529 : decode cL_law 529 = .ok (.goto 903, 3) := by decide +kernel
theorem dL_law_532 : decode cL_law 532 = .ok (.aload_n 1, 1) := by decide +kernel
theorem dL_law_533 : decode cL_law 533 = .ok (.aload_n 0, 1) := by decide +kernel
theorem dL_law_534 : decode cL_law 534 = .ok (.iload 4, 2) := by decide +kernel
theorem dL_law_536 : decode cL_law 536 = .ok (.iconst 1, 1) := by decide +kernel
theorem dL_law_537 : decode cL_law 537 = .ok (.iadd, 1) := by decide +kernel
theorem dL_law_538 : decode cL_law 538 = .ok (.iaload, 1) := by decide +kernel
theorem dL_law_539 : decode cL_law 539 = .ok (.aload_n 0, 1) := by decide +kernel
theorem dL_law_540 : decode cL_law 540 = .ok (.iload 4, 2) := by decide +kernel
theorem dL_law_542 : decode cL_law 542 = .ok (.iconst 2, 1) := by decide +kernel
theorem dL_law_543 : decode cL_law 543 = .ok (.iadd, 1) := by decide +kernel
theorem dL_law_544 : decode cL_law 544 = .ok (.iaload, 1) := by decide +kernel
theorem dL_law_545 : decode cL_law 545 = .ok (.aload_n 0, 1) := by decide +kernel
theorem dL_law_546 : decode cL_law 546 = .ok (.iload 4, 2) := by decide +kernel
theorem dL_law_548 : decode cL_law 548 = .ok (.iconst 3, 1) := by decide +kernel
theorem dL_law_549 : decode cL_law 549 = .ok (.iadd, 1) := by decide +kernel
theorem dL_law_550 : decode cL_law 550 = .ok (.iaload, 1) := by decide +kernel
theorem dL_law_551 : decode cL_law 551 = .ok (.aload_n 3, 1) := by decide +kernel
theorem dL_law_552 : decode cL_law 552 = .ok (.invokestatic 116, 3) := by decide +kernel
theorem dL_law_555 : decode cL_law 555 = .ok (.istore 5, 2) := by decide +kernel
theorem dL_law_557 : decode cL_law 557 = .ok (.aload_n 2, 1) := by decide +kernel
theorem dL_law_558 : decode cL_law 558 = .ok (.aload_n 0, 1) := by decide +kernel
theorem dL_law_559 : decode cL_law 559 = .ok (.iload 4, 2) := by decide +kernel
theorem dL_law_561 : decode cL_law 561 = .ok (.iconst 1, 1) := by decide +kernel
theorem dL_law_562 : decode cL_law 562 = .ok (.iadd, 1) := by decide +kernel
theorem dL_law_563 : decode cL_law 563 = .ok (.iaload, 1) := by decide +kernel
theorem dL_law_564 : decode cL_law 564 = .ok (.aload_n 0, 1) := by decide +kernel
theorem dL_law_565 : decode cL_law 565 = .ok (.iload 4, 2) := by decide +kernel
theorem dL_law_567 : decode cL_law 567 = .ok (.iconst 2, 1) := by decide +kernel
theorem dL_law_568 : decode cL_law 568 = .ok (.iadd, 1) := by decide +kernel
theorem dL_law_569 : decode cL_law 569 = .ok (.iaload, 1) := by decide +kernel
theorem dL_law_570 : decode cL_law 570 = .ok (.aload_n 0, 1) := by decide +kernel
theorem dL_law_571 : decode cL_law 571 = .ok (.iload 4, 2) := by decide +kernel
theorem dL_law_573 : decode cL_law 573 = .ok (.iconst 3, 1) := by decide +kernel
theorem dL_law_574 : decode cL_law 574 = .ok (.iadd, 1) := by decide +kernel
theorem dL_law_575 : decode cL_law 575 = .ok (.iaload, 1) := by decide +kernel
theorem dL_law_576 : decode cL_law 576 = .ok (.invokevirtual 118, 3) := by decide +kernel
theorem dL_law_579 : decode cL_law 579 = .ok (.istore 6, 2) := by decide +kernel
theorem dL_law_581 : decode cL_law 581 = .ok (.aload_n 2, 1) := by decide +kernel
theorem dL_law_582 : decode cL_law 582 = .ok (.invokevirtual 93, 3) := by decide +kernel
theorem dL_law_585 : decode cL_law 585 = .ok (.iload 5, 2) := by decide +kernel
theorem dL_law_587 : decode cL_law 587 = .ok (.if_icmp .eq 5, 3) := by decide +kernel
theorem dL_law_590 : decode cL_law 590 = .ok (.iconst 0, 1) := by decide +kernel
theorem dL_law_591 : decode cL_law 591 = .ok (.ireturn, 1) := by decide +kernel
theorem dL_law_592 : decode cL_law 592 = .ok (.iload 5, 2) := by decide +kernel
theorem dL_law_594 : decode cL_law 594 = .ok (.ifCond .ne 15, 3) := by decide +kernel
theorem dL_law_597 : decode cL_law 597 = .ok (.aload_n 3, 1) := by decide +kernel
theorem dL_law_598 : decode cL_law 598 = .ok (.iconst 0, 1) := by decide +kernel
theorem dL_law_599 : decode cL_law 599 = .ok (.laload, 1) := by decide +kernel
theorem dL_law_600 : decode cL_law 600 = .ok (.iload 6, 2) := by decide +kernel
theorem dL_law_602 : decode cL_law 602 = .ok (.i2l, 1) := by decide +kernel
theorem dL_law_603 : decode cL_law 603 = .ok (.lcmp, 1) := by decide +kernel
theorem dL_law_604 : decode cL_law 604 = .ok (.ifCond .eq 5, 3) := by decide +kernel
theorem dL_law_607 : decode cL_law 607 = .ok (.iconst 0, 1) := by decide +kernel
theorem dL_law_608 : decode cL_law 608 = .ok (.ireturn, 1) := by decide +kernel
theorem dL_law_609 : decode cL_law 609 = .ok (.goto 823, 3) := by decide +kernel
theorem dL_law_612 : decode cL_law 612 = .ok (.aload_n 1, 1) := by decide +kernel
theorem dL_law_613 : decode cL_law 613 = .ok (.aload_n 0, 1) := by decide +kernel
theorem dL_law_614 : decode cL_law 614 = .ok (.iload 4, 2) := by decide +kernel
theorem dL_law_616 : decode cL_law 616 = .ok (.iconst 1, 1) := by decide +kernel
theorem dL_law_617 : decode cL_law 617 = .ok (.iadd, 1) := by decide +kernel
theorem dL_law_618 : decode cL_law 618 = .ok (.iaload, 1) := by decide +kernel
theorem dL_law_619 : decode cL_law 619 = .ok (.aload_n 0, 1) := by decide +kernel
theorem dL_law_620 : decode cL_law 620 = .ok (.iload 4, 2) := by decide +kernel
theorem dL_law_622 : decode cL_law 622 = .ok (.iconst 2, 1) := by decide +kernel
theorem dL_law_623 : decode cL_law 623 = .ok (.iadd, 1) := by decide +kernel
theorem dL_law_624 : decode cL_law 624 = .ok (.iaload, 1) := by decide +kernel
theorem dL_law_625 : decode cL_law 625 = .ok (.aload_n 3, 1) := by decide +kernel
theorem dL_law_626 : decode cL_law 626 = .ok (.invokestatic 119, 3) := by decide +kernel
theorem dL_law_629 : decode cL_law 629 = .ok (.istore 5, 2) := by decide +kernel
theorem dL_law_631 : decode cL_law 631 = .ok (.aload_n 2, 1) := by decide +kernel
theorem dL_law_632 : decode cL_law 632 = .ok (.aload_n 0, 1) := by decide +kernel
theorem dL_law_633 : decode cL_law 633 = .ok (.iload 4, 2) := by decide +kernel
theorem dL_law_635 : decode cL_law 635 = .ok (.iconst 1, 1) := by decide +kernel
theorem dL_law_636 : decode cL_law 636 = .ok (.iadd, 1) := by decide +kernel
theorem dL_law_637 : decode cL_law 637 = .ok (.iaload, 1) := by decide +kernel
theorem dL_law_638 : decode cL_law 638 = .ok (.aload_n 0, 1) := by decide +kernel
theorem dL_law_639 : decode cL_law 639 = .ok (.iload 4, 2) := by decide +kernel
theorem dL_law_641 : decode cL_law 641 = .ok (.iconst 2, 1) := by decide +kernel
theorem dL_law_642 : decode cL_law 642 = .ok (.iadd, 1) := by decide +kernel
theorem dL_law_643 : decode cL_law 643 = .ok (.iaload, 1) := by decide +kernel
theorem dL_law_644 : decode cL_law 644 = .ok (.invokevirtual 122, 3) := by decide +kernel
theorem dL_law_647 : decode cL_law 647 = .ok (.istore 6, 2) := by decide +kernel
theorem dL_law_649 : decode cL_law 649 = .ok (.aload_n 2, 1) := by decide +kernel
theorem dL_law_650 : decode cL_law 650 = .ok (.invokevirtual 93, 3) := by decide +kernel
theorem dL_law_653 : decode cL_law 653 = .ok (.iload 5, 2) := by decide +kernel
theorem dL_law_655 : decode cL_law 655 = .ok (.if_icmp .eq 5, 3) := by decide +kernel
theorem dL_law_658 : decode cL_law 658 = .ok (.iconst 0, 1) := by decide +kernel
theorem dL_law_659 : decode cL_law 659 = .ok (.ireturn, 1) := by decide +kernel
theorem dL_law_660 : decode cL_law 660 = .ok (.iload 5, 2) := by decide +kernel
theorem dL_law_662 : decode cL_law 662 = .ok (.ifCond .ne 15, 3) := by decide +kernel
theorem dL_law_665 : decode cL_law 665 = .ok (.aload_n 3, 1) := by decide +kernel
theorem dL_law_666 : decode cL_law 666 = .ok (.iconst 0, 1) := by decide +kernel
theorem dL_law_667 : decode cL_law 667 = .ok (.laload, 1) := by decide +kernel
theorem dL_law_668 : decode cL_law 668 = .ok (.iload 6, 2) := by decide +kernel
theorem dL_law_670 : decode cL_law 670 = .ok (.i2l, 1) := by decide +kernel
theorem dL_law_671 : decode cL_law 671 = .ok (.lcmp, 1) := by decide +kernel
theorem dL_law_672 : decode cL_law 672 = .ok (.ifCond .eq 5, 3) := by decide +kernel
theorem dL_law_675 : decode cL_law 675 = .ok (.iconst 0, 1) := by decide +kernel
theorem dL_law_676 : decode cL_law 676 = .ok (.ireturn, 1) := by decide +kernel
theorem dL_law_677 : decode cL_law 677 = .ok (.goto 755, 3) := by decide +kernel
theorem dL_law_680 : decode cL_law 680 = .ok (.aload_n 1, 1) := by decide +kernel
theorem dL_law_681 : decode cL_law 681 = .ok (.invokevirtual 123, 3) := by decide +kernel
theorem dL_law_684 : decode cL_law 684 = .ok (.aload_n 2, 1) := by decide +kernel
theorem dL_law_685 : decode cL_law 685 = .ok (.invokevirtual 126, 3) := by decide +kernel
theorem dL_law_688 : decode cL_law 688 = .ok (.if_icmp .eq 744, 3) := by decide +kernel
theorem dL_law_691 : decode cL_law 691 = .ok (.iconst 0, 1) := by decide +kernel
theorem dL_law_692 : decode cL_law 692 = .ok (.ireturn, 1) := by decide +kernel
theorem dL_law_693 : decode cL_law 693 = .ok (.aload_n 1, 1) := by decide +kernel
theorem dL_law_694 : decode cL_law 694 = .ok (.aload_n 0, 1) := by decide +kernel
theorem dL_law_695 : decode cL_law 695 = .ok (.iload 4, 2) := by decide +kernel
theorem dL_law_697 : decode cL_law 697 = .ok (.iconst 1, 1) := by decide +kernel
theorem dL_law_698 : decode cL_law 698 = .ok (.iadd, 1) := by decide +kernel
theorem dL_law_699 : decode cL_law 699 = .ok (.iaload, 1) := by decide +kernel
theorem dL_law_700 : decode cL_law 700 = .ok (.aload_n 3, 1) := by decide +kernel
theorem dL_law_701 : decode cL_law 701 = .ok (.invokestatic 127, 3) := by decide +kernel
theorem dL_law_704 : decode cL_law 704 = .ok (.istore 5, 2) := by decide +kernel
theorem dL_law_706 : decode cL_law 706 = .ok (.aload_n 2, 1) := by decide +kernel
theorem dL_law_707 : decode cL_law 707 = .ok (.aload_n 0, 1) := by decide +kernel
theorem dL_law_708 : decode cL_law 708 = .ok (.iload 4, 2) := by decide +kernel
theorem dL_law_710 : decode cL_law 710 = .ok (.iconst 1, 1) := by decide +kernel
theorem dL_law_711 : decode cL_law 711 = .ok (.iadd, 1) := by decide +kernel
theorem dL_law_712 : decode cL_law 712 = .ok (.iaload, 1) := by decide +kernel
theorem dL_law_713 : decode cL_law 713 = .ok (.invokevirtual 129, 3) := by decide +kernel
theorem dL_law_716 : decode cL_law 716 = .ok (.istore 6, 2) := by decide +kernel
theorem dL_law_718 : decode cL_law 718 = .ok (.aload_n 2, 1) := by decide +kernel
theorem dL_law_719 : decode cL_law 719 = .ok (.invokevirtual 93, 3) := by decide +kernel
theorem dL_law_722 : decode cL_law 722 = .ok (.iload 5, 2) := by decide +kernel
theorem dL_law_724 : decode cL_law 724 = .ok (.if_icmp .eq 5, 3) := by decide +kernel
theorem dL_law_727 : decode cL_law 727 = .ok (.iconst 0, 1) := by decide +kernel
theorem dL_law_728 : decode cL_law 728 = .ok (.ireturn, 1) := by decide +kernel
theorem dL_law_729 : decode cL_law 729 = .ok (.iload 5, 2) := by decide +kernel
theorem dL_law_731 : decode cL_law 731 = .ok (.ifCond .ne 22, 3) := by decide +kernel
theorem dL_law_734 : decode cL_law 734 = .ok (.aload_n 3, 1) := by decide +kernel
theorem dL_law_735 : decode cL_law 735 = .ok (.iconst 0, 1) := by decide +kernel
theorem dL_law_736 : decode cL_law 736 = .ok (.laload, 1) := by decide +kernel
theorem dL_law_737 : decode cL_law 737 = .ok (.iload 6, 2) := by decide +kernel
theorem dL_law_739 : decode cL_law 739 = .ok (.ifCond .eq 7, 3) := by decide +kernel
theorem dL_law_742 : decode cL_law 742 = .ok (.lconst 1, 1) := by decide +kernel
theorem dL_law_743 : decode cL_law 743 = .ok (.goto 4, 3) := by decide +kernel
theorem dL_law_746 : decode cL_law 746 = .ok (.lconst 0, 1) := by decide +kernel
theorem dL_law_747 : decode cL_law 747 = .ok (.lcmp, 1) := by decide +kernel
theorem dL_law_748 : decode cL_law 748 = .ok (.ifCond .eq 5, 3) := by decide +kernel
theorem dL_law_751 : decode cL_law 751 = .ok (.iconst 0, 1) := by decide +kernel
theorem dL_law_752 : decode cL_law 752 = .ok (.ireturn, 1) := by decide +kernel
theorem dL_law_753 : decode cL_law 753 = .ok (.goto 679, 3) := by decide +kernel
theorem dL_law_756 : decode cL_law 756 = .ok (.aload_n 1, 1) := by decide +kernel
theorem dL_law_757 : decode cL_law 757 = .ok (.aload_n 0, 1) := by decide +kernel
theorem dL_law_758 : decode cL_law 758 = .ok (.iload 4, 2) := by decide +kernel
theorem dL_law_760 : decode cL_law 760 = .ok (.iconst 1, 1) := by decide +kernel
theorem dL_law_761 : decode cL_law 761 = .ok (.iadd, 1) := by decide +kernel
theorem dL_law_762 : decode cL_law 762 = .ok (.iaload, 1) := by decide +kernel
theorem dL_law_763 : decode cL_law 763 = .ok (.aload_n 3, 1) := by decide +kernel
theorem dL_law_764 : decode cL_law 764 = .ok (.invokestatic 130, 3) := by decide +kernel
theorem dL_law_767 : decode cL_law 767 = .ok (.istore 5, 2) := by decide +kernel
theorem dL_law_769 : decode cL_law 769 = .ok (.aload_n 2, 1) := by decide +kernel
theorem dL_law_770 : decode cL_law 770 = .ok (.aload_n 0, 1) := by decide +kernel
theorem dL_law_771 : decode cL_law 771 = .ok (.iload 4, 2) := by decide +kernel
theorem dL_law_773 : decode cL_law 773 = .ok (.iconst 1, 1) := by decide +kernel
theorem dL_law_774 : decode cL_law 774 = .ok (.iadd, 1) := by decide +kernel
theorem dL_law_775 : decode cL_law 775 = .ok (.iaload, 1) := by decide +kernel
theorem dL_law_776 : decode cL_law 776 = .ok (.invokevirtual 132, 3) := by decide +kernel
theorem dL_law_779 : decode cL_law 779 = .ok (.istore 6, 2) := by decide +kernel
theorem dL_law_781 : decode cL_law 781 = .ok (.aload_n 2, 1) := by decide +kernel
theorem dL_law_782 : decode cL_law 782 = .ok (.invokevirtual 93, 3) := by decide +kernel
theorem dL_law_785 : decode cL_law 785 = .ok (.iload 5, 2) := by decide +kernel
theorem dL_law_787 : decode cL_law 787 = .ok (.if_icmp .eq 5, 3) := by decide +kernel
theorem dL_law_790 : decode cL_law 790 = .ok (.iconst 0, 1) := by decide +kernel
theorem dL_law_791 : decode cL_law 791 = .ok (.ireturn, 1) := by decide +kernel
theorem dL_law_792 : decode cL_law 792 = .ok (.iload 5, 2) := by decide +kernel
theorem dL_law_794 : decode cL_law 794 = .ok (.ifCond .ne 15, 3) := by decide +kernel
theorem dL_law_797 : decode cL_law 797 = .ok (.aload_n 3, 1) := by decide +kernel
theorem dL_law_798 : decode cL_law 798 = .ok (.iconst 0, 1) := by decide +kernel
theorem dL_law_799 : decode cL_law 799 = .ok (.laload, 1) := by decide +kernel
theorem dL_law_800 : decode cL_law 800 = .ok (.iload 6, 2) := by decide +kernel
theorem dL_law_802 : decode cL_law 802 = .ok (.i2l, 1) := by decide +kernel
theorem dL_law_803 : decode cL_law 803 = .ok (.lcmp, 1) := by decide +kernel
theorem dL_law_804 : decode cL_law 804 = .ok (.ifCond .eq 5, 3) := by decide +kernel
theorem dL_law_807 : decode cL_law 807 = .ok (.iconst 0, 1) := by decide +kernel
theorem dL_law_808 : decode cL_law 808 = .ok (.ireturn, 1) := by decide +kernel
theorem dL_law_809 : decode cL_law 809 = .ok (.goto 623, 3) := by decide +kernel
theorem dL_law_812 : decode cL_law 812 = .ok (.aload_n 1, 1) := by decide +kernel
theorem dL_law_813 : decode cL_law 813 = .ok (.aload_n 0, 1) := by decide +kernel
theorem dL_law_814 : decode cL_law 814 = .ok (.iload 4, 2) := by decide +kernel
theorem dL_law_816 : decode cL_law 816 = .ok (.iconst 1, 1) := by decide +kernel
theorem dL_law_817 : decode cL_law 817 = .ok (.iadd, 1) := by decide +kernel
theorem dL_law_818 : decode cL_law 818 = .ok (.iaload, 1) := by decide +kernel
theorem dL_law_819 : decode cL_law 819 = .ok (.aload_n 3, 1) := by decide +kernel
theorem dL_law_820 : decode cL_law 820 = .ok (.invokestatic 133, 3) := by decide +kernel
theorem dL_law_823 : decode cL_law 823 = .ok (.istore 5, 2) := by decide +kernel
theorem dL_law_825 : decode cL_law 825 = .ok (.aload_n 2, 1) := by decide +kernel
theorem dL_law_826 : decode cL_law 826 = .ok (.aload_n 0, 1) := by decide +kernel
theorem dL_law_827 : decode cL_law 827 = .ok (.iload 4, 2) := by decide +kernel
theorem dL_law_829 : decode cL_law 829 = .ok (.iconst 1, 1) := by decide +kernel
theorem dL_law_830 : decode cL_law 830 = .ok (.iadd, 1) := by decide +kernel
theorem dL_law_831 : decode cL_law 831 = .ok (.iaload, 1) := by decide +kernel
theorem dL_law_832 : decode cL_law 832 = .ok (.invokevirtual 135, 3) := by decide +kernel
theorem dL_law_835 : decode cL_law 835 = .ok (.istore 6, 2) := by decide +kernel
theorem dL_law_837 : decode cL_law 837 = .ok (.aload_n 2, 1) := by decide +kernel
theorem dL_law_838 : decode cL_law 838 = .ok (.invokevirtual 93, 3) := by decide +kernel
theorem dL_law_841 : decode cL_law 841 = .ok (.iload 5, 2) := by decide +kernel
theorem dL_law_843 : decode cL_law 843 = .ok (.if_icmp .eq 5, 3) := by decide +kernel
theorem dL_law_846 : decode cL_law 846 = .ok (.iconst 0, 1) := by decide +kernel
theorem dL_law_847 : decode cL_law 847 = .ok (.ireturn, 1) := by decide +kernel
theorem dL_law_848 : decode cL_law 848 = .ok (.iload 5, 2) := by decide +kernel
theorem dL_law_850 : decode cL_law 850 = .ok (.ifCond .ne 15, 3) := by decide +kernel
theorem dL_law_853 : decode cL_law 853 = .ok (.aload_n 3, 1) := by decide +kernel
theorem dL_law_854 : decode cL_law 854 = .ok (.iconst 0, 1) := by decide +kernel
theorem dL_law_855 : decode cL_law 855 = .ok (.laload, 1) := by decide +kernel
theorem dL_law_856 : decode cL_law 856 = .ok (.iload 6, 2) := by decide +kernel
theorem dL_law_858 : decode cL_law 858 = .ok (.i2l, 1) := by decide +kernel
theorem dL_law_859 : decode cL_law 859 = .ok (.lcmp, 1) := by decide +kernel
theorem dL_law_860 : decode cL_law 860 = .ok (.ifCond .eq 5, 3) := by decide +kernel
theorem dL_law_863 : decode cL_law 863 = .ok (.iconst 0, 1) := by decide +kernel
theorem dL_law_864 : decode cL_law 864 = .ok (.ireturn, 1) := by decide +kernel
theorem dL_law_865 : decode cL_law 865 = .ok (.goto 567, 3) := by decide +kernel
theorem dL_law_868 : decode cL_law 868 = .ok (.aload_n 1, 1) := by decide +kernel
theorem dL_law_869 : decode cL_law 869 = .ok (.aload_n 0, 1) := by decide +kernel
theorem dL_law_870 : decode cL_law 870 = .ok (.iload 4, 2) := by decide +kernel
theorem dL_law_872 : decode cL_law 872 = .ok (.iconst 1, 1) := by decide +kernel
theorem dL_law_873 : decode cL_law 873 = .ok (.iadd, 1) := by decide +kernel
theorem dL_law_874 : decode cL_law 874 = .ok (.iaload, 1) := by decide +kernel
theorem dL_law_875 : decode cL_law 875 = .ok (.aload_n 3, 1) := by decide +kernel
theorem dL_law_876 : decode cL_law 876 = .ok (.invokestatic 136, 3) := by decide +kernel
theorem dL_law_879 : decode cL_law 879 = .ok (.istore 5, 2) := by decide +kernel
theorem dL_law_881 : decode cL_law 881 = .ok (.aload_n 2, 1) := by decide +kernel
theorem dL_law_882 : decode cL_law 882 = .ok (.aload_n 0, 1) := by decide +kernel
theorem dL_law_883 : decode cL_law 883 = .ok (.iload 4, 2) := by decide +kernel
theorem dL_law_885 : decode cL_law 885 = .ok (.iconst 1, 1) := by decide +kernel
theorem dL_law_886 : decode cL_law 886 = .ok (.iadd, 1) := by decide +kernel
theorem dL_law_887 : decode cL_law 887 = .ok (.iaload, 1) := by decide +kernel
theorem dL_law_888 : decode cL_law 888 = .ok (.invokevirtual 138, 3) := by decide +kernel
theorem dL_law_891 : decode cL_law 891 = .ok (.istore 6, 2) := by decide +kernel
theorem dL_law_893 : decode cL_law 893 = .ok (.aload_n 2, 1) := by decide +kernel
theorem dL_law_894 : decode cL_law 894 = .ok (.invokevirtual 93, 3) := by decide +kernel
theorem dL_law_897 : decode cL_law 897 = .ok (.iload 5, 2) := by decide +kernel
theorem dL_law_899 : decode cL_law 899 = .ok (.if_icmp .eq 5, 3) := by decide +kernel
theorem dL_law_902 : decode cL_law 902 = .ok (.iconst 0, 1) := by decide +kernel
theorem dL_law_903 : decode cL_law 903 = .ok (.ireturn, 1) := by decide +kernel
theorem dL_law_904 : decode cL_law 904 = .ok (.iload 5, 2) := by decide +kernel
theorem dL_law_906 : decode cL_law 906 = .ok (.ifCond .ne 15, 3) := by decide +kernel
theorem dL_law_909 : decode cL_law 909 = .ok (.aload_n 3, 1) := by decide +kernel
theorem dL_law_910 : decode cL_law 910 = .ok (.iconst 0, 1) := by decide +kernel
theorem dL_law_911 : decode cL_law 911 = .ok (.laload, 1) := by decide +kernel
theorem dL_law_912 : decode cL_law 912 = .ok (.iload 6, 2) := by decide +kernel
theorem dL_law_914 : decode cL_law 914 = .ok (.i2l, 1) := by decide +kernel
theorem dL_law_915 : decode cL_law 915 = .ok (.lcmp, 1) := by decide +kernel
theorem dL_law_916 : decode cL_law 916 = .ok (.ifCond .eq 5, 3) := by decide +kernel
theorem dL_law_919 : decode cL_law 919 = .ok (.iconst 0, 1) := by decide +kernel
theorem dL_law_920 : decode cL_law 920 = .ok (.ireturn, 1) := by decide +kernel
theorem dL_law_921 : decode cL_law 921 = .ok (.goto 511, 3) := by decide +kernel
theorem dL_law_924 : decode cL_law 924 = .ok (.aload_n 1, 1) := by decide +kernel
theorem dL_law_925 : decode cL_law 925 = .ok (.aload_n 0, 1) := by decide +kernel
theorem dL_law_926 : decode cL_law 926 = .ok (.iload 4, 2) := by decide +kernel
theorem dL_law_928 : decode cL_law 928 = .ok (.iconst 1, 1) := by decide +kernel
theorem dL_law_929 : decode cL_law 929 = .ok (.iadd, 1) := by decide +kernel
theorem dL_law_930 : decode cL_law 930 = .ok (.iaload, 1) := by decide +kernel
theorem dL_law_931 : decode cL_law 931 = .ok (.aload_n 0, 1) := by decide +kernel
theorem dL_law_932 : decode cL_law 932 = .ok (.iload 4, 2) := by decide +kernel
theorem dL_law_934 : decode cL_law 934 = .ok (.iconst 2, 1) := by decide +kernel
theorem dL_law_935 : decode cL_law 935 = .ok (.iadd, 1) := by decide +kernel
theorem dL_law_936 : decode cL_law 936 = .ok (.iaload, 1) := by decide +kernel
theorem dL_law_937 : decode cL_law 937 = .ok (.aload_n 0, 1) := by decide +kernel
theorem dL_law_938 : decode cL_law 938 = .ok (.iload 4, 2) := by decide +kernel
theorem dL_law_940 : decode cL_law 940 = .ok (.iconst 3, 1) := by decide +kernel
theorem dL_law_941 : decode cL_law 941 = .ok (.iadd, 1) := by decide +kernel
theorem dL_law_942 : decode cL_law 942 = .ok (.iaload, 1) := by decide +kernel
theorem dL_law_943 : decode cL_law 943 = .ok (.aload_n 0, 1) := by decide +kernel
theorem dL_law_944 : decode cL_law 944 = .ok (.iload 4, 2) := by decide +kernel
theorem dL_law_946 : decode cL_law 946 = .ok (.iconst 4, 1) := by decide +kernel
theorem dL_law_947 : decode cL_law 947 = .ok (.iadd, 1) := by decide +kernel
theorem dL_law_948 : decode cL_law 948 = .ok (.iaload, 1) := by decide +kernel
theorem dL_law_949 : decode cL_law 949 = .ok (.aload_n 0, 1) := by decide +kernel
theorem dL_law_950 : decode cL_law 950 = .ok (.iload 4, 2) := by decide +kernel
theorem dL_law_952 : decode cL_law 952 = .ok (.iconst 5, 1) := by decide +kernel
theorem dL_law_953 : decode cL_law 953 = .ok (.iadd, 1) := by decide +kernel
theorem dL_law_954 : decode cL_law 954 = .ok (.iaload, 1) := by decide +kernel
theorem dL_law_955 : decode cL_law 955 = .ok (.aload_n 3, 1) := by decide +kernel
theorem dL_law_956 : decode cL_law 956 = .ok (.invokestatic 139, 3) := by decide +kernel
theorem dL_law_959 : decode cL_law 959 = .ok (.istore 5, 2) := by decide +kernel
theorem dL_law_961 : decode cL_law 961 = .ok (.aload_n 2, 1) := by decide +kernel
theorem dL_law_962 : decode cL_law 962 = .ok (.aload_n 0, 1) := by decide +kernel
theorem dL_law_963 : decode cL_law 963 = .ok (.iload 4, 2) := by decide +kernel
theorem dL_law_965 : decode cL_law 965 = .ok (.iconst 1, 1) := by decide +kernel
theorem dL_law_966 : decode cL_law 966 = .ok (.iadd, 1) := by decide +kernel
theorem dL_law_967 : decode cL_law 967 = .ok (.iaload, 1) := by decide +kernel
theorem dL_law_968 : decode cL_law 968 = .ok (.aload_n 0, 1) := by decide +kernel
theorem dL_law_969 : decode cL_law 969 = .ok (.iload 4, 2) := by decide +kernel
theorem dL_law_971 : decode cL_law 971 = .ok (.iconst 2, 1) := by decide +kernel
theorem dL_law_972 : decode cL_law 972 = .ok (.iadd, 1) := by decide +kernel
theorem dL_law_973 : decode cL_law 973 = .ok (.iaload, 1) := by decide +kernel
theorem dL_law_974 : decode cL_law 974 = .ok (.aload_n 0, 1) := by decide +kernel
theorem dL_law_975 : decode cL_law 975 = .ok (.iload 4, 2) := by decide +kernel
theorem dL_law_977 : decode cL_law 977 = .ok (.iconst 3, 1) := by decide +kernel
theorem dL_law_978 : decode cL_law 978 = .ok (.iadd, 1) := by decide +kernel
theorem dL_law_979 : decode cL_law 979 = .ok (.iaload, 1) := by decide +kernel
theorem dL_law_980 : decode cL_law 980 = .ok (.aload_n 0, 1) := by decide +kernel
theorem dL_law_981 : decode cL_law 981 = .ok (.iload 4, 2) := by decide +kernel
theorem dL_law_983 : decode cL_law 983 = .ok (.iconst 4, 1) := by decide +kernel
theorem dL_law_984 : decode cL_law 984 = .ok (.iadd, 1) := by decide +kernel
theorem dL_law_985 : decode cL_law 985 = .ok (.iaload, 1) := by decide +kernel
theorem dL_law_986 : decode cL_law 986 = .ok (.aload_n 0, 1) := by decide +kernel
theorem dL_law_987 : decode cL_law 987 = .ok (.iload 4, 2) := by decide +kernel
theorem dL_law_989 : decode cL_law 989 = .ok (.iconst 5, 1) := by decide +kernel
theorem dL_law_990 : decode cL_law 990 = .ok (.iadd, 1) := by decide +kernel
theorem dL_law_991 : decode cL_law 991 = .ok (.iaload, 1) := by decide +kernel
theorem dL_law_992 : decode cL_law 992 = .ok (.invokevirtual 142, 3) := by decide +kernel
theorem dL_law_995 : decode cL_law 995 = .ok (.istore 6, 2) := by decide +kernel
theorem dL_law_997 : decode cL_law 997 = .ok (.aload_n 2, 1) := by decide +kernel
theorem dL_law_998 : decode cL_law 998 = .ok (.invokevirtual 93, 3) := by decide +kernel
theorem dL_law_1001 : decode cL_law 1001 = .ok (.iload 5, 2) := by decide +kernel
theorem dL_law_1003 : decode cL_law 1003 = .ok (.if_icmp .eq 5, 3) := by decide +kernel
theorem dL_law_1006 : decode cL_law 1006 = .ok (.iconst 0, 1) := by decide +kernel
theorem dL_law_1007 : decode cL_law 1007 = .ok (.ireturn, 1) := by decide +kernel
theorem dL_law_1008 : decode cL_law 1008 = .ok (.iload 5, 2) := by decide +kernel
theorem dL_law_1010 : decode cL_law 1010 = .ok (.ifCond .ne 15, 3) := by decide +kernel
theorem dL_law_1013 : decode cL_law 1013 = .ok (.aload_n 3, 1) := by decide +kernel
theorem dL_law_1014 : decode cL_law 1014 = .ok (.iconst 0, 1) := by decide +kernel
theorem dL_law_1015 : decode cL_law 1015 = .ok (.laload, 1) := by decide +kernel
theorem dL_law_1016 : decode cL_law 1016 = .ok (.iload 6, 2) := by decide +kernel
theorem dL_law_1018 : decode cL_law 1018 = .ok (.i2l, 1) := by decide +kernel
theorem dL_law_1019 : decode cL_law 1019 = .ok (.lcmp, 1) := by decide +kernel
theorem dL_law_1020 : decode cL_law 1020 = .ok (.ifCond .eq 5, 3) := by decide +kernel
theorem dL_law_1023 : decode cL_law 1023 = .ok (.iconst 0, 1) := by decide +kernel
theorem dL_law_1024 : decode cL_law 1024 = .ok (.ireturn, 1) := by decide +kernel
theorem dL_law_1025 : decode cL_law 1025 = .ok (.goto 407, 3) := by decide +kernel
theorem dL_law_1028 : decode cL_law 1028 = .ok (.aload_n 1, 1) := by decide +kernel
theorem dL_law_1029 : decode cL_law 1029 = .ok (.aload_n 0, 1) := by decide +kernel
theorem dL_law_1030 : decode cL_law 1030 = .ok (.iload 4, 2) := by decide +kernel
theorem dL_law_1032 : decode cL_law 1032 = .ok (.iconst 1, 1) := by decide +kernel
theorem dL_law_1033 : decode cL_law 1033 = .ok (.iadd, 1) := by decide +kernel
theorem dL_law_1034 : decode cL_law 1034 = .ok (.iaload, 1) := by decide +kernel
theorem dL_law_1035 : decode cL_law 1035 = .ok (.aload_n 0, 1) := by decide +kernel
theorem dL_law_1036 : decode cL_law 1036 = .ok (.iload 4, 2) := by decide +kernel
theorem dL_law_1038 : decode cL_law 1038 = .ok (.iconst 2, 1) := by decide +kernel
theorem dL_law_1039 : decode cL_law 1039 = .ok (.iadd, 1) := by decide +kernel
theorem dL_law_1040 : decode cL_law 1040 = .ok (.iaload, 1) := by decide +kernel
theorem dL_law_1041 : decode cL_law 1041 = .ok (.aload_n 0, 1) := by decide +kernel
theorem dL_law_1042 : decode cL_law 1042 = .ok (.iload 4, 2) := by decide +kernel
theorem dL_law_1044 : decode cL_law 1044 = .ok (.iconst 3, 1) := by decide +kernel
theorem dL_law_1045 : decode cL_law 1045 = .ok (.iadd, 1) := by decide +kernel
theorem dL_law_1046 : decode cL_law 1046 = .ok (.iaload, 1) := by decide +kernel
theorem dL_law_1047 : decode cL_law 1047 = .ok (.aload_n 0, 1) := by decide +kernel
theorem dL_law_1048 : decode cL_law 1048 = .ok (.iload 4, 2) := by decide +kernel
theorem dL_law_1050 : decode cL_law 1050 = .ok (.iconst 4, 1) := by decide +kernel
theorem dL_law_1051 : decode cL_law 1051 = .ok (.iadd, 1) := by decide +kernel
theorem dL_law_1052 : decode cL_law 1052 = .ok (.iaload, 1) := by decide +kernel
theorem dL_law_1053 : decode cL_law 1053 = .ok (.aload_n 3, 1) := by decide +kernel
theorem dL_law_1054 : decode cL_law 1054 = .ok (.invokestatic 143, 3) := by decide +kernel
theorem dL_law_1057 : decode cL_law 1057 = .ok (.istore 5, 2) := by decide +kernel
theorem dL_law_1059 : decode cL_law 1059 = .ok (.aload_n 2, 1) := by decide +kernel
theorem dL_law_1060 : decode cL_law 1060 = .ok (.aload_n 0, 1) := by decide +kernel
theorem dL_law_1061 : decode cL_law 1061 = .ok (.iload 4, 2) := by decide +kernel
theorem dL_law_1063 : decode cL_law 1063 = .ok (.iconst 1, 1) := by decide +kernel
theorem dL_law_1064 : decode cL_law 1064 = .ok (.iadd, 1) := by decide +kernel
theorem dL_law_1065 : decode cL_law 1065 = .ok (.iaload, 1) := by decide +kernel
theorem dL_law_1066 : decode cL_law 1066 = .ok (.aload_n 0, 1) := by decide +kernel
theorem dL_law_1067 : decode cL_law 1067 = .ok (.iload 4, 2) := by decide +kernel
theorem dL_law_1069 : decode cL_law 1069 = .ok (.iconst 2, 1) := by decide +kernel
theorem dL_law_1070 : decode cL_law 1070 = .ok (.iadd, 1) := by decide +kernel
theorem dL_law_1071 : decode cL_law 1071 = .ok (.iaload, 1) := by decide +kernel
theorem dL_law_1072 : decode cL_law 1072 = .ok (.aload_n 0, 1) := by decide +kernel
theorem dL_law_1073 : decode cL_law 1073 = .ok (.iload 4, 2) := by decide +kernel
theorem dL_law_1075 : decode cL_law 1075 = .ok (.iconst 3, 1) := by decide +kernel
theorem dL_law_1076 : decode cL_law 1076 = .ok (.iadd, 1) := by decide +kernel
theorem dL_law_1077 : decode cL_law 1077 = .ok (.iaload, 1) := by decide +kernel
theorem dL_law_1078 : decode cL_law 1078 = .ok (.aload_n 0, 1) := by decide +kernel
theorem dL_law_1079 : decode cL_law 1079 = .ok (.iload 4, 2) := by decide +kernel
theorem dL_law_1081 : decode cL_law 1081 = .ok (.iconst 4, 1) := by decide +kernel
theorem dL_law_1082 : decode cL_law 1082 = .ok (.iadd, 1) := by decide +kernel
theorem dL_law_1083 : decode cL_law 1083 = .ok (.iaload, 1) := by decide +kernel
theorem dL_law_1084 : decode cL_law 1084 = .ok (.invokevirtual 146, 3) := by decide +kernel
theorem dL_law_1087 : decode cL_law 1087 = .ok (.istore 6, 2) := by decide +kernel
theorem dL_law_1089 : decode cL_law 1089 = .ok (.aload_n 2, 1) := by decide +kernel
theorem dL_law_1090 : decode cL_law 1090 = .ok (.invokevirtual 93, 3) := by decide +kernel
theorem dL_law_1093 : decode cL_law 1093 = .ok (.iload 5, 2) := by decide +kernel
theorem dL_law_1095 : decode cL_law 1095 = .ok (.if_icmp .eq 5, 3) := by decide +kernel
theorem dL_law_1098 : decode cL_law 1098 = .ok (.iconst 0, 1) := by decide +kernel
theorem dL_law_1099 : decode cL_law 1099 = .ok (.ireturn, 1) := by decide +kernel
theorem dL_law_1100 : decode cL_law 1100 = .ok (.iload 5, 2) := by decide +kernel
theorem dL_law_1102 : decode cL_law 1102 = .ok (.ifCond .ne 15, 3) := by decide +kernel
theorem dL_law_1105 : decode cL_law 1105 = .ok (.aload_n 3, 1) := by decide +kernel
theorem dL_law_1106 : decode cL_law 1106 = .ok (.iconst 0, 1) := by decide +kernel
theorem dL_law_1107 : decode cL_law 1107 = .ok (.laload, 1) := by decide +kernel
theorem dL_law_1108 : decode cL_law 1108 = .ok (.iload 6, 2) := by decide +kernel
theorem dL_law_1110 : decode cL_law 1110 = .ok (.i2l, 1) := by decide +kernel
theorem dL_law_1111 : decode cL_law 1111 = .ok (.lcmp, 1) := by decide +kernel
theorem dL_law_1112 : decode cL_law 1112 = .ok (.ifCond .eq 5, 3) := by decide +kernel
theorem dL_law_1115 : decode cL_law 1115 = .ok (.iconst 0, 1) := by decide +kernel
theorem dL_law_1116 : decode cL_law 1116 = .ok (.ireturn, 1) := by decide +kernel
theorem dL_law_1117 : decode cL_law 1117 = .ok (.goto 315, 3) := by decide +kernel
theorem dL_law_1120 : decode cL_law 1120 = .ok (.aload_n 1, 1) := by decide +kernel
theorem dL_law_1121 : decode cL_law 1121 = .ok (.aload_n 0, 1) := by decide +kernel
theorem dL_law_1122 : decode cL_law 1122 = .ok (.iload 4, 2) := by decide +kernel
theorem dL_law_1124 : decode cL_law 1124 = .ok (.iconst 1, 1) := by decide +kernel
theorem dL_law_1125 : decode cL_law 1125 = .ok (.iadd, 1) := by decide +kernel
theorem dL_law_1126 : decode cL_law 1126 = .ok (.iaload, 1) := by decide +kernel
theorem dL_law_1127 : decode cL_law 1127 = .ok (.aload_n 0, 1) := by decide +kernel
theorem dL_law_1128 : decode cL_law 1128 = .ok (.iload 4, 2) := by decide +kernel
theorem dL_law_1130 : decode cL_law 1130 = .ok (.iconst 2, 1) := by decide +kernel
theorem dL_law_1131 : decode cL_law 1131 = .ok (.iadd, 1) := by decide +kernel
theorem dL_law_1132 : decode cL_law 1132 = .ok (.iaload, 1) := by decide +kernel
theorem dL_law_1133 : decode cL_law 1133 = .ok (.aload_n 0, 1) := by decide +kernel
theorem dL_law_1134 : decode cL_law 1134 = .ok (.iload 4, 2) := by decide +kernel
theorem dL_law_1136 : decode cL_law 1136 = .ok (.iconst 3, 1) := by decide +kernel
theorem dL_law_1137 : decode cL_law 1137 = .ok (.iadd, 1) := by decide +kernel
theorem dL_law_1138 : decode cL_law 1138 = .ok (.iaload, 1) := by decide +kernel
theorem dL_law_1139 : decode cL_law 1139 = .ok (.aload_n 0, 1) := by decide +kernel
theorem dL_law_1140 : decode cL_law 1140 = .ok (.iload 4, 2) := by decide +kernel
theorem dL_law_1142 : decode cL_law 1142 = .ok (.iconst 4, 1) := by decide +kernel
theorem dL_law_1143 : decode cL_law 1143 = .ok (.iadd, 1) := by decide +kernel
theorem dL_law_1144 : decode cL_law 1144 = .ok (.iaload, 1) := by decide +kernel
theorem dL_law_1145 : decode cL_law 1145 = .ok (.invokestatic 147, 3) := by decide +kernel
theorem dL_law_1148 : decode cL_law 1148 = .ok (.istore 5, 2) := by decide +kernel
theorem dL_law_1150 : decode cL_law 1150 = .ok (.aload_n 2, 1) := by decide +kernel
theorem dL_law_1151 : decode cL_law 1151 = .ok (.aload_n 0, 1) := by decide +kernel
theorem dL_law_1152 : decode cL_law 1152 = .ok (.iload 4, 2) := by decide +kernel
theorem dL_law_1154 : decode cL_law 1154 = .ok (.iconst 1, 1) := by decide +kernel
theorem dL_law_1155 : decode cL_law 1155 = .ok (.iadd, 1) := by decide +kernel
theorem dL_law_1156 : decode cL_law 1156 = .ok (.iaload, 1) := by decide +kernel
theorem dL_law_1157 : decode cL_law 1157 = .ok (.aload_n 0, 1) := by decide +kernel
theorem dL_law_1158 : decode cL_law 1158 = .ok (.iload 4, 2) := by decide +kernel
theorem dL_law_1160 : decode cL_law 1160 = .ok (.iconst 2, 1) := by decide +kernel
theorem dL_law_1161 : decode cL_law 1161 = .ok (.iadd, 1) := by decide +kernel
theorem dL_law_1162 : decode cL_law 1162 = .ok (.iaload, 1) := by decide +kernel
theorem dL_law_1163 : decode cL_law 1163 = .ok (.aload_n 0, 1) := by decide +kernel
theorem dL_law_1164 : decode cL_law 1164 = .ok (.iload 4, 2) := by decide +kernel
theorem dL_law_1166 : decode cL_law 1166 = .ok (.iconst 3, 1) := by decide +kernel
theorem dL_law_1167 : decode cL_law 1167 = .ok (.iadd, 1) := by decide +kernel
theorem dL_law_1168 : decode cL_law 1168 = .ok (.iaload, 1) := by decide +kernel
theorem dL_law_1169 : decode cL_law 1169 = .ok (.aload_n 0, 1) := by decide +kernel
theorem dL_law_1170 : decode cL_law 1170 = .ok (.iload 4, 2) := by decide +kernel
theorem dL_law_1172 : decode cL_law 1172 = .ok (.iconst 4, 1) := by decide +kernel
theorem dL_law_1173 : decode cL_law 1173 = .ok (.iadd, 1) := by decide +kernel
theorem dL_law_1174 : decode cL_law 1174 = .ok (.iaload, 1) := by decide +kernel
theorem dL_law_1175 : decode cL_law 1175 = .ok (.invokevirtual 150, 3) := by decide +kernel
theorem dL_law_1178 : decode cL_law 1178 = .ok (.aload_n 2, 1) := by decide +kernel
theorem dL_law_1179 : decode cL_law 1179 = .ok (.invokevirtual 93, 3) := by decide +kernel
theorem dL_law_1182 : decode cL_law 1182 = .ok (.iload 5, 2) := by decide +kernel
theorem dL_law_1184 : decode cL_law 1184 = .ok (.if_icmp .eq 5, 3) := by decide +kernel
theorem dL_law_1187 : decode cL_law 1187 = .ok (.iconst 0, 1) := by decide +kernel
theorem dL_law_1188 : decode cL_law 1188 = .ok (.ireturn, 1) := by decide +kernel
theorem dL_law_1189 : decode cL_law 1189 = .ok (.goto 243, 3) := by decide +kernel
theorem dL_law_1192 : decode cL_law 1192 = .ok (.aload_n 1, 1) := by decide +kernel
theorem dL_law_1193 : decode cL_law 1193 = .ok (.aload_n 0, 1) := by decide +kernel
theorem dL_law_1194 : decode cL_law 1194 = .ok (.iload 4, 2) := by decide +kernel
theorem dL_law_1196 : decode cL_law 1196 = .ok (.iconst 1, 1) := by decide +kernel
theorem dL_law_1197 : decode cL_law 1197 = .ok (.iadd, 1) := by decide +kernel
theorem dL_law_1198 : decode cL_law 1198 = .ok (.iaload, 1) := by decide +kernel
theorem dL_law_1199 : decode cL_law 1199 = .ok (.aload_n 0, 1) := by decide +kernel
theorem dL_law_1200 : decode cL_law 1200 = .ok (.iload 4, 2) := by decide +kernel
theorem dL_law_1202 : decode cL_law 1202 = .ok (.iconst 2, 1) := by decide +kernel
theorem dL_law_1203 : decode cL_law 1203 = .ok (.iadd, 1) := by decide +kernel
theorem dL_law_1204 : decode cL_law 1204 = .ok (.iaload, 1) := by decide +kernel
theorem dL_law_1205 : decode cL_law 1205 = .ok (.aload_n 3, 1) := by decide +kernel
theorem dL_law_1206 : decode cL_law 1206 = .ok (.invokestatic 151, 3) := by decide +kernel
theorem dL_law_1209 : decode cL_law 1209 = .ok (.istore 5, 2) := by decide +kernel
theorem dL_law_1211 : decode cL_law 1211 = .ok (.aload_n 2, 1) := by decide +kernel
theorem dL_law_1212 : decode cL_law 1212 = .ok (.aload_n 0, 1) := by decide +kernel
theorem dL_law_1213 : decode cL_law 1213 = .ok (.iload 4, 2) := by decide +kernel
theorem dL_law_1215 : decode cL_law 1215 = .ok (.iconst 1, 1) := by decide +kernel
theorem dL_law_1216 : decode cL_law 1216 = .ok (.iadd, 1) := by decide +kernel
theorem dL_law_1217 : decode cL_law 1217 = .ok (.iaload, 1) := by decide +kernel
theorem dL_law_1218 : decode cL_law 1218 = .ok (.aload_n 0, 1) := by decide +kernel
theorem dL_law_1219 : decode cL_law 1219 = .ok (.iload 4, 2) := by decide +kernel
theorem dL_law_1221 : decode cL_law 1221 = .ok (.iconst 2, 1) := by decide +kernel
theorem dL_law_1222 : decode cL_law 1222 = .ok (.iadd, 1) := by decide +kernel
theorem dL_law_1223 : decode cL_law 1223 = .ok (.iaload, 1) := by decide +kernel
theorem dL_law_1224 : decode cL_law 1224 = .ok (.invokevirtual 153, 3) := by decide +kernel
theorem dL_law_1227 : decode cL_law 1227 = .ok (.istore 6, 2) := by decide +kernel
theorem dL_law_1229 : decode cL_law 1229 = .ok (.aload_n 2, 1) := by decide +kernel
theorem dL_law_1230 : decode cL_law 1230 = .ok (.invokevirtual 93, 3) := by decide +kernel
theorem dL_law_1233 : decode cL_law 1233 = .ok (.iload 5, 2) := by decide +kernel
theorem dL_law_1235 : decode cL_law 1235 = .ok (.if_icmp .eq 5, 3) := by decide +kernel
theorem dL_law_1238 : decode cL_law 1238 = .ok (.iconst 0, 1) := by decide +kernel
theorem dL_law_1239 : decode cL_law 1239 = .ok (.ireturn, 1) := by decide +kernel
theorem dL_law_1240 : decode cL_law 1240 = .ok (.iload 5, 2) := by decide +kernel
theorem dL_law_1242 : decode cL_law 1242 = .ok (.ifCond .ne 15, 3) := by decide +kernel
theorem dL_law_1245 : decode cL_law 1245 = .ok (.aload_n 3, 1) := by decide +kernel
theorem dL_law_1246 : decode cL_law 1246 = .ok (.iconst 0, 1) := by decide +kernel
theorem dL_law_1247 : decode cL_law 1247 = .ok (.laload, 1) := by decide +kernel
theorem dL_law_1248 : decode cL_law 1248 = .ok (.iload 6, 2) := by decide +kernel
theorem dL_law_1250 : decode cL_law 1250 = .ok (.i2l, 1) := by decide +kernel
theorem dL_law_1251 : decode cL_law 1251 = .ok (.lcmp, 1) := by decide +kernel
theorem dL_law_1252 : decode cL_law 1252 = .ok (.ifCond .eq 5, 3) := by decide +kernel
theorem dL_law_1255 : decode cL_law 1255 = .ok (.iconst 0, 1) := by decide +kernel
theorem dL_law_1256 : decode cL_law 1256 = .ok (.ireturn, 1) := by decide +kernel
theorem dL_law_1257 : decode cL_law 1257 = .ok (.goto 175, 3) := by decide +kernel
theorem dL_law_1260 : decode cL_law 1260 = .ok (.aload_n 1, 1) := by decide +kernel
theorem dL_law_1261 : decode cL_law 1261 = .ok (.aload_n 0, 1) := by decide +kernel
theorem dL_law_1262 : decode cL_law 1262 = .ok (.iload 4, 2) := by decide +kernel
theorem dL_law_1264 : decode cL_law 1264 = .ok (.iconst 1, 1) := by decide +kernel
theorem dL_law_1265 : decode cL_law 1265 = .ok (.iadd, 1) := by decide +kernel
theorem dL_law_1266 : decode cL_law 1266 = .ok (.iaload, 1) := by decide +kernel
theorem dL_law_1267 : decode cL_law 1267 = .ok (.aload_n 0, 1) := by decide +kernel
theorem dL_law_1268 : decode cL_law 1268 = .ok (.iload 4, 2) := by decide +kernel
theorem dL_law_1270 : decode cL_law 1270 = .ok (.iconst 2, 1) := by decide +kernel
theorem dL_law_1271 : decode cL_law 1271 = .ok (.iadd, 1) := by decide +kernel
theorem dL_law_1272 : decode cL_law 1272 = .ok (.iaload, 1) := by decide +kernel
theorem dL_law_1273 : decode cL_law 1273 = .ok (.ifCond .eq 7, 3) := by decide +kernel
theorem dL_law_1276 : decode cL_law 1276 = .ok (.iconst 1, 1) := by decide +kernel
theorem dL_law_1277 : decode cL_law 1277 = .ok (.goto 4, 3) := by decide +kernel
theorem dL_law_1280 : decode cL_law 1280 = .ok (.iconst 0, 1) := by decide +kernel
theorem dL_law_1281 : decode cL_law 1281 = .ok (.aload_n 3, 1) := by decide +kernel
theorem dL_law_1282 : decode cL_law 1282 = .ok (.invokestatic 154, 3) := by decide +kernel
theorem dL_law_1285 : decode cL_law 1285 = .ok (.istore 5, 2) := by decide +kernel
theorem dL_law_1287 : decode cL_law 1287 = .ok (.aload_n 2, 1) := by decide +kernel
theorem dL_law_1288 : decode cL_law 1288 = .ok (.aload_n 0, 1) := by decide +kernel
theorem dL_law_1289 : decode cL_law 1289 = .ok (.iload 4, 2) := by decide +kernel
theorem dL_law_1291 : decode cL_law 1291 = .ok (.iconst 1, 1) := by decide +kernel
theorem dL_law_1292 : decode cL_law 1292 = .ok (.iadd, 1) := by decide +kernel
theorem dL_law_1293 : decode cL_law 1293 = .ok (.iaload, 1) := by decide +kernel
theorem dL_law_1294 : decode cL_law 1294 = .ok (.aload_n 0, 1) := by decide +kernel
theorem dL_law_1295 : decode cL_law 1295 = .ok (.iload 4, 2) := by decide +kernel
theorem dL_law_1297 : decode cL_law 1297 = .ok (.iconst 2, 1) := by decide +kernel
theorem dL_law_1298 : decode cL_law 1298 = .ok (.iadd, 1) := by decide +kernel
theorem dL_law_1299 : decode cL_law 1299 = .ok (.iaload, 1) := by decide +kernel
theorem dL_law_1300 : decode cL_law 1300 = .ok (.ifCond .eq 7, 3) := by decide +kernel
theorem dL_law_1303 : decode cL_law 1303 = .ok (.iconst 1, 1) := by decide +kernel
theorem dL_law_1304 : decode cL_law 1304 = .ok (.goto 4, 3) := by decide +kernel
theorem dL_law_1307 : decode cL_law 1307 = .ok (.iconst 0, 1) := by decide +kernel
theorem dL_law_1308 : decode cL_law 1308 = .ok (.invokevirtual 157, 3) := by decide +kernel
theorem dL_law_1311 : decode cL_law 1311 = .ok (.istore 6, 2) := by decide +kernel
theorem dL_law_1313 : decode cL_law 1313 = .ok (.aload_n 2, 1) := by decide +kernel
theorem dL_law_1314 : decode cL_law 1314 = .ok (.invokevirtual 93, 3) := by decide +kernel
theorem dL_law_1317 : decode cL_law 1317 = .ok (.iload 5, 2) := by decide +kernel
theorem dL_law_1319 : decode cL_law 1319 = .ok (.if_icmp .eq 5, 3) := by decide +kernel
theorem dL_law_1322 : decode cL_law 1322 = .ok (.iconst 0, 1) := by decide +kernel
theorem dL_law_1323 : decode cL_law 1323 = .ok (.ireturn, 1) := by decide +kernel
theorem dL_law_1324 : decode cL_law 1324 = .ok (.iload 5, 2) := by decide +kernel
theorem dL_law_1326 : decode cL_law 1326 = .ok (.ifCond .ne 22, 3) := by decide +kernel
theorem dL_law_1329 : decode cL_law 1329 = .ok (.aload_n 3, 1) := by decide +kernel
theorem dL_law_1330 : decode cL_law 1330 = .ok (.iconst 0, 1) := by decide +kernel
theorem dL_law_1331 : decode cL_law 1331 = .ok (.laload, 1) := by decide +kernel
theorem dL_law_1332 : decode cL_law 1332 = .ok (.iload 6, 2) := by decide +kernel
theorem dL_law_1334 : decode cL_law 1334 = .ok (.ifCond .eq 7, 3) := by decide +kernel
theorem dL_law_1337 : decode cL_law 1337 = .ok (.lconst 1, 1) := by decide +kernel
theorem dL_law_1338 : decode cL_law 1338 = .ok (.goto 4, 3) := by decide +kernel
theorem dL_law_1341 : decode cL_law 1341 = .ok (.lconst 0, 1) := by decide +kernel
theorem dL_law_1342 : decode cL_law 1342 = .ok (.lcmp, 1) := by decide +kernel
theorem dL_law_1343 : decode cL_law 1343 = .ok (.ifCond .eq 5, 3) := by decide +kernel
theorem dL_law_1346 : decode cL_law 1346 = .ok (.iconst 0, 1) := by decide +kernel
theorem dL_law_1347 : decode cL_law 1347 = .ok (.ireturn, 1) := by decide +kernel
theorem dL_law_1348 : decode cL_law 1348 = .ok (.goto 84, 3) := by decide +kernel
theorem dL_law_1351 : decode cL_law 1351 = .ok (.aload_n 1, 1) := by decide +kernel
theorem dL_law_1352 : decode cL_law 1352 = .ok (.invokevirtual 158, 3) := by decide +kernel
theorem dL_law_1355 : decode cL_law 1355 = .ok (.aload_n 2, 1) := by decide +kernel
theorem dL_law_1356 : decode cL_law 1356 = .ok (.invokevirtual 161, 3) := by decide +kernel
theorem dL_law_1359 : decode cL_law 1359 = .ok (.if_icmp .eq 73, 3) := by decide +kernel
theorem dL_law_1362 : decode cL_law 1362 = .ok (.iconst 0, 1) := by decide +kernel
theorem dL_law_1363 : decode cL_law 1363 = .ok (.ireturn, 1) := by decide +kernel
theorem dL_law_1364 : decode cL_law 1364 = .ok (.aload_n 1, 1) := by decide +kernel
theorem dL_law_1365 : decode cL_law 1365 = .ok (.aload_n 0, 1) := by decide +kernel
theorem dL_law_1366 : decode cL_law 1366 = .ok (.iload 4, 2) := by decide +kernel
theorem dL_law_1368 : decode cL_law 1368 = .ok (.iconst 1, 1) := by decide +kernel
theorem dL_law_1369 : decode cL_law 1369 = .ok (.iadd, 1) := by decide +kernel
theorem dL_law_1370 : decode cL_law 1370 = .ok (.iaload, 1) := by decide +kernel
theorem dL_law_1371 : decode cL_law 1371 = .ok (.aload_n 0, 1) := by decide +kernel
theorem dL_law_1372 : decode cL_law 1372 = .ok (.iload 4, 2) := by decide +kernel
theorem dL_law_1374 : decode cL_law 1374 = .ok (.iconst 2, 1) := by decide +kernel
theorem dL_law_1375 : decode cL_law 1375 = .ok (.iadd, 1) := by decide +kernel
theorem dL_law_1376 : decode cL_law 1376 = .ok (.iaload, 1) := by decide +kernel
theorem dL_law_1377 : decode cL_law 1377 = .ok (.aload_n 3, 1) := by decide +kernel
theorem dL_law_1378 : decode cL_law 1378 = .ok (.invokestatic 162, 3) := by decide +kernel
theorem dL_law_1381 : decode cL_law 1381 = .ok (.istore 5, 2) := by decide +kernel
theorem dL_law_1383 : decode cL_law 1383 = .ok (.aload_n 2, 1) := by decide +kernel
theorem dL_law_1384 : decode cL_law 1384 = .ok (.aload_n 0, 1) := by decide +kernel
theorem dL_law_1385 : decode cL_law 1385 = .ok (.iload 4, 2) := by decide +kernel
theorem dL_law_1387 : decode cL_law 1387 = .ok (.iconst 1, 1) := by decide +kernel
theorem dL_law_1388 : decode cL_law 1388 = .ok (.iadd, 1) := by decide +kernel
theorem dL_law_1389 : decode cL_law 1389 = .ok (.iaload, 1) := by decide +kernel
theorem dL_law_1390 : decode cL_law 1390 = .ok (.aload_n 0, 1) := by decide +kernel
theorem dL_law_1391 : decode cL_law 1391 = .ok (.iload 4, 2) := by decide +kernel
theorem dL_law_1393 : decode cL_law 1393 = .ok (.iconst 2, 1) := by decide +kernel
theorem dL_law_1394 : decode cL_law 1394 = .ok (.iadd, 1) := by decide +kernel
theorem dL_law_1395 : decode cL_law 1395 = .ok (.iaload, 1) := by decide +kernel
theorem dL_law_1396 : decode cL_law 1396 = .ok (.invokevirtual 164, 3) := by decide +kernel
theorem dL_law_1399 : decode cL_law 1399 = .ok (.istore 6, 2) := by decide +kernel
theorem dL_law_1401 : decode cL_law 1401 = .ok (.aload_n 2, 1) := by decide +kernel
theorem dL_law_1402 : decode cL_law 1402 = .ok (.invokevirtual 93, 3) := by decide +kernel
theorem dL_law_1405 : decode cL_law 1405 = .ok (.iload 5, 2) := by decide +kernel
theorem dL_law_1407 : decode cL_law 1407 = .ok (.if_icmp .eq 5, 3) := by decide +kernel
theorem dL_law_1410 : decode cL_law 1410 = .ok (.iconst 0, 1) := by decide +kernel
theorem dL_law_1411 : decode cL_law 1411 = .ok (.ireturn, 1) := by decide +kernel
theorem dL_law_1412 : decode cL_law 1412 = .ok (.iload 5, 2) := by decide +kernel
theorem dL_law_1414 : decode cL_law 1414 = .ok (.ifCond .ne 15, 3) := by decide +kernel
theorem dL_law_1417 : decode cL_law 1417 = .ok (.aload_n 3, 1) := by decide +kernel
theorem dL_law_1418 : decode cL_law 1418 = .ok (.iconst 0, 1) := by decide +kernel
theorem dL_law_1419 : decode cL_law 1419 = .ok (.laload, 1) := by decide +kernel
theorem dL_law_1420 : decode cL_law 1420 = .ok (.iload 6, 2) := by decide +kernel
theorem dL_law_1422 : decode cL_law 1422 = .ok (.i2l, 1) := by decide +kernel
theorem dL_law_1423 : decode cL_law 1423 = .ok (.lcmp, 1) := by decide +kernel
theorem dL_law_1424 : decode cL_law 1424 = .ok (.ifCond .eq 5, 3) := by decide +kernel
theorem dL_law_1427 : decode cL_law 1427 = .ok (.iconst 0, 1) := by decide +kernel
theorem dL_law_1428 : decode cL_law 1428 = .ok (.ireturn, 1) := by decide +kernel
theorem dL_law_1429 : decode cL_law 1429 = .ok (.goto 3, 3) := by decide +kernel
theorem dL_law_1432 : decode cL_law 1432 = .ok (.iinc 4 6, 3) := by decide +kernel
theorem dL_law_1435 : decode cL_law 1435 = .ok (.goto (-1412), 3) := by decide +kernel
theorem dL_law_1438 : decode cL_law 1438 = .ok (.iconst 1, 1) := by decide +kernel
theorem dL_law_1439 : decode cL_law 1439 = .ok (.ireturn, 1) := by decide +kernel
end
section
/-! A world as a function (address to cell), and one judgement 'Go' over it: all that a method's walk needs is inside. -/
-- ===== the words that every state of the run keeps =====
def okW : Cond → Bool
  | .fieldLinkNest .. => true
  | .methodLinkNest .. => true
  | .castable .. => true
  | .declares .. => true
  | w => goodWord w
theorem okW_at {args a' : Array Value} {s U : State} (hW : s.WarmedH U.vm) {w : Cond} (hg : okW w = true) (h : w.before args s = true) : w.before a' U = true := by
  cases w with
  | fieldLinkNest a i b n d x => exact va_Nw.use rfl (va_Nw.warmF hW (va_Nw.of rfl h))
  | methodLinkNest a i x y => exact va_Nw.use rfl (va_Nw.warmM hW (va_Nw.of rfl h))
  | castable a b => exact va_Nw.use rfl (va_Nw.warmC hW (va_Nw.of rfl h))
  | declares x => exact va_Nw.use rfl (va_Nw.warmD hW (va_Nw.of rfl h))
  | _ => exact word_at hW (good_of_word hg) h
def tw : List Cond := lw_tbl.filter okW
theorem tw_in {w : Cond} (k : Nat) (h : tables_1[k]? = some w) (h2 : okW w = true) : w ∈ tw := List.mem_filter.mpr ⟨List.mem_append_right _ (List.mem_of_getElem? h), h2⟩
theorem tw_sel {w : Cond} (k : Nat) (h : (k2_sels lw_privs)[k]? = some w) (h2 : okW w = true) : w ∈ tw := List.mem_filter.mpr ⟨List.mem_append_left _ (List.mem_of_getElem? h), h2⟩
theorem tw_of {w : Cond} (h : w ∈ lw_tbl) (h2 : okW w = true) : w ∈ tw := List.mem_filter.mpr ⟨h, h2⟩
-- ===== worlds =====
abbrev Wd : Type := Nat → Option va_E
def up (w : Wd) (a : Nat) (e : va_E) : Wd := fun q => if q = a then some e else w q
theorem up_s (w : Wd) (a : Nat) (e : va_E) : up w a e a = some e := if_pos rfl
theorem up_n {w : Wd} {a b : Nat} {e : va_E} (h : b ≠ a) : up w a e b = w b := if_neg h
/-- what is fixed in one run: launch, classes and slots, the classes of int[], boolean[], long[], Object[], the heap at the law's start, the empty array, Object[]'s class object -/
abbrev Gx : Type := Launch × va_G × (ClassId × ClassId × ClassId × ClassId) × Heap × Nat × Nat
def gD (G : Gx) : va_G := G.2.1
def gI (G : Gx) : ClassId := G.2.2.1.1
def gZ (G : Gx) : ClassId := G.2.2.1.2.1
def gJ (G : Gx) : ClassId := G.2.2.1.2.2.1
def gO (G : Gx) : ClassId := G.2.2.1.2.2.2
def gH (G : Gx) : Heap := G.2.2.2.1
def gE (G : Gx) : Nat := G.2.2.2.2.1
def gM (G : Gx) : Nat := G.2.2.2.2.2
def gty (G : Gx) : List (ClassId × FieldType) := [(gI G, .int), (gZ G, .boolean), (gJ G, .long), (gO G, .object "java/lang/Object")]
def gA (G : Gx) : Nat → Prop := fun q => (gH G).size ≤ q
abbrev eO (ci : Nat) (fs : List Value) : va_E := .inr (ci, fs)
abbrev eI (G : Gx) (n : Nat) (f : Nat → Int32) : va_E := .inl (gI G, n, .inl f)
abbrev eZ (G : Gx) (n : Nat) (f : Nat → Int32) : va_E := .inl (gZ G, n, .inl f)
abbrev eJ (G : Gx) (n : Nat) (f : Nat → Int64) : va_E := .inl (gJ G, n, .inr (.inl f))
abbrev eQ (G : Gx) (n : Nat) (f : Nat → Option Nat) : va_E := .inl (gO G, n, .inr (.inr (.inr (.inr f))))
/-- an array that was there before the run: its class, its contents, an ordinary cell -/
def olA (cA : ClassId) (y : vp_A) (a : Nat) (H : Heap) : Prop := ∃ cell : Cell, H[a]? = some cell ∧ cell.cls = cA ∧ cell.slots = (vp_cell cA y).slots ∧ cell.vm.isStatics = false ∧ cell.vm ≠ .unknown
def loE (G : Gx) (a : Nat) (e : va_E) (H : Heap) : Prop := va_at (gD G) vwCl (a, e) H ∨ (a < (gH G).size ∧ ∃ (cA : ClassId) (y : vp_A), e = .inl (cA, y) ∧ olA cA y a H)
theorem loE.kept {G : Gx} {a : Nat} {e : va_E} {H H1 : Heap} (h : loE G a e H) (hq : H1[a]? = H[a]?) : loE G a e H1 := by
  rcases h with h | ⟨h1, cA, y, h2, cell, h3, h4⟩
  · exact Or.inl (h.kept hq)
  · exact Or.inr ⟨h1, cA, y, h2, cell, hq.trans h3, h4⟩
theorem loE.lt {G : Gx} {a : Nat} {e : va_E} {H : Heap} (h : loE G a e H) : a < H.size := by
  rcases h with h | ⟨h1, cA, y, h2, cell, h3, h4⟩
  · exact h.lt
  · exact (Array.getElem?_eq_some_iff.mp h3).1
def Rel (G : Gx) (w : Wd) (H : Heap) : Prop := ∀ a e, w a = some e → loE G a e H
theorem Rel.o {G : Gx} {w : Wd} {H : Heap} {a : Nat} {o : Nat × List Value} (h : Rel G w H) (hw : w a = some (.inr o)) : va_at (gD G) vwCl (a, .inr o) H := by
  rcases h _ _ hw with h | ⟨_, cA, y, h2, _⟩
  · exact h
  · cases h2
theorem Rel.s {G : Gx} {w : Wd} {H : Heap} {a : Nat} {e : va_E} (h : Rel G w H) (hw : w a = some e) (ha : (gH G).size ≤ a) : va_at (gD G) vwCl (a, e) H := by
  rcases h _ _ hw with h | ⟨h1, _⟩
  · exact h
  · exact absurd h1 (Nat.not_lt.mpr ha)
theorem Rel.c {G : Gx} {w : Wd} {H : Heap} {a : Nat} {cA : ClassId} {y : vp_A} (h : Rel G w H) (hw : w a = some (.inl (cA, y))) : olA cA y a H := by
  rcases h _ _ hw with h | ⟨_, cA', y', h2, h3⟩
  · obtain ⟨n, f | f | f | f | f⟩ := y
    · exact ⟨_, h, rfl, rfl, rfl, fun q => by cases q⟩
    · exact ⟨_, h, rfl, rfl, rfl, fun q => by cases q⟩
    · exact ⟨_, h, rfl, rfl, rfl, fun q => by cases q⟩
    · exact ⟨_, h, rfl, rfl, rfl, fun q => by cases q⟩
    · exact ⟨_, h, rfl, rfl, rfl, fun q => by cases q⟩
  · cases h2
    exact h3
theorem ol_arr {s : State} {cell : Cell} {cA : ClassId} {n : Nat} {f : Nat → Value} {ty : FieldType} (h : s.isArrayOf (arrV cA n f) ty) (hc : cell.cls = cA) (hs : cell.vm.isStatics = false) : s.isArrayOf cell ty :=
  ⟨fun k e => (by rw [e] at hs; cases hs), by rw [hc]; exact h.2⟩
theorem Rel.put {G : Gx} {w : Wd} {a : Nat} {e : va_E} {H H1 : Heap} (h : Rel G w H) (he : va_at (gD G) vwCl (a, e) H1) (oq : ∀ q : Nat, q ≠ a → H1[q]? = H[q]?) : Rel G (up w a e) H1 := by
  intro b e' hb
  by_cases hq : b = a
  · subst hq
    rw [up_s] at hb
    cases hb
    exact Or.inl he
  · rw [up_n hq] at hb
    exact (h b e' hb).kept (oq b hq)
theorem Rel.fresh {G : Gx} {w : Wd} {H : Heap} (h : Rel G w H) : w H.size = none := by
  cases hw : w H.size with
  | none => rfl
  | some e => exact absurd (h _ e hw).lt (Nat.lt_irrefl _)
theorem Rel.push {G : Gx} {w : Wd} {e : va_E} {H H1 : Heap} (h : Rel G w H) (he : va_at (gD G) vwCl (H.size, e) H1) (o1 : ∀ q : Nat, q < H.size → H1[q]? = H[q]?) : Rel G (up w H.size e) H1 := by
  intro b e' hb
  by_cases hq : b = H.size
  · subst hq
    rw [up_s] at hb
    cases hb
    exact Or.inl he
  · rw [up_n hq] at hb
    exact (h b e' hb).kept (o1 b (h b e' hb).lt)
theorem Rel.kept {G : Gx} {w : Wd} {H H1 : Heap} (h : Rel G w H) (o1 : ∀ q : Nat, q < H.size → H1[q]? = H[q]?) : Rel G w H1 := fun b e' hb => (h b e' hb).kept (o1 b (h b e' hb).lt)
-- ===== what every state of the run knows =====
def nc_all : List (String × String) := [("java/lang/IllegalStateException", "java/lang/IllegalArgumentException"), ("java/lang/IllegalArgumentException", "java/lang/IndexOutOfBoundsException"), ("java/lang/IndexOutOfBoundsException", "java/lang/IllegalArgumentException"), ("java/util/NoSuchElementException", "java/lang/IllegalArgumentException"), ("java/util/NoSuchElementException", "java/lang/IndexOutOfBoundsException")]
def GK (G : Gx) (U : State) : Prop :=
  (∀ w ∈ tw, ∀ a : Array Value, w.before a U = true) ∧ va_K (gD G) vwCl (gty G) U ∧
  (∀ (own tx : String) (k : Nat), Cond.stringRef own k tx ∈ tables_1 → ∃ sa : Nat, vk_R own k tx sa U) ∧
  (∀ q ∈ nc_all, va_Nc q.1 q.2 U) ∧
  vx_Zq Bundle.tN "UNASSIGNED_STACK" Bundle.steD (gA G) U (gH G) ∧ vx_Zq Bundle.tN "SUPPRESSED_SENTINEL" Bundle.listD (gA G) U (gH G) ∧
  va_Z "java/util/ArrayList" "DEFAULTCAPACITY_EMPTY_ELEMENTDATA" "[Ljava/lang/Object;" (.ref (gE G)) (gA G) U (gH G) ∧
  va_Mi "[Ljava/lang/Object;" (gM G) U ∧ va_AO "java/lang/Object" U ∧ va_Nw (.sameField "java/util/ArrayList" "java/util/AbstractList" "modCount" "I") U ∧ G.1.stackTraces = false
def BaseOk (G : Gx) (H : Heap) : Prop := (gH G).size ≤ H.size ∧ ∀ q : Nat, q < (gH G).size → H[q]? = (gH G)[q]?
theorem zz_fr : True := trivial
end
section
/-! The judgement Go, and a row an instruction. -/
theorem GK.warm {G : Gx} {s U : State} (hW : s.WarmedH U.vm) (h : GK G s) : GK G U := by
  obtain ⟨h1, h2, h3, h4, h5, h6, h7, h8, h9, h10, h11⟩ := h
  exact ⟨fun w hw a => okW_at hW (List.mem_filter.mp hw).2 (h1 w hw #[]), va_K.moved hW.alike h2, fun own tx k hk => (h3 own tx k hk).elim fun sa hs => ⟨sa, hs.warm hW⟩,
    fun q hq => (h4 q hq).moved hW.alike, h5.moved hW.alike, h6.moved hW.alike, h7.moved hW.alike, h8.moved hW.alike, h9.moved hW.alike, va_Nw.of rfl (word_at (args := #[]) (a' := #[]) hW (good_of_word rfl) h10), h11⟩
theorem GK.w {G : Gx} {s : State} (h : GK G s) {w : Cond} (hw : w ∈ tw) {a : Array Value} : w.before a s = true := h.1 w hw a
abbrev Cx : Type := Program × Env × State × MethodId × Array Value × List Frame × Method × Code
abbrev Yx : Type := Option FieldType × String × List (Nat × Nat × Nat × Nat)
def Okk (G : Gx) (cc : ByteArray) (own : String) (Y : Yx) (p : Program) (s : State) (m : MethodId) (meth : Method) (cd : Code) : Prop :=
  p.tables.exec = Jvm.exec ∧ cd.code = cc ∧ s.vm.findClass own = some m.cls ∧ GK G s ∧ BaseOk G s.heap ∧ meth.sig.returnType = Y.1 ∧ meth.name = Y.2.1 ∧ cd.exceptionTable.toList = tableOf Y.2.2 ∧ meth.locks = false
def LV (cd : Code) (ls : Array Slot) (L : List (Option Value)) : Prop :=
  ls.size = cd.maxLocals ∧ lv_wf ls ∧ L.length ≤ ls.size ∧ ∀ (i : Nat) (v : Value), L[i]? = some (some v) → v.category = 1 ∧ ls[i]? = some (.val v)
def Go (G : Gx) (R : Room) (cc : ByteArray) (own : String) (Y : Yx) : Cx → (State → Prop) → Nat → List (Option Value) → List Value → Wd → Nat → Nat → Prop
  | (p, e, s, m, args, below, meth, cd), Q, pc, L, st, w, c, k => Okk G cc own Y p s m meth cd → ∀ (H : Heap) (ls : Array Slot) (locs : List Loc), Rel G w H → va_S (gA G) s.heap H locs → LV cd ls L →
      W p G.1 e R s m args below meth cd H locs c k Q (F0 m pc ls st)
def lvL (L : List (Option Value)) : List (Nat × Value) := (List.range L.length).filterMap (fun i => (L[i]?.getD none).map (fun v => (i, v)))
theorem lvL_mem {L : List (Option Value)} {i : Nat} {v : Value} (h : L[i]? = some (some v)) : (i, v) ∈ lvL L := by
  unfold lvL
  refine List.mem_filterMap.mpr ⟨i, List.mem_range.mpr (List.getElem?_eq_some_iff.mp h).1, ?_⟩
  rw [h]; rfl
theorem lvL_mem' {L : List (Option Value)} {q : Nat × Value} (h : q ∈ lvL L) : L[q.1]? = some (some q.2) := by
  unfold lvL at h
  obtain ⟨i, -, hi⟩ := List.mem_filterMap.mp h
  cases hL : L[i]? with
  | none => rw [hL] at hi; cases hi
  | some x =>
    rw [hL] at hi
    cases x with
    | none => cases hi
    | some v => cases hi; exact hL
theorem LV.has {cd : Code} {ls : Array Slot} {L : List (Option Value)} (h : LV cd ls L) : lv_has ls ls.size (lvL L) := ⟨rfl, h.2.1, fun q hq => (h.2.2.2 q.1 q.2 (lvL_mem' hq)).2⟩
theorem LV.at {cd : Code} {ls : Array Slot} {L : List (Option Value)} (h : LV cd ls L) {i : Nat} {v : Value} (hi : L[i]? = some (some v)) : ls[i]? = some (.val v) := (h.2.2.2 i v hi).2
theorem LV.set {cd : Code} {ls ls' : Array Slot} {L : List (Option Value)} (h : LV cd ls L) {i : Nat} {v : Value} (hc : v.category = 1)
    (h' : lv_has ls' ls.size ((i, v) :: (lvL L).filter (fun q => !(q.1 == i) && !(q.1 + 1 == i && q.2.category == 2)))) : LV cd ls' (L.set i (some v)) := by
  obtain ⟨h1, h2, h3, h4⟩ := h
  obtain ⟨g1, g2, g3⟩ := h'
  refine ⟨g1.trans h1, g2, by rw [List.length_set]; omega, fun j u hj => ?_⟩
  by_cases hji : j = i
  · subst hji
    have hlt : j < L.length := by
      have := (List.getElem?_eq_some_iff.mp hj).1
      rwa [List.length_set] at this
    rw [List.getElem?_set_self hlt] at hj
    cases hj
    exact ⟨hc, g3 (j, v) List.mem_cons_self⟩
  · rw [List.getElem?_set_ne (Ne.symm hji)] at hj
    refine ⟨(h4 j u hj).1, g3 (j, u) (List.mem_cons_of_mem _ (List.mem_filter.mpr ⟨lvL_mem hj, ?_⟩))⟩
    have e1 : (j == i) = false := by simpa using hji
    have e2 : (u.category == 2) = false := by rw [(h4 j u hj).1]; rfl
    simp [e1, e2]
section GoRows
variable {G : Gx} {R : Room} {cc : ByteArray} {own : String} {Y : Yx} {C : Cx} {Q : State → Prop} {pc : Nat} {L : List (Option Value)} {st : List Value} {w : Wd} {c k : Nat}
theorem Go.widen {c' k' : Nat} (hc : c ≤ c') (hk : k ≤ k') (h : Go G R cc own Y C Q pc L st w c' k') : Go G R cc own Y C Q pc L st w c k := by
  obtain ⟨p, e, s, m, args, below, meth, cd⟩ := C
  intro O H ls locs hR hS hL
  exact W.widen hc hk (h O H ls locs hR hS hL)
theorem Go.atpc {pc' : Nat} (hp : pc = pc') (h : Go G R cc own Y C Q pc' L st w c k) : Go G R cc own Y C Q pc L st w c k := hp ▸ h
theorem Go.ls {L' : List (Option Value)} (h1 : L'.length = L.length) (hp : ∀ (i : Nat) (v : Value), L'[i]? = some (some v) → L[i]? = some (some v)) (h : Go G R cc own Y C Q pc L' st w c k) : Go G R cc own Y C Q pc L st w c k := by
  obtain ⟨p, e, s, m, args, below, meth, cd⟩ := C
  intro O H ls locs hR hS hL
  exact h O H ls locs hR hS ⟨hL.1, hL.2.1, by rw [h1]; exact hL.2.2.1, fun i v hi => hL.2.2.2 i v (hp i v hi)⟩

theorem g_iconst {n : Int} {v : Int32} (d : decode cc pc = .ok (.iconst n, 1)) (hv : Int32.ofInt n = v) (h : Go G R cc own Y C Q (pc + 1) L (.int v :: st) w c k) : Go G R cc own Y C Q pc L (st) w c k := by
  obtain ⟨p, e, s, m, args, below, meth, cd⟩ := C
  intro O H ls locs hR hS hL
  exact lv_iconst O.1 O.2.1 d hv (h O H ls locs hR hS hL)
theorem g_bipush {n : Int} {v : Int32} (d : decode cc pc = .ok (.bipush n, 2)) (hv : (Int8.ofInt n).toInt32 = v) (h : Go G R cc own Y C Q (pc + 2) L (.int v :: st) w c k) : Go G R cc own Y C Q pc L (st) w c k := by
  obtain ⟨p, e, s, m, args, below, meth, cd⟩ := C
  intro O H ls locs hR hS hL
  exact lv_bipush O.1 O.2.1 d hv (h O H ls locs hR hS hL)
theorem g_sipush {n : Int} {v : Int32} (d : decode cc pc = .ok (.sipush n, 3)) (hv : (Int16.ofInt n).toInt32 = v) (h : Go G R cc own Y C Q (pc + 3) L (.int v :: st) w c k) : Go G R cc own Y C Q pc L (st) w c k := by
  obtain ⟨p, e, s, m, args, below, meth, cd⟩ := C
  intro O H ls locs hR hS hL
  exact lv_sipush O.1 O.2.1 d hv (h O H ls locs hR hS hL)
theorem g_lconst {n : Fin 2} {v : Int64} (d : decode cc pc = .ok (.lconst n, 1)) (hv : Int64.ofNat (n : Nat) = v) (h : Go G R cc own Y C Q (pc + 1) L (.long v :: st) w c k) : Go G R cc own Y C Q pc L (st) w c k := by
  obtain ⟨p, e, s, m, args, below, meth, cd⟩ := C
  intro O H ls locs hR hS hL
  exact lv_lconst O.1 O.2.1 d hv (h O H ls locs hR hS hL)
theorem g_anull  (d : decode cc pc = .ok (.aconst_null, 1)) (h : Go G R cc own Y C Q (pc + 1) L (.null :: st) w c k) : Go G R cc own Y C Q pc L (st) w c k := by
  obtain ⟨p, e, s, m, args, below, meth, cd⟩ := C
  intro O H ls locs hR hS hL
  exact lv_null O.1 O.2.1 d (h O H ls locs hR hS hL)
theorem g_iadd {x y : Int32} (d : decode cc pc = .ok (.iadd, 1)) (h : Go G R cc own Y C Q (pc + 1) L (.int (x + y) :: st) w c k) : Go G R cc own Y C Q pc L (.int y :: .int x :: st) w c k := by
  obtain ⟨p, e, s, m, args, below, meth, cd⟩ := C
  intro O H ls locs hR hS hL
  exact lv_iadd O.1 O.2.1 d (h O H ls locs hR hS hL)
theorem g_isub {x y : Int32} (d : decode cc pc = .ok (.isub, 1)) (h : Go G R cc own Y C Q (pc + 1) L (.int (x - y) :: st) w c k) : Go G R cc own Y C Q pc L (.int y :: .int x :: st) w c k := by
  obtain ⟨p, e, s, m, args, below, meth, cd⟩ := C
  intro O H ls locs hR hS hL
  exact lv_isub O.1 O.2.1 d (h O H ls locs hR hS hL)
theorem g_imul {x y : Int32} (d : decode cc pc = .ok (.imul, 1)) (h : Go G R cc own Y C Q (pc + 1) L (.int (x * y) :: st) w c k) : Go G R cc own Y C Q pc L (.int y :: .int x :: st) w c k := by
  obtain ⟨p, e, s, m, args, below, meth, cd⟩ := C
  intro O H ls locs hR hS hL
  exact lv_imul O.1 O.2.1 d (h O H ls locs hR hS hL)
theorem g_iand {x y : Int32} (d : decode cc pc = .ok (.iand, 1)) (h : Go G R cc own Y C Q (pc + 1) L (.int (x &&& y) :: st) w c k) : Go G R cc own Y C Q pc L (.int y :: .int x :: st) w c k := by
  obtain ⟨p, e, s, m, args, below, meth, cd⟩ := C
  intro O H ls locs hR hS hL
  exact lv_iand O.1 O.2.1 d (h O H ls locs hR hS hL)
theorem g_ishr {x y : Int32} (d : decode cc pc = .ok (.ishr, 1)) (h : Go G R cc own Y C Q (pc + 1) L (.int (x >>> (y &&& 31)) :: st) w c k) : Go G R cc own Y C Q pc L (.int y :: .int x :: st) w c k := by
  obtain ⟨p, e, s, m, args, below, meth, cd⟩ := C
  intro O H ls locs hR hS hL
  exact lv_ishr O.1 O.2.1 d (h O H ls locs hR hS hL)
theorem g_irem {x y : Int32} (d : decode cc pc = .ok (.irem, 1)) (hne : ¬ y = 0) (h : Go G R cc own Y C Q (pc + 1) L (.int (x - x / y * y) :: st) w c k) : Go G R cc own Y C Q pc L (.int y :: .int x :: st) w c k := by
  obtain ⟨p, e, s, m, args, below, meth, cd⟩ := C
  intro O H ls locs hR hS hL
  exact lv_irem O.1 O.2.1 d hne (h O H ls locs hR hS hL)
theorem g_i2l {x : Int32} (d : decode cc pc = .ok (.i2l, 1)) (h : Go G R cc own Y C Q (pc + 1) L (.long x.toInt64 :: st) w c k) : Go G R cc own Y C Q pc L (.int x :: st) w c k := by
  obtain ⟨p, e, s, m, args, below, meth, cd⟩ := C
  intro O H ls locs hR hS hL
  exact lv_i2l O.1 O.2.1 d rfl (h O H ls locs hR hS hL)
theorem g_dup {v : Value} (d : decode cc pc = .ok (.dup, 1)) (hv : v.category = 1) (h : Go G R cc own Y C Q (pc + 1) L (v :: v :: st) w c k) : Go G R cc own Y C Q pc L (v :: st) w c k := by
  obtain ⟨p, e, s, m, args, below, meth, cd⟩ := C
  intro O H ls locs hR hS hL
  exact lv_dup O.1 O.2.1 d hv (h O H ls locs hR hS hL)
theorem g_pop {v : Value} (d : decode cc pc = .ok (.pop, 1)) (hv : v.category = 1) (h : Go G R cc own Y C Q (pc + 1) L (st) w c k) : Go G R cc own Y C Q pc L (v :: st) w c k := by
  obtain ⟨p, e, s, m, args, below, meth, cd⟩ := C
  intro O H ls locs hR hS hL
  exact lv_pop O.1 O.2.1 d hv (h O H ls locs hR hS hL)
theorem g_dup_x1 {v u : Value} (d : decode cc pc = .ok (.dup_x1, 1)) (hv : v.category = 1) (hu : u.category = 1) (h : Go G R cc own Y C Q (pc + 1) L (v :: u :: v :: st) w c k) : Go G R cc own Y C Q pc L (v :: u :: st) w c k := by
  obtain ⟨p, e, s, m, args, below, meth, cd⟩ := C
  intro O H ls locs hR hS hL
  exact lv_dup_x1 O.1 O.2.1 d hv hu (h O H ls locs hR hS hL)
theorem g_dup2 {v u : Value} (d : decode cc pc = .ok (.dup2, 1)) (hv : v.category = 1) (hu : u.category = 1) (h : Go G R cc own Y C Q (pc + 1) L (v :: u :: v :: u :: st) w c k) : Go G R cc own Y C Q pc L (v :: u :: st) w c k := by
  obtain ⟨p, e, s, m, args, below, meth, cd⟩ := C
  intro O H ls locs hR hS hL
  exact lv_dup2_11 O.1 O.2.1 d hv hu (h O H ls locs hR hS hL)
theorem g_iload0 {v : Int32} (d : decode cc pc = .ok (.iload_n 0, 1)) (h : Go G R cc own Y C Q (pc + 1) (some (.int v) :: L) (.int v :: st) w c k) : Go G R cc own Y C Q pc (some (.int v) :: L) st w c k := by
  obtain ⟨p, e, s, m, args, below, meth, cd⟩ := C
  intro O H ls locs hR hS hL
  exact lv_iload_n O.1 O.2.1 d rfl (hL.at (i := 0) rfl) (h O H ls locs hR hS hL)
theorem g_istore0 {y : Option Value} {v : Int32} (d : decode cc pc = .ok (.istore_n 0, 1)) (h : Go G R cc own Y C Q (pc + 1) (some (.int v) :: L) st w c k) : Go G R cc own Y C Q pc (y :: L) (.int v :: st) w c k := by
  obtain ⟨p, e, s, m, args, below, meth, cd⟩ := C
  intro O H ls locs hR hS hL
  exact lv_istore_n (i := 0) O.1 O.2.1 d rfl hL.has (Nat.lt_of_lt_of_le (by simp) hL.2.2.1) rfl (fun ls' hl' => h O H ls' locs hR hS (hL.set (i := 0) rfl hl'))
theorem g_aload0 {v : Nat} (d : decode cc pc = .ok (.aload_n 0, 1)) (h : Go G R cc own Y C Q (pc + 1) (some (.ref v) :: L) (.ref v :: st) w c k) : Go G R cc own Y C Q pc (some (.ref v) :: L) st w c k := by
  obtain ⟨p, e, s, m, args, below, meth, cd⟩ := C
  intro O H ls locs hR hS hL
  exact lv_aload_n O.1 O.2.1 d rfl (hL.at (i := 0) rfl) (h O H ls locs hR hS hL)
theorem g_astore0 {y : Option Value} {v : Nat} (d : decode cc pc = .ok (.astore_n 0, 1)) (h : Go G R cc own Y C Q (pc + 1) (some (.ref v) :: L) st w c k) : Go G R cc own Y C Q pc (y :: L) (.ref v :: st) w c k := by
  obtain ⟨p, e, s, m, args, below, meth, cd⟩ := C
  intro O H ls locs hR hS hL
  exact lv_astore_n (i := 0) O.1 O.2.1 d rfl hL.has (Nat.lt_of_lt_of_le (by simp) hL.2.2.1) rfl (fun ls' hl' => h O H ls' locs hR hS (hL.set (i := 0) rfl hl'))
theorem g_aload0N (d : decode cc pc = .ok (.aload_n 0, 1)) (h : Go G R cc own Y C Q (pc + 1) (some .null :: L) (.null :: st) w c k) : Go G R cc own Y C Q pc (some .null :: L) st w c k := by
  obtain ⟨p, e, s, m, args, below, meth, cd⟩ := C
  intro O H ls locs hR hS hL
  exact lv_aload_nN O.1 O.2.1 d rfl (hL.at (i := 0) rfl) (h O H ls locs hR hS hL)
theorem g_astore0N {y : Option Value} (d : decode cc pc = .ok (.astore_n 0, 1)) (h : Go G R cc own Y C Q (pc + 1) (some .null :: L) st w c k) : Go G R cc own Y C Q pc (y :: L) (.null :: st) w c k := by
  obtain ⟨p, e, s, m, args, below, meth, cd⟩ := C
  intro O H ls locs hR hS hL
  exact lv_astore_nN (i := 0) O.1 O.2.1 d rfl hL.has (Nat.lt_of_lt_of_le (by simp) hL.2.2.1) rfl (fun ls' hl' => h O H ls' locs hR hS (hL.set (i := 0) rfl hl'))
theorem g_iinc0 {v v' : Int32} {n : Int} (d : decode cc pc = .ok (.iinc 0 n, 3)) (hv : v + Int32.ofInt n = v') (h : Go G R cc own Y C Q (pc + 3) (some (.int v') :: L) st w c k) : Go G R cc own Y C Q pc (some (.int v) :: L) st w c k := by
  obtain ⟨p, e, s, m, args, below, meth, cd⟩ := C
  intro O H ls locs hR hS hL
  obtain ⟨j, hj⟩ := List.getElem?_of_mem (lvL_mem (L := some (.int v) :: L) (i := 0) (v := .int v) rfl)
  exact lv_iinc O.1 O.2.1 d hL.has hj hv (Nat.lt_of_lt_of_le (by simp) hL.2.2.1) rfl (fun ls' hl' => h O H ls' locs hR hS (hL.set (i := 0) rfl hl'))
theorem g_iload1 {x0 : Option Value} {v : Int32} (d : decode cc pc = .ok (.iload_n 1, 1)) (h : Go G R cc own Y C Q (pc + 1) (x0 :: some (.int v) :: L) (.int v :: st) w c k) : Go G R cc own Y C Q pc (x0 :: some (.int v) :: L) st w c k := by
  obtain ⟨p, e, s, m, args, below, meth, cd⟩ := C
  intro O H ls locs hR hS hL
  exact lv_iload_n O.1 O.2.1 d rfl (hL.at (i := 1) rfl) (h O H ls locs hR hS hL)
theorem g_istore1 {x0 : Option Value} {y : Option Value} {v : Int32} (d : decode cc pc = .ok (.istore_n 1, 1)) (h : Go G R cc own Y C Q (pc + 1) (x0 :: some (.int v) :: L) st w c k) : Go G R cc own Y C Q pc (x0 :: y :: L) (.int v :: st) w c k := by
  obtain ⟨p, e, s, m, args, below, meth, cd⟩ := C
  intro O H ls locs hR hS hL
  exact lv_istore_n (i := 1) O.1 O.2.1 d rfl hL.has (Nat.lt_of_lt_of_le (by simp) hL.2.2.1) rfl (fun ls' hl' => h O H ls' locs hR hS (hL.set (i := 1) rfl hl'))
theorem g_aload1 {x0 : Option Value} {v : Nat} (d : decode cc pc = .ok (.aload_n 1, 1)) (h : Go G R cc own Y C Q (pc + 1) (x0 :: some (.ref v) :: L) (.ref v :: st) w c k) : Go G R cc own Y C Q pc (x0 :: some (.ref v) :: L) st w c k := by
  obtain ⟨p, e, s, m, args, below, meth, cd⟩ := C
  intro O H ls locs hR hS hL
  exact lv_aload_n O.1 O.2.1 d rfl (hL.at (i := 1) rfl) (h O H ls locs hR hS hL)
theorem g_astore1 {x0 : Option Value} {y : Option Value} {v : Nat} (d : decode cc pc = .ok (.astore_n 1, 1)) (h : Go G R cc own Y C Q (pc + 1) (x0 :: some (.ref v) :: L) st w c k) : Go G R cc own Y C Q pc (x0 :: y :: L) (.ref v :: st) w c k := by
  obtain ⟨p, e, s, m, args, below, meth, cd⟩ := C
  intro O H ls locs hR hS hL
  exact lv_astore_n (i := 1) O.1 O.2.1 d rfl hL.has (Nat.lt_of_lt_of_le (by simp) hL.2.2.1) rfl (fun ls' hl' => h O H ls' locs hR hS (hL.set (i := 1) rfl hl'))
theorem g_aload1N {x0 : Option Value} (d : decode cc pc = .ok (.aload_n 1, 1)) (h : Go G R cc own Y C Q (pc + 1) (x0 :: some .null :: L) (.null :: st) w c k) : Go G R cc own Y C Q pc (x0 :: some .null :: L) st w c k := by
  obtain ⟨p, e, s, m, args, below, meth, cd⟩ := C
  intro O H ls locs hR hS hL
  exact lv_aload_nN O.1 O.2.1 d rfl (hL.at (i := 1) rfl) (h O H ls locs hR hS hL)
theorem g_astore1N {x0 : Option Value} {y : Option Value} (d : decode cc pc = .ok (.astore_n 1, 1)) (h : Go G R cc own Y C Q (pc + 1) (x0 :: some .null :: L) st w c k) : Go G R cc own Y C Q pc (x0 :: y :: L) (.null :: st) w c k := by
  obtain ⟨p, e, s, m, args, below, meth, cd⟩ := C
  intro O H ls locs hR hS hL
  exact lv_astore_nN (i := 1) O.1 O.2.1 d rfl hL.has (Nat.lt_of_lt_of_le (by simp) hL.2.2.1) rfl (fun ls' hl' => h O H ls' locs hR hS (hL.set (i := 1) rfl hl'))
theorem g_iinc1 {x0 : Option Value} {v v' : Int32} {n : Int} (d : decode cc pc = .ok (.iinc 1 n, 3)) (hv : v + Int32.ofInt n = v') (h : Go G R cc own Y C Q (pc + 3) (x0 :: some (.int v') :: L) st w c k) : Go G R cc own Y C Q pc (x0 :: some (.int v) :: L) st w c k := by
  obtain ⟨p, e, s, m, args, below, meth, cd⟩ := C
  intro O H ls locs hR hS hL
  obtain ⟨j, hj⟩ := List.getElem?_of_mem (lvL_mem (L := x0 :: some (.int v) :: L) (i := 1) (v := .int v) rfl)
  exact lv_iinc O.1 O.2.1 d hL.has hj hv (Nat.lt_of_lt_of_le (by simp) hL.2.2.1) rfl (fun ls' hl' => h O H ls' locs hR hS (hL.set (i := 1) rfl hl'))
theorem g_iload2 {x0 x1 : Option Value} {v : Int32} (d : decode cc pc = .ok (.iload_n 2, 1)) (h : Go G R cc own Y C Q (pc + 1) (x0 :: x1 :: some (.int v) :: L) (.int v :: st) w c k) : Go G R cc own Y C Q pc (x0 :: x1 :: some (.int v) :: L) st w c k := by
  obtain ⟨p, e, s, m, args, below, meth, cd⟩ := C
  intro O H ls locs hR hS hL
  exact lv_iload_n O.1 O.2.1 d rfl (hL.at (i := 2) rfl) (h O H ls locs hR hS hL)
theorem g_istore2 {x0 x1 : Option Value} {y : Option Value} {v : Int32} (d : decode cc pc = .ok (.istore_n 2, 1)) (h : Go G R cc own Y C Q (pc + 1) (x0 :: x1 :: some (.int v) :: L) st w c k) : Go G R cc own Y C Q pc (x0 :: x1 :: y :: L) (.int v :: st) w c k := by
  obtain ⟨p, e, s, m, args, below, meth, cd⟩ := C
  intro O H ls locs hR hS hL
  exact lv_istore_n (i := 2) O.1 O.2.1 d rfl hL.has (Nat.lt_of_lt_of_le (by simp) hL.2.2.1) rfl (fun ls' hl' => h O H ls' locs hR hS (hL.set (i := 2) rfl hl'))
theorem g_aload2 {x0 x1 : Option Value} {v : Nat} (d : decode cc pc = .ok (.aload_n 2, 1)) (h : Go G R cc own Y C Q (pc + 1) (x0 :: x1 :: some (.ref v) :: L) (.ref v :: st) w c k) : Go G R cc own Y C Q pc (x0 :: x1 :: some (.ref v) :: L) st w c k := by
  obtain ⟨p, e, s, m, args, below, meth, cd⟩ := C
  intro O H ls locs hR hS hL
  exact lv_aload_n O.1 O.2.1 d rfl (hL.at (i := 2) rfl) (h O H ls locs hR hS hL)
theorem g_astore2 {x0 x1 : Option Value} {y : Option Value} {v : Nat} (d : decode cc pc = .ok (.astore_n 2, 1)) (h : Go G R cc own Y C Q (pc + 1) (x0 :: x1 :: some (.ref v) :: L) st w c k) : Go G R cc own Y C Q pc (x0 :: x1 :: y :: L) (.ref v :: st) w c k := by
  obtain ⟨p, e, s, m, args, below, meth, cd⟩ := C
  intro O H ls locs hR hS hL
  exact lv_astore_n (i := 2) O.1 O.2.1 d rfl hL.has (Nat.lt_of_lt_of_le (by simp) hL.2.2.1) rfl (fun ls' hl' => h O H ls' locs hR hS (hL.set (i := 2) rfl hl'))
theorem g_aload2N {x0 x1 : Option Value} (d : decode cc pc = .ok (.aload_n 2, 1)) (h : Go G R cc own Y C Q (pc + 1) (x0 :: x1 :: some .null :: L) (.null :: st) w c k) : Go G R cc own Y C Q pc (x0 :: x1 :: some .null :: L) st w c k := by
  obtain ⟨p, e, s, m, args, below, meth, cd⟩ := C
  intro O H ls locs hR hS hL
  exact lv_aload_nN O.1 O.2.1 d rfl (hL.at (i := 2) rfl) (h O H ls locs hR hS hL)
theorem g_astore2N {x0 x1 : Option Value} {y : Option Value} (d : decode cc pc = .ok (.astore_n 2, 1)) (h : Go G R cc own Y C Q (pc + 1) (x0 :: x1 :: some .null :: L) st w c k) : Go G R cc own Y C Q pc (x0 :: x1 :: y :: L) (.null :: st) w c k := by
  obtain ⟨p, e, s, m, args, below, meth, cd⟩ := C
  intro O H ls locs hR hS hL
  exact lv_astore_nN (i := 2) O.1 O.2.1 d rfl hL.has (Nat.lt_of_lt_of_le (by simp) hL.2.2.1) rfl (fun ls' hl' => h O H ls' locs hR hS (hL.set (i := 2) rfl hl'))
theorem g_iinc2 {x0 x1 : Option Value} {v v' : Int32} {n : Int} (d : decode cc pc = .ok (.iinc 2 n, 3)) (hv : v + Int32.ofInt n = v') (h : Go G R cc own Y C Q (pc + 3) (x0 :: x1 :: some (.int v') :: L) st w c k) : Go G R cc own Y C Q pc (x0 :: x1 :: some (.int v) :: L) st w c k := by
  obtain ⟨p, e, s, m, args, below, meth, cd⟩ := C
  intro O H ls locs hR hS hL
  obtain ⟨j, hj⟩ := List.getElem?_of_mem (lvL_mem (L := x0 :: x1 :: some (.int v) :: L) (i := 2) (v := .int v) rfl)
  exact lv_iinc O.1 O.2.1 d hL.has hj hv (Nat.lt_of_lt_of_le (by simp) hL.2.2.1) rfl (fun ls' hl' => h O H ls' locs hR hS (hL.set (i := 2) rfl hl'))
theorem g_iload3 {x0 x1 x2 : Option Value} {v : Int32} (d : decode cc pc = .ok (.iload_n 3, 1)) (h : Go G R cc own Y C Q (pc + 1) (x0 :: x1 :: x2 :: some (.int v) :: L) (.int v :: st) w c k) : Go G R cc own Y C Q pc (x0 :: x1 :: x2 :: some (.int v) :: L) st w c k := by
  obtain ⟨p, e, s, m, args, below, meth, cd⟩ := C
  intro O H ls locs hR hS hL
  exact lv_iload_n O.1 O.2.1 d rfl (hL.at (i := 3) rfl) (h O H ls locs hR hS hL)
theorem g_istore3 {x0 x1 x2 : Option Value} {y : Option Value} {v : Int32} (d : decode cc pc = .ok (.istore_n 3, 1)) (h : Go G R cc own Y C Q (pc + 1) (x0 :: x1 :: x2 :: some (.int v) :: L) st w c k) : Go G R cc own Y C Q pc (x0 :: x1 :: x2 :: y :: L) (.int v :: st) w c k := by
  obtain ⟨p, e, s, m, args, below, meth, cd⟩ := C
  intro O H ls locs hR hS hL
  exact lv_istore_n (i := 3) O.1 O.2.1 d rfl hL.has (Nat.lt_of_lt_of_le (by simp) hL.2.2.1) rfl (fun ls' hl' => h O H ls' locs hR hS (hL.set (i := 3) rfl hl'))
theorem g_aload3 {x0 x1 x2 : Option Value} {v : Nat} (d : decode cc pc = .ok (.aload_n 3, 1)) (h : Go G R cc own Y C Q (pc + 1) (x0 :: x1 :: x2 :: some (.ref v) :: L) (.ref v :: st) w c k) : Go G R cc own Y C Q pc (x0 :: x1 :: x2 :: some (.ref v) :: L) st w c k := by
  obtain ⟨p, e, s, m, args, below, meth, cd⟩ := C
  intro O H ls locs hR hS hL
  exact lv_aload_n O.1 O.2.1 d rfl (hL.at (i := 3) rfl) (h O H ls locs hR hS hL)
theorem g_astore3 {x0 x1 x2 : Option Value} {y : Option Value} {v : Nat} (d : decode cc pc = .ok (.astore_n 3, 1)) (h : Go G R cc own Y C Q (pc + 1) (x0 :: x1 :: x2 :: some (.ref v) :: L) st w c k) : Go G R cc own Y C Q pc (x0 :: x1 :: x2 :: y :: L) (.ref v :: st) w c k := by
  obtain ⟨p, e, s, m, args, below, meth, cd⟩ := C
  intro O H ls locs hR hS hL
  exact lv_astore_n (i := 3) O.1 O.2.1 d rfl hL.has (Nat.lt_of_lt_of_le (by simp) hL.2.2.1) rfl (fun ls' hl' => h O H ls' locs hR hS (hL.set (i := 3) rfl hl'))
theorem g_aload3N {x0 x1 x2 : Option Value} (d : decode cc pc = .ok (.aload_n 3, 1)) (h : Go G R cc own Y C Q (pc + 1) (x0 :: x1 :: x2 :: some .null :: L) (.null :: st) w c k) : Go G R cc own Y C Q pc (x0 :: x1 :: x2 :: some .null :: L) st w c k := by
  obtain ⟨p, e, s, m, args, below, meth, cd⟩ := C
  intro O H ls locs hR hS hL
  exact lv_aload_nN O.1 O.2.1 d rfl (hL.at (i := 3) rfl) (h O H ls locs hR hS hL)
theorem g_astore3N {x0 x1 x2 : Option Value} {y : Option Value} (d : decode cc pc = .ok (.astore_n 3, 1)) (h : Go G R cc own Y C Q (pc + 1) (x0 :: x1 :: x2 :: some .null :: L) st w c k) : Go G R cc own Y C Q pc (x0 :: x1 :: x2 :: y :: L) (.null :: st) w c k := by
  obtain ⟨p, e, s, m, args, below, meth, cd⟩ := C
  intro O H ls locs hR hS hL
  exact lv_astore_nN (i := 3) O.1 O.2.1 d rfl hL.has (Nat.lt_of_lt_of_le (by simp) hL.2.2.1) rfl (fun ls' hl' => h O H ls' locs hR hS (hL.set (i := 3) rfl hl'))
theorem g_iinc3 {x0 x1 x2 : Option Value} {v v' : Int32} {n : Int} (d : decode cc pc = .ok (.iinc 3 n, 3)) (hv : v + Int32.ofInt n = v') (h : Go G R cc own Y C Q (pc + 3) (x0 :: x1 :: x2 :: some (.int v') :: L) st w c k) : Go G R cc own Y C Q pc (x0 :: x1 :: x2 :: some (.int v) :: L) st w c k := by
  obtain ⟨p, e, s, m, args, below, meth, cd⟩ := C
  intro O H ls locs hR hS hL
  obtain ⟨j, hj⟩ := List.getElem?_of_mem (lvL_mem (L := x0 :: x1 :: x2 :: some (.int v) :: L) (i := 3) (v := .int v) rfl)
  exact lv_iinc O.1 O.2.1 d hL.has hj hv (Nat.lt_of_lt_of_le (by simp) hL.2.2.1) rfl (fun ls' hl' => h O H ls' locs hR hS (hL.set (i := 3) rfl hl'))
theorem g_iload4 {x0 x1 x2 x3 : Option Value} {v : Int32} (d : decode cc pc = .ok (.iload 4, 2)) (h : Go G R cc own Y C Q (pc + 2) (x0 :: x1 :: x2 :: x3 :: some (.int v) :: L) (.int v :: st) w c k) : Go G R cc own Y C Q pc (x0 :: x1 :: x2 :: x3 :: some (.int v) :: L) st w c k := by
  obtain ⟨p, e, s, m, args, below, meth, cd⟩ := C
  intro O H ls locs hR hS hL
  exact lv_iload O.1 O.2.1 d (hL.at (i := 4) rfl) (h O H ls locs hR hS hL)
theorem g_istore4 {x0 x1 x2 x3 : Option Value} {y : Option Value} {v : Int32} (d : decode cc pc = .ok (.istore 4, 2)) (h : Go G R cc own Y C Q (pc + 2) (x0 :: x1 :: x2 :: x3 :: some (.int v) :: L) st w c k) : Go G R cc own Y C Q pc (x0 :: x1 :: x2 :: x3 :: y :: L) (.int v :: st) w c k := by
  obtain ⟨p, e, s, m, args, below, meth, cd⟩ := C
  intro O H ls locs hR hS hL
  exact lv_istore O.1 O.2.1 d hL.has (Nat.lt_of_lt_of_le (by simp) hL.2.2.1) rfl (fun ls' hl' => h O H ls' locs hR hS (hL.set (i := 4) rfl hl'))
theorem g_aload4 {x0 x1 x2 x3 : Option Value} {v : Nat} (d : decode cc pc = .ok (.aload 4, 2)) (h : Go G R cc own Y C Q (pc + 2) (x0 :: x1 :: x2 :: x3 :: some (.ref v) :: L) (.ref v :: st) w c k) : Go G R cc own Y C Q pc (x0 :: x1 :: x2 :: x3 :: some (.ref v) :: L) st w c k := by
  obtain ⟨p, e, s, m, args, below, meth, cd⟩ := C
  intro O H ls locs hR hS hL
  exact lv_aload O.1 O.2.1 d (hL.at (i := 4) rfl) (h O H ls locs hR hS hL)
theorem g_astore4 {x0 x1 x2 x3 : Option Value} {y : Option Value} {v : Nat} (d : decode cc pc = .ok (.astore 4, 2)) (h : Go G R cc own Y C Q (pc + 2) (x0 :: x1 :: x2 :: x3 :: some (.ref v) :: L) st w c k) : Go G R cc own Y C Q pc (x0 :: x1 :: x2 :: x3 :: y :: L) (.ref v :: st) w c k := by
  obtain ⟨p, e, s, m, args, below, meth, cd⟩ := C
  intro O H ls locs hR hS hL
  exact lv_astore O.1 O.2.1 d hL.has (Nat.lt_of_lt_of_le (by simp) hL.2.2.1) rfl (fun ls' hl' => h O H ls' locs hR hS (hL.set (i := 4) rfl hl'))
theorem g_iinc4 {x0 x1 x2 x3 : Option Value} {v v' : Int32} {n : Int} (d : decode cc pc = .ok (.iinc 4 n, 3)) (hv : v + Int32.ofInt n = v') (h : Go G R cc own Y C Q (pc + 3) (x0 :: x1 :: x2 :: x3 :: some (.int v') :: L) st w c k) : Go G R cc own Y C Q pc (x0 :: x1 :: x2 :: x3 :: some (.int v) :: L) st w c k := by
  obtain ⟨p, e, s, m, args, below, meth, cd⟩ := C
  intro O H ls locs hR hS hL
  obtain ⟨j, hj⟩ := List.getElem?_of_mem (lvL_mem (L := x0 :: x1 :: x2 :: x3 :: some (.int v) :: L) (i := 4) (v := .int v) rfl)
  exact lv_iinc O.1 O.2.1 d hL.has hj hv (Nat.lt_of_lt_of_le (by simp) hL.2.2.1) rfl (fun ls' hl' => h O H ls' locs hR hS (hL.set (i := 4) rfl hl'))
theorem g_iload5 {x0 x1 x2 x3 x4 : Option Value} {v : Int32} (d : decode cc pc = .ok (.iload 5, 2)) (h : Go G R cc own Y C Q (pc + 2) (x0 :: x1 :: x2 :: x3 :: x4 :: some (.int v) :: L) (.int v :: st) w c k) : Go G R cc own Y C Q pc (x0 :: x1 :: x2 :: x3 :: x4 :: some (.int v) :: L) st w c k := by
  obtain ⟨p, e, s, m, args, below, meth, cd⟩ := C
  intro O H ls locs hR hS hL
  exact lv_iload O.1 O.2.1 d (hL.at (i := 5) rfl) (h O H ls locs hR hS hL)
theorem g_istore5 {x0 x1 x2 x3 x4 : Option Value} {y : Option Value} {v : Int32} (d : decode cc pc = .ok (.istore 5, 2)) (h : Go G R cc own Y C Q (pc + 2) (x0 :: x1 :: x2 :: x3 :: x4 :: some (.int v) :: L) st w c k) : Go G R cc own Y C Q pc (x0 :: x1 :: x2 :: x3 :: x4 :: y :: L) (.int v :: st) w c k := by
  obtain ⟨p, e, s, m, args, below, meth, cd⟩ := C
  intro O H ls locs hR hS hL
  exact lv_istore O.1 O.2.1 d hL.has (Nat.lt_of_lt_of_le (by simp) hL.2.2.1) rfl (fun ls' hl' => h O H ls' locs hR hS (hL.set (i := 5) rfl hl'))
theorem g_aload5 {x0 x1 x2 x3 x4 : Option Value} {v : Nat} (d : decode cc pc = .ok (.aload 5, 2)) (h : Go G R cc own Y C Q (pc + 2) (x0 :: x1 :: x2 :: x3 :: x4 :: some (.ref v) :: L) (.ref v :: st) w c k) : Go G R cc own Y C Q pc (x0 :: x1 :: x2 :: x3 :: x4 :: some (.ref v) :: L) st w c k := by
  obtain ⟨p, e, s, m, args, below, meth, cd⟩ := C
  intro O H ls locs hR hS hL
  exact lv_aload O.1 O.2.1 d (hL.at (i := 5) rfl) (h O H ls locs hR hS hL)
theorem g_astore5 {x0 x1 x2 x3 x4 : Option Value} {y : Option Value} {v : Nat} (d : decode cc pc = .ok (.astore 5, 2)) (h : Go G R cc own Y C Q (pc + 2) (x0 :: x1 :: x2 :: x3 :: x4 :: some (.ref v) :: L) st w c k) : Go G R cc own Y C Q pc (x0 :: x1 :: x2 :: x3 :: x4 :: y :: L) (.ref v :: st) w c k := by
  obtain ⟨p, e, s, m, args, below, meth, cd⟩ := C
  intro O H ls locs hR hS hL
  exact lv_astore O.1 O.2.1 d hL.has (Nat.lt_of_lt_of_le (by simp) hL.2.2.1) rfl (fun ls' hl' => h O H ls' locs hR hS (hL.set (i := 5) rfl hl'))
theorem g_iinc5 {x0 x1 x2 x3 x4 : Option Value} {v v' : Int32} {n : Int} (d : decode cc pc = .ok (.iinc 5 n, 3)) (hv : v + Int32.ofInt n = v') (h : Go G R cc own Y C Q (pc + 3) (x0 :: x1 :: x2 :: x3 :: x4 :: some (.int v') :: L) st w c k) : Go G R cc own Y C Q pc (x0 :: x1 :: x2 :: x3 :: x4 :: some (.int v) :: L) st w c k := by
  obtain ⟨p, e, s, m, args, below, meth, cd⟩ := C
  intro O H ls locs hR hS hL
  obtain ⟨j, hj⟩ := List.getElem?_of_mem (lvL_mem (L := x0 :: x1 :: x2 :: x3 :: x4 :: some (.int v) :: L) (i := 5) (v := .int v) rfl)
  exact lv_iinc O.1 O.2.1 d hL.has hj hv (Nat.lt_of_lt_of_le (by simp) hL.2.2.1) rfl (fun ls' hl' => h O H ls' locs hR hS (hL.set (i := 5) rfl hl'))
theorem g_iload6 {x0 x1 x2 x3 x4 x5 : Option Value} {v : Int32} (d : decode cc pc = .ok (.iload 6, 2)) (h : Go G R cc own Y C Q (pc + 2) (x0 :: x1 :: x2 :: x3 :: x4 :: x5 :: some (.int v) :: L) (.int v :: st) w c k) : Go G R cc own Y C Q pc (x0 :: x1 :: x2 :: x3 :: x4 :: x5 :: some (.int v) :: L) st w c k := by
  obtain ⟨p, e, s, m, args, below, meth, cd⟩ := C
  intro O H ls locs hR hS hL
  exact lv_iload O.1 O.2.1 d (hL.at (i := 6) rfl) (h O H ls locs hR hS hL)
theorem g_istore6 {x0 x1 x2 x3 x4 x5 : Option Value} {y : Option Value} {v : Int32} (d : decode cc pc = .ok (.istore 6, 2)) (h : Go G R cc own Y C Q (pc + 2) (x0 :: x1 :: x2 :: x3 :: x4 :: x5 :: some (.int v) :: L) st w c k) : Go G R cc own Y C Q pc (x0 :: x1 :: x2 :: x3 :: x4 :: x5 :: y :: L) (.int v :: st) w c k := by
  obtain ⟨p, e, s, m, args, below, meth, cd⟩ := C
  intro O H ls locs hR hS hL
  exact lv_istore O.1 O.2.1 d hL.has (Nat.lt_of_lt_of_le (by simp) hL.2.2.1) rfl (fun ls' hl' => h O H ls' locs hR hS (hL.set (i := 6) rfl hl'))
theorem g_aload6 {x0 x1 x2 x3 x4 x5 : Option Value} {v : Nat} (d : decode cc pc = .ok (.aload 6, 2)) (h : Go G R cc own Y C Q (pc + 2) (x0 :: x1 :: x2 :: x3 :: x4 :: x5 :: some (.ref v) :: L) (.ref v :: st) w c k) : Go G R cc own Y C Q pc (x0 :: x1 :: x2 :: x3 :: x4 :: x5 :: some (.ref v) :: L) st w c k := by
  obtain ⟨p, e, s, m, args, below, meth, cd⟩ := C
  intro O H ls locs hR hS hL
  exact lv_aload O.1 O.2.1 d (hL.at (i := 6) rfl) (h O H ls locs hR hS hL)
theorem g_astore6 {x0 x1 x2 x3 x4 x5 : Option Value} {y : Option Value} {v : Nat} (d : decode cc pc = .ok (.astore 6, 2)) (h : Go G R cc own Y C Q (pc + 2) (x0 :: x1 :: x2 :: x3 :: x4 :: x5 :: some (.ref v) :: L) st w c k) : Go G R cc own Y C Q pc (x0 :: x1 :: x2 :: x3 :: x4 :: x5 :: y :: L) (.ref v :: st) w c k := by
  obtain ⟨p, e, s, m, args, below, meth, cd⟩ := C
  intro O H ls locs hR hS hL
  exact lv_astore O.1 O.2.1 d hL.has (Nat.lt_of_lt_of_le (by simp) hL.2.2.1) rfl (fun ls' hl' => h O H ls' locs hR hS (hL.set (i := 6) rfl hl'))
theorem g_iinc6 {x0 x1 x2 x3 x4 x5 : Option Value} {v v' : Int32} {n : Int} (d : decode cc pc = .ok (.iinc 6 n, 3)) (hv : v + Int32.ofInt n = v') (h : Go G R cc own Y C Q (pc + 3) (x0 :: x1 :: x2 :: x3 :: x4 :: x5 :: some (.int v') :: L) st w c k) : Go G R cc own Y C Q pc (x0 :: x1 :: x2 :: x3 :: x4 :: x5 :: some (.int v) :: L) st w c k := by
  obtain ⟨p, e, s, m, args, below, meth, cd⟩ := C
  intro O H ls locs hR hS hL
  obtain ⟨j, hj⟩ := List.getElem?_of_mem (lvL_mem (L := x0 :: x1 :: x2 :: x3 :: x4 :: x5 :: some (.int v) :: L) (i := 6) (v := .int v) rfl)
  exact lv_iinc O.1 O.2.1 d hL.has hj hv (Nat.lt_of_lt_of_le (by simp) hL.2.2.1) rfl (fun ls' hl' => h O H ls' locs hR hS (hL.set (i := 6) rfl hl'))
theorem g_iload7 {x0 x1 x2 x3 x4 x5 x6 : Option Value} {v : Int32} (d : decode cc pc = .ok (.iload 7, 2)) (h : Go G R cc own Y C Q (pc + 2) (x0 :: x1 :: x2 :: x3 :: x4 :: x5 :: x6 :: some (.int v) :: L) (.int v :: st) w c k) : Go G R cc own Y C Q pc (x0 :: x1 :: x2 :: x3 :: x4 :: x5 :: x6 :: some (.int v) :: L) st w c k := by
  obtain ⟨p, e, s, m, args, below, meth, cd⟩ := C
  intro O H ls locs hR hS hL
  exact lv_iload O.1 O.2.1 d (hL.at (i := 7) rfl) (h O H ls locs hR hS hL)
theorem g_istore7 {x0 x1 x2 x3 x4 x5 x6 : Option Value} {y : Option Value} {v : Int32} (d : decode cc pc = .ok (.istore 7, 2)) (h : Go G R cc own Y C Q (pc + 2) (x0 :: x1 :: x2 :: x3 :: x4 :: x5 :: x6 :: some (.int v) :: L) st w c k) : Go G R cc own Y C Q pc (x0 :: x1 :: x2 :: x3 :: x4 :: x5 :: x6 :: y :: L) (.int v :: st) w c k := by
  obtain ⟨p, e, s, m, args, below, meth, cd⟩ := C
  intro O H ls locs hR hS hL
  exact lv_istore O.1 O.2.1 d hL.has (Nat.lt_of_lt_of_le (by simp) hL.2.2.1) rfl (fun ls' hl' => h O H ls' locs hR hS (hL.set (i := 7) rfl hl'))
theorem g_aload7 {x0 x1 x2 x3 x4 x5 x6 : Option Value} {v : Nat} (d : decode cc pc = .ok (.aload 7, 2)) (h : Go G R cc own Y C Q (pc + 2) (x0 :: x1 :: x2 :: x3 :: x4 :: x5 :: x6 :: some (.ref v) :: L) (.ref v :: st) w c k) : Go G R cc own Y C Q pc (x0 :: x1 :: x2 :: x3 :: x4 :: x5 :: x6 :: some (.ref v) :: L) st w c k := by
  obtain ⟨p, e, s, m, args, below, meth, cd⟩ := C
  intro O H ls locs hR hS hL
  exact lv_aload O.1 O.2.1 d (hL.at (i := 7) rfl) (h O H ls locs hR hS hL)
theorem g_astore7 {x0 x1 x2 x3 x4 x5 x6 : Option Value} {y : Option Value} {v : Nat} (d : decode cc pc = .ok (.astore 7, 2)) (h : Go G R cc own Y C Q (pc + 2) (x0 :: x1 :: x2 :: x3 :: x4 :: x5 :: x6 :: some (.ref v) :: L) st w c k) : Go G R cc own Y C Q pc (x0 :: x1 :: x2 :: x3 :: x4 :: x5 :: x6 :: y :: L) (.ref v :: st) w c k := by
  obtain ⟨p, e, s, m, args, below, meth, cd⟩ := C
  intro O H ls locs hR hS hL
  exact lv_astore O.1 O.2.1 d hL.has (Nat.lt_of_lt_of_le (by simp) hL.2.2.1) rfl (fun ls' hl' => h O H ls' locs hR hS (hL.set (i := 7) rfl hl'))
theorem g_iinc7 {x0 x1 x2 x3 x4 x5 x6 : Option Value} {v v' : Int32} {n : Int} (d : decode cc pc = .ok (.iinc 7 n, 3)) (hv : v + Int32.ofInt n = v') (h : Go G R cc own Y C Q (pc + 3) (x0 :: x1 :: x2 :: x3 :: x4 :: x5 :: x6 :: some (.int v') :: L) st w c k) : Go G R cc own Y C Q pc (x0 :: x1 :: x2 :: x3 :: x4 :: x5 :: x6 :: some (.int v) :: L) st w c k := by
  obtain ⟨p, e, s, m, args, below, meth, cd⟩ := C
  intro O H ls locs hR hS hL
  obtain ⟨j, hj⟩ := List.getElem?_of_mem (lvL_mem (L := x0 :: x1 :: x2 :: x3 :: x4 :: x5 :: x6 :: some (.int v) :: L) (i := 7) (v := .int v) rfl)
  exact lv_iinc O.1 O.2.1 d hL.has hj hv (Nat.lt_of_lt_of_le (by simp) hL.2.2.1) rfl (fun ls' hl' => h O H ls' locs hR hS (hL.set (i := 7) rfl hl'))
theorem g_iload8 {x0 x1 x2 x3 x4 x5 x6 x7 : Option Value} {v : Int32} (d : decode cc pc = .ok (.iload 8, 2)) (h : Go G R cc own Y C Q (pc + 2) (x0 :: x1 :: x2 :: x3 :: x4 :: x5 :: x6 :: x7 :: some (.int v) :: L) (.int v :: st) w c k) : Go G R cc own Y C Q pc (x0 :: x1 :: x2 :: x3 :: x4 :: x5 :: x6 :: x7 :: some (.int v) :: L) st w c k := by
  obtain ⟨p, e, s, m, args, below, meth, cd⟩ := C
  intro O H ls locs hR hS hL
  exact lv_iload O.1 O.2.1 d (hL.at (i := 8) rfl) (h O H ls locs hR hS hL)
theorem g_istore8 {x0 x1 x2 x3 x4 x5 x6 x7 : Option Value} {y : Option Value} {v : Int32} (d : decode cc pc = .ok (.istore 8, 2)) (h : Go G R cc own Y C Q (pc + 2) (x0 :: x1 :: x2 :: x3 :: x4 :: x5 :: x6 :: x7 :: some (.int v) :: L) st w c k) : Go G R cc own Y C Q pc (x0 :: x1 :: x2 :: x3 :: x4 :: x5 :: x6 :: x7 :: y :: L) (.int v :: st) w c k := by
  obtain ⟨p, e, s, m, args, below, meth, cd⟩ := C
  intro O H ls locs hR hS hL
  exact lv_istore O.1 O.2.1 d hL.has (Nat.lt_of_lt_of_le (by simp) hL.2.2.1) rfl (fun ls' hl' => h O H ls' locs hR hS (hL.set (i := 8) rfl hl'))
theorem g_aload8 {x0 x1 x2 x3 x4 x5 x6 x7 : Option Value} {v : Nat} (d : decode cc pc = .ok (.aload 8, 2)) (h : Go G R cc own Y C Q (pc + 2) (x0 :: x1 :: x2 :: x3 :: x4 :: x5 :: x6 :: x7 :: some (.ref v) :: L) (.ref v :: st) w c k) : Go G R cc own Y C Q pc (x0 :: x1 :: x2 :: x3 :: x4 :: x5 :: x6 :: x7 :: some (.ref v) :: L) st w c k := by
  obtain ⟨p, e, s, m, args, below, meth, cd⟩ := C
  intro O H ls locs hR hS hL
  exact lv_aload O.1 O.2.1 d (hL.at (i := 8) rfl) (h O H ls locs hR hS hL)
theorem g_astore8 {x0 x1 x2 x3 x4 x5 x6 x7 : Option Value} {y : Option Value} {v : Nat} (d : decode cc pc = .ok (.astore 8, 2)) (h : Go G R cc own Y C Q (pc + 2) (x0 :: x1 :: x2 :: x3 :: x4 :: x5 :: x6 :: x7 :: some (.ref v) :: L) st w c k) : Go G R cc own Y C Q pc (x0 :: x1 :: x2 :: x3 :: x4 :: x5 :: x6 :: x7 :: y :: L) (.ref v :: st) w c k := by
  obtain ⟨p, e, s, m, args, below, meth, cd⟩ := C
  intro O H ls locs hR hS hL
  exact lv_astore O.1 O.2.1 d hL.has (Nat.lt_of_lt_of_le (by simp) hL.2.2.1) rfl (fun ls' hl' => h O H ls' locs hR hS (hL.set (i := 8) rfl hl'))
theorem g_iinc8 {x0 x1 x2 x3 x4 x5 x6 x7 : Option Value} {v v' : Int32} {n : Int} (d : decode cc pc = .ok (.iinc 8 n, 3)) (hv : v + Int32.ofInt n = v') (h : Go G R cc own Y C Q (pc + 3) (x0 :: x1 :: x2 :: x3 :: x4 :: x5 :: x6 :: x7 :: some (.int v') :: L) st w c k) : Go G R cc own Y C Q pc (x0 :: x1 :: x2 :: x3 :: x4 :: x5 :: x6 :: x7 :: some (.int v) :: L) st w c k := by
  obtain ⟨p, e, s, m, args, below, meth, cd⟩ := C
  intro O H ls locs hR hS hL
  obtain ⟨j, hj⟩ := List.getElem?_of_mem (lvL_mem (L := x0 :: x1 :: x2 :: x3 :: x4 :: x5 :: x6 :: x7 :: some (.int v) :: L) (i := 8) (v := .int v) rfl)
  exact lv_iinc O.1 O.2.1 d hL.has hj hv (Nat.lt_of_lt_of_le (by simp) hL.2.2.1) rfl (fun ls' hl' => h O H ls' locs hR hS (hL.set (i := 8) rfl hl'))
theorem g_iload9 {x0 x1 x2 x3 x4 x5 x6 x7 x8 : Option Value} {v : Int32} (d : decode cc pc = .ok (.iload 9, 2)) (h : Go G R cc own Y C Q (pc + 2) (x0 :: x1 :: x2 :: x3 :: x4 :: x5 :: x6 :: x7 :: x8 :: some (.int v) :: L) (.int v :: st) w c k) : Go G R cc own Y C Q pc (x0 :: x1 :: x2 :: x3 :: x4 :: x5 :: x6 :: x7 :: x8 :: some (.int v) :: L) st w c k := by
  obtain ⟨p, e, s, m, args, below, meth, cd⟩ := C
  intro O H ls locs hR hS hL
  exact lv_iload O.1 O.2.1 d (hL.at (i := 9) rfl) (h O H ls locs hR hS hL)
theorem g_istore9 {x0 x1 x2 x3 x4 x5 x6 x7 x8 : Option Value} {y : Option Value} {v : Int32} (d : decode cc pc = .ok (.istore 9, 2)) (h : Go G R cc own Y C Q (pc + 2) (x0 :: x1 :: x2 :: x3 :: x4 :: x5 :: x6 :: x7 :: x8 :: some (.int v) :: L) st w c k) : Go G R cc own Y C Q pc (x0 :: x1 :: x2 :: x3 :: x4 :: x5 :: x6 :: x7 :: x8 :: y :: L) (.int v :: st) w c k := by
  obtain ⟨p, e, s, m, args, below, meth, cd⟩ := C
  intro O H ls locs hR hS hL
  exact lv_istore O.1 O.2.1 d hL.has (Nat.lt_of_lt_of_le (by simp) hL.2.2.1) rfl (fun ls' hl' => h O H ls' locs hR hS (hL.set (i := 9) rfl hl'))
theorem g_aload9 {x0 x1 x2 x3 x4 x5 x6 x7 x8 : Option Value} {v : Nat} (d : decode cc pc = .ok (.aload 9, 2)) (h : Go G R cc own Y C Q (pc + 2) (x0 :: x1 :: x2 :: x3 :: x4 :: x5 :: x6 :: x7 :: x8 :: some (.ref v) :: L) (.ref v :: st) w c k) : Go G R cc own Y C Q pc (x0 :: x1 :: x2 :: x3 :: x4 :: x5 :: x6 :: x7 :: x8 :: some (.ref v) :: L) st w c k := by
  obtain ⟨p, e, s, m, args, below, meth, cd⟩ := C
  intro O H ls locs hR hS hL
  exact lv_aload O.1 O.2.1 d (hL.at (i := 9) rfl) (h O H ls locs hR hS hL)
theorem g_astore9 {x0 x1 x2 x3 x4 x5 x6 x7 x8 : Option Value} {y : Option Value} {v : Nat} (d : decode cc pc = .ok (.astore 9, 2)) (h : Go G R cc own Y C Q (pc + 2) (x0 :: x1 :: x2 :: x3 :: x4 :: x5 :: x6 :: x7 :: x8 :: some (.ref v) :: L) st w c k) : Go G R cc own Y C Q pc (x0 :: x1 :: x2 :: x3 :: x4 :: x5 :: x6 :: x7 :: x8 :: y :: L) (.ref v :: st) w c k := by
  obtain ⟨p, e, s, m, args, below, meth, cd⟩ := C
  intro O H ls locs hR hS hL
  exact lv_astore O.1 O.2.1 d hL.has (Nat.lt_of_lt_of_le (by simp) hL.2.2.1) rfl (fun ls' hl' => h O H ls' locs hR hS (hL.set (i := 9) rfl hl'))
theorem g_iinc9 {x0 x1 x2 x3 x4 x5 x6 x7 x8 : Option Value} {v v' : Int32} {n : Int} (d : decode cc pc = .ok (.iinc 9 n, 3)) (hv : v + Int32.ofInt n = v') (h : Go G R cc own Y C Q (pc + 3) (x0 :: x1 :: x2 :: x3 :: x4 :: x5 :: x6 :: x7 :: x8 :: some (.int v') :: L) st w c k) : Go G R cc own Y C Q pc (x0 :: x1 :: x2 :: x3 :: x4 :: x5 :: x6 :: x7 :: x8 :: some (.int v) :: L) st w c k := by
  obtain ⟨p, e, s, m, args, below, meth, cd⟩ := C
  intro O H ls locs hR hS hL
  obtain ⟨j, hj⟩ := List.getElem?_of_mem (lvL_mem (L := x0 :: x1 :: x2 :: x3 :: x4 :: x5 :: x6 :: x7 :: x8 :: some (.int v) :: L) (i := 9) (v := .int v) rfl)
  exact lv_iinc O.1 O.2.1 d hL.has hj hv (Nat.lt_of_lt_of_le (by simp) hL.2.2.1) rfl (fun ls' hl' => h O H ls' locs hR hS (hL.set (i := 9) rfl hl'))
theorem g_iload10 {x0 x1 x2 x3 x4 x5 x6 x7 x8 x9 : Option Value} {v : Int32} (d : decode cc pc = .ok (.iload 10, 2)) (h : Go G R cc own Y C Q (pc + 2) (x0 :: x1 :: x2 :: x3 :: x4 :: x5 :: x6 :: x7 :: x8 :: x9 :: some (.int v) :: L) (.int v :: st) w c k) : Go G R cc own Y C Q pc (x0 :: x1 :: x2 :: x3 :: x4 :: x5 :: x6 :: x7 :: x8 :: x9 :: some (.int v) :: L) st w c k := by
  obtain ⟨p, e, s, m, args, below, meth, cd⟩ := C
  intro O H ls locs hR hS hL
  exact lv_iload O.1 O.2.1 d (hL.at (i := 10) rfl) (h O H ls locs hR hS hL)
theorem g_istore10 {x0 x1 x2 x3 x4 x5 x6 x7 x8 x9 : Option Value} {y : Option Value} {v : Int32} (d : decode cc pc = .ok (.istore 10, 2)) (h : Go G R cc own Y C Q (pc + 2) (x0 :: x1 :: x2 :: x3 :: x4 :: x5 :: x6 :: x7 :: x8 :: x9 :: some (.int v) :: L) st w c k) : Go G R cc own Y C Q pc (x0 :: x1 :: x2 :: x3 :: x4 :: x5 :: x6 :: x7 :: x8 :: x9 :: y :: L) (.int v :: st) w c k := by
  obtain ⟨p, e, s, m, args, below, meth, cd⟩ := C
  intro O H ls locs hR hS hL
  exact lv_istore O.1 O.2.1 d hL.has (Nat.lt_of_lt_of_le (by simp) hL.2.2.1) rfl (fun ls' hl' => h O H ls' locs hR hS (hL.set (i := 10) rfl hl'))
theorem g_aload10 {x0 x1 x2 x3 x4 x5 x6 x7 x8 x9 : Option Value} {v : Nat} (d : decode cc pc = .ok (.aload 10, 2)) (h : Go G R cc own Y C Q (pc + 2) (x0 :: x1 :: x2 :: x3 :: x4 :: x5 :: x6 :: x7 :: x8 :: x9 :: some (.ref v) :: L) (.ref v :: st) w c k) : Go G R cc own Y C Q pc (x0 :: x1 :: x2 :: x3 :: x4 :: x5 :: x6 :: x7 :: x8 :: x9 :: some (.ref v) :: L) st w c k := by
  obtain ⟨p, e, s, m, args, below, meth, cd⟩ := C
  intro O H ls locs hR hS hL
  exact lv_aload O.1 O.2.1 d (hL.at (i := 10) rfl) (h O H ls locs hR hS hL)
theorem g_astore10 {x0 x1 x2 x3 x4 x5 x6 x7 x8 x9 : Option Value} {y : Option Value} {v : Nat} (d : decode cc pc = .ok (.astore 10, 2)) (h : Go G R cc own Y C Q (pc + 2) (x0 :: x1 :: x2 :: x3 :: x4 :: x5 :: x6 :: x7 :: x8 :: x9 :: some (.ref v) :: L) st w c k) : Go G R cc own Y C Q pc (x0 :: x1 :: x2 :: x3 :: x4 :: x5 :: x6 :: x7 :: x8 :: x9 :: y :: L) (.ref v :: st) w c k := by
  obtain ⟨p, e, s, m, args, below, meth, cd⟩ := C
  intro O H ls locs hR hS hL
  exact lv_astore O.1 O.2.1 d hL.has (Nat.lt_of_lt_of_le (by simp) hL.2.2.1) rfl (fun ls' hl' => h O H ls' locs hR hS (hL.set (i := 10) rfl hl'))
theorem g_iinc10 {x0 x1 x2 x3 x4 x5 x6 x7 x8 x9 : Option Value} {v v' : Int32} {n : Int} (d : decode cc pc = .ok (.iinc 10 n, 3)) (hv : v + Int32.ofInt n = v') (h : Go G R cc own Y C Q (pc + 3) (x0 :: x1 :: x2 :: x3 :: x4 :: x5 :: x6 :: x7 :: x8 :: x9 :: some (.int v') :: L) st w c k) : Go G R cc own Y C Q pc (x0 :: x1 :: x2 :: x3 :: x4 :: x5 :: x6 :: x7 :: x8 :: x9 :: some (.int v) :: L) st w c k := by
  obtain ⟨p, e, s, m, args, below, meth, cd⟩ := C
  intro O H ls locs hR hS hL
  obtain ⟨j, hj⟩ := List.getElem?_of_mem (lvL_mem (L := x0 :: x1 :: x2 :: x3 :: x4 :: x5 :: x6 :: x7 :: x8 :: x9 :: some (.int v) :: L) (i := 10) (v := .int v) rfl)
  exact lv_iinc O.1 O.2.1 d hL.has hj hv (Nat.lt_of_lt_of_le (by simp) hL.2.2.1) rfl (fun ls' hl' => h O H ls' locs hR hS (hL.set (i := 10) rfl hl'))
theorem g_if_eq {x : Int32} {off : Int} {tgt : Nat} (d : decode cc pc = .ok (.ifCond .eq off, 3)) (ht : (pc : Int) + off = (tgt : Int)) (kt : x = 0 → Go G R cc own Y C Q tgt L st w c k) (kf : ¬ x = 0 → Go G R cc own Y C Q (pc + 3) L st w c k) : Go G R cc own Y C Q pc L (.int x :: st) w c k := by
  obtain ⟨p, e, s, m, args, below, meth, cd⟩ := C
  intro O H ls locs hR hS hL
  exact lv_if_eq O.1 O.2.1 d ht (fun z => kt z O H ls locs hR hS hL) (fun z => kf z O H ls locs hR hS hL)
theorem g_icmp_eq {x y : Int32} {off : Int} {tgt : Nat} (d : decode cc pc = .ok (.if_icmp .eq off, 3)) (ht : (pc : Int) + off = (tgt : Int)) (kt : x = y → Go G R cc own Y C Q tgt L st w c k) (kf : ¬ x = y → Go G R cc own Y C Q (pc + 3) L st w c k) : Go G R cc own Y C Q pc L (.int y :: .int x :: st) w c k := by
  obtain ⟨p, e, s, m, args, below, meth, cd⟩ := C
  intro O H ls locs hR hS hL
  exact lv_icmp_eq O.1 O.2.1 d ht (fun z => kt z O H ls locs hR hS hL) (fun z => kf z O H ls locs hR hS hL)
theorem g_if_ne {x : Int32} {off : Int} {tgt : Nat} (d : decode cc pc = .ok (.ifCond .ne off, 3)) (ht : (pc : Int) + off = (tgt : Int)) (kt : ¬ x = 0 → Go G R cc own Y C Q tgt L st w c k) (kf : x = 0 → Go G R cc own Y C Q (pc + 3) L st w c k) : Go G R cc own Y C Q pc L (.int x :: st) w c k := by
  obtain ⟨p, e, s, m, args, below, meth, cd⟩ := C
  intro O H ls locs hR hS hL
  exact lv_if_ne O.1 O.2.1 d ht (fun z => kt z O H ls locs hR hS hL) (fun z => kf z O H ls locs hR hS hL)
theorem g_icmp_ne {x y : Int32} {off : Int} {tgt : Nat} (d : decode cc pc = .ok (.if_icmp .ne off, 3)) (ht : (pc : Int) + off = (tgt : Int)) (kt : ¬ x = y → Go G R cc own Y C Q tgt L st w c k) (kf : x = y → Go G R cc own Y C Q (pc + 3) L st w c k) : Go G R cc own Y C Q pc L (.int y :: .int x :: st) w c k := by
  obtain ⟨p, e, s, m, args, below, meth, cd⟩ := C
  intro O H ls locs hR hS hL
  exact lv_icmp_ne O.1 O.2.1 d ht (fun z => kt z O H ls locs hR hS hL) (fun z => kf z O H ls locs hR hS hL)
theorem g_if_lt {x : Int32} {off : Int} {tgt : Nat} (d : decode cc pc = .ok (.ifCond .lt off, 3)) (ht : (pc : Int) + off = (tgt : Int)) (kt : x < 0 → Go G R cc own Y C Q tgt L st w c k) (kf : ¬ x < 0 → Go G R cc own Y C Q (pc + 3) L st w c k) : Go G R cc own Y C Q pc L (.int x :: st) w c k := by
  obtain ⟨p, e, s, m, args, below, meth, cd⟩ := C
  intro O H ls locs hR hS hL
  exact lv_if_lt O.1 O.2.1 d ht (fun z => kt z O H ls locs hR hS hL) (fun z => kf z O H ls locs hR hS hL)
theorem g_icmp_lt {x y : Int32} {off : Int} {tgt : Nat} (d : decode cc pc = .ok (.if_icmp .lt off, 3)) (ht : (pc : Int) + off = (tgt : Int)) (kt : x < y → Go G R cc own Y C Q tgt L st w c k) (kf : ¬ x < y → Go G R cc own Y C Q (pc + 3) L st w c k) : Go G R cc own Y C Q pc L (.int y :: .int x :: st) w c k := by
  obtain ⟨p, e, s, m, args, below, meth, cd⟩ := C
  intro O H ls locs hR hS hL
  exact lv_icmp_lt O.1 O.2.1 d ht (fun z => kt z O H ls locs hR hS hL) (fun z => kf z O H ls locs hR hS hL)
theorem g_if_ge {x : Int32} {off : Int} {tgt : Nat} (d : decode cc pc = .ok (.ifCond .ge off, 3)) (ht : (pc : Int) + off = (tgt : Int)) (kt : 0 ≤ x → Go G R cc own Y C Q tgt L st w c k) (kf : ¬ 0 ≤ x → Go G R cc own Y C Q (pc + 3) L st w c k) : Go G R cc own Y C Q pc L (.int x :: st) w c k := by
  obtain ⟨p, e, s, m, args, below, meth, cd⟩ := C
  intro O H ls locs hR hS hL
  exact lv_if_ge O.1 O.2.1 d ht (fun z => kt z O H ls locs hR hS hL) (fun z => kf z O H ls locs hR hS hL)
theorem g_icmp_ge {x y : Int32} {off : Int} {tgt : Nat} (d : decode cc pc = .ok (.if_icmp .ge off, 3)) (ht : (pc : Int) + off = (tgt : Int)) (kt : y ≤ x → Go G R cc own Y C Q tgt L st w c k) (kf : ¬ y ≤ x → Go G R cc own Y C Q (pc + 3) L st w c k) : Go G R cc own Y C Q pc L (.int y :: .int x :: st) w c k := by
  obtain ⟨p, e, s, m, args, below, meth, cd⟩ := C
  intro O H ls locs hR hS hL
  exact lv_icmp_ge O.1 O.2.1 d ht (fun z => kt z O H ls locs hR hS hL) (fun z => kf z O H ls locs hR hS hL)
theorem g_if_gt {x : Int32} {off : Int} {tgt : Nat} (d : decode cc pc = .ok (.ifCond .gt off, 3)) (ht : (pc : Int) + off = (tgt : Int)) (kt : 0 < x → Go G R cc own Y C Q tgt L st w c k) (kf : ¬ 0 < x → Go G R cc own Y C Q (pc + 3) L st w c k) : Go G R cc own Y C Q pc L (.int x :: st) w c k := by
  obtain ⟨p, e, s, m, args, below, meth, cd⟩ := C
  intro O H ls locs hR hS hL
  exact lv_if_gt O.1 O.2.1 d ht (fun z => kt z O H ls locs hR hS hL) (fun z => kf z O H ls locs hR hS hL)
theorem g_icmp_gt {x y : Int32} {off : Int} {tgt : Nat} (d : decode cc pc = .ok (.if_icmp .gt off, 3)) (ht : (pc : Int) + off = (tgt : Int)) (kt : y < x → Go G R cc own Y C Q tgt L st w c k) (kf : ¬ y < x → Go G R cc own Y C Q (pc + 3) L st w c k) : Go G R cc own Y C Q pc L (.int y :: .int x :: st) w c k := by
  obtain ⟨p, e, s, m, args, below, meth, cd⟩ := C
  intro O H ls locs hR hS hL
  exact lv_icmp_gt O.1 O.2.1 d ht (fun z => kt z O H ls locs hR hS hL) (fun z => kf z O H ls locs hR hS hL)
theorem g_if_le {x : Int32} {off : Int} {tgt : Nat} (d : decode cc pc = .ok (.ifCond .le off, 3)) (ht : (pc : Int) + off = (tgt : Int)) (kt : x ≤ 0 → Go G R cc own Y C Q tgt L st w c k) (kf : ¬ x ≤ 0 → Go G R cc own Y C Q (pc + 3) L st w c k) : Go G R cc own Y C Q pc L (.int x :: st) w c k := by
  obtain ⟨p, e, s, m, args, below, meth, cd⟩ := C
  intro O H ls locs hR hS hL
  exact lv_if_le O.1 O.2.1 d ht (fun z => kt z O H ls locs hR hS hL) (fun z => kf z O H ls locs hR hS hL)
theorem g_icmp_le {x y : Int32} {off : Int} {tgt : Nat} (d : decode cc pc = .ok (.if_icmp .le off, 3)) (ht : (pc : Int) + off = (tgt : Int)) (kt : x ≤ y → Go G R cc own Y C Q tgt L st w c k) (kf : ¬ x ≤ y → Go G R cc own Y C Q (pc + 3) L st w c k) : Go G R cc own Y C Q pc L (.int y :: .int x :: st) w c k := by
  obtain ⟨p, e, s, m, args, below, meth, cd⟩ := C
  intro O H ls locs hR hS hL
  exact lv_icmp_le O.1 O.2.1 d ht (fun z => kt z O H ls locs hR hS hL) (fun z => kf z O H ls locs hR hS hL)
theorem g_goto {off : Int} {tgt : Nat} (d : decode cc pc = .ok (.goto off, 3)) (ht : (pc : Int) + off = (tgt : Int)) (h : Go G R cc own Y C Q tgt L st w c k) : Go G R cc own Y C Q pc L st w c k := by
  obtain ⟨p, e, s, m, args, below, meth, cd⟩ := C
  intro O H ls locs hR hS hL
  exact lv_goto O.1 O.2.1 d ht (h O H ls locs hR hS hL)
theorem g_ifnull {x : Nat} {off : Int} (d : decode cc pc = .ok (.ifnull off, 3)) (h : Go G R cc own Y C Q (pc + 3) L st w c k) : Go G R cc own Y C Q pc L (.ref x :: st) w c k := by
  obtain ⟨p, e, s, m, args, below, meth, cd⟩ := C
  intro O H ls locs hR hS hL
  exact lv_ifnull O.1 O.2.1 d (h O H ls locs hR hS hL)
theorem g_ifnullN {off : Int} {tgt : Nat} (d : decode cc pc = .ok (.ifnull off, 3)) (ht : (pc : Int) + off = (tgt : Int)) (h : Go G R cc own Y C Q tgt L st w c k) : Go G R cc own Y C Q pc L (.null :: st) w c k := by
  obtain ⟨p, e, s, m, args, below, meth, cd⟩ := C
  intro O H ls locs hR hS hL
  exact lv_ifnullN O.1 O.2.1 d ht (h O H ls locs hR hS hL)
theorem g_acmp_eq {x y : Nat} {off : Int} {tgt : Nat} (d : decode cc pc = .ok (.if_acmp .eq off, 3)) (ht : (pc : Int) + off = (tgt : Int)) (kt : x = y → Go G R cc own Y C Q tgt L st w c k) (kf : ¬ x = y → Go G R cc own Y C Q (pc + 3) L st w c k) : Go G R cc own Y C Q pc L (.ref y :: .ref x :: st) w c k := by
  obtain ⟨p, e, s, m, args, below, meth, cd⟩ := C
  intro O H ls locs hR hS hL
  exact lv_acmp_eq (rx := some x) (ry := some y) O.1 O.2.1 d ht (fun z => kt (Option.some.inj z) O H ls locs hR hS hL) (fun z => kf (fun q => z (by rw [q])) O H ls locs hR hS hL)
theorem g_acmp_ne {x y : Nat} {off : Int} {tgt : Nat} (d : decode cc pc = .ok (.if_acmp .ne off, 3)) (ht : (pc : Int) + off = (tgt : Int)) (kt : ¬ x = y → Go G R cc own Y C Q tgt L st w c k) (kf : x = y → Go G R cc own Y C Q (pc + 3) L st w c k) : Go G R cc own Y C Q pc L (.ref y :: .ref x :: st) w c k := by
  obtain ⟨p, e, s, m, args, below, meth, cd⟩ := C
  intro O H ls locs hR hS hL
  exact lv_acmp_ne (rx := some x) (ry := some y) O.1 O.2.1 d ht (fun z => kt (fun q => z (by rw [q])) O H ls locs hR hS hL) (fun z => kf (Option.some.inj z) O H ls locs hR hS hL)
theorem g_tabIn {dflt lo hi : Int} {offs : Array Int} {len : Nat} {x : Int32} {off : Int} {tgt : Nat} (d : decode cc pc = .ok (.tableswitch dflt lo hi offs, len)) (h1 : ¬ x.toInt < lo) (h2 : ¬ hi < x.toInt) (ho : offs[(x.toInt - lo).toNat]? = some off) (ht : (pc : Int) + off = (tgt : Int)) (h : Go G R cc own Y C Q tgt L st w c k) : Go G R cc own Y C Q pc L (.int x :: st) w c k := by
  obtain ⟨p, e, s, m, args, below, meth, cd⟩ := C
  intro O H ls locs hR hS hL
  exact lv_tableIn O.1 O.2.1 d h1 h2 ho ht (h O H ls locs hR hS hL)
theorem g_tabOut {dflt lo hi : Int} {offs : Array Int} {len : Nat} {x : Int32} {tgt : Nat} (d : decode cc pc = .ok (.tableswitch dflt lo hi offs, len)) (h1 : x.toInt < lo ∨ hi < x.toInt) (ht : (pc : Int) + dflt = (tgt : Int)) (h : Go G R cc own Y C Q tgt L st w c k) : Go G R cc own Y C Q pc L (.int x :: st) w c k := by
  obtain ⟨p, e, s, m, args, below, meth, cd⟩ := C
  intro O H ls locs hR hS hL
  exact lv_tableOut O.1 O.2.1 d h1 ht (h O H ls locs hR hS hL)
theorem g_lcmp {x y : Int64} (d : decode cc pc = .ok (.lcmp, 1)) (h : Go G R cc own Y C Q (pc + 1) L (.int (lg_cmp x y) :: st) w c k) : Go G R cc own Y C Q pc L (.long y :: .long x :: st) w c k := by
  obtain ⟨p, e, s, m, args, below, meth, cd⟩ := C
  intro O H ls locs hR hS hL
  exact W.lcmp O.1 O.2.1 d (h O H ls locs hR hS hL)
end GoRows
end
section
/-! Rows that read and write the heap. -/
/-- a class of the table: its number, name, fields, types -/
def KC (ci : Nat) (Cn : String) (T : u_T) (N : Nat) (ty : Nat → FieldType) : Prop :=
  vwCl[ci]? = some (Cn, T, N) ∧ (∀ w ∈ u_ws Cn T N, w ∈ tw) ∧ (∀ k, k < N → parseFieldDescriptor (T k).2.2.1 = some (ty k)) ∧ (∀ a, a < N → ∀ b, b < N → a ≠ b → (T a).2.1 ≠ (T b).2.1)
/-- the entry 'idx' of own's pool is the field k of the class -/
def FL (own : String) (idx : Nat) (T : u_T) (k : Nat) : Prop :=
  Cond.fieldLink own idx (T k).1 (T k).2.1 (T k).2.2.1 ∈ tw ∨ (∃ host : String, Cond.fieldLinkNest own idx (T k).1 (T k).2.1 (T k).2.2.1 host ∈ tw) ∨
  ∃ ref : String, Cond.fieldLink own idx ref (T k).2.1 (T k).2.2.1 ∈ tw ∧ Cond.sameField ref (T k).1 (T k).2.1 (T k).2.2.1 ∈ tw
theorem FL.w {own : String} {idx : Nat} {T : u_T} {k : Nat} (h : Cond.fieldLink own idx (T k).1 (T k).2.1 (T k).2.2.1 ∈ tw) : FL own idx T k := Or.inl h
theorem FL.n {own host : String} {idx : Nat} {T : u_T} {k : Nat} (h : Cond.fieldLinkNest own idx (T k).1 (T k).2.1 (T k).2.2.1 host ∈ tw) : FL own idx T k := Or.inr (Or.inl ⟨host, h⟩)
theorem FL.s {own ref : String} {idx : Nat} {T : u_T} {k : Nat} (h : Cond.fieldLink own idx ref (T k).2.1 (T k).2.2.1 ∈ tw) (h2 : Cond.sameField ref (T k).1 (T k).2.1 (T k).2.2.1 ∈ tw) : FL own idx T k := Or.inr (Or.inr ⟨ref, h, h2⟩)
theorem va_S.new {A : Nat → Prop} {H0 H H1 : Heap} {locs : List Loc} (h : va_S A H0 H locs) (z : H.size ≤ H1.size) (o1 : ∀ q : Nat, q < H.size → H1[q]? = H[q]?) : va_S A H0 H1 locs :=
  ⟨Nat.le_trans h.1 z, fun x h1 h2 => (o1 x (Nat.lt_of_lt_of_le h1 h.1)).trans (h.2.1 x h1 h2), h.2.2⟩
theorem ra_cls {s : State} {cA cB : ClassId} {ty : FieldType} (h1 : va_RA s cA ty) (h2 : s.vm.findClass ("[" ++ ty.toString) = some cB) : cA = cB := by
  cases ty with
  | object C => obtain ⟨-, -, -, -, -, h4⟩ := h1; exact Option.some.inj (h4.symm.trans h2)
  | _ => exact Option.some.inj (Eq.trans (Eq.symm h1) h2)
section HeapRows
variable {G : Gx} {R : Room} {cc : ByteArray} {own : String} {Y : Yx} {C : Cx} {Q : State → Prop} {pc : Nat} {L : List (Option Value)} {st : List Value} {w : Wd} {c k : Nat}
theorem g_getf {ci N idx kf a : Nat} {Cn : String} {T : u_T} {ty : Nat → FieldType} {fs : List Value} {v : Value} (hk : KC ci Cn T N ty) (d : decode cc pc = .ok (.getfield idx, 3)) (hl : FL own idx T kf) (hlt : kf < N) (hw : w a = some (eO ci fs)) (hv : fs[kf]? = some v)
    (h : Go G R cc own Y C Q (pc + 3) L (v :: st) w c k) : Go G R cc own Y C Q pc L (.ref a :: st) w c k := by
  obtain ⟨p, e, s, m, args, below, meth, cd⟩ := C
  intro O H ls locs hR hS hL
  have hP : va_P (gD G) vwCl [(a, eO ci fs)] H := fun i q hq => by
    have hi : i < 1 := (List.getElem?_eq_some_iff.mp hq).1
    rw [show i = 0 by omega] at hq
    cases hq
    exact hR.o hw
  have hts : ∀ x ∈ tw, x.before args s = true := fun x hx => O.2.2.2.1.w hx
  rcases hl with hl | ⟨host, hl⟩ | ⟨ref, hl, hl2⟩
  · exact va_get O.1 O.2.1 hts hk.2.1 O.2.2.1 O.2.2.2.1.2.1 hP 0 rfl hk.1 kf hlt (hts _ hl) (fun _ z => z) hv d (h O H ls locs hR hS hL)
  · exact va_getN O.1 O.2.1 hts hk.2.1 O.2.2.1 O.2.2.2.1.2.1 hP 0 rfl hk.1 kf hlt (hts _ hl) (fun _ z => z) hv d (h O H ls locs hR hS hL)
  · exact va_get O.1 O.2.1 hts hk.2.1 O.2.2.1 O.2.2.2.1.2.1 hP 0 rfl hk.1 kf hlt (hts _ hl) (fun x z => u_same (hts _ hl2) x z) hv d (h O H ls locs hR hS hL)
theorem g_putf {ci N idx kf a : Nat} {Cn : String} {T : u_T} {ty : Nat → FieldType} {fs fs' : List Value} {v : Value} (hk : KC ci Cn T N ty) (d : decode cc pc = .ok (.putfield idx, 3)) (hl : FL own idx T kf) (hlt : kf < N) (hfin : (T kf).2.2.2 = false) (hw : w a = some (eO ci fs)) (ha : (gH G).size ≤ a) (hn : narrow (ty kf) v = v) (hf : fits (ty kf) v = true) (hlen : kf < fs.length) (hfs : fs.set kf v = fs')
    (h : Go G R cc own Y C Q (pc + 3) L st (up w a (eO ci fs')) c k) : Go G R cc own Y C Q pc L (v :: .ref a :: st) w c k := by
  obtain ⟨p, e, s, m, args, below, meth, cd⟩ := C
  intro O H ls locs hR hS hL
  subst hfs
  have hts : ∀ x ∈ tw, x.before args s = true := fun x hx => O.2.2.2.1.w hx
  have hK := O.2.2.2.1.2.1
  have hap := va_apart (own := own) hts hk.2.1 ty hk.2.2.1 hk.2.2.2 hK hk.1
  obtain ⟨r, h1, cell, q1, q2, q3, q4⟩ := hR.o hw
  have hr : r = (Cn, T, N) := Option.some.inj (h1.symm.trans hk.1)
  subst hr
  obtain ⟨hSl, hfc, kC, hkC, hkind⟩ := hK.1 ci _ hk.1
  obtain ⟨cf, kfc, fi, f, hi, hsl⟩ := hSl kf hlt
  have hlay := hts _ (hk.2.1 _ (u_in_lay hlt))
  unfold u_lay at hlay
  rw [if_neg (by rw [hfin]; decide)] at hlay
  have hst := (u_facts hfc hkC (u_lays hts hk.2.1 hlt) hi).1
  have h6 := u_store hfc hkC hkind hlay hi (hk.2.2.1 kf hlt) hn hf
  have go : ∀ (H' : Heap) (locs' : List Loc), H'[a]? = some (cell.setSlot f.slot v) → H'.size = H.size → (∀ q : Nat, q ≠ a → H'[q]? = H[q]?) → locs' = locs ++ [⟨a, f.slot⟩] → W p G.1 e R s m args below meth cd H' locs' c k Q (F0 m (pc + 3) ls st) := by
    intro H' locs' e1 e2 e3 e4
    subst e4
    rw [hsl] at e1
    exact h O H' ls _ (hR.put ⟨_, hk.1, t_OB.to (V := updV (vp_V fs) kf v) ⟨_, e1, q2, q3, t_set q4 hap hlt v⟩ (fun j _ => vp_updV_set hlen v j)⟩ e3) (hS.put e2 e3 ha) hL
  rcases hl with hl | ⟨host, hl⟩ | ⟨ref, hl, hl2⟩
  · exact W.putK O.1 O.2.1 (f := f) ⟨O.2.2.1, hts _ hl, ⟨_, _, _, hi⟩, hst⟩ (by rw [q2]; exact h6) q1 q3 (by rw [hsl]; exact k2_hasslot (q4 kf hlt)) rfl rfl d fun H' e1 e2 e3 => go H' _ e1 e2 e3 rfl
  · exact va_WputK O.1 O.2.1 (f := f) O.2.2.1 (hts _ hl) hi hst (by rw [q2]; exact h6) q1 q3 (by rw [hsl]; exact k2_hasslot (q4 kf hlt)) rfl rfl d fun H' e1 e2 e3 => go H' _ e1 e2 e3 rfl
  · exact W.putK O.1 O.2.1 (f := f) ⟨O.2.2.1, hts _ hl, ⟨_, _, _, u_same (hts _ hl2) _ hi⟩, hst⟩ (by rw [q2]; exact h6) q1 q3 (by rw [hsl]; exact k2_hasslot (q4 kf hlt)) rfl rfl d fun H' e1 e2 e3 => go H' _ e1 e2 e3 rfl
theorem g_putF {ci N idx kf a : Nat} {Cn : String} {T : u_T} {ty : Nat → FieldType} {fs fs' : List Value} {v : Value} {rt : Option FieldType} {hh : List (Nat × Nat × Nat × Nat)} (hk : KC ci Cn T N ty) (d : decode cc pc = .ok (.putfield idx, 3)) (hl : Cond.fieldLink own idx (T kf).1 (T kf).2.1 (T kf).2.2.1 ∈ tw) (hlt : kf < N) (hfin : (T kf).2.2.2 = true) (hdecl : (T kf).1 = own) (hw : w a = some (eO ci fs)) (ha : (gH G).size ≤ a) (hn : narrow (ty kf) v = v) (hf : fits (ty kf) v = true) (hlen : kf < fs.length) (hfs : fs.set kf v = fs')
    (h : Go G R cc own (rt, "<init>", hh) C Q (pc + 3) L st (up w a (eO ci fs')) c k) : Go G R cc own (rt, "<init>", hh) C Q pc L (v :: .ref a :: st) w c k := by
  obtain ⟨p, e, s, m, args, below, meth, cd⟩ := C
  intro O H ls locs hR hS hL
  subst hfs
  have hts : ∀ x ∈ tw, x.before args s = true := fun x hx => O.2.2.2.1.w hx
  have hK := O.2.2.2.1.2.1
  have hap := va_apart (own := own) hts hk.2.1 ty hk.2.2.1 hk.2.2.2 hK hk.1
  obtain ⟨r, h1, cell, q1, q2, q3, q4⟩ := hR.o hw
  have hr : r = (Cn, T, N) := Option.some.inj (h1.symm.trans hk.1)
  subst hr
  obtain ⟨hSl, hfc, kC, hkC, hkind⟩ := hK.1 ci _ hk.1
  obtain ⟨cf, kfc, fi, f, hi, hsl⟩ := hSl kf hlt
  have hlay := hts _ (hk.2.1 _ (u_in_lay hlt))
  unfold u_lay at hlay
  rw [if_pos hfin] at hlay
  have hst := (u_facts hfc hkC (u_lays hts hk.2.1 hlt) hi).1
  have hown := O.2.2.1
  have hcf : m.cls = cf := by
    obtain ⟨_, _, c', _, _, _, -, -, hf', -, -, -, hown2, -⟩ := Cond.laysFinal_spec hlay
    have e1 : c' = cf := by have := hi.symm.trans hf'; simp at this; exact this.1.symm
    rw [hdecl] at hown2
    rw [← e1]; exact Option.some.inj (hown.symm.trans hown2)
  have h6 := u_fits hfc hkC hkind (Or.inr hlay) hi (hk.2.2.1 kf hlt) hn hf
  refine W.putFinK O.1 O.2.1 hown (hts _ hl) hi hst hcf O.2.2.2.2.2.2.1 (by rw [q2]; exact h6) q1 q3 (by rw [hsl]; exact k2_hasslot (q4 kf hlt)) rfl rfl d fun H' e1 e2 e3 => ?_
  rw [hsl] at e1 ⊢
  exact h O H' ls _ (hR.put ⟨_, hk.1, t_OB.to (V := updV (vp_V fs) kf v) ⟨_, e1, q2, q3, t_set q4 hap hlt v⟩ (fun j _ => vp_updV_set hlen v j)⟩ e3) (hS.put e2 e3 ha) hL
theorem one_P {a : Nat} {x : Nat × List Value} {H : Heap} (hR : Rel G w H) (hw : w a = some (.inr x)) : va_P (gD G) vwCl [(a, .inr x)] H := fun i q hq => by
  have hi : i < 1 := (List.getElem?_eq_some_iff.mp hq).1
  rw [show i = 0 by omega] at hq
  cases hq
  exact hR.o hw
theorem g_iald {a n : Nat} {f : Nat → Int32} {i : Int32} (d : decode cc pc = .ok (.iaload, 1)) (hw : w a = some (eI G n f)) (hi : vp_in i n) (h : Go G R cc own Y C Q (pc + 1) L (.int (f i.toNatClampNeg) :: st) w c k) : Go G R cc own Y C Q pc L (.int i :: .ref a :: st) w c k := by
  obtain ⟨p, e, s, m, args, below, meth, cd⟩ := C
  intro O H ls locs hR hS hL
  obtain ⟨cell, q1, q2, q3, q4, q5⟩ := hR.c hw
  have hlt : i.toNatClampNeg < n := Nat.not_le.mp fun q => hi (Or.inr q)
  exact W.iald (v := .int (f i.toNatClampNeg)) O.1 O.2.1 q1 (ol_arr ((O.2.2.2.1.2.1.2 0 _ rfl).1 n (fun j => .int (f j))) q2 q4) q5 (by rw [q3]; show ¬ (i < 0 ∨ (arrV _ _ _).slots.size ≤ _); rw [arrV_size]; exact hi) (by rw [q3]; show (arrV _ _ _).slots[_]? = _; rw [arrV_read _ _ hlt]) rfl rfl d (h O H ls locs hR hS hL)
theorem g_zald {a n : Nat} {f : Nat → Int32} {i : Int32} (d : decode cc pc = .ok (.baload, 1)) (hw : w a = some (eZ G n f)) (hi : vp_in i n) (h : Go G R cc own Y C Q (pc + 1) L (.int (f i.toNatClampNeg) :: st) w c k) : Go G R cc own Y C Q pc L (.int i :: .ref a :: st) w c k := by
  obtain ⟨p, e, s, m, args, below, meth, cd⟩ := C
  intro O H ls locs hR hS hL
  obtain ⟨cell, q1, q2, q3, q4, q5⟩ := hR.c hw
  have hlt : i.toNatClampNeg < n := Nat.not_le.mp fun q => hi (Or.inr q)
  exact W.zald (v := .int (f i.toNatClampNeg)) O.1 O.2.1 q1 (ol_arr ((O.2.2.2.1.2.1.2 1 _ rfl).1 n (fun j => .int (f j))) q2 q4) q5 (by rw [q3]; show ¬ (i < 0 ∨ (arrV _ _ _).slots.size ≤ _); rw [arrV_size]; exact hi) (by rw [q3]; show (arrV _ _ _).slots[_]? = _; rw [arrV_read _ _ hlt]) rfl rfl d (h O H ls locs hR hS hL)
theorem g_lald {a n : Nat} {f : Nat → Int64} {i : Int32} (d : decode cc pc = .ok (.laload, 1)) (hw : w a = some (eJ G n f)) (hi : vp_in i n) (h : Go G R cc own Y C Q (pc + 1) L (.long (f i.toNatClampNeg) :: st) w c k) : Go G R cc own Y C Q pc L (.int i :: .ref a :: st) w c k := by
  obtain ⟨p, e, s, m, args, below, meth, cd⟩ := C
  intro O H ls locs hR hS hL
  obtain ⟨cell, q1, q2, q3, q4, q5⟩ := hR.c hw
  have hlt : i.toNatClampNeg < n := Nat.not_le.mp fun q => hi (Or.inr q)
  exact W.lald (v := .long (f i.toNatClampNeg)) O.1 O.2.1 q1 (ol_arr ((O.2.2.2.1.2.1.2 2 _ rfl).1 n (fun j => .long (f j))) q2 q4) q5 (by rw [q3]; show ¬ (i < 0 ∨ (arrV _ _ _).slots.size ≤ _); rw [arrV_size]; exact hi) (by rw [q3]; show (arrV _ _ _).slots[_]? = _; rw [arrV_read _ _ hlt]) rfl rfl d (h O H ls locs hR hS hL)
theorem g_qald {a n : Nat} {f : Nat → Option Nat} {i : Int32} {v : Value} (d : decode cc pc = .ok (.aaload, 1)) (hw : w a = some (eQ G n f)) (hi : vp_in i n) (hv : va_rf (f i.toNatClampNeg) = v) (h : Go G R cc own Y C Q (pc + 1) L (v :: st) w c k) : Go G R cc own Y C Q pc L (.int i :: .ref a :: st) w c k := by
  obtain ⟨p, e, s, m, args, below, meth, cd⟩ := C
  intro O H ls locs hR hS hL
  subst hv
  obtain ⟨cell, q1, q2, q3, q4, q5⟩ := hR.c hw
  have hlt : i.toNatClampNeg < n := Nat.not_le.mp fun q => hi (Or.inr q)
  exact W.aald (v := va_rf (f i.toNatClampNeg)) (ty := .object "java/lang/Object") O.1 O.2.1 q1 (ol_arr ((O.2.2.2.1.2.1.2 3 _ rfl).1 n (fun j => va_rf (f j))) q2 q4) rfl q5 (by rw [q3]; show ¬ (i < 0 ∨ (arrV _ _ _).slots.size ≤ _); rw [arrV_size]; exact hi) (by rw [q3]; show (arrV _ _ _).slots[_]? = _; rw [arrV_read _ _ hlt]) rfl rfl d (h O H ls locs hR hS hL)
theorem g_alenI {a n : Nat} {f : Nat → Int32} (d : decode cc pc = .ok (.arraylength, 1)) (hw : w a = some (eI G n f)) (h : Go G R cc own Y C Q (pc + 1) L (.int (nI n) :: st) w c k) : Go G R cc own Y C Q pc L (.ref a :: st) w c k := by
  obtain ⟨p, e, s, m, args, below, meth, cd⟩ := C
  intro O H ls locs hR hS hL
  obtain ⟨cell, q1, q2, q3, q4, q5⟩ := hR.c hw
  exact W.alen (n := nI n) O.1 O.2.1 q1 (ol_arr ((O.2.2.2.1.2.1.2 0 _ rfl).1 n (fun j => .int (f j))) q2 q4) (by rw [q3, vp_cell_i, arrV_size] <;> rfl) rfl rfl d (h O H ls locs hR hS hL)
theorem g_alenZ {a n : Nat} {f : Nat → Int32} (d : decode cc pc = .ok (.arraylength, 1)) (hw : w a = some (eZ G n f)) (h : Go G R cc own Y C Q (pc + 1) L (.int (nI n) :: st) w c k) : Go G R cc own Y C Q pc L (.ref a :: st) w c k := by
  obtain ⟨p, e, s, m, args, below, meth, cd⟩ := C
  intro O H ls locs hR hS hL
  obtain ⟨cell, q1, q2, q3, q4, q5⟩ := hR.c hw
  exact W.alen (n := nI n) O.1 O.2.1 q1 (ol_arr ((O.2.2.2.1.2.1.2 1 _ rfl).1 n (fun j => .int (f j))) q2 q4) (by rw [q3, vp_cell_i, arrV_size] <;> rfl) rfl rfl d (h O H ls locs hR hS hL)
theorem g_alenQ {a n : Nat} {f : Nat → Option Nat} (d : decode cc pc = .ok (.arraylength, 1)) (hw : w a = some (eQ G n f)) (h : Go G R cc own Y C Q (pc + 1) L (.int (nI n) :: st) w c k) : Go G R cc own Y C Q pc L (.ref a :: st) w c k := by
  obtain ⟨p, e, s, m, args, below, meth, cd⟩ := C
  intro O H ls locs hR hS hL
  obtain ⟨cell, q1, q2, q3, q4, q5⟩ := hR.c hw
  exact W.alen (n := nI n) O.1 O.2.1 q1 (ol_arr ((O.2.2.2.1.2.1.2 3 _ rfl).1 n (fun j => va_rf (f j))) q2 q4) (by rw [q3, vp_cell_q, arrV_size] <;> rfl) rfl rfl d (h O H ls locs hR hS hL)
theorem g_iast {a n : Nat} {f : Nat → Int32} {i x : Int32} (d : decode cc pc = .ok (.iastore, 1)) (hw : w a = some (eI G n f)) (ha : (gH G).size ≤ a) (hi : vp_in i n) (h : Go G R cc own Y C Q (pc + 1) L st (up w a (eI G n (upd f i.toNatClampNeg x))) c k) : Go G R cc own Y C Q pc L (.int x :: .int i :: .ref a :: st) w c k := by
  obtain ⟨p, e, s, m, args, below, meth, cd⟩ := C
  intro O H ls locs hR hS hL
  refine W.iast O.1 O.2.1 (hR.s hw ha) ((O.2.2.2.1.2.1.2 0 _ rfl).1 n (fun j => .int (f j))) (fun q => by cases q) (by show ¬ (i < 0 ∨ (arrV _ _ _).slots.size ≤ _); rw [arrV_size]; exact hi) rfl rfl d fun H1 e1 z oq => ?_
  refine h O H1 ls _ (hR.put ?_ oq) (hS.put z oq ha) hL
  show H1[a]? = some (vp_cell _ _)
  rw [e1, vp_cell_i, vp_cell_i, arrV_store]
  congr 2
  funext q
  by_cases hq : q = i.toNatClampNeg
  · subst hq
    simp [updV, upd]
  · simp [updV, upd, hq]
theorem g_zast {a n : Nat} {f : Nat → Int32} {i x : Int32} (d : decode cc pc = .ok (.bastore, 1)) (hw : w a = some (eZ G n f)) (ha : (gH G).size ≤ a) (hi : vp_in i n) (hx : narrow .boolean (.int x) = .int x) (h : Go G R cc own Y C Q (pc + 1) L st (up w a (eZ G n (upd f i.toNatClampNeg x))) c k) : Go G R cc own Y C Q pc L (.int x :: .int i :: .ref a :: st) w c k := by
  obtain ⟨p, e, s, m, args, below, meth, cd⟩ := C
  intro O H ls locs hR hS hL
  refine W.zast O.1 O.2.1 (hR.s hw ha) ((O.2.2.2.1.2.1.2 1 _ rfl).1 n (fun j => .int (f j))) (fun q => by cases q) (by show ¬ (i < 0 ∨ (arrV _ _ _).slots.size ≤ _); rw [arrV_size]; exact hi) rfl rfl d fun H1 e1 z oq => ?_
  refine h O H1 ls _ (hR.put ?_ oq) (hS.put z oq ha) hL
  show H1[a]? = some (vp_cell _ _)
  rw [e1, vp_cell_i, vp_cell_i, arrV_store]
  congr 2
  funext q
  by_cases hq : q = i.toNatClampNeg
  · subst hq
    simp [updV, upd, hx]
  · simp [updV, upd, hq]
theorem g_last {a n : Nat} {f : Nat → Int64} {i : Int32} {x : Int64} (d : decode cc pc = .ok (.lastore, 1)) (hw : w a = some (eJ G n f)) (ha : (gH G).size ≤ a) (hi : vp_in i n) (h : Go G R cc own Y C Q (pc + 1) L st (up w a (eJ G n (vp_updL f i.toNatClampNeg x))) c k) : Go G R cc own Y C Q pc L (.long x :: .int i :: .ref a :: st) w c k := by
  obtain ⟨p, e, s, m, args, below, meth, cd⟩ := C
  intro O H ls locs hR hS hL
  refine W.last O.1 O.2.1 (hR.s hw ha) ((O.2.2.2.1.2.1.2 2 _ rfl).1 n (fun j => .long (f j))) (fun q => by cases q) (by show ¬ (i < 0 ∨ (arrV _ _ _).slots.size ≤ _); rw [arrV_size]; exact hi) rfl rfl d fun H1 e1 z oq => ?_
  refine h O H1 ls _ (hR.put ?_ oq) (hS.put z oq ha) hL
  show H1[a]? = some (vp_cell _ _)
  rw [e1, vp_cell_l, vp_cell_l, arrV_store]
  congr 2
  funext q
  by_cases hq : q = i.toNatClampNeg
  · subst hq
    simp [updV, vp_updL]
  · simp [updV, vp_updL, hq]
theorem g_qast {a n v ci : Nat} {f : Nat → Option Nat} {i : Int32} {vs : List Value} {Cn : String} {T : u_T} {N : Nat} {ty : Nat → FieldType} (hk : KC ci Cn T N ty) (hca : Cond.castable Cn "java/lang/Object" ∈ tw) (d : decode cc pc = .ok (.aastore, 1)) (hw : w a = some (eQ G n f)) (hv : w v = some (eO ci vs)) (ha : (gH G).size ≤ a) (hi : vp_in i n) (h : Go G R cc own Y C Q (pc + 1) L st (up w a (eQ G n (va_up f i.toNatClampNeg (some v)))) c k) : Go G R cc own Y C Q pc L (.ref v :: .int i :: .ref a :: st) w c k := by
  obtain ⟨p, e, s, m, args, below, meth, cd⟩ := C
  intro O H ls locs hR hS hL
  have hlt : i.toNatClampNeg < n := Nat.not_le.mp fun q => hi (Or.inr q)
  have h0 : ¬ i < 0 := fun q => hi (Or.inl q)
  have hK := O.2.2.2.1.2.1
  obtain ⟨r', hr', cellV, g1, g2, g3, -⟩ := hR.o hv
  have hcls := (hK.1 ci _ hk.1).2
  obtain ⟨kA, comp, k1, k2, k3, -⟩ := (hK.2 3 _ rfl).2
  obtain ⟨kE, hkE, -⟩ := Vm.findClass_spec k3
  obtain ⟨c0, t1, f1, f2, f3⟩ := Cond.castable_spec (O.2.2.2.1.w (a := args) hca)
  cases hcls.1.symm.trans f1
  cases k3.symm.trans f2
  obtain ⟨kC, hkC, -⟩ := hcls.2
  refine W.aast O.1 O.2.1 (hR.s hw ha) (fun q h => by cases h) (fun h => by cases h) k1 k2 rfl hkE ⟨h0, by show _ < (arrV _ _ _).slots.size; rw [arrV_size]; exact hlt⟩ g1 (fun q h => by rw [g3] at h; cases h) (by rw [g2]; exact hkC) (by rw [g2]; exact f3) rfl rfl d fun H1 e1 z oq => ?_
  refine h O H1 ls _ (hR.put ?_ oq) (hS.put z oq ha) hL
  show H1[a]? = some (vp_cell _ _)
  rw [e1, vp_cell_q, vp_cell_q, arrV_store]
  congr 2
  funext q
  by_cases hq : q = i.toNatClampNeg
  · subst hq
    simp [updV, va_up, va_rf]
  · simp [updV, va_up, hq]
theorem g_new {ci N idx : Nat} {Cn : String} {T : u_T} {ty : Nat → FieldType} {fs : List Value} (hk : KC ci Cn T N ty) (d : decode cc pc = .ok (.new idx, 3)) (h1 : Cond.classLink own idx Cn ∈ tw) (h2 : Cond.instantiable Cn N ∈ tw) (h3 : Cond.initialized Cn ∈ tw) (hfs : ∀ j, j < N → defaultValue (ty j) = vp_V fs j) (hc : c + 1 ≤ R.cells) (hs : k + N ≤ R.slots)
    (h : ∀ q : Nat, w q = none → (gH G).size ≤ q → Go G R cc own Y C Q (pc + 3) L (.ref q :: st) (up w q (eO ci fs)) (c + 1) (k + N)) : Go G R cc own Y C Q pc L st w c k := by
  obtain ⟨p, e, s, m, args, below, meth, cd⟩ := C
  intro O H ls locs hR hS hL
  have hts : ∀ x ∈ tw, x.before args s = true := fun x hx => O.2.2.2.1.w hx
  have hKn := O.2.2.2.1.2.1.1 ci _ hk.1
  refine W.newcK O.1 O.2.1 O.2.2.1 (hts _ h1) (hts _ h2) (hts _ h3) rfl d hc hs hKn.2.1 rfl fun H1 kC hkC e1 z1 o1 => ?_
  exact h H.size hR.fresh (Nat.le_trans O.2.2.2.2.1.1 hS.1) O H1 ls locs (hR.push ⟨_, hk.1, (u_born ty hts hk.2.1 hKn hkC e1 hk.2.2.1).to hfs⟩ o1) (hS.new (by omega) o1) hL
theorem g_newI {n : Int32} {N : Nat} (d : decode cc pc = .ok (.newarray .int, 2)) (h1 : Cond.arrayClass .int ∈ tw) (hn : ¬ n < 0) (hN : n.toNatClampNeg = N) (hb : N * 4 ≤ 536870912) (hc : c + 1 ≤ R.cells) (hs : k + N ≤ R.slots)
    (h : ∀ q : Nat, w q = none → (gH G).size ≤ q → Go G R cc own Y C Q (pc + 2) L (.ref q :: st) (up w q (eI G N (fun _ => 0))) (c + 1) (k + N)) : Go G R cc own Y C Q pc L (.int n :: st) w c k := by
  obtain ⟨p, e, s, m, args, below, meth, cd⟩ := C
  intro O H ls locs hR hS hL
  refine va_newaK (atype := .int) O.1 O.2.1 (O.2.2.2.1.w h1) rfl d rfl hn hN hb hc hs rfl fun H1 cA e1 z1 o1 hAr hNm => ?_
  have ec : gI G = cA := ra_cls (ty := .int) (O.2.2.2.1.2.1.2 0 _ rfl).2 hNm
  subst ec
  exact h H.size hR.fresh (Nat.le_trans O.2.2.2.2.1.1 hS.1) O H1 ls locs (hR.push e1 o1) (hS.new (by omega) o1) hL
theorem g_newZ {n : Int32} {N : Nat} (d : decode cc pc = .ok (.newarray .boolean, 2)) (h1 : Cond.arrayClass .boolean ∈ tw) (hn : ¬ n < 0) (hN : n.toNatClampNeg = N) (hb : N * 1 ≤ 536870912) (hc : c + 1 ≤ R.cells) (hs : k + N ≤ R.slots)
    (h : ∀ q : Nat, w q = none → (gH G).size ≤ q → Go G R cc own Y C Q (pc + 2) L (.ref q :: st) (up w q (eZ G N (fun _ => 0))) (c + 1) (k + N)) : Go G R cc own Y C Q pc L (.int n :: st) w c k := by
  obtain ⟨p, e, s, m, args, below, meth, cd⟩ := C
  intro O H ls locs hR hS hL
  refine va_newaK (atype := .boolean) O.1 O.2.1 (O.2.2.2.1.w h1) rfl d rfl hn hN hb hc hs rfl fun H1 cA e1 z1 o1 hAr hNm => ?_
  have ec : gZ G = cA := ra_cls (ty := .boolean) (O.2.2.2.1.2.1.2 1 _ rfl).2 hNm
  subst ec
  exact h H.size hR.fresh (Nat.le_trans O.2.2.2.2.1.1 hS.1) O H1 ls locs (hR.push e1 o1) (hS.new (by omega) o1) hL
theorem g_newJ {n : Int32} {N : Nat} (d : decode cc pc = .ok (.newarray .long, 2)) (h1 : Cond.arrayClass .long ∈ tw) (hn : ¬ n < 0) (hN : n.toNatClampNeg = N) (hb : N * 8 ≤ 536870912) (hc : c + 1 ≤ R.cells) (hs : k + N ≤ R.slots)
    (h : ∀ q : Nat, w q = none → (gH G).size ≤ q → Go G R cc own Y C Q (pc + 2) L (.ref q :: st) (up w q (eJ G N (fun _ => 0))) (c + 1) (k + N)) : Go G R cc own Y C Q pc L (.int n :: st) w c k := by
  obtain ⟨p, e, s, m, args, below, meth, cd⟩ := C
  intro O H ls locs hR hS hL
  refine va_newaK (atype := .long) O.1 O.2.1 (O.2.2.2.1.w h1) rfl d rfl hn hN hb hc hs rfl fun H1 cA e1 z1 o1 hAr hNm => ?_
  have ec : gJ G = cA := ra_cls (ty := .long) (O.2.2.2.1.2.1.2 2 _ rfl).2 hNm
  subst ec
  exact h H.size hR.fresh (Nat.le_trans O.2.2.2.2.1.1 hS.1) O H1 ls locs (hR.push e1 o1) (hS.new (by omega) o1) hL
theorem g_newQ {n : Int32} {N idx : Nat} (d : decode cc pc = .ok (.anewarray idx, 3)) (h1 : Cond.classLink own idx "java/lang/Object" ∈ tw) (hn : ¬ n < 0) (hN : n.toNatClampNeg = N) (hb : N * 4 ≤ 536870912) (hc : c + 1 ≤ R.cells) (hs : k + N ≤ R.slots)
    (h : ∀ q : Nat, w q = none → (gH G).size ≤ q → Go G R cc own Y C Q (pc + 3) L (.ref q :: st) (up w q (eQ G N (fun _ => none))) (c + 1) (k + N)) : Go G R cc own Y C Q pc L (.int n :: st) w c k := by
  obtain ⟨p, e, s, m, args, below, meth, cd⟩ := C
  intro O H ls locs hR hS hL
  subst hN
  refine W.anew O.1 O.2.1 O.2.2.1 (O.2.2.2.1.w h1) (va_AO.use O.2.2.2.1.2.2.2.2.2.2.2.2.1) rfl d rfl hn hb hc hs fun cA kA comp f1 f2 f3 f4 => ?_
  have ec : gO G = cA := ra_cls (ty := .object "java/lang/Object") (O.2.2.2.1.2.1.2 3 _ rfl).2 f1
  subst ec
  generalize hH1 : H.push ({ cls := gO G, slots := Array.replicate n.toNatClampNeg .null, vm := .none } : Cell) = H1
  have z1 : H1.size = H.size + 1 := by rw [← hH1, Array.size_push]
  have e1 : H1[H.size]? = some (arrV (gO G) n.toNatClampNeg (fun _ => .null)) := by rw [← hH1, Array.getElem?_push_size, ← arrV_new]
  have o1 : ∀ q : Nat, q < H.size → H1[q]? = H[q]? := fun q hq => by rw [← hH1, Array.getElem?_push, if_neg (Nat.ne_of_lt hq)]
  exact h H.size hR.fresh (Nat.le_trans O.2.2.2.2.1.1 hS.1) O H1 ls locs (hR.push (by show H1[H.size]? = some (vp_cell _ _); rw [vp_cell_q]; exact e1) o1) (hS.new (by omega) o1) hL
theorem g_cast {ci N idx a : Nat} {Cn : String} {T : u_T} {ty : Nat → FieldType} {fs : List Value} (hk : KC ci Cn T N ty) (d : decode cc pc = .ok (.checkcast idx, 3)) (h1 : Cond.classLink own idx Cn ∈ tw) (hw : w a = some (eO ci fs)) (h : Go G R cc own Y C Q (pc + 3) L (.ref a :: st) w c k) : Go G R cc own Y C Q pc L (.ref a :: st) w c k := by
  obtain ⟨p, e, s, m, args, below, meth, cd⟩ := C
  intro O H ls locs hR hS hL
  have hr := va_recv (q0 := 0) O.2.2.2.1.2.1 (one_P hR hw) hk.1 rfl
  exact va_castS O.1 O.2.1 O.2.2.1 (O.2.2.2.1.w h1) (O.2.2.2.1.2.1.1 ci _ hk.1).2 hr d (h O H ls locs hR hS hL)
theorem g_objInit {idx : Nat} {a : Nat} (d : decode cc pc = .ok (.invokespecial idx, 3)) (h1 : Cond.methodLink own idx Lib.objectInit ∈ tw) (h2 : Cond.instanceMethod Lib.objectInit ∈ tw) (h3 : Cond.code Lib.objectInit ⟨#[0xb1]⟩ 1 none ∈ tw) (hf : 1 ≤ R.frames) (hl : (st.map fun v => v.category).sum + 12 ≤ R.locals) (h : Go G R cc own Y C Q (pc + 3) L st w c k) : Go G R cc own Y C Q pc L (.ref a :: st) w c k := by
  obtain ⟨p, e, s, m, args, below, meth, cd⟩ := C
  intro O H ls locs hR hS hL
  exact W.objInit O.1 O.2.1 O.2.2.1 (O.2.2.2.1.w h1) (O.2.2.2.1.w h2) (O.2.2.2.1.w h3) rfl hL.1 rfl d hf (by show 2 * 0 + _ + 12 ≤ _; omega) (h O H ls locs hR hS hL)
end HeapRows
end
section
/-! Contracts over a world; calls, returns, throws, handlers. -/
/-- what a method gives back: a value (or none), or the class of what it throws -/
abbrev RV : Type := Option Value ⊕ String
def Pc0 (G : Gx) (As : List Value) (w : Wd) : Array Value → State → Prop := fun v U => v = As.toArray ∧ GK G U ∧ BaseOk G U.heap ∧ Rel G w U.heap
def Qc0 (G : Gx) (P : RV → Wd → Prop) : Array Value → State → Outcome → State → Prop := fun _ st o t => ∃ (v : Option Value) (w' : Wd), o = .returned v ∧ P (.inl v) w' ∧ Rel G w' t.heap ∧ va_F (gA G) st t
def Xc0 (G : Gx) (P : RV → Wd → Prop) : String → State → State → Prop := fun E st t => ∃ w' : Wd, P (.inr E) w' ∧ Rel G w' t.heap ∧ va_F (gA G) st t
def Ct (G : Gx) (y : MethodName) (cw : Cond) (rm : Room) (As : List Value) (w : Wd) (P : RV → Wd → Prop) : Prop := vx_Met G.1 y [cw] rm (Pc0 G As w) (Qc0 G P) (Xc0 G P) rm.cells rm.slots (gA G)
theorem Ct.mono {G : Gx} {y : MethodName} {cw : Cond} {rm : Room} {As : List Value} {w : Wd} {P P' : RV → Wd → Prop} (h : Ct G y cw rm As w P) (hp : ∀ r w', P r w' → P' r w') : Ct G y cw rm As w P' := by
  intro p e ha hc hk s m args below hf happ hP hK
  obtain ⟨n, o, h1, h2, h3, h4⟩ := h p e ha hc hk s m args below hf happ hP hK
  refine ⟨n, o, h1, h2, h3, ?_⟩
  rcases h4 with ⟨⟨v, w', g1, g2, g3⟩, g4⟩ | ⟨q, g1, E, ce, Lc, ⟨w', g2, g3⟩, g4⟩
  · exact Or.inl ⟨⟨v, w', g1, hp _ _ g2, g3⟩, g4⟩
  · exact Or.inr ⟨q, g1, E, ce, Lc, ⟨w', hp _ _ g2, g3⟩, g4⟩
theorem Pc0.blind {G : Gx} {As : List Value} {w : Wd} : FrameBlind (Pc0 G As w) := fun a U g mk h => ⟨h.1, GK.warm (s := U) (State.WarmedH.refl U) h.2.1, h.2.2.1, h.2.2.2⟩
theorem Ct.met {G : Gx} {y : MethodName} {cw : Cond} {rm : Room} {As : List Value} {w : Wd} {P : RV → Wd → Prop} (h : Ct G y cw rm As w P) (hx : ∀ E w', ¬ P (.inr E) w') : Met G.1 y [cw] rm (Pc0 G As w) (Qc0 G P) rm.cells rm.slots (gA G) := by
  intro p e ha hc hk s m args below hf happ hP hK
  obtain ⟨n, o, h1, h2, h3, h4⟩ := h p e ha hc hk s m args below hf happ hP hK
  refine ⟨n, o, h1, h2, h3, ?_⟩
  rcases h4 with h4 | ⟨q, g1, E, ce, Lc, ⟨w', g2, g3⟩, g4⟩
  · exact h4
  · exact absurd g2 (hx _ _)
def QP (G : Gx) (rm : Room) (P : RV → Wd → Prop) : Cx → State → Prop
  | (_, _, s, _, args, below, _, _) => vx_MQ below (Qc0 G P) (Xc0 G P) args s rm.cells rm.slots (gA G)
theorem lv_args1 {As : List Value} (hc : ∀ v ∈ As, v.category = 1) : ∀ (n i : Nat) (v : Value), As[i]? = some v → (n + i, v) ∈ lv_args n As := by
  induction As with
  | nil => intro n i v h; cases h
  | cons a As ih =>
    intro n i v h
    have ha : ¬ a.category = 2 := by rw [hc a List.mem_cons_self]; decide
    cases i with
    | zero => cases h; exact List.mem_cons_self
    | succ i =>
      have h2 := ih (fun v hv => hc v (List.mem_cons_of_mem _ hv)) (n + 1) i v h
      show (n + (i + 1), v) ∈ (n, a) :: lv_args (if a.category = 2 then n + 2 else n + 1) As
      rw [if_neg ha]
      refine List.mem_cons_of_mem _ ?_
      rw [show n + (i + 1) = n + 1 + i by omega]
      exact h2
theorem lg_sl1 {As : List Value} (hc : ∀ v ∈ As, v.category = 1) : (lg_sl As).length = As.length := by
  induction As with
  | nil => rfl
  | cons a As ih =>
    have ha := hc a List.mem_cons_self
    have h2 := ih (fun v hv => hc v (List.mem_cons_of_mem _ hv))
    unfold lg_sl at h2 ⊢
    rw [List.flatMap_cons, List.length_append, h2]
    cases a <;> simp_all [Value.category] <;> omega
theorem entry_LV {cd : Code} {m : MethodId} {As : List Value} {maxL : Nat} {L0 : List (Option Value)} (hml : cd.maxLocals = maxL) (hcat : ∀ v ∈ As, v.category = 1) (hle : As.length ≤ maxL) (hL0 : L0 = As.map some ++ List.replicate (maxL - As.length) none) :
    ∃ ls : Array Slot, entryFrame m As.toArray maxL = F0 m 0 ls [] ∧ LV cd ls L0 := by
  have h := lv_entry As (n := maxL) (by rw [lg_sl1 hcat]; exact hle)
  refine ⟨_, lg_entry_eq m As maxL, h.1.trans hml.symm, h.2.1, ?_, ?_⟩
  · rw [h.1, hL0, List.length_append, List.length_map, List.length_replicate]; omega
  · intro i v hi
    rw [hL0] at hi
    have hi2 : As[i]? = some v := by
      by_cases hlt : i < As.length
      · rw [List.getElem?_append_left (by rw [List.length_map]; exact hlt), List.getElem?_map] at hi
        cases hA : As[i]? with
        | none => rw [hA] at hi; cases hi
        | some u => rw [hA] at hi; cases hi; rfl
      · rw [List.getElem?_append_right (by rw [List.length_map]; omega)] at hi
        have := List.eq_of_mem_replicate (List.mem_of_getElem? hi)
        cases this
    refine ⟨hcat v (List.mem_of_getElem? hi2), h.2.2 (i, v) ?_⟩
    have := lv_args1 hcat 0 i v hi2
    rwa [Nat.zero_add] at this
/-- a contract out of a walk: a method without a table of handlers -/
theorem ct_intro {G : Gx} {y : MethodName} {cc : ByteArray} {maxL : Nat} {ret : Option FieldType} {rm : Room} {As : List Value} {w : Wd} {P : RV → Wd → Prop} (own nm : String) (hy : plainName y.cls = true) (ho : y.cls = own) (hn : y.name = nm) (hcat : As.all (fun v => v.category == 1) = true) (hle : As.length ≤ maxL)
    (L0 : List (Option Value)) (hL0 : L0 = As.map some ++ List.replicate (maxL - As.length) none) (body : ∀ C : Cx, Go G rm cc own (ret, nm, []) C (QP G rm P C) 0 L0 [] w 0 0) : Ct G y (.code y cc maxL ret) rm As w P := by
  refine vx_ofW (cc := cc) (maxL := maxL) (ret := ret) hy rfl ?_
  intro p e s m args below meth c s₁ B hml htb hP
  obtain ⟨rfl, hGK, hBO, hR⟩ := hP
  obtain ⟨ls, e1, hL⟩ := entry_LV (cd := c) (m := m) hml (fun v hv => by simpa using List.all_eq_true.mp hcat v hv) hle hL0
  rw [e1]
  have htab : c.exceptionTable.toList = tableOf [] := by
    cases hx : c.exceptionTable.toList with
    | nil => rfl
    | cons x xs => exact absurd (htb x (by rw [hx]; exact List.mem_cons_self)) id
  exact body (p, e, s, m, As.toArray, below, meth, c) ⟨B.exec, B.bytes, ho ▸ findClass_of_methodNamed B.named, hGK, hBO, B.returns, ((name_of_methodNamed B.named B.method).1).trans hn, htab, B.notSynchronized⟩ s.heap ls [] hR va_S.rf hL
/-- .. with a table of handlers -/
theorem ct_introW {G : Gx} {y : MethodName} {cc : ByteArray} {maxL : Nat} {ret : Option FieldType} {hh : List (Nat × Nat × Nat × Nat)} {rm : Room} {As : List Value} {w : Wd} {P : RV → Wd → Prop} (own nm : String) (hy : plainName y.cls = true) (ho : y.cls = own) (hn : y.name = nm) (hcat : As.all (fun v => v.category == 1) = true) (hle : As.length ≤ maxL)
    (L0 : List (Option Value)) (hL0 : L0 = As.map some ++ List.replicate (maxL - As.length) none) (body : ∀ C : Cx, Go G rm cc own (ret, nm, hh) C (QP G rm P C) 0 L0 [] w 0 0) : Ct G y (.codeWith y cc maxL ret hh) rm As w P := by
  refine vx_ofWH (cc := cc) (maxL := maxL) (ret := ret) hy rfl ?_
  intro p e s m args below meth c s₁ B hml hP
  obtain ⟨rfl, hGK, hBO, hR⟩ := hP
  obtain ⟨ls, e1, hL⟩ := entry_LV (cd := c) (m := m) hml (fun v hv => by simpa using List.all_eq_true.mp hcat v hv) hle hL0
  rw [e1]
  have hts := atoms_spec (ws := [Cond.codeWith y cc maxL ret hh]) B.pre
  have htab : c.exceptionTable.toList = tableOf hh := vx_table (x := y) B (hts _ List.mem_cons_self)
  exact body (p, e, s, m, As.toArray, below, meth, c) ⟨B.exec, B.bytes, ho ▸ findClass_of_methodNamed B.named, hGK, hBO, B.returns, ((name_of_methodNamed B.named B.method).1).trans hn, htab, B.notSynchronized⟩ s.heap ls [] hR va_S.rf hL
/-- an exception of class E over the method's frame at pc -/
def GoX (G : Gx) (R : Room) (cc : ByteArray) (own : String) (Y : Yx) : Cx → (State → Prop) → Nat → List (Option Value) → Wd → Nat → Nat → String → Prop
  | (p, e, s, m, args, below, meth, cd), Q, pc, L, w, c, k, E => Okk G cc own Y p s m meth cd → ∀ (H : Heap) (ls : Array Slot) (locs : List Loc) (q : Addr) (ce : Cell) (st : List Value), Rel G w H → va_S (gA G) s.heap H locs → LV cd ls L →
      H[q]? = some ce → ce.vm = .none → s.vm.findClass E = some ce.cls → vx_W p G.1 e R s m args below meth cd H locs c k Q (F0 m pc ls st) q
/-- a method that can be called: its code, and what its name says -/
def MD (y : MethodName) (cw : Cond) (n : Nat) : Prop := cw ∈ tw ∧ Cond.initialized y.cls ∈ tw ∧ (y.cls ≠ "java/lang/invoke/MethodHandle" ∧ y.cls ≠ "java/lang/invoke/VarHandle") ∧ (parseMethodDescriptor y.desc).map (fun d => d.parameters.length) = some n
section CallRows
variable {G : Gx} {R : Room} {cc : ByteArray} {own : String} {Y : Yx} {C : Cx} {Q : State → Prop} {pc : Nat} {L : List (Option Value)} {st : List Value} {w : Wd} {c k : Nat}
theorem run_go {p : Program} {e : Env} {s : State} {m : MethodId} {args : Array Value} {below : List Frame} {meth : Method} {cd : Code} {H : Heap} {locs : List Loc} {ls : Array Slot} {rm : Room} {P : RV → Wd → Prop} {S : List Value} {a : Array Value}
    (O : Okk G cc own Y p s m meth cd) (hS : va_S (gA G) s.heap H locs) (hL : LV cd ls L)
    (hr : vx_Run p G.1 e R s m args below meth cd H locs c k rm.cells rm.slots (F0 m pc ls S) st (Qc0 G P a) (Xc0 G P) (gA G))
    (kr : ∀ v w', P (.inl v) w' → Go G R cc own Y (p, e, s, m, args, below, meth, cd) Q (pc + 3) L (v.toList ++ st) w' (c + rm.cells) (k + rm.slots))
    (kx : ∀ E w', P (.inr E) w' → GoX G R cc own Y (p, e, s, m, args, below, meth, cd) Q pc L w' (c + rm.cells) (k + rm.slots) E) : W p G.1 e R s m args below meth cd H locs c k Q (F0 m pc ls S) := by
  intro T hT X
  rcases hr T hT X with ⟨v, st₀, t, T', Lc, h0, X', hL', e1, e2, ⟨v', w', hv, hp, hR', hF⟩, stp⟩ | ⟨q, st₀, t, T', Lc, E, ce, h0, X', hL', e1, e2, ⟨w', hp, hR', hF⟩, hce, hcv, hcl, stp⟩
  · cases hv
    obtain ⟨k1, k2, k3⟩ := vx_keep h0 e1 hS (fun _ _ z => z) (fun _ z => z) hL' hF
    obtain ⟨t2, a1, b1⟩ := kr v w' hp O T'.heap ls (locs ++ Lc) (by rw [e1]; exact hR') k3 hL T' rfl X'
    exact ⟨t2, stp t2 a1, b1⟩
  · obtain ⟨k1, k2, k3⟩ := vx_keep h0 e1 hS (fun _ _ z => z) (fun _ z => z) hL' hF
    obtain ⟨t2, a1, b1⟩ := kx E w' hp O T'.heap ls (locs ++ Lc) q ce st (by rw [e1]; exact hR') k3 hL (by rw [e1]; exact hce) hcv hcl T' rfl X'
    exact ⟨t2, stp.trans a1, b1⟩
theorem run_goN {p : Program} {e : Env} {s : State} {m : MethodId} {args : Array Value} {below : List Frame} {meth : Method} {cd : Code} {H : Heap} {locs : List Loc} {ls : Array Slot} {rm : Room} {P : RV → Wd → Prop} {S : List Value} {a : Array Value}
    (O : Okk G cc own Y p s m meth cd) (hS : va_S (gA G) s.heap H locs) (hL : LV cd ls L)
    (hr : va_Run p G.1 e R s m args below meth cd H locs c k rm.cells rm.slots (F0 m pc ls S) st (Qc0 G P a) (gA G))
    (kr : ∀ v w', P (.inl v) w' → Go G R cc own Y (p, e, s, m, args, below, meth, cd) Q (pc + 3) L (v.toList ++ st) w' (c + rm.cells) (k + rm.slots)) : W p G.1 e R s m args below meth cd H locs c k Q (F0 m pc ls S) := by
  intro T hT X
  obtain ⟨v, st₀, t, T', Lc, h0, X', hL', e1, e2, ⟨v', w', hv, hp, hR', hF⟩, stp⟩ := hr T hT X
  cases hv
  obtain ⟨k1, k2, k3⟩ := vx_keep h0 e1 hS (fun _ _ z => z) (fun _ z => z) hL' hF
  obtain ⟨t2, a1, b1⟩ := kr v w' hp O T'.heap ls (locs ++ Lc) (by rw [e1]; exact hR') k3 hL T' rfl X'
  exact ⟨t2, stp t2 a1, b1⟩
theorem pc0_at {p : Program} {s U : State} {m : MethodId} {meth : Method} {cd : Code} {H : Heap} {locs : List Loc} {As : List Value} (O : Okk G cc own Y p s m meth cd) (hR : Rel G w H) (hS : va_S (gA G) s.heap H locs) (hU : U.heap = H) (hW : s.WarmedH U.vm) : Pc0 G As w As.toArray U := by
  refine ⟨rfl, O.2.2.2.1.warm hW, ⟨?_, fun q hq => ?_⟩, by rw [hU]; exact hR⟩
  · rw [hU]; exact Nat.le_trans O.2.2.2.2.1.1 hS.1
  · rw [hU, hS.2.1 q (Nat.lt_of_lt_of_le hq O.2.2.2.2.1.1) (by show ¬ (gH G).size ≤ q; omega)]
    exact O.2.2.2.2.1.2 q hq
theorem ws_at {p : Program} {s : State} {m : MethodId} {meth : Method} {cd : Code} {cw : Cond} (O : Okk G cc own Y p s m meth cd) (hc : cw ∈ tw) : ∀ x ∈ [cw], ∀ (a' : Array Value) (U : State), s.WarmedH U.vm → x.before a' U = true := by
  intro x hx a' U hW
  rw [List.mem_singleton.mp hx]
  exact okW_at hW (List.mem_filter.mp hc).2 (O.2.2.2.1.w (a := #[]) hc)
theorem len_of {y : MethodName} {n : Nat} (h2 : (parseMethodDescriptor y.desc).map (fun d => d.parameters.length) = some n) : ∀ sig, parseMethodDescriptor y.desc = some sig → n = sig.parameters.length := by
  intro sig h
  rw [h] at h2
  exact (Option.some.inj h2).symm
theorem recv_at {p : Program} {s : State} {m : MethodId} {meth : Method} {cd : Code} {H : Heap} {ci N b : Nat} {Cn : String} {T : u_T} {ty : Nat → FieldType} {fs : List Value} (O : Okk G cc own Y p s m meth cd) (hk : KC ci Cn T N ty) (hR : Rel G w H) (hw : w b = some (eO ci fs)) : ∃ cellB : Cell, H[b]? = some cellB ∧ cellB.vm.isStatics = false ∧ s.vm.findClass Cn = some cellB.cls :=
  va_recv (q0 := 0) O.2.2.2.1.2.1 (one_P hR hw) hk.1 rfl
abbrev RmOk (R rm : Room) (maxL : Nat) (st : List Value) (c k : Nat) : Prop := (rm.frames + 1 ≤ R.frames ∧ 8 + (maxL + 11) + rm.locals ≤ R.locals ∧ (st.map fun v => v.category).sum ≤ 8) ∧ c + rm.cells ≤ R.cells ∧ k + rm.slots ≤ R.slots
theorem RmOk.of {R rm : Room} {maxL : Nat} {st : List Value} {c k : Nat} (h1 : rm.frames + 1 ≤ R.frames) (h2 : 8 + (maxL + 11) + rm.locals ≤ R.locals) (h3 : (st.map fun v => v.category).sum ≤ 8) (h4 : c + rm.cells ≤ R.cells) (h5 : k + rm.slots ≤ R.slots) : RmOk R rm maxL st c k := ⟨⟨h1, h2, h3⟩, h4, h5⟩
theorem mr_of {m : MethodId} {ls : Array Slot} {S st : List Value} (h : (st.map fun v => v.category).sum ≤ 8) : 2 * (F0 m pc ls S).monitorRoom + (st.map fun v => v.category).sum ≤ 8 := by
  show 2 * 0 + _ ≤ _
  omega

theorem g_callS0 {y : MethodName} {bytes : ByteArray} {maxL idx : Nat} {ret : Option FieldType} {rm : Room} {P : RV → Wd → Prop} (ct : Ct G y (.code y bytes maxL ret) rm [] w P) (md : MD y (.code y bytes maxL ret) 0) (d : decode cc pc = .ok (.invokestatic idx, 3)) (h1 : Cond.methodLink own idx y ∈ tw) (h2 : Cond.static y ∈ tw) (hr : RmOk R rm maxL st c k)
    (kr : ∀ v w', P (.inl v) w' → Go G R cc own Y C Q (pc + 3) L (v.toList ++ st) w' (c + rm.cells) (k + rm.slots))
    (kx : ∀ E w', P (.inr E) w' → GoX G R cc own Y C Q pc L w' (c + rm.cells) (k + rm.slots) E) : Go G R cc own Y C Q pc L (st) w c k := by
  obtain ⟨p, e, s, m, args, below, meth, cd⟩ := C
  intro O H ls locs hR hS hL
  have hw := fun {x : Cond} (hx : x ∈ tw) => O.2.2.2.1.w (a := args) hx
  exact run_go O hS hL (vx_runS (Ts := []) (maxL := maxL) (ret := ret) (As := []) (n := 0) ⟨O.1, O.2.1, hL.1.symm, O.2.2.1, fun _ z => nomatch z⟩ ct ⟨⟨rfl, rfl, hr.1.1, hr.1.2.1, ws_at O md.1, List.mem_cons_self, hw md.1, hw md.2.1, md.2.2.1, len_of md.2.2.2, hw h1⟩, hw h2⟩ ⟨Pc0.blind, fun U hU hW => pc0_at O hR hS hU hW⟩ rfl rfl rfl rfl (mr_of hr.1.2.2) d hr.2) kr kx
theorem g_callSW0 {y : MethodName} {bytes : ByteArray} {maxL idx : Nat} {ret : Option FieldType} {hh : List (Nat × Nat × Nat × Nat)} {rm : Room} {P : RV → Wd → Prop} (ct : Ct G y (.codeWith y bytes maxL ret hh) rm [] w P) (md : MD y (.codeWith y bytes maxL ret hh) 0) (d : decode cc pc = .ok (.invokestatic idx, 3)) (h1 : Cond.methodLink own idx y ∈ tw) (h2 : Cond.static y ∈ tw) (hr : RmOk R rm maxL st c k)
    (kr : ∀ v w', P (.inl v) w' → Go G R cc own Y C Q (pc + 3) L (v.toList ++ st) w' (c + rm.cells) (k + rm.slots))
    (kx : ∀ E w', P (.inr E) w' → GoX G R cc own Y C Q pc L w' (c + rm.cells) (k + rm.slots) E) : Go G R cc own Y C Q pc L (st) w c k := by
  obtain ⟨p, e, s, m, args, below, meth, cd⟩ := C
  intro O H ls locs hR hS hL
  have hw := fun {x : Cond} (hx : x ∈ tw) => O.2.2.2.1.w (a := args) hx
  exact run_go O hS hL (vx_runSX (Ts := []) (maxL := maxL) (ret := ret) (hh := hh) (As := []) (n := 0) ⟨O.1, O.2.1, hL.1.symm, O.2.2.1, fun _ z => nomatch z⟩ ct ⟨⟨rfl, rfl, hr.1.1, hr.1.2.1, ws_at O md.1, List.mem_cons_self⟩, hw md.1, hw md.2.1, md.2.2.1, len_of md.2.2.2, hw h1, hw h2⟩ ⟨Pc0.blind, fun U hU hW => pc0_at O hR hS hU hW⟩ rfl rfl rfl rfl (mr_of hr.1.2.2) d hr.2) kr kx
theorem g_callV0 {ci N b : Nat} {Cn : String} {T : u_T} {ty : Nat → FieldType} {fs : List Value} {y : MethodName} {bytes : ByteArray} {maxL idx : Nat} {ret : Option FieldType} {rm : Room} {P : RV → Wd → Prop} (hk : KC ci Cn T N ty) (ct : Ct G y (.code y bytes maxL ret) rm (Value.ref b :: []) w P) (md : MD y (.code y bytes maxL ret) 0) (d : decode cc pc = .ok (.invokevirtual idx, 3)) (h1 : Cond.methodLink own idx y ∈ tw) (h2 : Cond.instanceMethod y ∈ tw) (h3 : Cond.selects Cn y y ∈ tw) (hb : w b = some (eO ci fs)) (hr : RmOk R rm maxL st c k)
    (kr : ∀ v w', P (.inl v) w' → Go G R cc own Y C Q (pc + 3) L (v.toList ++ st) w' (c + rm.cells) (k + rm.slots))
    (kx : ∀ E w', P (.inr E) w' → GoX G R cc own Y C Q pc L w' (c + rm.cells) (k + rm.slots) E) : Go G R cc own Y C Q pc L (.ref b :: st) w c k := by
  obtain ⟨p, e, s, m, args, below, meth, cd⟩ := C
  intro O H ls locs hR hS hL
  have hw := fun {x : Cond} (hx : x ∈ tw) => O.2.2.2.1.w (a := args) hx
  exact run_go O hS hL (vx_runV (Ts := []) (maxL := maxL) (ret := ret) (As := []) (n := 0) ⟨O.1, O.2.1, hL.1.symm, O.2.2.1, fun _ z => nomatch z⟩ ct ⟨⟨rfl, rfl, hr.1.1, hr.1.2.1, ws_at O md.1, List.mem_cons_self, hw md.1, hw md.2.1, md.2.2.1, len_of md.2.2.2, hw h1⟩, hw h2, hw h3⟩ ⟨Pc0.blind, recv_at O hk hR hb, fun U hU hW => pc0_at O hR hS hU hW⟩ rfl rfl rfl rfl (mr_of hr.1.2.2) d hr.2) kr kx
theorem g_callVN0 {ci N b : Nat} {Cn host : String} {T : u_T} {ty : Nat → FieldType} {fs : List Value} {y : MethodName} {bytes : ByteArray} {maxL idx : Nat} {ret : Option FieldType} {rm : Room} {P : RV → Wd → Prop} (hk : KC ci Cn T N ty) (ct : Ct G y (.code y bytes maxL ret) rm (Value.ref b :: []) w P) (md : MD y (.code y bytes maxL ret) 0) (d : decode cc pc = .ok (.invokevirtual idx, 3)) (h1 : Cond.methodLinkNest own idx y host ∈ tw) (h2 : Cond.instanceMethod y ∈ tw) (h3 : Cond.selects Cn y y ∈ tw) (hb : w b = some (eO ci fs)) (hr : RmOk R rm maxL st c k)
    (kr : ∀ v w', P (.inl v) w' → Go G R cc own Y C Q (pc + 3) L (v.toList ++ st) w' (c + rm.cells) (k + rm.slots))
    (kx : ∀ E w', ¬ P (.inr E) w') : Go G R cc own Y C Q pc L (.ref b :: st) w c k := by
  obtain ⟨p, e, s, m, args, below, meth, cd⟩ := C
  intro O H ls locs hR hS hL
  have hw := fun {x : Cond} (hx : x ∈ tw) => O.2.2.2.1.w (a := args) hx
  exact run_goN O hS hL (va_runVN (Ts := []) (maxL := maxL) (ret := ret) (As := []) (n := 0) ⟨O.1, O.2.1, hL.1.symm, O.2.2.1, fun _ z => nomatch z⟩ (ct.met kx) ⟨⟨⟨rfl, rfl, hr.1.1, hr.1.2.1, ws_at O md.1, List.mem_cons_self⟩, hw md.1, hw md.2.1, md.2.2.1, len_of md.2.2.2, hw h1⟩, hw h2, hw h3⟩ ⟨Pc0.blind, recv_at O hk hR hb, fun U hU hW => pc0_at O hR hS hU hW⟩ rfl rfl rfl rfl (mr_of hr.1.2.2) d hr.2) kr
theorem g_callI0 {b : Nat} {y : MethodName} {bytes : ByteArray} {maxL idx : Nat} {rm : Room} {P : RV → Wd → Prop} (ct : Ct G y (.code y bytes maxL none) rm (Value.ref b :: []) w P) (md : MD y (.code y bytes maxL none) 0) (d : decode cc pc = .ok (.invokespecial idx, 3)) (h1 : Cond.methodLink own idx y ∈ tw) (h2 : y.name = "<init>") (h3 : Cond.instanceMethod y ∈ tw) (hr : RmOk R rm maxL st c k)
    (kr : ∀ v w', P (.inl v) w' → Go G R cc own Y C Q (pc + 3) L (v.toList ++ st) w' (c + rm.cells) (k + rm.slots))
    (kx : ∀ E w', ¬ P (.inr E) w') : Go G R cc own Y C Q pc L (.ref b :: st) w c k := by
  obtain ⟨p, e, s, m, args, below, meth, cd⟩ := C
  intro O H ls locs hR hS hL
  have hw := fun {x : Cond} (hx : x ∈ tw) => O.2.2.2.1.w (a := args) hx
  exact run_goN O hS hL (va_runI (Ts := []) (maxL := maxL) (b := b) (As := []) (n := 0) ⟨O.1, O.2.1, hL.1.symm, O.2.2.1, fun _ z => nomatch z⟩ (ct.met kx) ⟨⟨rfl, rfl, hr.1.1, hr.1.2.1, ws_at O md.1, List.mem_cons_self, hw md.1, hw md.2.1, md.2.2.1, len_of md.2.2.2, hw h1⟩, h2, hw h3⟩ ⟨Pc0.blind, fun U hU hW => pc0_at O hR hS hU hW⟩ rfl rfl rfl rfl (mr_of hr.1.2.2) d hr.2) kr
theorem g_callIN0 {b : Nat} {host : String} {y : MethodName} {bytes : ByteArray} {maxL idx : Nat} {rm : Room} {P : RV → Wd → Prop} (ct : Ct G y (.code y bytes maxL none) rm (Value.ref b :: []) w P) (md : MD y (.code y bytes maxL none) 0) (d : decode cc pc = .ok (.invokespecial idx, 3)) (h1 : Cond.methodLinkNest own idx y host ∈ tw) (h2 : y.name = "<init>") (h3 : Cond.instanceMethod y ∈ tw) (hr : RmOk R rm maxL st c k)
    (kr : ∀ v w', P (.inl v) w' → Go G R cc own Y C Q (pc + 3) L (v.toList ++ st) w' (c + rm.cells) (k + rm.slots))
    (kx : ∀ E w', ¬ P (.inr E) w') : Go G R cc own Y C Q pc L (.ref b :: st) w c k := by
  obtain ⟨p, e, s, m, args, below, meth, cd⟩ := C
  intro O H ls locs hR hS hL
  have hw := fun {x : Cond} (hx : x ∈ tw) => O.2.2.2.1.w (a := args) hx
  exact run_goN O hS hL (va_runIN (Ts := []) (maxL := maxL) (b := b) (As := []) (n := 0) ⟨O.1, O.2.1, hL.1.symm, O.2.2.1, fun _ z => nomatch z⟩ (ct.met kx) ⟨⟨⟨rfl, rfl, hr.1.1, hr.1.2.1, ws_at O md.1, List.mem_cons_self⟩, hw md.1, hw md.2.1, md.2.2.1, len_of md.2.2.2, hw h1⟩, h2, hw h3⟩ ⟨Pc0.blind, fun U hU hW => pc0_at O hR hS hU hW⟩ rfl rfl rfl rfl (mr_of hr.1.2.2) d hr.2) kr
theorem g_callS1 {y : MethodName} {bytes : ByteArray} {maxL idx : Nat} {ret : Option FieldType} {rm : Room} {a1 : Value} {P : RV → Wd → Prop} (ct : Ct G y (.code y bytes maxL ret) rm [a1] w P) (md : MD y (.code y bytes maxL ret) 1) (d : decode cc pc = .ok (.invokestatic idx, 3)) (h1 : Cond.methodLink own idx y ∈ tw) (h2 : Cond.static y ∈ tw) (hr : RmOk R rm maxL st c k)
    (kr : ∀ v w', P (.inl v) w' → Go G R cc own Y C Q (pc + 3) L (v.toList ++ st) w' (c + rm.cells) (k + rm.slots))
    (kx : ∀ E w', P (.inr E) w' → GoX G R cc own Y C Q pc L w' (c + rm.cells) (k + rm.slots) E) : Go G R cc own Y C Q pc L (a1 :: st) w c k := by
  obtain ⟨p, e, s, m, args, below, meth, cd⟩ := C
  intro O H ls locs hR hS hL
  have hw := fun {x : Cond} (hx : x ∈ tw) => O.2.2.2.1.w (a := args) hx
  exact run_go O hS hL (vx_runS (Ts := []) (maxL := maxL) (ret := ret) (As := [a1]) (n := 1) ⟨O.1, O.2.1, hL.1.symm, O.2.2.1, fun _ z => nomatch z⟩ ct ⟨⟨rfl, rfl, hr.1.1, hr.1.2.1, ws_at O md.1, List.mem_cons_self, hw md.1, hw md.2.1, md.2.2.1, len_of md.2.2.2, hw h1⟩, hw h2⟩ ⟨Pc0.blind, fun U hU hW => pc0_at O hR hS hU hW⟩ rfl rfl rfl rfl (mr_of hr.1.2.2) d hr.2) kr kx
theorem g_callSW1 {y : MethodName} {bytes : ByteArray} {maxL idx : Nat} {ret : Option FieldType} {hh : List (Nat × Nat × Nat × Nat)} {rm : Room} {a1 : Value} {P : RV → Wd → Prop} (ct : Ct G y (.codeWith y bytes maxL ret hh) rm [a1] w P) (md : MD y (.codeWith y bytes maxL ret hh) 1) (d : decode cc pc = .ok (.invokestatic idx, 3)) (h1 : Cond.methodLink own idx y ∈ tw) (h2 : Cond.static y ∈ tw) (hr : RmOk R rm maxL st c k)
    (kr : ∀ v w', P (.inl v) w' → Go G R cc own Y C Q (pc + 3) L (v.toList ++ st) w' (c + rm.cells) (k + rm.slots))
    (kx : ∀ E w', P (.inr E) w' → GoX G R cc own Y C Q pc L w' (c + rm.cells) (k + rm.slots) E) : Go G R cc own Y C Q pc L (a1 :: st) w c k := by
  obtain ⟨p, e, s, m, args, below, meth, cd⟩ := C
  intro O H ls locs hR hS hL
  have hw := fun {x : Cond} (hx : x ∈ tw) => O.2.2.2.1.w (a := args) hx
  exact run_go O hS hL (vx_runSX (Ts := []) (maxL := maxL) (ret := ret) (hh := hh) (As := [a1]) (n := 1) ⟨O.1, O.2.1, hL.1.symm, O.2.2.1, fun _ z => nomatch z⟩ ct ⟨⟨rfl, rfl, hr.1.1, hr.1.2.1, ws_at O md.1, List.mem_cons_self⟩, hw md.1, hw md.2.1, md.2.2.1, len_of md.2.2.2, hw h1, hw h2⟩ ⟨Pc0.blind, fun U hU hW => pc0_at O hR hS hU hW⟩ rfl rfl rfl rfl (mr_of hr.1.2.2) d hr.2) kr kx
theorem g_callV1 {ci N b : Nat} {Cn : String} {T : u_T} {ty : Nat → FieldType} {fs : List Value} {y : MethodName} {bytes : ByteArray} {maxL idx : Nat} {ret : Option FieldType} {rm : Room} {a1 : Value} {P : RV → Wd → Prop} (hk : KC ci Cn T N ty) (ct : Ct G y (.code y bytes maxL ret) rm (Value.ref b :: [a1]) w P) (md : MD y (.code y bytes maxL ret) 1) (d : decode cc pc = .ok (.invokevirtual idx, 3)) (h1 : Cond.methodLink own idx y ∈ tw) (h2 : Cond.instanceMethod y ∈ tw) (h3 : Cond.selects Cn y y ∈ tw) (hb : w b = some (eO ci fs)) (hr : RmOk R rm maxL st c k)
    (kr : ∀ v w', P (.inl v) w' → Go G R cc own Y C Q (pc + 3) L (v.toList ++ st) w' (c + rm.cells) (k + rm.slots))
    (kx : ∀ E w', P (.inr E) w' → GoX G R cc own Y C Q pc L w' (c + rm.cells) (k + rm.slots) E) : Go G R cc own Y C Q pc L (a1 :: .ref b :: st) w c k := by
  obtain ⟨p, e, s, m, args, below, meth, cd⟩ := C
  intro O H ls locs hR hS hL
  have hw := fun {x : Cond} (hx : x ∈ tw) => O.2.2.2.1.w (a := args) hx
  exact run_go O hS hL (vx_runV (Ts := []) (maxL := maxL) (ret := ret) (As := [a1]) (n := 1) ⟨O.1, O.2.1, hL.1.symm, O.2.2.1, fun _ z => nomatch z⟩ ct ⟨⟨rfl, rfl, hr.1.1, hr.1.2.1, ws_at O md.1, List.mem_cons_self, hw md.1, hw md.2.1, md.2.2.1, len_of md.2.2.2, hw h1⟩, hw h2, hw h3⟩ ⟨Pc0.blind, recv_at O hk hR hb, fun U hU hW => pc0_at O hR hS hU hW⟩ rfl rfl rfl rfl (mr_of hr.1.2.2) d hr.2) kr kx
theorem g_callVN1 {ci N b : Nat} {Cn host : String} {T : u_T} {ty : Nat → FieldType} {fs : List Value} {y : MethodName} {bytes : ByteArray} {maxL idx : Nat} {ret : Option FieldType} {rm : Room} {a1 : Value} {P : RV → Wd → Prop} (hk : KC ci Cn T N ty) (ct : Ct G y (.code y bytes maxL ret) rm (Value.ref b :: [a1]) w P) (md : MD y (.code y bytes maxL ret) 1) (d : decode cc pc = .ok (.invokevirtual idx, 3)) (h1 : Cond.methodLinkNest own idx y host ∈ tw) (h2 : Cond.instanceMethod y ∈ tw) (h3 : Cond.selects Cn y y ∈ tw) (hb : w b = some (eO ci fs)) (hr : RmOk R rm maxL st c k)
    (kr : ∀ v w', P (.inl v) w' → Go G R cc own Y C Q (pc + 3) L (v.toList ++ st) w' (c + rm.cells) (k + rm.slots))
    (kx : ∀ E w', ¬ P (.inr E) w') : Go G R cc own Y C Q pc L (a1 :: .ref b :: st) w c k := by
  obtain ⟨p, e, s, m, args, below, meth, cd⟩ := C
  intro O H ls locs hR hS hL
  have hw := fun {x : Cond} (hx : x ∈ tw) => O.2.2.2.1.w (a := args) hx
  exact run_goN O hS hL (va_runVN (Ts := []) (maxL := maxL) (ret := ret) (As := [a1]) (n := 1) ⟨O.1, O.2.1, hL.1.symm, O.2.2.1, fun _ z => nomatch z⟩ (ct.met kx) ⟨⟨⟨rfl, rfl, hr.1.1, hr.1.2.1, ws_at O md.1, List.mem_cons_self⟩, hw md.1, hw md.2.1, md.2.2.1, len_of md.2.2.2, hw h1⟩, hw h2, hw h3⟩ ⟨Pc0.blind, recv_at O hk hR hb, fun U hU hW => pc0_at O hR hS hU hW⟩ rfl rfl rfl rfl (mr_of hr.1.2.2) d hr.2) kr
theorem g_callI1 {b : Nat} {y : MethodName} {bytes : ByteArray} {maxL idx : Nat} {rm : Room} {a1 : Value} {P : RV → Wd → Prop} (ct : Ct G y (.code y bytes maxL none) rm (Value.ref b :: [a1]) w P) (md : MD y (.code y bytes maxL none) 1) (d : decode cc pc = .ok (.invokespecial idx, 3)) (h1 : Cond.methodLink own idx y ∈ tw) (h2 : y.name = "<init>") (h3 : Cond.instanceMethod y ∈ tw) (hr : RmOk R rm maxL st c k)
    (kr : ∀ v w', P (.inl v) w' → Go G R cc own Y C Q (pc + 3) L (v.toList ++ st) w' (c + rm.cells) (k + rm.slots))
    (kx : ∀ E w', ¬ P (.inr E) w') : Go G R cc own Y C Q pc L (a1 :: .ref b :: st) w c k := by
  obtain ⟨p, e, s, m, args, below, meth, cd⟩ := C
  intro O H ls locs hR hS hL
  have hw := fun {x : Cond} (hx : x ∈ tw) => O.2.2.2.1.w (a := args) hx
  exact run_goN O hS hL (va_runI (Ts := []) (maxL := maxL) (b := b) (As := [a1]) (n := 1) ⟨O.1, O.2.1, hL.1.symm, O.2.2.1, fun _ z => nomatch z⟩ (ct.met kx) ⟨⟨rfl, rfl, hr.1.1, hr.1.2.1, ws_at O md.1, List.mem_cons_self, hw md.1, hw md.2.1, md.2.2.1, len_of md.2.2.2, hw h1⟩, h2, hw h3⟩ ⟨Pc0.blind, fun U hU hW => pc0_at O hR hS hU hW⟩ rfl rfl rfl rfl (mr_of hr.1.2.2) d hr.2) kr
theorem g_callIN1 {b : Nat} {host : String} {y : MethodName} {bytes : ByteArray} {maxL idx : Nat} {rm : Room} {a1 : Value} {P : RV → Wd → Prop} (ct : Ct G y (.code y bytes maxL none) rm (Value.ref b :: [a1]) w P) (md : MD y (.code y bytes maxL none) 1) (d : decode cc pc = .ok (.invokespecial idx, 3)) (h1 : Cond.methodLinkNest own idx y host ∈ tw) (h2 : y.name = "<init>") (h3 : Cond.instanceMethod y ∈ tw) (hr : RmOk R rm maxL st c k)
    (kr : ∀ v w', P (.inl v) w' → Go G R cc own Y C Q (pc + 3) L (v.toList ++ st) w' (c + rm.cells) (k + rm.slots))
    (kx : ∀ E w', ¬ P (.inr E) w') : Go G R cc own Y C Q pc L (a1 :: .ref b :: st) w c k := by
  obtain ⟨p, e, s, m, args, below, meth, cd⟩ := C
  intro O H ls locs hR hS hL
  have hw := fun {x : Cond} (hx : x ∈ tw) => O.2.2.2.1.w (a := args) hx
  exact run_goN O hS hL (va_runIN (Ts := []) (maxL := maxL) (b := b) (As := [a1]) (n := 1) ⟨O.1, O.2.1, hL.1.symm, O.2.2.1, fun _ z => nomatch z⟩ (ct.met kx) ⟨⟨⟨rfl, rfl, hr.1.1, hr.1.2.1, ws_at O md.1, List.mem_cons_self⟩, hw md.1, hw md.2.1, md.2.2.1, len_of md.2.2.2, hw h1⟩, h2, hw h3⟩ ⟨Pc0.blind, fun U hU hW => pc0_at O hR hS hU hW⟩ rfl rfl rfl rfl (mr_of hr.1.2.2) d hr.2) kr
theorem g_callS2 {y : MethodName} {bytes : ByteArray} {maxL idx : Nat} {ret : Option FieldType} {rm : Room} {a1 a2 : Value} {P : RV → Wd → Prop} (ct : Ct G y (.code y bytes maxL ret) rm [a1, a2] w P) (md : MD y (.code y bytes maxL ret) 2) (d : decode cc pc = .ok (.invokestatic idx, 3)) (h1 : Cond.methodLink own idx y ∈ tw) (h2 : Cond.static y ∈ tw) (hr : RmOk R rm maxL st c k)
    (kr : ∀ v w', P (.inl v) w' → Go G R cc own Y C Q (pc + 3) L (v.toList ++ st) w' (c + rm.cells) (k + rm.slots))
    (kx : ∀ E w', P (.inr E) w' → GoX G R cc own Y C Q pc L w' (c + rm.cells) (k + rm.slots) E) : Go G R cc own Y C Q pc L (a2 :: a1 :: st) w c k := by
  obtain ⟨p, e, s, m, args, below, meth, cd⟩ := C
  intro O H ls locs hR hS hL
  have hw := fun {x : Cond} (hx : x ∈ tw) => O.2.2.2.1.w (a := args) hx
  exact run_go O hS hL (vx_runS (Ts := []) (maxL := maxL) (ret := ret) (As := [a1, a2]) (n := 2) ⟨O.1, O.2.1, hL.1.symm, O.2.2.1, fun _ z => nomatch z⟩ ct ⟨⟨rfl, rfl, hr.1.1, hr.1.2.1, ws_at O md.1, List.mem_cons_self, hw md.1, hw md.2.1, md.2.2.1, len_of md.2.2.2, hw h1⟩, hw h2⟩ ⟨Pc0.blind, fun U hU hW => pc0_at O hR hS hU hW⟩ rfl rfl rfl rfl (mr_of hr.1.2.2) d hr.2) kr kx
theorem g_callSW2 {y : MethodName} {bytes : ByteArray} {maxL idx : Nat} {ret : Option FieldType} {hh : List (Nat × Nat × Nat × Nat)} {rm : Room} {a1 a2 : Value} {P : RV → Wd → Prop} (ct : Ct G y (.codeWith y bytes maxL ret hh) rm [a1, a2] w P) (md : MD y (.codeWith y bytes maxL ret hh) 2) (d : decode cc pc = .ok (.invokestatic idx, 3)) (h1 : Cond.methodLink own idx y ∈ tw) (h2 : Cond.static y ∈ tw) (hr : RmOk R rm maxL st c k)
    (kr : ∀ v w', P (.inl v) w' → Go G R cc own Y C Q (pc + 3) L (v.toList ++ st) w' (c + rm.cells) (k + rm.slots))
    (kx : ∀ E w', P (.inr E) w' → GoX G R cc own Y C Q pc L w' (c + rm.cells) (k + rm.slots) E) : Go G R cc own Y C Q pc L (a2 :: a1 :: st) w c k := by
  obtain ⟨p, e, s, m, args, below, meth, cd⟩ := C
  intro O H ls locs hR hS hL
  have hw := fun {x : Cond} (hx : x ∈ tw) => O.2.2.2.1.w (a := args) hx
  exact run_go O hS hL (vx_runSX (Ts := []) (maxL := maxL) (ret := ret) (hh := hh) (As := [a1, a2]) (n := 2) ⟨O.1, O.2.1, hL.1.symm, O.2.2.1, fun _ z => nomatch z⟩ ct ⟨⟨rfl, rfl, hr.1.1, hr.1.2.1, ws_at O md.1, List.mem_cons_self⟩, hw md.1, hw md.2.1, md.2.2.1, len_of md.2.2.2, hw h1, hw h2⟩ ⟨Pc0.blind, fun U hU hW => pc0_at O hR hS hU hW⟩ rfl rfl rfl rfl (mr_of hr.1.2.2) d hr.2) kr kx
theorem g_callV2 {ci N b : Nat} {Cn : String} {T : u_T} {ty : Nat → FieldType} {fs : List Value} {y : MethodName} {bytes : ByteArray} {maxL idx : Nat} {ret : Option FieldType} {rm : Room} {a1 a2 : Value} {P : RV → Wd → Prop} (hk : KC ci Cn T N ty) (ct : Ct G y (.code y bytes maxL ret) rm (Value.ref b :: [a1, a2]) w P) (md : MD y (.code y bytes maxL ret) 2) (d : decode cc pc = .ok (.invokevirtual idx, 3)) (h1 : Cond.methodLink own idx y ∈ tw) (h2 : Cond.instanceMethod y ∈ tw) (h3 : Cond.selects Cn y y ∈ tw) (hb : w b = some (eO ci fs)) (hr : RmOk R rm maxL st c k)
    (kr : ∀ v w', P (.inl v) w' → Go G R cc own Y C Q (pc + 3) L (v.toList ++ st) w' (c + rm.cells) (k + rm.slots))
    (kx : ∀ E w', P (.inr E) w' → GoX G R cc own Y C Q pc L w' (c + rm.cells) (k + rm.slots) E) : Go G R cc own Y C Q pc L (a2 :: a1 :: .ref b :: st) w c k := by
  obtain ⟨p, e, s, m, args, below, meth, cd⟩ := C
  intro O H ls locs hR hS hL
  have hw := fun {x : Cond} (hx : x ∈ tw) => O.2.2.2.1.w (a := args) hx
  exact run_go O hS hL (vx_runV (Ts := []) (maxL := maxL) (ret := ret) (As := [a1, a2]) (n := 2) ⟨O.1, O.2.1, hL.1.symm, O.2.2.1, fun _ z => nomatch z⟩ ct ⟨⟨rfl, rfl, hr.1.1, hr.1.2.1, ws_at O md.1, List.mem_cons_self, hw md.1, hw md.2.1, md.2.2.1, len_of md.2.2.2, hw h1⟩, hw h2, hw h3⟩ ⟨Pc0.blind, recv_at O hk hR hb, fun U hU hW => pc0_at O hR hS hU hW⟩ rfl rfl rfl rfl (mr_of hr.1.2.2) d hr.2) kr kx
theorem g_callVN2 {ci N b : Nat} {Cn host : String} {T : u_T} {ty : Nat → FieldType} {fs : List Value} {y : MethodName} {bytes : ByteArray} {maxL idx : Nat} {ret : Option FieldType} {rm : Room} {a1 a2 : Value} {P : RV → Wd → Prop} (hk : KC ci Cn T N ty) (ct : Ct G y (.code y bytes maxL ret) rm (Value.ref b :: [a1, a2]) w P) (md : MD y (.code y bytes maxL ret) 2) (d : decode cc pc = .ok (.invokevirtual idx, 3)) (h1 : Cond.methodLinkNest own idx y host ∈ tw) (h2 : Cond.instanceMethod y ∈ tw) (h3 : Cond.selects Cn y y ∈ tw) (hb : w b = some (eO ci fs)) (hr : RmOk R rm maxL st c k)
    (kr : ∀ v w', P (.inl v) w' → Go G R cc own Y C Q (pc + 3) L (v.toList ++ st) w' (c + rm.cells) (k + rm.slots))
    (kx : ∀ E w', ¬ P (.inr E) w') : Go G R cc own Y C Q pc L (a2 :: a1 :: .ref b :: st) w c k := by
  obtain ⟨p, e, s, m, args, below, meth, cd⟩ := C
  intro O H ls locs hR hS hL
  have hw := fun {x : Cond} (hx : x ∈ tw) => O.2.2.2.1.w (a := args) hx
  exact run_goN O hS hL (va_runVN (Ts := []) (maxL := maxL) (ret := ret) (As := [a1, a2]) (n := 2) ⟨O.1, O.2.1, hL.1.symm, O.2.2.1, fun _ z => nomatch z⟩ (ct.met kx) ⟨⟨⟨rfl, rfl, hr.1.1, hr.1.2.1, ws_at O md.1, List.mem_cons_self⟩, hw md.1, hw md.2.1, md.2.2.1, len_of md.2.2.2, hw h1⟩, hw h2, hw h3⟩ ⟨Pc0.blind, recv_at O hk hR hb, fun U hU hW => pc0_at O hR hS hU hW⟩ rfl rfl rfl rfl (mr_of hr.1.2.2) d hr.2) kr
theorem g_callI2 {b : Nat} {y : MethodName} {bytes : ByteArray} {maxL idx : Nat} {rm : Room} {a1 a2 : Value} {P : RV → Wd → Prop} (ct : Ct G y (.code y bytes maxL none) rm (Value.ref b :: [a1, a2]) w P) (md : MD y (.code y bytes maxL none) 2) (d : decode cc pc = .ok (.invokespecial idx, 3)) (h1 : Cond.methodLink own idx y ∈ tw) (h2 : y.name = "<init>") (h3 : Cond.instanceMethod y ∈ tw) (hr : RmOk R rm maxL st c k)
    (kr : ∀ v w', P (.inl v) w' → Go G R cc own Y C Q (pc + 3) L (v.toList ++ st) w' (c + rm.cells) (k + rm.slots))
    (kx : ∀ E w', ¬ P (.inr E) w') : Go G R cc own Y C Q pc L (a2 :: a1 :: .ref b :: st) w c k := by
  obtain ⟨p, e, s, m, args, below, meth, cd⟩ := C
  intro O H ls locs hR hS hL
  have hw := fun {x : Cond} (hx : x ∈ tw) => O.2.2.2.1.w (a := args) hx
  exact run_goN O hS hL (va_runI (Ts := []) (maxL := maxL) (b := b) (As := [a1, a2]) (n := 2) ⟨O.1, O.2.1, hL.1.symm, O.2.2.1, fun _ z => nomatch z⟩ (ct.met kx) ⟨⟨rfl, rfl, hr.1.1, hr.1.2.1, ws_at O md.1, List.mem_cons_self, hw md.1, hw md.2.1, md.2.2.1, len_of md.2.2.2, hw h1⟩, h2, hw h3⟩ ⟨Pc0.blind, fun U hU hW => pc0_at O hR hS hU hW⟩ rfl rfl rfl rfl (mr_of hr.1.2.2) d hr.2) kr
theorem g_callIN2 {b : Nat} {host : String} {y : MethodName} {bytes : ByteArray} {maxL idx : Nat} {rm : Room} {a1 a2 : Value} {P : RV → Wd → Prop} (ct : Ct G y (.code y bytes maxL none) rm (Value.ref b :: [a1, a2]) w P) (md : MD y (.code y bytes maxL none) 2) (d : decode cc pc = .ok (.invokespecial idx, 3)) (h1 : Cond.methodLinkNest own idx y host ∈ tw) (h2 : y.name = "<init>") (h3 : Cond.instanceMethod y ∈ tw) (hr : RmOk R rm maxL st c k)
    (kr : ∀ v w', P (.inl v) w' → Go G R cc own Y C Q (pc + 3) L (v.toList ++ st) w' (c + rm.cells) (k + rm.slots))
    (kx : ∀ E w', ¬ P (.inr E) w') : Go G R cc own Y C Q pc L (a2 :: a1 :: .ref b :: st) w c k := by
  obtain ⟨p, e, s, m, args, below, meth, cd⟩ := C
  intro O H ls locs hR hS hL
  have hw := fun {x : Cond} (hx : x ∈ tw) => O.2.2.2.1.w (a := args) hx
  exact run_goN O hS hL (va_runIN (Ts := []) (maxL := maxL) (b := b) (As := [a1, a2]) (n := 2) ⟨O.1, O.2.1, hL.1.symm, O.2.2.1, fun _ z => nomatch z⟩ (ct.met kx) ⟨⟨⟨rfl, rfl, hr.1.1, hr.1.2.1, ws_at O md.1, List.mem_cons_self⟩, hw md.1, hw md.2.1, md.2.2.1, len_of md.2.2.2, hw h1⟩, h2, hw h3⟩ ⟨Pc0.blind, fun U hU hW => pc0_at O hR hS hU hW⟩ rfl rfl rfl rfl (mr_of hr.1.2.2) d hr.2) kr
theorem g_callS3 {y : MethodName} {bytes : ByteArray} {maxL idx : Nat} {ret : Option FieldType} {rm : Room} {a1 a2 a3 : Value} {P : RV → Wd → Prop} (ct : Ct G y (.code y bytes maxL ret) rm [a1, a2, a3] w P) (md : MD y (.code y bytes maxL ret) 3) (d : decode cc pc = .ok (.invokestatic idx, 3)) (h1 : Cond.methodLink own idx y ∈ tw) (h2 : Cond.static y ∈ tw) (hr : RmOk R rm maxL st c k)
    (kr : ∀ v w', P (.inl v) w' → Go G R cc own Y C Q (pc + 3) L (v.toList ++ st) w' (c + rm.cells) (k + rm.slots))
    (kx : ∀ E w', P (.inr E) w' → GoX G R cc own Y C Q pc L w' (c + rm.cells) (k + rm.slots) E) : Go G R cc own Y C Q pc L (a3 :: a2 :: a1 :: st) w c k := by
  obtain ⟨p, e, s, m, args, below, meth, cd⟩ := C
  intro O H ls locs hR hS hL
  have hw := fun {x : Cond} (hx : x ∈ tw) => O.2.2.2.1.w (a := args) hx
  exact run_go O hS hL (vx_runS (Ts := []) (maxL := maxL) (ret := ret) (As := [a1, a2, a3]) (n := 3) ⟨O.1, O.2.1, hL.1.symm, O.2.2.1, fun _ z => nomatch z⟩ ct ⟨⟨rfl, rfl, hr.1.1, hr.1.2.1, ws_at O md.1, List.mem_cons_self, hw md.1, hw md.2.1, md.2.2.1, len_of md.2.2.2, hw h1⟩, hw h2⟩ ⟨Pc0.blind, fun U hU hW => pc0_at O hR hS hU hW⟩ rfl rfl rfl rfl (mr_of hr.1.2.2) d hr.2) kr kx
theorem g_callSW3 {y : MethodName} {bytes : ByteArray} {maxL idx : Nat} {ret : Option FieldType} {hh : List (Nat × Nat × Nat × Nat)} {rm : Room} {a1 a2 a3 : Value} {P : RV → Wd → Prop} (ct : Ct G y (.codeWith y bytes maxL ret hh) rm [a1, a2, a3] w P) (md : MD y (.codeWith y bytes maxL ret hh) 3) (d : decode cc pc = .ok (.invokestatic idx, 3)) (h1 : Cond.methodLink own idx y ∈ tw) (h2 : Cond.static y ∈ tw) (hr : RmOk R rm maxL st c k)
    (kr : ∀ v w', P (.inl v) w' → Go G R cc own Y C Q (pc + 3) L (v.toList ++ st) w' (c + rm.cells) (k + rm.slots))
    (kx : ∀ E w', P (.inr E) w' → GoX G R cc own Y C Q pc L w' (c + rm.cells) (k + rm.slots) E) : Go G R cc own Y C Q pc L (a3 :: a2 :: a1 :: st) w c k := by
  obtain ⟨p, e, s, m, args, below, meth, cd⟩ := C
  intro O H ls locs hR hS hL
  have hw := fun {x : Cond} (hx : x ∈ tw) => O.2.2.2.1.w (a := args) hx
  exact run_go O hS hL (vx_runSX (Ts := []) (maxL := maxL) (ret := ret) (hh := hh) (As := [a1, a2, a3]) (n := 3) ⟨O.1, O.2.1, hL.1.symm, O.2.2.1, fun _ z => nomatch z⟩ ct ⟨⟨rfl, rfl, hr.1.1, hr.1.2.1, ws_at O md.1, List.mem_cons_self⟩, hw md.1, hw md.2.1, md.2.2.1, len_of md.2.2.2, hw h1, hw h2⟩ ⟨Pc0.blind, fun U hU hW => pc0_at O hR hS hU hW⟩ rfl rfl rfl rfl (mr_of hr.1.2.2) d hr.2) kr kx
theorem g_callV3 {ci N b : Nat} {Cn : String} {T : u_T} {ty : Nat → FieldType} {fs : List Value} {y : MethodName} {bytes : ByteArray} {maxL idx : Nat} {ret : Option FieldType} {rm : Room} {a1 a2 a3 : Value} {P : RV → Wd → Prop} (hk : KC ci Cn T N ty) (ct : Ct G y (.code y bytes maxL ret) rm (Value.ref b :: [a1, a2, a3]) w P) (md : MD y (.code y bytes maxL ret) 3) (d : decode cc pc = .ok (.invokevirtual idx, 3)) (h1 : Cond.methodLink own idx y ∈ tw) (h2 : Cond.instanceMethod y ∈ tw) (h3 : Cond.selects Cn y y ∈ tw) (hb : w b = some (eO ci fs)) (hr : RmOk R rm maxL st c k)
    (kr : ∀ v w', P (.inl v) w' → Go G R cc own Y C Q (pc + 3) L (v.toList ++ st) w' (c + rm.cells) (k + rm.slots))
    (kx : ∀ E w', P (.inr E) w' → GoX G R cc own Y C Q pc L w' (c + rm.cells) (k + rm.slots) E) : Go G R cc own Y C Q pc L (a3 :: a2 :: a1 :: .ref b :: st) w c k := by
  obtain ⟨p, e, s, m, args, below, meth, cd⟩ := C
  intro O H ls locs hR hS hL
  have hw := fun {x : Cond} (hx : x ∈ tw) => O.2.2.2.1.w (a := args) hx
  exact run_go O hS hL (vx_runV (Ts := []) (maxL := maxL) (ret := ret) (As := [a1, a2, a3]) (n := 3) ⟨O.1, O.2.1, hL.1.symm, O.2.2.1, fun _ z => nomatch z⟩ ct ⟨⟨rfl, rfl, hr.1.1, hr.1.2.1, ws_at O md.1, List.mem_cons_self, hw md.1, hw md.2.1, md.2.2.1, len_of md.2.2.2, hw h1⟩, hw h2, hw h3⟩ ⟨Pc0.blind, recv_at O hk hR hb, fun U hU hW => pc0_at O hR hS hU hW⟩ rfl rfl rfl rfl (mr_of hr.1.2.2) d hr.2) kr kx
theorem g_callVN3 {ci N b : Nat} {Cn host : String} {T : u_T} {ty : Nat → FieldType} {fs : List Value} {y : MethodName} {bytes : ByteArray} {maxL idx : Nat} {ret : Option FieldType} {rm : Room} {a1 a2 a3 : Value} {P : RV → Wd → Prop} (hk : KC ci Cn T N ty) (ct : Ct G y (.code y bytes maxL ret) rm (Value.ref b :: [a1, a2, a3]) w P) (md : MD y (.code y bytes maxL ret) 3) (d : decode cc pc = .ok (.invokevirtual idx, 3)) (h1 : Cond.methodLinkNest own idx y host ∈ tw) (h2 : Cond.instanceMethod y ∈ tw) (h3 : Cond.selects Cn y y ∈ tw) (hb : w b = some (eO ci fs)) (hr : RmOk R rm maxL st c k)
    (kr : ∀ v w', P (.inl v) w' → Go G R cc own Y C Q (pc + 3) L (v.toList ++ st) w' (c + rm.cells) (k + rm.slots))
    (kx : ∀ E w', ¬ P (.inr E) w') : Go G R cc own Y C Q pc L (a3 :: a2 :: a1 :: .ref b :: st) w c k := by
  obtain ⟨p, e, s, m, args, below, meth, cd⟩ := C
  intro O H ls locs hR hS hL
  have hw := fun {x : Cond} (hx : x ∈ tw) => O.2.2.2.1.w (a := args) hx
  exact run_goN O hS hL (va_runVN (Ts := []) (maxL := maxL) (ret := ret) (As := [a1, a2, a3]) (n := 3) ⟨O.1, O.2.1, hL.1.symm, O.2.2.1, fun _ z => nomatch z⟩ (ct.met kx) ⟨⟨⟨rfl, rfl, hr.1.1, hr.1.2.1, ws_at O md.1, List.mem_cons_self⟩, hw md.1, hw md.2.1, md.2.2.1, len_of md.2.2.2, hw h1⟩, hw h2, hw h3⟩ ⟨Pc0.blind, recv_at O hk hR hb, fun U hU hW => pc0_at O hR hS hU hW⟩ rfl rfl rfl rfl (mr_of hr.1.2.2) d hr.2) kr
theorem g_callI3 {b : Nat} {y : MethodName} {bytes : ByteArray} {maxL idx : Nat} {rm : Room} {a1 a2 a3 : Value} {P : RV → Wd → Prop} (ct : Ct G y (.code y bytes maxL none) rm (Value.ref b :: [a1, a2, a3]) w P) (md : MD y (.code y bytes maxL none) 3) (d : decode cc pc = .ok (.invokespecial idx, 3)) (h1 : Cond.methodLink own idx y ∈ tw) (h2 : y.name = "<init>") (h3 : Cond.instanceMethod y ∈ tw) (hr : RmOk R rm maxL st c k)
    (kr : ∀ v w', P (.inl v) w' → Go G R cc own Y C Q (pc + 3) L (v.toList ++ st) w' (c + rm.cells) (k + rm.slots))
    (kx : ∀ E w', ¬ P (.inr E) w') : Go G R cc own Y C Q pc L (a3 :: a2 :: a1 :: .ref b :: st) w c k := by
  obtain ⟨p, e, s, m, args, below, meth, cd⟩ := C
  intro O H ls locs hR hS hL
  have hw := fun {x : Cond} (hx : x ∈ tw) => O.2.2.2.1.w (a := args) hx
  exact run_goN O hS hL (va_runI (Ts := []) (maxL := maxL) (b := b) (As := [a1, a2, a3]) (n := 3) ⟨O.1, O.2.1, hL.1.symm, O.2.2.1, fun _ z => nomatch z⟩ (ct.met kx) ⟨⟨rfl, rfl, hr.1.1, hr.1.2.1, ws_at O md.1, List.mem_cons_self, hw md.1, hw md.2.1, md.2.2.1, len_of md.2.2.2, hw h1⟩, h2, hw h3⟩ ⟨Pc0.blind, fun U hU hW => pc0_at O hR hS hU hW⟩ rfl rfl rfl rfl (mr_of hr.1.2.2) d hr.2) kr
theorem g_callIN3 {b : Nat} {host : String} {y : MethodName} {bytes : ByteArray} {maxL idx : Nat} {rm : Room} {a1 a2 a3 : Value} {P : RV → Wd → Prop} (ct : Ct G y (.code y bytes maxL none) rm (Value.ref b :: [a1, a2, a3]) w P) (md : MD y (.code y bytes maxL none) 3) (d : decode cc pc = .ok (.invokespecial idx, 3)) (h1 : Cond.methodLinkNest own idx y host ∈ tw) (h2 : y.name = "<init>") (h3 : Cond.instanceMethod y ∈ tw) (hr : RmOk R rm maxL st c k)
    (kr : ∀ v w', P (.inl v) w' → Go G R cc own Y C Q (pc + 3) L (v.toList ++ st) w' (c + rm.cells) (k + rm.slots))
    (kx : ∀ E w', ¬ P (.inr E) w') : Go G R cc own Y C Q pc L (a3 :: a2 :: a1 :: .ref b :: st) w c k := by
  obtain ⟨p, e, s, m, args, below, meth, cd⟩ := C
  intro O H ls locs hR hS hL
  have hw := fun {x : Cond} (hx : x ∈ tw) => O.2.2.2.1.w (a := args) hx
  exact run_goN O hS hL (va_runIN (Ts := []) (maxL := maxL) (b := b) (As := [a1, a2, a3]) (n := 3) ⟨O.1, O.2.1, hL.1.symm, O.2.2.1, fun _ z => nomatch z⟩ (ct.met kx) ⟨⟨⟨rfl, rfl, hr.1.1, hr.1.2.1, ws_at O md.1, List.mem_cons_self⟩, hw md.1, hw md.2.1, md.2.2.1, len_of md.2.2.2, hw h1⟩, h2, hw h3⟩ ⟨Pc0.blind, fun U hU hW => pc0_at O hR hS hU hW⟩ rfl rfl rfl rfl (mr_of hr.1.2.2) d hr.2) kr
theorem g_callS4 {y : MethodName} {bytes : ByteArray} {maxL idx : Nat} {ret : Option FieldType} {rm : Room} {a1 a2 a3 a4 : Value} {P : RV → Wd → Prop} (ct : Ct G y (.code y bytes maxL ret) rm [a1, a2, a3, a4] w P) (md : MD y (.code y bytes maxL ret) 4) (d : decode cc pc = .ok (.invokestatic idx, 3)) (h1 : Cond.methodLink own idx y ∈ tw) (h2 : Cond.static y ∈ tw) (hr : RmOk R rm maxL st c k)
    (kr : ∀ v w', P (.inl v) w' → Go G R cc own Y C Q (pc + 3) L (v.toList ++ st) w' (c + rm.cells) (k + rm.slots))
    (kx : ∀ E w', P (.inr E) w' → GoX G R cc own Y C Q pc L w' (c + rm.cells) (k + rm.slots) E) : Go G R cc own Y C Q pc L (a4 :: a3 :: a2 :: a1 :: st) w c k := by
  obtain ⟨p, e, s, m, args, below, meth, cd⟩ := C
  intro O H ls locs hR hS hL
  have hw := fun {x : Cond} (hx : x ∈ tw) => O.2.2.2.1.w (a := args) hx
  exact run_go O hS hL (vx_runS (Ts := []) (maxL := maxL) (ret := ret) (As := [a1, a2, a3, a4]) (n := 4) ⟨O.1, O.2.1, hL.1.symm, O.2.2.1, fun _ z => nomatch z⟩ ct ⟨⟨rfl, rfl, hr.1.1, hr.1.2.1, ws_at O md.1, List.mem_cons_self, hw md.1, hw md.2.1, md.2.2.1, len_of md.2.2.2, hw h1⟩, hw h2⟩ ⟨Pc0.blind, fun U hU hW => pc0_at O hR hS hU hW⟩ rfl rfl rfl rfl (mr_of hr.1.2.2) d hr.2) kr kx
theorem g_callSW4 {y : MethodName} {bytes : ByteArray} {maxL idx : Nat} {ret : Option FieldType} {hh : List (Nat × Nat × Nat × Nat)} {rm : Room} {a1 a2 a3 a4 : Value} {P : RV → Wd → Prop} (ct : Ct G y (.codeWith y bytes maxL ret hh) rm [a1, a2, a3, a4] w P) (md : MD y (.codeWith y bytes maxL ret hh) 4) (d : decode cc pc = .ok (.invokestatic idx, 3)) (h1 : Cond.methodLink own idx y ∈ tw) (h2 : Cond.static y ∈ tw) (hr : RmOk R rm maxL st c k)
    (kr : ∀ v w', P (.inl v) w' → Go G R cc own Y C Q (pc + 3) L (v.toList ++ st) w' (c + rm.cells) (k + rm.slots))
    (kx : ∀ E w', P (.inr E) w' → GoX G R cc own Y C Q pc L w' (c + rm.cells) (k + rm.slots) E) : Go G R cc own Y C Q pc L (a4 :: a3 :: a2 :: a1 :: st) w c k := by
  obtain ⟨p, e, s, m, args, below, meth, cd⟩ := C
  intro O H ls locs hR hS hL
  have hw := fun {x : Cond} (hx : x ∈ tw) => O.2.2.2.1.w (a := args) hx
  exact run_go O hS hL (vx_runSX (Ts := []) (maxL := maxL) (ret := ret) (hh := hh) (As := [a1, a2, a3, a4]) (n := 4) ⟨O.1, O.2.1, hL.1.symm, O.2.2.1, fun _ z => nomatch z⟩ ct ⟨⟨rfl, rfl, hr.1.1, hr.1.2.1, ws_at O md.1, List.mem_cons_self⟩, hw md.1, hw md.2.1, md.2.2.1, len_of md.2.2.2, hw h1, hw h2⟩ ⟨Pc0.blind, fun U hU hW => pc0_at O hR hS hU hW⟩ rfl rfl rfl rfl (mr_of hr.1.2.2) d hr.2) kr kx
theorem g_callV4 {ci N b : Nat} {Cn : String} {T : u_T} {ty : Nat → FieldType} {fs : List Value} {y : MethodName} {bytes : ByteArray} {maxL idx : Nat} {ret : Option FieldType} {rm : Room} {a1 a2 a3 a4 : Value} {P : RV → Wd → Prop} (hk : KC ci Cn T N ty) (ct : Ct G y (.code y bytes maxL ret) rm (Value.ref b :: [a1, a2, a3, a4]) w P) (md : MD y (.code y bytes maxL ret) 4) (d : decode cc pc = .ok (.invokevirtual idx, 3)) (h1 : Cond.methodLink own idx y ∈ tw) (h2 : Cond.instanceMethod y ∈ tw) (h3 : Cond.selects Cn y y ∈ tw) (hb : w b = some (eO ci fs)) (hr : RmOk R rm maxL st c k)
    (kr : ∀ v w', P (.inl v) w' → Go G R cc own Y C Q (pc + 3) L (v.toList ++ st) w' (c + rm.cells) (k + rm.slots))
    (kx : ∀ E w', P (.inr E) w' → GoX G R cc own Y C Q pc L w' (c + rm.cells) (k + rm.slots) E) : Go G R cc own Y C Q pc L (a4 :: a3 :: a2 :: a1 :: .ref b :: st) w c k := by
  obtain ⟨p, e, s, m, args, below, meth, cd⟩ := C
  intro O H ls locs hR hS hL
  have hw := fun {x : Cond} (hx : x ∈ tw) => O.2.2.2.1.w (a := args) hx
  exact run_go O hS hL (vx_runV (Ts := []) (maxL := maxL) (ret := ret) (As := [a1, a2, a3, a4]) (n := 4) ⟨O.1, O.2.1, hL.1.symm, O.2.2.1, fun _ z => nomatch z⟩ ct ⟨⟨rfl, rfl, hr.1.1, hr.1.2.1, ws_at O md.1, List.mem_cons_self, hw md.1, hw md.2.1, md.2.2.1, len_of md.2.2.2, hw h1⟩, hw h2, hw h3⟩ ⟨Pc0.blind, recv_at O hk hR hb, fun U hU hW => pc0_at O hR hS hU hW⟩ rfl rfl rfl rfl (mr_of hr.1.2.2) d hr.2) kr kx
theorem g_callVN4 {ci N b : Nat} {Cn host : String} {T : u_T} {ty : Nat → FieldType} {fs : List Value} {y : MethodName} {bytes : ByteArray} {maxL idx : Nat} {ret : Option FieldType} {rm : Room} {a1 a2 a3 a4 : Value} {P : RV → Wd → Prop} (hk : KC ci Cn T N ty) (ct : Ct G y (.code y bytes maxL ret) rm (Value.ref b :: [a1, a2, a3, a4]) w P) (md : MD y (.code y bytes maxL ret) 4) (d : decode cc pc = .ok (.invokevirtual idx, 3)) (h1 : Cond.methodLinkNest own idx y host ∈ tw) (h2 : Cond.instanceMethod y ∈ tw) (h3 : Cond.selects Cn y y ∈ tw) (hb : w b = some (eO ci fs)) (hr : RmOk R rm maxL st c k)
    (kr : ∀ v w', P (.inl v) w' → Go G R cc own Y C Q (pc + 3) L (v.toList ++ st) w' (c + rm.cells) (k + rm.slots))
    (kx : ∀ E w', ¬ P (.inr E) w') : Go G R cc own Y C Q pc L (a4 :: a3 :: a2 :: a1 :: .ref b :: st) w c k := by
  obtain ⟨p, e, s, m, args, below, meth, cd⟩ := C
  intro O H ls locs hR hS hL
  have hw := fun {x : Cond} (hx : x ∈ tw) => O.2.2.2.1.w (a := args) hx
  exact run_goN O hS hL (va_runVN (Ts := []) (maxL := maxL) (ret := ret) (As := [a1, a2, a3, a4]) (n := 4) ⟨O.1, O.2.1, hL.1.symm, O.2.2.1, fun _ z => nomatch z⟩ (ct.met kx) ⟨⟨⟨rfl, rfl, hr.1.1, hr.1.2.1, ws_at O md.1, List.mem_cons_self⟩, hw md.1, hw md.2.1, md.2.2.1, len_of md.2.2.2, hw h1⟩, hw h2, hw h3⟩ ⟨Pc0.blind, recv_at O hk hR hb, fun U hU hW => pc0_at O hR hS hU hW⟩ rfl rfl rfl rfl (mr_of hr.1.2.2) d hr.2) kr
theorem g_callI4 {b : Nat} {y : MethodName} {bytes : ByteArray} {maxL idx : Nat} {rm : Room} {a1 a2 a3 a4 : Value} {P : RV → Wd → Prop} (ct : Ct G y (.code y bytes maxL none) rm (Value.ref b :: [a1, a2, a3, a4]) w P) (md : MD y (.code y bytes maxL none) 4) (d : decode cc pc = .ok (.invokespecial idx, 3)) (h1 : Cond.methodLink own idx y ∈ tw) (h2 : y.name = "<init>") (h3 : Cond.instanceMethod y ∈ tw) (hr : RmOk R rm maxL st c k)
    (kr : ∀ v w', P (.inl v) w' → Go G R cc own Y C Q (pc + 3) L (v.toList ++ st) w' (c + rm.cells) (k + rm.slots))
    (kx : ∀ E w', ¬ P (.inr E) w') : Go G R cc own Y C Q pc L (a4 :: a3 :: a2 :: a1 :: .ref b :: st) w c k := by
  obtain ⟨p, e, s, m, args, below, meth, cd⟩ := C
  intro O H ls locs hR hS hL
  have hw := fun {x : Cond} (hx : x ∈ tw) => O.2.2.2.1.w (a := args) hx
  exact run_goN O hS hL (va_runI (Ts := []) (maxL := maxL) (b := b) (As := [a1, a2, a3, a4]) (n := 4) ⟨O.1, O.2.1, hL.1.symm, O.2.2.1, fun _ z => nomatch z⟩ (ct.met kx) ⟨⟨rfl, rfl, hr.1.1, hr.1.2.1, ws_at O md.1, List.mem_cons_self, hw md.1, hw md.2.1, md.2.2.1, len_of md.2.2.2, hw h1⟩, h2, hw h3⟩ ⟨Pc0.blind, fun U hU hW => pc0_at O hR hS hU hW⟩ rfl rfl rfl rfl (mr_of hr.1.2.2) d hr.2) kr
theorem g_callIN4 {b : Nat} {host : String} {y : MethodName} {bytes : ByteArray} {maxL idx : Nat} {rm : Room} {a1 a2 a3 a4 : Value} {P : RV → Wd → Prop} (ct : Ct G y (.code y bytes maxL none) rm (Value.ref b :: [a1, a2, a3, a4]) w P) (md : MD y (.code y bytes maxL none) 4) (d : decode cc pc = .ok (.invokespecial idx, 3)) (h1 : Cond.methodLinkNest own idx y host ∈ tw) (h2 : y.name = "<init>") (h3 : Cond.instanceMethod y ∈ tw) (hr : RmOk R rm maxL st c k)
    (kr : ∀ v w', P (.inl v) w' → Go G R cc own Y C Q (pc + 3) L (v.toList ++ st) w' (c + rm.cells) (k + rm.slots))
    (kx : ∀ E w', ¬ P (.inr E) w') : Go G R cc own Y C Q pc L (a4 :: a3 :: a2 :: a1 :: .ref b :: st) w c k := by
  obtain ⟨p, e, s, m, args, below, meth, cd⟩ := C
  intro O H ls locs hR hS hL
  have hw := fun {x : Cond} (hx : x ∈ tw) => O.2.2.2.1.w (a := args) hx
  exact run_goN O hS hL (va_runIN (Ts := []) (maxL := maxL) (b := b) (As := [a1, a2, a3, a4]) (n := 4) ⟨O.1, O.2.1, hL.1.symm, O.2.2.1, fun _ z => nomatch z⟩ (ct.met kx) ⟨⟨⟨rfl, rfl, hr.1.1, hr.1.2.1, ws_at O md.1, List.mem_cons_self⟩, hw md.1, hw md.2.1, md.2.2.1, len_of md.2.2.2, hw h1⟩, h2, hw h3⟩ ⟨Pc0.blind, fun U hU hW => pc0_at O hR hS hU hW⟩ rfl rfl rfl rfl (mr_of hr.1.2.2) d hr.2) kr
theorem g_callS5 {y : MethodName} {bytes : ByteArray} {maxL idx : Nat} {ret : Option FieldType} {rm : Room} {a1 a2 a3 a4 a5 : Value} {P : RV → Wd → Prop} (ct : Ct G y (.code y bytes maxL ret) rm [a1, a2, a3, a4, a5] w P) (md : MD y (.code y bytes maxL ret) 5) (d : decode cc pc = .ok (.invokestatic idx, 3)) (h1 : Cond.methodLink own idx y ∈ tw) (h2 : Cond.static y ∈ tw) (hr : RmOk R rm maxL st c k)
    (kr : ∀ v w', P (.inl v) w' → Go G R cc own Y C Q (pc + 3) L (v.toList ++ st) w' (c + rm.cells) (k + rm.slots))
    (kx : ∀ E w', P (.inr E) w' → GoX G R cc own Y C Q pc L w' (c + rm.cells) (k + rm.slots) E) : Go G R cc own Y C Q pc L (a5 :: a4 :: a3 :: a2 :: a1 :: st) w c k := by
  obtain ⟨p, e, s, m, args, below, meth, cd⟩ := C
  intro O H ls locs hR hS hL
  have hw := fun {x : Cond} (hx : x ∈ tw) => O.2.2.2.1.w (a := args) hx
  exact run_go O hS hL (vx_runS (Ts := []) (maxL := maxL) (ret := ret) (As := [a1, a2, a3, a4, a5]) (n := 5) ⟨O.1, O.2.1, hL.1.symm, O.2.2.1, fun _ z => nomatch z⟩ ct ⟨⟨rfl, rfl, hr.1.1, hr.1.2.1, ws_at O md.1, List.mem_cons_self, hw md.1, hw md.2.1, md.2.2.1, len_of md.2.2.2, hw h1⟩, hw h2⟩ ⟨Pc0.blind, fun U hU hW => pc0_at O hR hS hU hW⟩ rfl rfl rfl rfl (mr_of hr.1.2.2) d hr.2) kr kx
theorem g_callSW5 {y : MethodName} {bytes : ByteArray} {maxL idx : Nat} {ret : Option FieldType} {hh : List (Nat × Nat × Nat × Nat)} {rm : Room} {a1 a2 a3 a4 a5 : Value} {P : RV → Wd → Prop} (ct : Ct G y (.codeWith y bytes maxL ret hh) rm [a1, a2, a3, a4, a5] w P) (md : MD y (.codeWith y bytes maxL ret hh) 5) (d : decode cc pc = .ok (.invokestatic idx, 3)) (h1 : Cond.methodLink own idx y ∈ tw) (h2 : Cond.static y ∈ tw) (hr : RmOk R rm maxL st c k)
    (kr : ∀ v w', P (.inl v) w' → Go G R cc own Y C Q (pc + 3) L (v.toList ++ st) w' (c + rm.cells) (k + rm.slots))
    (kx : ∀ E w', P (.inr E) w' → GoX G R cc own Y C Q pc L w' (c + rm.cells) (k + rm.slots) E) : Go G R cc own Y C Q pc L (a5 :: a4 :: a3 :: a2 :: a1 :: st) w c k := by
  obtain ⟨p, e, s, m, args, below, meth, cd⟩ := C
  intro O H ls locs hR hS hL
  have hw := fun {x : Cond} (hx : x ∈ tw) => O.2.2.2.1.w (a := args) hx
  exact run_go O hS hL (vx_runSX (Ts := []) (maxL := maxL) (ret := ret) (hh := hh) (As := [a1, a2, a3, a4, a5]) (n := 5) ⟨O.1, O.2.1, hL.1.symm, O.2.2.1, fun _ z => nomatch z⟩ ct ⟨⟨rfl, rfl, hr.1.1, hr.1.2.1, ws_at O md.1, List.mem_cons_self⟩, hw md.1, hw md.2.1, md.2.2.1, len_of md.2.2.2, hw h1, hw h2⟩ ⟨Pc0.blind, fun U hU hW => pc0_at O hR hS hU hW⟩ rfl rfl rfl rfl (mr_of hr.1.2.2) d hr.2) kr kx
theorem g_callV5 {ci N b : Nat} {Cn : String} {T : u_T} {ty : Nat → FieldType} {fs : List Value} {y : MethodName} {bytes : ByteArray} {maxL idx : Nat} {ret : Option FieldType} {rm : Room} {a1 a2 a3 a4 a5 : Value} {P : RV → Wd → Prop} (hk : KC ci Cn T N ty) (ct : Ct G y (.code y bytes maxL ret) rm (Value.ref b :: [a1, a2, a3, a4, a5]) w P) (md : MD y (.code y bytes maxL ret) 5) (d : decode cc pc = .ok (.invokevirtual idx, 3)) (h1 : Cond.methodLink own idx y ∈ tw) (h2 : Cond.instanceMethod y ∈ tw) (h3 : Cond.selects Cn y y ∈ tw) (hb : w b = some (eO ci fs)) (hr : RmOk R rm maxL st c k)
    (kr : ∀ v w', P (.inl v) w' → Go G R cc own Y C Q (pc + 3) L (v.toList ++ st) w' (c + rm.cells) (k + rm.slots))
    (kx : ∀ E w', P (.inr E) w' → GoX G R cc own Y C Q pc L w' (c + rm.cells) (k + rm.slots) E) : Go G R cc own Y C Q pc L (a5 :: a4 :: a3 :: a2 :: a1 :: .ref b :: st) w c k := by
  obtain ⟨p, e, s, m, args, below, meth, cd⟩ := C
  intro O H ls locs hR hS hL
  have hw := fun {x : Cond} (hx : x ∈ tw) => O.2.2.2.1.w (a := args) hx
  exact run_go O hS hL (vx_runV (Ts := []) (maxL := maxL) (ret := ret) (As := [a1, a2, a3, a4, a5]) (n := 5) ⟨O.1, O.2.1, hL.1.symm, O.2.2.1, fun _ z => nomatch z⟩ ct ⟨⟨rfl, rfl, hr.1.1, hr.1.2.1, ws_at O md.1, List.mem_cons_self, hw md.1, hw md.2.1, md.2.2.1, len_of md.2.2.2, hw h1⟩, hw h2, hw h3⟩ ⟨Pc0.blind, recv_at O hk hR hb, fun U hU hW => pc0_at O hR hS hU hW⟩ rfl rfl rfl rfl (mr_of hr.1.2.2) d hr.2) kr kx
theorem g_callVN5 {ci N b : Nat} {Cn host : String} {T : u_T} {ty : Nat → FieldType} {fs : List Value} {y : MethodName} {bytes : ByteArray} {maxL idx : Nat} {ret : Option FieldType} {rm : Room} {a1 a2 a3 a4 a5 : Value} {P : RV → Wd → Prop} (hk : KC ci Cn T N ty) (ct : Ct G y (.code y bytes maxL ret) rm (Value.ref b :: [a1, a2, a3, a4, a5]) w P) (md : MD y (.code y bytes maxL ret) 5) (d : decode cc pc = .ok (.invokevirtual idx, 3)) (h1 : Cond.methodLinkNest own idx y host ∈ tw) (h2 : Cond.instanceMethod y ∈ tw) (h3 : Cond.selects Cn y y ∈ tw) (hb : w b = some (eO ci fs)) (hr : RmOk R rm maxL st c k)
    (kr : ∀ v w', P (.inl v) w' → Go G R cc own Y C Q (pc + 3) L (v.toList ++ st) w' (c + rm.cells) (k + rm.slots))
    (kx : ∀ E w', ¬ P (.inr E) w') : Go G R cc own Y C Q pc L (a5 :: a4 :: a3 :: a2 :: a1 :: .ref b :: st) w c k := by
  obtain ⟨p, e, s, m, args, below, meth, cd⟩ := C
  intro O H ls locs hR hS hL
  have hw := fun {x : Cond} (hx : x ∈ tw) => O.2.2.2.1.w (a := args) hx
  exact run_goN O hS hL (va_runVN (Ts := []) (maxL := maxL) (ret := ret) (As := [a1, a2, a3, a4, a5]) (n := 5) ⟨O.1, O.2.1, hL.1.symm, O.2.2.1, fun _ z => nomatch z⟩ (ct.met kx) ⟨⟨⟨rfl, rfl, hr.1.1, hr.1.2.1, ws_at O md.1, List.mem_cons_self⟩, hw md.1, hw md.2.1, md.2.2.1, len_of md.2.2.2, hw h1⟩, hw h2, hw h3⟩ ⟨Pc0.blind, recv_at O hk hR hb, fun U hU hW => pc0_at O hR hS hU hW⟩ rfl rfl rfl rfl (mr_of hr.1.2.2) d hr.2) kr
theorem g_callI5 {b : Nat} {y : MethodName} {bytes : ByteArray} {maxL idx : Nat} {rm : Room} {a1 a2 a3 a4 a5 : Value} {P : RV → Wd → Prop} (ct : Ct G y (.code y bytes maxL none) rm (Value.ref b :: [a1, a2, a3, a4, a5]) w P) (md : MD y (.code y bytes maxL none) 5) (d : decode cc pc = .ok (.invokespecial idx, 3)) (h1 : Cond.methodLink own idx y ∈ tw) (h2 : y.name = "<init>") (h3 : Cond.instanceMethod y ∈ tw) (hr : RmOk R rm maxL st c k)
    (kr : ∀ v w', P (.inl v) w' → Go G R cc own Y C Q (pc + 3) L (v.toList ++ st) w' (c + rm.cells) (k + rm.slots))
    (kx : ∀ E w', ¬ P (.inr E) w') : Go G R cc own Y C Q pc L (a5 :: a4 :: a3 :: a2 :: a1 :: .ref b :: st) w c k := by
  obtain ⟨p, e, s, m, args, below, meth, cd⟩ := C
  intro O H ls locs hR hS hL
  have hw := fun {x : Cond} (hx : x ∈ tw) => O.2.2.2.1.w (a := args) hx
  exact run_goN O hS hL (va_runI (Ts := []) (maxL := maxL) (b := b) (As := [a1, a2, a3, a4, a5]) (n := 5) ⟨O.1, O.2.1, hL.1.symm, O.2.2.1, fun _ z => nomatch z⟩ (ct.met kx) ⟨⟨rfl, rfl, hr.1.1, hr.1.2.1, ws_at O md.1, List.mem_cons_self, hw md.1, hw md.2.1, md.2.2.1, len_of md.2.2.2, hw h1⟩, h2, hw h3⟩ ⟨Pc0.blind, fun U hU hW => pc0_at O hR hS hU hW⟩ rfl rfl rfl rfl (mr_of hr.1.2.2) d hr.2) kr
theorem g_callIN5 {b : Nat} {host : String} {y : MethodName} {bytes : ByteArray} {maxL idx : Nat} {rm : Room} {a1 a2 a3 a4 a5 : Value} {P : RV → Wd → Prop} (ct : Ct G y (.code y bytes maxL none) rm (Value.ref b :: [a1, a2, a3, a4, a5]) w P) (md : MD y (.code y bytes maxL none) 5) (d : decode cc pc = .ok (.invokespecial idx, 3)) (h1 : Cond.methodLinkNest own idx y host ∈ tw) (h2 : y.name = "<init>") (h3 : Cond.instanceMethod y ∈ tw) (hr : RmOk R rm maxL st c k)
    (kr : ∀ v w', P (.inl v) w' → Go G R cc own Y C Q (pc + 3) L (v.toList ++ st) w' (c + rm.cells) (k + rm.slots))
    (kx : ∀ E w', ¬ P (.inr E) w') : Go G R cc own Y C Q pc L (a5 :: a4 :: a3 :: a2 :: a1 :: .ref b :: st) w c k := by
  obtain ⟨p, e, s, m, args, below, meth, cd⟩ := C
  intro O H ls locs hR hS hL
  have hw := fun {x : Cond} (hx : x ∈ tw) => O.2.2.2.1.w (a := args) hx
  exact run_goN O hS hL (va_runIN (Ts := []) (maxL := maxL) (b := b) (As := [a1, a2, a3, a4, a5]) (n := 5) ⟨O.1, O.2.1, hL.1.symm, O.2.2.1, fun _ z => nomatch z⟩ (ct.met kx) ⟨⟨⟨rfl, rfl, hr.1.1, hr.1.2.1, ws_at O md.1, List.mem_cons_self⟩, hw md.1, hw md.2.1, md.2.2.1, len_of md.2.2.2, hw h1⟩, h2, hw h3⟩ ⟨Pc0.blind, fun U hU hW => pc0_at O hR hS hU hW⟩ rfl rfl rfl rfl (mr_of hr.1.2.2) d hr.2) kr
theorem g_callS6 {y : MethodName} {bytes : ByteArray} {maxL idx : Nat} {ret : Option FieldType} {rm : Room} {a1 a2 a3 a4 a5 a6 : Value} {P : RV → Wd → Prop} (ct : Ct G y (.code y bytes maxL ret) rm [a1, a2, a3, a4, a5, a6] w P) (md : MD y (.code y bytes maxL ret) 6) (d : decode cc pc = .ok (.invokestatic idx, 3)) (h1 : Cond.methodLink own idx y ∈ tw) (h2 : Cond.static y ∈ tw) (hr : RmOk R rm maxL st c k)
    (kr : ∀ v w', P (.inl v) w' → Go G R cc own Y C Q (pc + 3) L (v.toList ++ st) w' (c + rm.cells) (k + rm.slots))
    (kx : ∀ E w', P (.inr E) w' → GoX G R cc own Y C Q pc L w' (c + rm.cells) (k + rm.slots) E) : Go G R cc own Y C Q pc L (a6 :: a5 :: a4 :: a3 :: a2 :: a1 :: st) w c k := by
  obtain ⟨p, e, s, m, args, below, meth, cd⟩ := C
  intro O H ls locs hR hS hL
  have hw := fun {x : Cond} (hx : x ∈ tw) => O.2.2.2.1.w (a := args) hx
  exact run_go O hS hL (vx_runS (Ts := []) (maxL := maxL) (ret := ret) (As := [a1, a2, a3, a4, a5, a6]) (n := 6) ⟨O.1, O.2.1, hL.1.symm, O.2.2.1, fun _ z => nomatch z⟩ ct ⟨⟨rfl, rfl, hr.1.1, hr.1.2.1, ws_at O md.1, List.mem_cons_self, hw md.1, hw md.2.1, md.2.2.1, len_of md.2.2.2, hw h1⟩, hw h2⟩ ⟨Pc0.blind, fun U hU hW => pc0_at O hR hS hU hW⟩ rfl rfl rfl rfl (mr_of hr.1.2.2) d hr.2) kr kx
theorem g_callSW6 {y : MethodName} {bytes : ByteArray} {maxL idx : Nat} {ret : Option FieldType} {hh : List (Nat × Nat × Nat × Nat)} {rm : Room} {a1 a2 a3 a4 a5 a6 : Value} {P : RV → Wd → Prop} (ct : Ct G y (.codeWith y bytes maxL ret hh) rm [a1, a2, a3, a4, a5, a6] w P) (md : MD y (.codeWith y bytes maxL ret hh) 6) (d : decode cc pc = .ok (.invokestatic idx, 3)) (h1 : Cond.methodLink own idx y ∈ tw) (h2 : Cond.static y ∈ tw) (hr : RmOk R rm maxL st c k)
    (kr : ∀ v w', P (.inl v) w' → Go G R cc own Y C Q (pc + 3) L (v.toList ++ st) w' (c + rm.cells) (k + rm.slots))
    (kx : ∀ E w', P (.inr E) w' → GoX G R cc own Y C Q pc L w' (c + rm.cells) (k + rm.slots) E) : Go G R cc own Y C Q pc L (a6 :: a5 :: a4 :: a3 :: a2 :: a1 :: st) w c k := by
  obtain ⟨p, e, s, m, args, below, meth, cd⟩ := C
  intro O H ls locs hR hS hL
  have hw := fun {x : Cond} (hx : x ∈ tw) => O.2.2.2.1.w (a := args) hx
  exact run_go O hS hL (vx_runSX (Ts := []) (maxL := maxL) (ret := ret) (hh := hh) (As := [a1, a2, a3, a4, a5, a6]) (n := 6) ⟨O.1, O.2.1, hL.1.symm, O.2.2.1, fun _ z => nomatch z⟩ ct ⟨⟨rfl, rfl, hr.1.1, hr.1.2.1, ws_at O md.1, List.mem_cons_self⟩, hw md.1, hw md.2.1, md.2.2.1, len_of md.2.2.2, hw h1, hw h2⟩ ⟨Pc0.blind, fun U hU hW => pc0_at O hR hS hU hW⟩ rfl rfl rfl rfl (mr_of hr.1.2.2) d hr.2) kr kx
theorem g_callV6 {ci N b : Nat} {Cn : String} {T : u_T} {ty : Nat → FieldType} {fs : List Value} {y : MethodName} {bytes : ByteArray} {maxL idx : Nat} {ret : Option FieldType} {rm : Room} {a1 a2 a3 a4 a5 a6 : Value} {P : RV → Wd → Prop} (hk : KC ci Cn T N ty) (ct : Ct G y (.code y bytes maxL ret) rm (Value.ref b :: [a1, a2, a3, a4, a5, a6]) w P) (md : MD y (.code y bytes maxL ret) 6) (d : decode cc pc = .ok (.invokevirtual idx, 3)) (h1 : Cond.methodLink own idx y ∈ tw) (h2 : Cond.instanceMethod y ∈ tw) (h3 : Cond.selects Cn y y ∈ tw) (hb : w b = some (eO ci fs)) (hr : RmOk R rm maxL st c k)
    (kr : ∀ v w', P (.inl v) w' → Go G R cc own Y C Q (pc + 3) L (v.toList ++ st) w' (c + rm.cells) (k + rm.slots))
    (kx : ∀ E w', P (.inr E) w' → GoX G R cc own Y C Q pc L w' (c + rm.cells) (k + rm.slots) E) : Go G R cc own Y C Q pc L (a6 :: a5 :: a4 :: a3 :: a2 :: a1 :: .ref b :: st) w c k := by
  obtain ⟨p, e, s, m, args, below, meth, cd⟩ := C
  intro O H ls locs hR hS hL
  have hw := fun {x : Cond} (hx : x ∈ tw) => O.2.2.2.1.w (a := args) hx
  exact run_go O hS hL (vx_runV (Ts := []) (maxL := maxL) (ret := ret) (As := [a1, a2, a3, a4, a5, a6]) (n := 6) ⟨O.1, O.2.1, hL.1.symm, O.2.2.1, fun _ z => nomatch z⟩ ct ⟨⟨rfl, rfl, hr.1.1, hr.1.2.1, ws_at O md.1, List.mem_cons_self, hw md.1, hw md.2.1, md.2.2.1, len_of md.2.2.2, hw h1⟩, hw h2, hw h3⟩ ⟨Pc0.blind, recv_at O hk hR hb, fun U hU hW => pc0_at O hR hS hU hW⟩ rfl rfl rfl rfl (mr_of hr.1.2.2) d hr.2) kr kx
theorem g_callVN6 {ci N b : Nat} {Cn host : String} {T : u_T} {ty : Nat → FieldType} {fs : List Value} {y : MethodName} {bytes : ByteArray} {maxL idx : Nat} {ret : Option FieldType} {rm : Room} {a1 a2 a3 a4 a5 a6 : Value} {P : RV → Wd → Prop} (hk : KC ci Cn T N ty) (ct : Ct G y (.code y bytes maxL ret) rm (Value.ref b :: [a1, a2, a3, a4, a5, a6]) w P) (md : MD y (.code y bytes maxL ret) 6) (d : decode cc pc = .ok (.invokevirtual idx, 3)) (h1 : Cond.methodLinkNest own idx y host ∈ tw) (h2 : Cond.instanceMethod y ∈ tw) (h3 : Cond.selects Cn y y ∈ tw) (hb : w b = some (eO ci fs)) (hr : RmOk R rm maxL st c k)
    (kr : ∀ v w', P (.inl v) w' → Go G R cc own Y C Q (pc + 3) L (v.toList ++ st) w' (c + rm.cells) (k + rm.slots))
    (kx : ∀ E w', ¬ P (.inr E) w') : Go G R cc own Y C Q pc L (a6 :: a5 :: a4 :: a3 :: a2 :: a1 :: .ref b :: st) w c k := by
  obtain ⟨p, e, s, m, args, below, meth, cd⟩ := C
  intro O H ls locs hR hS hL
  have hw := fun {x : Cond} (hx : x ∈ tw) => O.2.2.2.1.w (a := args) hx
  exact run_goN O hS hL (va_runVN (Ts := []) (maxL := maxL) (ret := ret) (As := [a1, a2, a3, a4, a5, a6]) (n := 6) ⟨O.1, O.2.1, hL.1.symm, O.2.2.1, fun _ z => nomatch z⟩ (ct.met kx) ⟨⟨⟨rfl, rfl, hr.1.1, hr.1.2.1, ws_at O md.1, List.mem_cons_self⟩, hw md.1, hw md.2.1, md.2.2.1, len_of md.2.2.2, hw h1⟩, hw h2, hw h3⟩ ⟨Pc0.blind, recv_at O hk hR hb, fun U hU hW => pc0_at O hR hS hU hW⟩ rfl rfl rfl rfl (mr_of hr.1.2.2) d hr.2) kr
theorem g_callI6 {b : Nat} {y : MethodName} {bytes : ByteArray} {maxL idx : Nat} {rm : Room} {a1 a2 a3 a4 a5 a6 : Value} {P : RV → Wd → Prop} (ct : Ct G y (.code y bytes maxL none) rm (Value.ref b :: [a1, a2, a3, a4, a5, a6]) w P) (md : MD y (.code y bytes maxL none) 6) (d : decode cc pc = .ok (.invokespecial idx, 3)) (h1 : Cond.methodLink own idx y ∈ tw) (h2 : y.name = "<init>") (h3 : Cond.instanceMethod y ∈ tw) (hr : RmOk R rm maxL st c k)
    (kr : ∀ v w', P (.inl v) w' → Go G R cc own Y C Q (pc + 3) L (v.toList ++ st) w' (c + rm.cells) (k + rm.slots))
    (kx : ∀ E w', ¬ P (.inr E) w') : Go G R cc own Y C Q pc L (a6 :: a5 :: a4 :: a3 :: a2 :: a1 :: .ref b :: st) w c k := by
  obtain ⟨p, e, s, m, args, below, meth, cd⟩ := C
  intro O H ls locs hR hS hL
  have hw := fun {x : Cond} (hx : x ∈ tw) => O.2.2.2.1.w (a := args) hx
  exact run_goN O hS hL (va_runI (Ts := []) (maxL := maxL) (b := b) (As := [a1, a2, a3, a4, a5, a6]) (n := 6) ⟨O.1, O.2.1, hL.1.symm, O.2.2.1, fun _ z => nomatch z⟩ (ct.met kx) ⟨⟨rfl, rfl, hr.1.1, hr.1.2.1, ws_at O md.1, List.mem_cons_self, hw md.1, hw md.2.1, md.2.2.1, len_of md.2.2.2, hw h1⟩, h2, hw h3⟩ ⟨Pc0.blind, fun U hU hW => pc0_at O hR hS hU hW⟩ rfl rfl rfl rfl (mr_of hr.1.2.2) d hr.2) kr
theorem g_callIN6 {b : Nat} {host : String} {y : MethodName} {bytes : ByteArray} {maxL idx : Nat} {rm : Room} {a1 a2 a3 a4 a5 a6 : Value} {P : RV → Wd → Prop} (ct : Ct G y (.code y bytes maxL none) rm (Value.ref b :: [a1, a2, a3, a4, a5, a6]) w P) (md : MD y (.code y bytes maxL none) 6) (d : decode cc pc = .ok (.invokespecial idx, 3)) (h1 : Cond.methodLinkNest own idx y host ∈ tw) (h2 : y.name = "<init>") (h3 : Cond.instanceMethod y ∈ tw) (hr : RmOk R rm maxL st c k)
    (kr : ∀ v w', P (.inl v) w' → Go G R cc own Y C Q (pc + 3) L (v.toList ++ st) w' (c + rm.cells) (k + rm.slots))
    (kx : ∀ E w', ¬ P (.inr E) w') : Go G R cc own Y C Q pc L (a6 :: a5 :: a4 :: a3 :: a2 :: a1 :: .ref b :: st) w c k := by
  obtain ⟨p, e, s, m, args, below, meth, cd⟩ := C
  intro O H ls locs hR hS hL
  have hw := fun {x : Cond} (hx : x ∈ tw) => O.2.2.2.1.w (a := args) hx
  exact run_goN O hS hL (va_runIN (Ts := []) (maxL := maxL) (b := b) (As := [a1, a2, a3, a4, a5, a6]) (n := 6) ⟨O.1, O.2.1, hL.1.symm, O.2.2.1, fun _ z => nomatch z⟩ (ct.met kx) ⟨⟨⟨rfl, rfl, hr.1.1, hr.1.2.1, ws_at O md.1, List.mem_cons_self⟩, hw md.1, hw md.2.1, md.2.2.1, len_of md.2.2.2, hw h1⟩, h2, hw h3⟩ ⟨Pc0.blind, fun U hU hW => pc0_at O hR hS hU hW⟩ rfl rfl rfl rfl (mr_of hr.1.2.2) d hr.2) kr
end CallRows
section EndRows
variable {G : Gx} {R : Room} {cc : ByteArray} {own nm : String} {hh : List (Nat × Nat × Nat × Nat)} {C : Cx} {P : RV → Wd → Prop} {pc : Nat} {L : List (Option Value)} {st : List Value} {w : Wd} {c k : Nat}
theorem qc_at {s t : State} {H : Heap} {locs : List Loc} {v : Option Value} {a : Array Value} (hp : P (.inl v) w) (hR : Rel G w H) (hS : va_S (gA G) s.heap H locs) (ht : t.heap = H) : Qc0 G P a s (.returned v) t := ⟨v, w, rfl, hp, by rw [ht]; exact hR, hS.F ht⟩
theorem g_iret {v : Int32} (d : decode cc pc = .ok (.ireturn, 1)) (hp : P (.inl (some (.int v))) w) (hc : c ≤ R.cells) (hk : k ≤ R.slots) : Go G R cc own (some .int, nm, hh) C (QP G R P C) pc L [.int v] w c k := by
  obtain ⟨p, e, s, m, args, below, meth, cd⟩ := C
  intro O H ls locs hR hS hL
  have hlocks : meth.locks = false := O.2.2.2.2.2.2.2.2
  refine W.widen hc hk (vx_ret (W.iret O.1 O.2.1 O.2.2.2.2.2.1 (fun t ht _ => qc_at hp hR hS ht) hS.2.2 d hlocks))
theorem g_zret {v : Int32} (d : decode cc pc = .ok (.ireturn, 1)) (hn : narrow .boolean (.int v) = .int v) (hp : P (.inl (some (.int v))) w) (hc : c ≤ R.cells) (hk : k ≤ R.slots) : Go G R cc own (some .boolean, nm, hh) C (QP G R P C) pc L [.int v] w c k := by
  obtain ⟨p, e, s, m, args, below, meth, cd⟩ := C
  intro O H ls locs hR hS hL
  have hlocks : meth.locks = false := O.2.2.2.2.2.2.2.2
  refine W.widen hc hk (vx_ret (W.zret (ty := .boolean) O.1 O.2.1 O.2.2.2.2.2.1 hn (fun t ht _ => qc_at hp hR hS ht) hS.2.2 d hlocks))
theorem g_vret (d : decode cc pc = .ok (.return_, 1)) (hp : P (.inl none) w) (hc : c ≤ R.cells) (hk : k ≤ R.slots) : Go G R cc own (none, nm, hh) C (QP G R P C) pc L [] w c k := by
  obtain ⟨p, e, s, m, args, below, meth, cd⟩ := C
  intro O H ls locs hR hS hL
  have hlocks : meth.locks = false := O.2.2.2.2.2.2.2.2
  refine W.widen hc hk (vx_ret (W.vret O.1 O.2.1 O.2.2.2.2.2.1 (fun t ht _ => qc_at hp hR hS ht) hS.2.2 d hlocks))
theorem g_aret {v : Nat} {rt : FieldType} (hrt : (∃ n, rt = .object n) ∨ ∃ t, rt = .array t) (d : decode cc pc = .ok (.areturn, 1)) (hp : P (.inl (some (.ref v))) w) (hc : c ≤ R.cells) (hk : k ≤ R.slots) : Go G R cc own (some rt, nm, hh) C (QP G R P C) pc L [.ref v] w c k := by
  obtain ⟨p, e, s, m, args, below, meth, cd⟩ := C
  intro O H ls locs hR hS hL
  have hlocks : meth.locks = false := O.2.2.2.2.2.2.2.2
  refine W.widen hc hk (vx_ret (W.aret (rt := rt) O.1 O.2.1 O.2.2.2.2.2.1 hrt (Or.inr ⟨v, rfl⟩) (fun t ht _ => qc_at hp hR hS ht) hS.2.2 d hlocks))
theorem gx_out {Y : Yx} {E : String} (ho : ∀ x ∈ tableOf Y.2.2, covers x pc = false) (hp : P (.inr E) w) (hc : c ≤ R.cells) (hk : k ≤ R.slots) : GoX G R cc own Y C (QP G R P C) pc L w c k E := by
  obtain ⟨p, e, s, m, args, below, meth, cd⟩ := C
  intro O H ls locs q ce st hR hS hL hce hcv hcl
  refine vx_out (by rw [O.2.2.2.2.2.2.2.1]; exact ho) O.2.2.2.2.2.2.2.2 hce hcv hcl (fun t ht _ => ⟨w, hp, by rw [ht]; exact hR, hS.F ht⟩) hS.2.2 hc hk
theorem gx_catch {Y : Yx} {Q : State → Prop} {E name : String} (pre : List ExceptionTableEntry) (x : ExceptionTableEntry) (suf : List ExceptionTableEntry) (hsplit : tableOf Y.2.2 = pre ++ x :: suf)
    (hpass : ∀ z ∈ pre, covers z pc = false ∨ (z.catchType ≠ 0 ∧ ∃ n2 : String, Cond.classLink own z.catchType n2 ∈ tw ∧ (E, n2) ∈ nc_all)) (hx : covers x pc = true) (h0 : x.catchType ≠ 0) (hlink : Cond.classLink own x.catchType name ∈ tw) (hcast : Cond.castable E name ∈ tw)
    (h : ∀ q : Nat, Go G R cc own Y C Q x.handlerPc L [.ref q] w c k) : GoX G R cc own Y C Q pc L w c k E := by
  obtain ⟨p, e, s, m, args, below, meth, cd⟩ := C
  intro O H ls locs q ce st hR hS hL hce hcv hcl
  refine vx_catch O.2.2.1 pre x suf (by rw [O.2.2.2.2.2.2.2.1]; exact hsplit) (fun z hz => ?_) hx h0 (O.2.2.2.1.w hlink) (O.2.2.2.1.w hcast) hce hcv hcl (h q O H ls locs hR hS hL)
  rcases hpass z hz with h1 | ⟨h1, n2, h2, h3⟩
  · exact Or.inl h1
  · exact Or.inr ⟨h1, n2, O.2.2.2.1.w h2, O.2.2.2.1.2.2.2.1 _ h3⟩
/-- what a throw of the class cls with a text needs of the tables -/
def TW (own : String) (ik is ic : Nat) (cls text : String) : Prop := Bundle.fit cls = true ∧ Cond.classLink own ik cls ∈ tw ∧ Cond.initialized cls ∈ tw ∧ Cond.stringRef own is text ∈ tables_1 ∧ (∀ x ∈ vx_atS own ic cls ["java/lang/RuntimeException", "java/lang/Exception"], x ∈ tw) ∧
  ∀ x ∈ Cond.classLink own ik cls :: Cond.initialized cls :: vx_atS own ic cls ["java/lang/RuntimeException", "java/lang/Exception"], vx_ot x = true
theorem g_throwS {Y : Yx} {ik is ic : Nat} {cls text : String} (tq : TW own ik is ic cls text) (d0 : decode cc pc = .ok (.new ik, 3)) (d3 : decode cc (pc + 3) = .ok (.dup, 1)) (d4 : decode cc (pc + 4) = .ok (.ldc is, 2)) (d6 : decode cc (pc + 6) = .ok (.invokespecial ic, 3)) (d9 : decode cc (pc + 9) = .ok (.athrow, 1))
    (ho : ∀ x ∈ tableOf Y.2.2, covers x (pc + 9) = false) (hf : 5 < R.frames) (hl : (st.map fun v => v.category).sum + 82 ≤ R.locals) (hp : P (.inr cls) w) (hc : c + 1 ≤ R.cells) (hk : k + 6 ≤ R.slots) : Go G R cc own Y C (QP G R P C) pc L st w c k := by
  obtain ⟨p, e, s, m, args, below, meth, cd⟩ := C
  intro O H ls locs hR hS hL
  obtain ⟨hfit, h1, h2, h3, h4, h5⟩ := tq
  have hg := O.2.2.2.1
  obtain ⟨sa, hsa⟩ := hg.2.2.1 own text is h3
  have hB : ∀ a : Nat, a < (gH G).size → ¬ gA G a → s.heap[a]? = (gH G)[a]? := fun a ha _ => O.2.2.2.2.1.2 a ha
  refine vx_throwS (A := gA G) (sa := sa) (names := ["java/lang/RuntimeException", "java/lang/Exception"]) O.1 O.2.1 hg.2.2.2.2.2.2.2.2.2.2 O.2.2.1 hfit (by decide +kernel) (hg.w h1) (hg.w h2) hsa (fun x hx => hg.w (h4 x hx)) h5 (hg.2.2.2.2.1.kept hB) (hg.2.2.2.2.2.1.kept hB) hS hL.1 d0 d3 d4 d6 d9 (by rw [O.2.2.2.2.2.2.2.1]; exact ho) hf hl hc hk O.2.2.2.2.2.2.2.2 (fun t _ hz hq => ⟨w, hp, hR.kept hq, ?_⟩) hS.2.2 hc hk
  exact ⟨Nat.le_trans hS.1 hz, fun q g1 g2 => (hq q (Nat.lt_of_lt_of_le g1 hS.1)).trans (hS.2.1 q g1 g2)⟩
end EndRows
end
section
/-! The words of the tables, one by one. -/
theorem ac_int : Cond.arrayClass .int ∈ tw := tw_in 113 (by decide +kernel) (by decide +kernel)
theorem ac_boolean : Cond.arrayClass .boolean ∈ tw := tw_in 136 (by decide +kernel) (by decide +kernel)
theorem ac_long : Cond.arrayClass .long ∈ tw := tw_in 880 (by decide +kernel) (by decide +kernel)
theorem w_same : Cond.sameField "java/util/ArrayList" "java/util/AbstractList" "modCount" "I" ∈ tw := tw_in 69 (by decide +kernel) (by decide +kernel)
theorem ini_L : Cond.initialized RL ∈ tw := tw_in 0 (by decide +kernel) (by decide +kernel)
theorem ini_X5 : Cond.initialized RX5 ∈ tw := tw_in 1 (by decide +kernel) (by decide +kernel)
theorem ini_X1 : Cond.initialized RX1 ∈ tw := tw_in 2 (by decide +kernel) (by decide +kernel)
theorem ini_Jxa1e45 : Cond.initialized RJxa1e45 ∈ tw := tw_in 3 (by decide +kernel) (by decide +kernel)
theorem ini_Jxc12de : Cond.initialized RJxc12de ∈ tw := tw_in 4 (by decide +kernel) (by decide +kernel)
theorem ini_Jx4a65c : Cond.initialized RJx4a65c ∈ tw := tw_in 5 (by decide +kernel) (by decide +kernel)
theorem ini_X4 : Cond.initialized RX4 ∈ tw := tw_in 6 (by decide +kernel) (by decide +kernel)
theorem ini_X2 : Cond.initialized RX2 ∈ tw := tw_in 7 (by decide +kernel) (by decide +kernel)
theorem ini_X3 : Cond.initialized RX3 ∈ tw := tw_in 8 (by decide +kernel) (by decide +kernel)
theorem ini_J8 : Cond.initialized RJ8 ∈ tw := tw_in 9 (by decide +kernel) (by decide +kernel)
theorem ini_J9 : Cond.initialized RJ9 ∈ tw := tw_in 10 (by decide +kernel) (by decide +kernel)
theorem ini_J7 : Cond.initialized RJ7 ∈ tw := tw_in 11 (by decide +kernel) (by decide +kernel)
theorem ini_J10 : Cond.initialized RJ10 ∈ tw := tw_in 12 (by decide +kernel) (by decide +kernel)
theorem ini_X6 : Cond.initialized RX6 ∈ tw := tw_in 13 (by decide +kernel) (by decide +kernel)
theorem ini_Throwable : Cond.initialized "java/lang/Throwable" ∈ tw := tw_in 14 (by decide +kernel) (by decide +kernel)
theorem ini_Exception : Cond.initialized "java/lang/Exception" ∈ tw := tw_in 15 (by decide +kernel) (by decide +kernel)
theorem ini_RuntimeException : Cond.initialized "java/lang/RuntimeException" ∈ tw := tw_in 16 (by decide +kernel) (by decide +kernel)
theorem ini_IllegalArgumentException : Cond.initialized "java/lang/IllegalArgumentException" ∈ tw := tw_in 17 (by decide +kernel) (by decide +kernel)
theorem ini_IllegalStateException : Cond.initialized "java/lang/IllegalStateException" ∈ tw := tw_in 18 (by decide +kernel) (by decide +kernel)
theorem ini_J15 : Cond.initialized RJ15 ∈ tw := tw_in 19 (by decide +kernel) (by decide +kernel)
theorem ini_J3 : Cond.initialized RJ3 ∈ tw := tw_in 20 (by decide +kernel) (by decide +kernel)
theorem ini_X0 : Cond.initialized RX0 ∈ tw := tw_in 21 (by decide +kernel) (by decide +kernel)
theorem ini_IndexOutOfBoundsException : Cond.initialized "java/lang/IndexOutOfBoundsException" ∈ tw := tw_in 22 (by decide +kernel) (by decide +kernel)
theorem ini_NoSuchElementException : Cond.initialized "java/util/NoSuchElementException" ∈ tw := tw_in 23 (by decide +kernel) (by decide +kernel)
theorem ins_X5 : Cond.instantiable RX5 11 ∈ tw := tw_in 25 (by decide +kernel) (by decide +kernel)
theorem ins_X1 : Cond.instantiable RX1 3 ∈ tw := tw_in 33 (by decide +kernel) (by decide +kernel)
theorem ins_Jx4a65c : Cond.instantiable RJx4a65c 3 ∈ tw := tw_in 52 (by decide +kernel) (by decide +kernel)
theorem ins_X4 : Cond.instantiable RX4 2 ∈ tw := tw_in 78 (by decide +kernel) (by decide +kernel)
theorem ins_X2 : Cond.instantiable RX2 3 ∈ tw := tw_in 96 (by decide +kernel) (by decide +kernel)
theorem ins_X3 : Cond.instantiable RX3 4 ∈ tw := tw_in 115 (by decide +kernel) (by decide +kernel)
theorem ins_IllegalArgumentException : Cond.instantiable "java/lang/IllegalArgumentException" 6 ∈ tw := tw_in 289 (by decide +kernel) (by decide +kernel)
theorem ins_Throwable : Cond.instantiable "java/lang/Throwable" 6 ∈ tw := tw_in 328 (by decide +kernel) (by decide +kernel)
theorem ins_IllegalStateException : Cond.instantiable "java/lang/IllegalStateException" 6 ∈ tw := tw_in 358 (by decide +kernel) (by decide +kernel)
theorem ins_X0 : Cond.instantiable RX0 6 ∈ tw := tw_in 438 (by decide +kernel) (by decide +kernel)
theorem ins_IndexOutOfBoundsException : Cond.instantiable "java/lang/IndexOutOfBoundsException" 6 ∈ tw := tw_in 485 (by decide +kernel) (by decide +kernel)
theorem ins_NoSuchElementException : Cond.instantiable "java/util/NoSuchElementException" 6 ∈ tw := tw_in 607 (by decide +kernel) (by decide +kernel)
theorem ins_X6 : Cond.instantiable RX6 29 ∈ tw := tw_in 653 (by decide +kernel) (by decide +kernel)
abbrev kw_X5_init : Cond := .code yX5_init cX5_init 2 none
theorem cd_X5_init : kw_X5_init ∈ tw := tw_in 28 (by decide +kernel) (by decide +kernel)
theorem md_X5_init : MD yX5_init kw_X5_init 0 := ⟨cd_X5_init, ini_X5, ⟨by decide +kernel, by decide +kernel⟩, by decide +kernel⟩
theorem cd_oi : Cond.code Lib.objectInit ⟨#[0xb1]⟩ 1 none ∈ tw := tw_in 31 (by decide +kernel) (by decide +kernel)
abbrev kw_X1_init : Cond := .code yX1_init cX1_init 4 none
theorem cd_X1_init : kw_X1_init ∈ tw := tw_in 36 (by decide +kernel) (by decide +kernel)
theorem md_X1_init : MD yX1_init kw_X1_init 3 := ⟨cd_X1_init, ini_X1, ⟨by decide +kernel, by decide +kernel⟩, by decide +kernel⟩
abbrev kw_Jx4a65c_init_da8c8 : Cond := .code yJx4a65c_init_da8c8 cJx4a65c_init_da8c8 1 none
theorem cd_Jx4a65c_init_da8c8 : kw_Jx4a65c_init_da8c8 ∈ tw := tw_in 55 (by decide +kernel) (by decide +kernel)
theorem md_Jx4a65c_init_da8c8 : MD yJx4a65c_init_da8c8 kw_Jx4a65c_init_da8c8 0 := ⟨cd_Jx4a65c_init_da8c8, ini_Jx4a65c, ⟨by decide +kernel, by decide +kernel⟩, by decide +kernel⟩
abbrev kw_Jxc12de_init_da8c8 : Cond := .code yJxc12de_init_da8c8 cJxc12de_init_da8c8 1 none
theorem cd_Jxc12de_init_da8c8 : kw_Jxc12de_init_da8c8 ∈ tw := tw_in 58 (by decide +kernel) (by decide +kernel)
theorem md_Jxc12de_init_da8c8 : MD yJxc12de_init_da8c8 kw_Jxc12de_init_da8c8 0 := ⟨cd_Jxc12de_init_da8c8, ini_Jxc12de, ⟨by decide +kernel, by decide +kernel⟩, by decide +kernel⟩
abbrev kw_Jxa1e45_init_da8c8 : Cond := .code yJxa1e45_init_da8c8 cJxa1e45_init_da8c8 1 none
theorem cd_Jxa1e45_init_da8c8 : kw_Jxa1e45_init_da8c8 ∈ tw := tw_in 61 (by decide +kernel) (by decide +kernel)
theorem md_Jxa1e45_init_da8c8 : MD yJxa1e45_init_da8c8 kw_Jxa1e45_init_da8c8 0 := ⟨cd_Jxa1e45_init_da8c8, ini_Jxa1e45, ⟨by decide +kernel, by decide +kernel⟩, by decide +kernel⟩
abbrev kw_X4_init : Cond := .code yX4_init cX4_init 1 none
theorem cd_X4_init : kw_X4_init ∈ tw := tw_in 81 (by decide +kernel) (by decide +kernel)
theorem md_X4_init : MD yX4_init kw_X4_init 0 := ⟨cd_X4_init, ini_X4, ⟨by decide +kernel, by decide +kernel⟩, by decide +kernel⟩
abbrev kw_X2_init : Cond := .code yX2_init cX2_init 1 none
theorem cd_X2_init : kw_X2_init ∈ tw := tw_in 99 (by decide +kernel) (by decide +kernel)
theorem md_X2_init : MD yX2_init kw_X2_init 0 := ⟨cd_X2_init, ini_X2, ⟨by decide +kernel, by decide +kernel⟩, by decide +kernel⟩
abbrev kw_X3_init : Cond := .code yX3_init cX3_init 2 none
theorem cd_X3_init : kw_X3_init ∈ tw := tw_in 118 (by decide +kernel) (by decide +kernel)
theorem md_X3_init : MD yX3_init kw_X3_init 1 := ⟨cd_X3_init, ini_X3, ⟨by decide +kernel, by decide +kernel⟩, by decide +kernel⟩
abbrev kw_Jx4a65c_add_9ea2d : Cond := .code yJx4a65c_add_9ea2d cJx4a65c_add_9ea2d 2 (Option.some FieldType.boolean)
theorem cd_Jx4a65c_add_9ea2d : kw_Jx4a65c_add_9ea2d ∈ tw := tw_in 140 (by decide +kernel) (by decide +kernel)
theorem md_Jx4a65c_add_9ea2d : MD yJx4a65c_add_9ea2d kw_Jx4a65c_add_9ea2d 1 := ⟨cd_Jx4a65c_add_9ea2d, ini_Jx4a65c, ⟨by decide +kernel, by decide +kernel⟩, by decide +kernel⟩
abbrev kw_Jx4a65c_add_72be8 : Cond := .code yJx4a65c_add_72be8 cJx4a65c_add_72be8 4 none
theorem cd_Jx4a65c_add_72be8 : kw_Jx4a65c_add_72be8 ∈ tw := tw_in 144 (by decide +kernel) (by decide +kernel)
theorem md_Jx4a65c_add_72be8 : MD yJx4a65c_add_72be8 kw_Jx4a65c_add_72be8 3 := ⟨cd_Jx4a65c_add_72be8, ini_Jx4a65c, ⟨by decide +kernel, by decide +kernel⟩, by decide +kernel⟩
abbrev kw_Jx4a65c_grow_d5877 : Cond := .code yJx4a65c_grow_d5877 cJx4a65c_grow_d5877 1 (Option.some (FieldType.array (FieldType.object "java/lang/Object")))
theorem cd_Jx4a65c_grow_d5877 : kw_Jx4a65c_grow_d5877 ∈ tw := tw_in 148 (by decide +kernel) (by decide +kernel)
theorem md_Jx4a65c_grow_d5877 : MD yJx4a65c_grow_d5877 kw_Jx4a65c_grow_d5877 0 := ⟨cd_Jx4a65c_grow_d5877, ini_Jx4a65c, ⟨by decide +kernel, by decide +kernel⟩, by decide +kernel⟩
abbrev kw_Jx4a65c_grow_92f84 : Cond := .code yJx4a65c_grow_92f84 cJx4a65c_grow_92f84 4 (Option.some (FieldType.array (FieldType.object "java/lang/Object")))
theorem cd_Jx4a65c_grow_92f84 : kw_Jx4a65c_grow_92f84 ∈ tw := tw_in 152 (by decide +kernel) (by decide +kernel)
theorem md_Jx4a65c_grow_92f84 : MD yJx4a65c_grow_92f84 kw_Jx4a65c_grow_92f84 1 := ⟨cd_Jx4a65c_grow_92f84, ini_Jx4a65c, ⟨by decide +kernel, by decide +kernel⟩, by decide +kernel⟩
abbrev kw_J8_newLength_cabcc : Cond := .code yJ8_newLength_cabcc cJ8_newLength_cabcc 4 (Option.some FieldType.int)
theorem cd_J8_newLength_cabcc : kw_J8_newLength_cabcc ∈ tw := tw_in 155 (by decide +kernel) (by decide +kernel)
theorem md_J8_newLength_cabcc : MD yJ8_newLength_cabcc kw_J8_newLength_cabcc 3 := ⟨cd_J8_newLength_cabcc, ini_J8, ⟨by decide +kernel, by decide +kernel⟩, by decide +kernel⟩
abbrev kw_J9_max_7cf53 : Cond := .code yJ9_max_7cf53 cJ9_max_7cf53 2 (Option.some FieldType.int)
theorem cd_J9_max_7cf53 : kw_J9_max_7cf53 ∈ tw := tw_in 158 (by decide +kernel) (by decide +kernel)
theorem md_J9_max_7cf53 : MD yJ9_max_7cf53 kw_J9_max_7cf53 2 := ⟨cd_J9_max_7cf53, ini_J9, ⟨by decide +kernel, by decide +kernel⟩, by decide +kernel⟩
abbrev kw_J8_hugeLength_7cf53 : Cond := .code yJ8_hugeLength_7cf53 cJ8_hugeLength_7cf53 3 (Option.some FieldType.int)
theorem cd_J8_hugeLength_7cf53 : kw_J8_hugeLength_7cf53 ∈ tw := tw_in 162 (by decide +kernel) (by decide +kernel)
theorem md_J8_hugeLength_7cf53 : MD yJ8_hugeLength_7cf53 kw_J8_hugeLength_7cf53 2 := ⟨cd_J8_hugeLength_7cf53, ini_J8, ⟨by decide +kernel, by decide +kernel⟩, by decide +kernel⟩
abbrev kw_J7_copyOf_1904c : Cond := .code yJ7_copyOf_1904c cJ7_copyOf_1904c 2 (Option.some (FieldType.array (FieldType.object "java/lang/Object")))
theorem cd_J7_copyOf_1904c : kw_J7_copyOf_1904c ∈ tw := tw_in 165 (by decide +kernel) (by decide +kernel)
theorem md_J7_copyOf_1904c : MD yJ7_copyOf_1904c kw_J7_copyOf_1904c 2 := ⟨cd_J7_copyOf_1904c, ini_J7, ⟨by decide +kernel, by decide +kernel⟩, by decide +kernel⟩
abbrev kw_J7_copyOf_6403c : Cond := .code yJ7_copyOf_6403c cJ7_copyOf_6403c 4 (Option.some (FieldType.array (FieldType.object "java/lang/Object")))
theorem cd_J7_copyOf_6403c : kw_J7_copyOf_6403c ∈ tw := tw_in 184 (by decide +kernel) (by decide +kernel)
theorem md_J7_copyOf_6403c : MD yJ7_copyOf_6403c kw_J7_copyOf_6403c 3 := ⟨cd_J7_copyOf_6403c, ini_J7, ⟨by decide +kernel, by decide +kernel⟩, by decide +kernel⟩
abbrev kw_J9_min_7cf53 : Cond := .code yJ9_min_7cf53 cJ9_min_7cf53 2 (Option.some FieldType.int)
theorem cd_J9_min_7cf53 : kw_J9_min_7cf53 ∈ tw := tw_in 190 (by decide +kernel) (by decide +kernel)
theorem md_J9_min_7cf53 : MD yJ9_min_7cf53 kw_J9_min_7cf53 2 := ⟨cd_J9_min_7cf53, ini_J9, ⟨by decide +kernel, by decide +kernel⟩, by decide +kernel⟩
abbrev kw_J7_fill_53178 : Cond := .code yJ7_fill_53178 cJ7_fill_53178 4 none
theorem cd_J7_fill_53178 : kw_J7_fill_53178 ∈ tw := tw_in 198 (by decide +kernel) (by decide +kernel)
theorem md_J7_fill_53178 : MD yJ7_fill_53178 kw_J7_fill_53178 2 := ⟨cd_J7_fill_53178, ini_J7, ⟨by decide +kernel, by decide +kernel⟩, by decide +kernel⟩
abbrev kw_X5_documents : Cond := .code yX5_documents cX5_documents 1 (Option.some FieldType.int)
theorem cd_X5_documents : kw_X5_documents ∈ tw := tw_in 236 (by decide +kernel) (by decide +kernel)
theorem md_X5_documents : MD yX5_documents kw_X5_documents 0 := ⟨cd_X5_documents, ini_X5, ⟨by decide +kernel, by decide +kernel⟩, by decide +kernel⟩
abbrev kw_Jx4a65c_size_8abf5 : Cond := .code yJx4a65c_size_8abf5 cJx4a65c_size_8abf5 1 (Option.some FieldType.int)
theorem cd_Jx4a65c_size_8abf5 : kw_Jx4a65c_size_8abf5 ∈ tw := tw_in 240 (by decide +kernel) (by decide +kernel)
theorem md_Jx4a65c_size_8abf5 : MD yJx4a65c_size_8abf5 kw_Jx4a65c_size_8abf5 0 := ⟨cd_Jx4a65c_size_8abf5, ini_Jx4a65c, ⟨by decide +kernel, by decide +kernel⟩, by decide +kernel⟩
abbrev kw_X5_clear : Cond := .code yX5_clear cX5_clear 4 (Option.some FieldType.int)
theorem cd_X5_clear : kw_X5_clear ∈ tw := tw_in 244 (by decide +kernel) (by decide +kernel)
theorem md_X5_clear : MD yX5_clear kw_X5_clear 0 := ⟨cd_X5_clear, ini_X5, ⟨by decide +kernel, by decide +kernel⟩, by decide +kernel⟩
abbrev kw_Jx4a65c_get_915e3 : Cond := .code yJx4a65c_get_915e3 cJx4a65c_get_915e3 2 (Option.some (FieldType.object "java/lang/Object"))
theorem cd_Jx4a65c_get_915e3 : kw_Jx4a65c_get_915e3 ∈ tw := tw_in 248 (by decide +kernel) (by decide +kernel)
theorem md_Jx4a65c_get_915e3 : MD yJx4a65c_get_915e3 kw_Jx4a65c_get_915e3 1 := ⟨cd_Jx4a65c_get_915e3, ini_Jx4a65c, ⟨by decide +kernel, by decide +kernel⟩, by decide +kernel⟩
abbrev kw_J15_checkIndex_7cf53 : Cond := .code yJ15_checkIndex_7cf53 cJ15_checkIndex_7cf53 2 (Option.some FieldType.int)
theorem cd_J15_checkIndex_7cf53 : kw_J15_checkIndex_7cf53 ∈ tw := tw_in 251 (by decide +kernel) (by decide +kernel)
theorem md_J15_checkIndex_7cf53 : MD yJ15_checkIndex_7cf53 kw_J15_checkIndex_7cf53 2 := ⟨cd_J15_checkIndex_7cf53, ini_J15, ⟨by decide +kernel, by decide +kernel⟩, by decide +kernel⟩
abbrev kw_J3_checkIndex_8e157 : Cond := .code yJ3_checkIndex_8e157 cJ3_checkIndex_8e157 3 (Option.some FieldType.int)
theorem cd_J3_checkIndex_8e157 : kw_J3_checkIndex_8e157 ∈ tw := tw_in 254 (by decide +kernel) (by decide +kernel)
theorem md_J3_checkIndex_8e157 : MD yJ3_checkIndex_8e157 kw_J3_checkIndex_8e157 3 := ⟨cd_J3_checkIndex_8e157, ini_J3, ⟨by decide +kernel, by decide +kernel⟩, by decide +kernel⟩
abbrev kw_Jx4a65c_elementData_915e3 : Cond := .code yJx4a65c_elementData_915e3 cJx4a65c_elementData_915e3 2 (Option.some (FieldType.object "java/lang/Object"))
theorem cd_Jx4a65c_elementData_915e3 : kw_Jx4a65c_elementData_915e3 ∈ tw := tw_in 258 (by decide +kernel) (by decide +kernel)
theorem md_Jx4a65c_elementData_915e3 : MD yJx4a65c_elementData_915e3 kw_Jx4a65c_elementData_915e3 1 := ⟨cd_Jx4a65c_elementData_915e3, ini_Jx4a65c, ⟨by decide +kernel, by decide +kernel⟩, by decide +kernel⟩
abbrev kw_X5_isOver : Cond := .code yX5_isOver cX5_isOver 2 (Option.some FieldType.boolean)
theorem cd_X5_isOver : kw_X5_isOver ∈ tw := tw_in 263 (by decide +kernel) (by decide +kernel)
theorem md_X5_isOver : MD yX5_isOver kw_X5_isOver 1 := ⟨cd_X5_isOver, ini_X5, ⟨by decide +kernel, by decide +kernel⟩, by decide +kernel⟩
abbrev kw_X5_isKind : Cond := .code yX5_isKind cX5_isKind 2 (Option.some FieldType.boolean)
theorem cd_X5_isKind : kw_X5_isKind ∈ tw := tw_in 267 (by decide +kernel) (by decide +kernel)
theorem md_X5_isKind : MD yX5_isKind kw_X5_isKind 1 := ⟨cd_X5_isKind, ini_X5, ⟨by decide +kernel, by decide +kernel⟩, by decide +kernel⟩
abbrev kw_X5_isHeld : Cond := .code yX5_isHeld cX5_isHeld 2 (Option.some FieldType.boolean)
theorem cd_X5_isHeld : kw_X5_isHeld ∈ tw := tw_in 271 (by decide +kernel) (by decide +kernel)
theorem md_X5_isHeld : MD yX5_isHeld kw_X5_isHeld 1 := ⟨cd_X5_isHeld, ini_X5, ⟨by decide +kernel, by decide +kernel⟩, by decide +kernel⟩
abbrev kw_X5_isAccount : Cond := .code yX5_isAccount cX5_isAccount 2 (Option.some FieldType.boolean)
theorem cd_X5_isAccount : kw_X5_isAccount ∈ tw := tw_in 275 (by decide +kernel) (by decide +kernel)
theorem md_X5_isAccount : MD yX5_isAccount kw_X5_isAccount 1 := ⟨cd_X5_isAccount, ini_X5, ⟨by decide +kernel, by decide +kernel⟩, by decide +kernel⟩
abbrev kw_L_pass : Cond := .codeWith yL_pass cL_pass 4 (Option.some FieldType.int) [((0 : Nat), (9 : Nat), (12 : Nat), (13 : Nat)), ((0 : Nat), (9 : Nat), (15 : Nat), (15 : Nat))]
theorem cd_L_pass : kw_L_pass ∈ tw := tw_in 278 (by decide +kernel) (by decide +kernel)
theorem md_L_pass : MD yL_pass kw_L_pass 3 := ⟨cd_L_pass, ini_L, ⟨by decide +kernel, by decide +kernel⟩, by decide +kernel⟩
abbrev kw_X5_pass : Cond := .code yX5_pass cX5_pass 2 (Option.some FieldType.int)
theorem cd_X5_pass : kw_X5_pass ∈ tw := tw_in 284 (by decide +kernel) (by decide +kernel)
theorem md_X5_pass : MD yX5_pass kw_X5_pass 1 := ⟨cd_X5_pass, ini_X5, ⟨by decide +kernel, by decide +kernel⟩, by decide +kernel⟩
abbrev kw_X5_demandRange : Cond := .code yX5_demandRange cX5_demandRange 3 none
theorem cd_X5_demandRange : kw_X5_demandRange ∈ tw := tw_in 287 (by decide +kernel) (by decide +kernel)
theorem md_X5_demandRange : MD yX5_demandRange kw_X5_demandRange 3 := ⟨cd_X5_demandRange, ini_X5, ⟨by decide +kernel, by decide +kernel⟩, by decide +kernel⟩
abbrev kw_L_format : Cond := .codeWith yL_format cL_format 6 (Option.some FieldType.int) [((0 : Nat), (12 : Nat), (15 : Nat), (13 : Nat)), ((0 : Nat), (12 : Nat), (19 : Nat), (15 : Nat))]
theorem cd_L_format : kw_L_format ∈ tw := tw_in 375 (by decide +kernel) (by decide +kernel)
theorem md_L_format : MD yL_format kw_L_format 5 := ⟨cd_L_format, ini_L, ⟨by decide +kernel, by decide +kernel⟩, by decide +kernel⟩
abbrev kw_X5_format : Cond := .code yX5_format cX5_format 4 (Option.some FieldType.int)
theorem cd_X5_format : kw_X5_format ∈ tw := tw_in 379 (by decide +kernel) (by decide +kernel)
theorem md_X5_format : MD yX5_format kw_X5_format 3 := ⟨cd_X5_format, ini_X5, ⟨by decide +kernel, by decide +kernel⟩, by decide +kernel⟩
abbrev kw_L_line : Cond := .codeWith yL_line cL_line 4 (Option.some FieldType.int) [((0 : Nat), (9 : Nat), (12 : Nat), (13 : Nat)), ((0 : Nat), (9 : Nat), (15 : Nat), (15 : Nat))]
theorem cd_L_line : kw_L_line ∈ tw := tw_in 383 (by decide +kernel) (by decide +kernel)
theorem md_L_line : MD yL_line kw_L_line 3 := ⟨cd_L_line, ini_L, ⟨by decide +kernel, by decide +kernel⟩, by decide +kernel⟩
abbrev kw_X5_line : Cond := .code yX5_line cX5_line 2 (Option.some FieldType.int)
theorem cd_X5_line : kw_X5_line ∈ tw := tw_in 387 (by decide +kernel) (by decide +kernel)
theorem md_X5_line : MD yX5_line kw_X5_line 1 := ⟨cd_X5_line, ini_X5, ⟨by decide +kernel, by decide +kernel⟩, by decide +kernel⟩
abbrev kw_X2_put : Cond := .code yX2_put cX2_put 2 (Option.some FieldType.boolean)
theorem cd_X2_put : kw_X2_put ∈ tw := tw_in 391 (by decide +kernel) (by decide +kernel)
theorem md_X2_put : MD yX2_put kw_X2_put 1 := ⟨cd_X2_put, ini_X2, ⟨by decide +kernel, by decide +kernel⟩, by decide +kernel⟩
abbrev kw_L_feed : Cond := .codeWith yL_feed cL_feed 3 (Option.some FieldType.int) [((0 : Nat), (8 : Nat), (11 : Nat), (15 : Nat))]
theorem cd_L_feed : kw_L_feed ∈ tw := tw_in 395 (by decide +kernel) (by decide +kernel)
theorem md_L_feed : MD yL_feed kw_L_feed 2 := ⟨cd_L_feed, ini_L, ⟨by decide +kernel, by decide +kernel⟩, by decide +kernel⟩
abbrev kw_X5_feed : Cond := .code yX5_feed cX5_feed 1 (Option.some FieldType.int)
theorem cd_X5_feed : kw_X5_feed ∈ tw := tw_in 399 (by decide +kernel) (by decide +kernel)
theorem md_X5_feed : MD yX5_feed kw_X5_feed 0 := ⟨cd_X5_feed, ini_X5, ⟨by decide +kernel, by decide +kernel⟩, by decide +kernel⟩
abbrev kw_X5_closePage : Cond := .code yX5_closePage cX5_closePage 1 none
theorem cd_X5_closePage : kw_X5_closePage ∈ tw := tw_in 404 (by decide +kernel) (by decide +kernel)
theorem md_X5_closePage : MD yX5_closePage kw_X5_closePage 0 := ⟨cd_X5_closePage, ini_X5, ⟨by decide +kernel, by decide +kernel⟩, by decide +kernel⟩
abbrev kw_L_end : Cond := .codeWith yL_end cL_end 3 (Option.some FieldType.int) [((0 : Nat), (8 : Nat), (11 : Nat), (15 : Nat))]
theorem cd_L_end : kw_L_end ∈ tw := tw_in 407 (by decide +kernel) (by decide +kernel)
theorem md_L_end : MD yL_end kw_L_end 2 := ⟨cd_L_end, ini_L, ⟨by decide +kernel, by decide +kernel⟩, by decide +kernel⟩
abbrev kw_X5_end : Cond := .code yX5_end cX5_end 2 (Option.some FieldType.int)
theorem cd_X5_end : kw_X5_end ∈ tw := tw_in 411 (by decide +kernel) (by decide +kernel)
theorem md_X5_end : MD yX5_end kw_X5_end 0 := ⟨cd_X5_end, ini_X5, ⟨by decide +kernel, by decide +kernel⟩, by decide +kernel⟩
abbrev kw_X2_isEmpty : Cond := .code yX2_isEmpty cX2_isEmpty 1 (Option.some FieldType.boolean)
theorem cd_X2_isEmpty : kw_X2_isEmpty ∈ tw := tw_in 415 (by decide +kernel) (by decide +kernel)
theorem md_X2_isEmpty : MD yX2_isEmpty kw_X2_isEmpty 0 := ⟨cd_X2_isEmpty, ini_X2, ⟨by decide +kernel, by decide +kernel⟩, by decide +kernel⟩
abbrev kw_X5_keepOpenRun : Cond := .code yX5_keepOpenRun cX5_keepOpenRun 1 none
theorem cd_X5_keepOpenRun : kw_X5_keepOpenRun ∈ tw := tw_in 421 (by decide +kernel) (by decide +kernel)
theorem md_X5_keepOpenRun : MD yX5_keepOpenRun kw_X5_keepOpenRun 0 := ⟨cd_X5_keepOpenRun, ini_X5, ⟨by decide +kernel, by decide +kernel⟩, by decide +kernel⟩
abbrev kw_X5_putTogether : Cond := .code yX5_putTogether cX5_putTogether 7 none
theorem cd_X5_putTogether : kw_X5_putTogether ∈ tw := tw_in 425 (by decide +kernel) (by decide +kernel)
theorem md_X5_putTogether : MD yX5_putTogether kw_X5_putTogether 1 := ⟨cd_X5_putTogether, ini_X5, ⟨by decide +kernel, by decide +kernel⟩, by decide +kernel⟩
abbrev kw_X5_formatOn : Cond := .code yX5_formatOn cX5_formatOn 5 (Option.some (FieldType.object "PrintKeeper$Format"))
theorem cd_X5_formatOn : kw_X5_formatOn ∈ tw := tw_in 429 (by decide +kernel) (by decide +kernel)
theorem md_X5_formatOn : MD yX5_formatOn kw_X5_formatOn 1 := ⟨cd_X5_formatOn, ini_X5, ⟨by decide +kernel, by decide +kernel⟩, by decide +kernel⟩
abbrev kw_X2_valueAt : Cond := .code yX2_valueAt cX2_valueAt 2 (Option.some FieldType.int)
theorem cd_X2_valueAt : kw_X2_valueAt ∈ tw := tw_in 433 (by decide +kernel) (by decide +kernel)
theorem md_X2_valueAt : MD yX2_valueAt kw_X2_valueAt 1 := ⟨cd_X2_valueAt, ini_X2, ⟨by decide +kernel, by decide +kernel⟩, by decide +kernel⟩
abbrev kw_X2_has : Cond := .code yX2_has cX2_has 2 (Option.some FieldType.boolean)
theorem cd_X2_has : kw_X2_has ∈ tw := tw_in 437 (by decide +kernel) (by decide +kernel)
theorem md_X2_has : MD yX2_has kw_X2_has 1 := ⟨cd_X2_has, ini_X2, ⟨by decide +kernel, by decide +kernel⟩, by decide +kernel⟩
abbrev kw_X5_kindOf : Cond := .code yX5_kindOf cX5_kindOf 2 (Option.some FieldType.int)
theorem cd_X5_kindOf : kw_X5_kindOf ∈ tw := tw_in 441 (by decide +kernel) (by decide +kernel)
theorem md_X5_kindOf : MD yX5_kindOf kw_X5_kindOf 2 := ⟨cd_X5_kindOf, ini_X5, ⟨by decide +kernel, by decide +kernel⟩, by decide +kernel⟩
abbrev kw_X0_init : Cond := .code yX0_init cX0_init 5 none
theorem cd_X0_init : kw_X0_init ∈ tw := tw_in 445 (by decide +kernel) (by decide +kernel)
theorem md_X0_init : MD yX0_init kw_X0_init 4 := ⟨cd_X0_init, ini_X0, ⟨by decide +kernel, by decide +kernel⟩, by decide +kernel⟩
abbrev kw_L_pages : Cond := .codeWith yL_pages cL_pages 4 (Option.some FieldType.int) [((0 : Nat), (9 : Nat), (12 : Nat), (34 : Nat))]
theorem cd_L_pages : kw_L_pages ∈ tw := tw_in 474 (by decide +kernel) (by decide +kernel)
theorem md_L_pages : MD yL_pages kw_L_pages 3 := ⟨cd_L_pages, ini_L, ⟨by decide +kernel, by decide +kernel⟩, by decide +kernel⟩
abbrev kw_X5_pages : Cond := .code yX5_pages cX5_pages 2 (Option.some FieldType.int)
theorem cd_X5_pages : kw_X5_pages ∈ tw := tw_in 479 (by decide +kernel) (by decide +kernel)
theorem md_X5_pages : MD yX5_pages kw_X5_pages 1 := ⟨cd_X5_pages, ini_X5, ⟨by decide +kernel, by decide +kernel⟩, by decide +kernel⟩
abbrev kw_X5_runAt : Cond := .code yX5_runAt cX5_runAt 2 (Option.some (FieldType.object "PrintKeeper$Run"))
theorem cd_X5_runAt : kw_X5_runAt ∈ tw := tw_in 483 (by decide +kernel) (by decide +kernel)
theorem md_X5_runAt : MD yX5_runAt kw_X5_runAt 1 := ⟨cd_X5_runAt, ini_X5, ⟨by decide +kernel, by decide +kernel⟩, by decide +kernel⟩
abbrev kw_L_twice : Cond := .codeWith yL_twice cL_twice 4 (Option.some FieldType.int) [((0 : Nat), (9 : Nat), (12 : Nat), (34 : Nat))]
theorem cd_L_twice : kw_L_twice ∈ tw := tw_in 502 (by decide +kernel) (by decide +kernel)
theorem md_L_twice : MD yL_twice kw_L_twice 3 := ⟨cd_L_twice, ini_L, ⟨by decide +kernel, by decide +kernel⟩, by decide +kernel⟩
abbrev kw_X5_twice : Cond := .code yX5_twice cX5_twice 4 (Option.some FieldType.int)
theorem cd_X5_twice : kw_X5_twice ∈ tw := tw_in 506 (by decide +kernel) (by decide +kernel)
theorem md_X5_twice : MD yX5_twice kw_X5_twice 1 := ⟨cd_X5_twice, ini_X5, ⟨by decide +kernel, by decide +kernel⟩, by decide +kernel⟩
abbrev kw_X4_isLike : Cond := .code yX4_isLike cX4_isLike 3 (Option.some FieldType.boolean)
theorem cd_X4_isLike : kw_X4_isLike ∈ tw := tw_in 510 (by decide +kernel) (by decide +kernel)
theorem md_X4_isLike : MD yX4_isLike kw_X4_isLike 1 := ⟨cd_X4_isLike, ini_X4, ⟨by decide +kernel, by decide +kernel⟩, by decide +kernel⟩
abbrev kw_X2_hasLinesOf : Cond := .code yX2_hasLinesOf cX2_hasLinesOf 3 (Option.some FieldType.boolean)
theorem cd_X2_hasLinesOf : kw_X2_hasLinesOf ∈ tw := tw_in 517 (by decide +kernel) (by decide +kernel)
theorem md_X2_hasLinesOf : MD yX2_hasLinesOf kw_X2_hasLinesOf 1 := ⟨cd_X2_hasLinesOf, ini_X2, ⟨by decide +kernel, by decide +kernel⟩, by decide +kernel⟩
abbrev kw_L_reprint : Cond := .codeWith yL_reprint cL_reprint 6 (Option.some FieldType.int) [((0 : Nat), (12 : Nat), (15 : Nat), (34 : Nat)), ((0 : Nat), (12 : Nat), (19 : Nat), (13 : Nat))]
theorem cd_L_reprint : kw_L_reprint ∈ tw := tw_in 521 (by decide +kernel) (by decide +kernel)
theorem md_L_reprint : MD yL_reprint kw_L_reprint 5 := ⟨cd_L_reprint, ini_L, ⟨by decide +kernel, by decide +kernel⟩, by decide +kernel⟩
abbrev kw_X5_reprint : Cond := .code yX5_reprint cX5_reprint 7 (Option.some FieldType.int)
theorem cd_X5_reprint : kw_X5_reprint ∈ tw := tw_in 525 (by decide +kernel) (by decide +kernel)
theorem md_X5_reprint : MD yX5_reprint kw_X5_reprint 3 := ⟨cd_X5_reprint, ini_X5, ⟨by decide +kernel, by decide +kernel⟩, by decide +kernel⟩
abbrev kw_X5_demandPage : Cond := .code yX5_demandPage cX5_demandPage 2 none
theorem cd_X5_demandPage : kw_X5_demandPage ∈ tw := tw_in 528 (by decide +kernel) (by decide +kernel)
theorem md_X5_demandPage : MD yX5_demandPage kw_X5_demandPage 2 := ⟨cd_X5_demandPage, ini_X5, ⟨by decide +kernel, by decide +kernel⟩, by decide +kernel⟩
abbrev kw_L_copies : Cond := .codeWith yL_copies cL_copies 5 (Option.some FieldType.int) [((0 : Nat), (10 : Nat), (13 : Nat), (34 : Nat))]
theorem cd_L_copies : kw_L_copies ∈ tw := tw_in 532 (by decide +kernel) (by decide +kernel)
theorem md_L_copies : MD yL_copies kw_L_copies 4 := ⟨cd_L_copies, ini_L, ⟨by decide +kernel, by decide +kernel⟩, by decide +kernel⟩
abbrev kw_X5_copies : Cond := .code yX5_copies cX5_copies 3 (Option.some FieldType.int)
theorem cd_X5_copies : kw_X5_copies ∈ tw := tw_in 536 (by decide +kernel) (by decide +kernel)
theorem md_X5_copies : MD yX5_copies kw_X5_copies 2 := ⟨cd_X5_copies, ini_X5, ⟨by decide +kernel, by decide +kernel⟩, by decide +kernel⟩
abbrev kw_X5_pageAt : Cond := .code yX5_pageAt cX5_pageAt 2 (Option.some (FieldType.object "PrintKeeper$Page"))
theorem cd_X5_pageAt : kw_X5_pageAt ∈ tw := tw_in 539 (by decide +kernel) (by decide +kernel)
theorem md_X5_pageAt : MD yX5_pageAt kw_X5_pageAt 2 := ⟨cd_X5_pageAt, ini_X5, ⟨by decide +kernel, by decide +kernel⟩, by decide +kernel⟩
abbrev kw_L_isThere : Cond := .codeWith yL_isThere cL_isThere 4 (Option.some FieldType.int) [((0 : Nat), (16 : Nat), (19 : Nat), (34 : Nat))]
theorem cd_L_isThere : kw_L_isThere ∈ tw := tw_in 542 (by decide +kernel) (by decide +kernel)
theorem md_L_isThere : MD yL_isThere kw_L_isThere 3 := ⟨cd_L_isThere, ini_L, ⟨by decide +kernel, by decide +kernel⟩, by decide +kernel⟩
abbrev kw_X5_isThere : Cond := .code yX5_isThere cX5_isThere 2 (Option.some FieldType.boolean)
theorem cd_X5_isThere : kw_X5_isThere ∈ tw := tw_in 546 (by decide +kernel) (by decide +kernel)
theorem md_X5_isThere : MD yX5_isThere kw_X5_isThere 1 := ⟨cd_X5_isThere, ini_X5, ⟨by decide +kernel, by decide +kernel⟩, by decide +kernel⟩
abbrev kw_X5_documentAt : Cond := .code yX5_documentAt cX5_documentAt 2 (Option.some (FieldType.object "PrintKeeper$Document"))
theorem cd_X5_documentAt : kw_X5_documentAt ∈ tw := tw_in 550 (by decide +kernel) (by decide +kernel)
theorem md_X5_documentAt : MD yX5_documentAt kw_X5_documentAt 1 := ⟨cd_X5_documentAt, ini_X5, ⟨by decide +kernel, by decide +kernel⟩, by decide +kernel⟩
abbrev kw_L_account : Cond := .codeWith yL_account cL_account 4 (Option.some FieldType.int) [((0 : Nat), (9 : Nat), (12 : Nat), (34 : Nat))]
theorem cd_L_account : kw_L_account ∈ tw := tw_in 554 (by decide +kernel) (by decide +kernel)
theorem md_L_account : MD yL_account kw_L_account 3 := ⟨cd_L_account, ini_L, ⟨by decide +kernel, by decide +kernel⟩, by decide +kernel⟩
abbrev kw_X5_account : Cond := .code yX5_account cX5_account 2 (Option.some FieldType.int)
theorem cd_X5_account : kw_X5_account ∈ tw := tw_in 558 (by decide +kernel) (by decide +kernel)
theorem md_X5_account : MD yX5_account kw_X5_account 1 := ⟨cd_X5_account, ini_X5, ⟨by decide +kernel, by decide +kernel⟩, by decide +kernel⟩
abbrev kw_L_kind : Cond := .codeWith yL_kind cL_kind 4 (Option.some FieldType.int) [((0 : Nat), (9 : Nat), (12 : Nat), (34 : Nat))]
theorem cd_L_kind : kw_L_kind ∈ tw := tw_in 561 (by decide +kernel) (by decide +kernel)
theorem md_L_kind : MD yL_kind kw_L_kind 3 := ⟨cd_L_kind, ini_L, ⟨by decide +kernel, by decide +kernel⟩, by decide +kernel⟩
abbrev kw_X5_kind : Cond := .code yX5_kind cX5_kind 2 (Option.some FieldType.int)
theorem cd_X5_kind : kw_X5_kind ∈ tw := tw_in 565 (by decide +kernel) (by decide +kernel)
theorem md_X5_kind : MD yX5_kind kw_X5_kind 1 := ⟨cd_X5_kind, ini_X5, ⟨by decide +kernel, by decide +kernel⟩, by decide +kernel⟩
abbrev kw_L_length : Cond := .codeWith yL_length cL_length 4 (Option.some FieldType.int) [((0 : Nat), (9 : Nat), (12 : Nat), (34 : Nat))]
theorem cd_L_length : kw_L_length ∈ tw := tw_in 568 (by decide +kernel) (by decide +kernel)
theorem md_L_length : MD yL_length kw_L_length 3 := ⟨cd_L_length, ini_L, ⟨by decide +kernel, by decide +kernel⟩, by decide +kernel⟩
abbrev kw_X5_length : Cond := .code yX5_length cX5_length 2 (Option.some FieldType.int)
theorem cd_X5_length : kw_X5_length ∈ tw := tw_in 572 (by decide +kernel) (by decide +kernel)
theorem md_X5_length : MD yX5_length kw_X5_length 1 := ⟨cd_X5_length, ini_X5, ⟨by decide +kernel, by decide +kernel⟩, by decide +kernel⟩
abbrev kw_L_found : Cond := .codeWith yL_found cL_found 8 (Option.some FieldType.int) [((0 : Nat), (16 : Nat), (19 : Nat), (13 : Nat)), ((0 : Nat), (16 : Nat), (23 : Nat), (34 : Nat))]
theorem cd_L_found : kw_L_found ∈ tw := tw_in 575 (by decide +kernel) (by decide +kernel)
theorem md_L_found : MD yL_found kw_L_found 7 := ⟨cd_L_found, ini_L, ⟨by decide +kernel, by decide +kernel⟩, by decide +kernel⟩
abbrev kw_X5_found : Cond := .code yX5_found cX5_found 10 (Option.some FieldType.int)
theorem cd_X5_found : kw_X5_found ∈ tw := tw_in 579 (by decide +kernel) (by decide +kernel)
theorem md_X5_found : MD yX5_found kw_X5_found 5 := ⟨cd_X5_found, ini_X5, ⟨by decide +kernel, by decide +kernel⟩, by decide +kernel⟩
abbrev kw_X5_readerAt : Cond := .code yX5_readerAt cX5_readerAt 2 (Option.some (FieldType.object "PrintKeeper$Reader"))
theorem cd_X5_readerAt : kw_X5_readerAt ∈ tw := tw_in 583 (by decide +kernel) (by decide +kernel)
theorem md_X5_readerAt : MD yX5_readerAt kw_X5_readerAt 1 := ⟨cd_X5_readerAt, ini_X5, ⟨by decide +kernel, by decide +kernel⟩, by decide +kernel⟩
abbrev kw_X3_sees : Cond := .code yX3_sees cX3_sees 2 (Option.some FieldType.boolean)
theorem cd_X3_sees : kw_X3_sees ∈ tw := tw_in 588 (by decide +kernel) (by decide +kernel)
theorem md_X3_sees : MD yX3_sees kw_X3_sees 1 := ⟨cd_X3_sees, ini_X3, ⟨by decide +kernel, by decide +kernel⟩, by decide +kernel⟩
abbrev kw_X0_fits : Cond := .code yX0_fits cX0_fits 4 (Option.some FieldType.boolean)
theorem cd_X0_fits : kw_X0_fits ∈ tw := tw_in 592 (by decide +kernel) (by decide +kernel)
theorem md_X0_fits : MD yX0_fits kw_X0_fits 3 := ⟨cd_X0_fits, ini_X0, ⟨by decide +kernel, by decide +kernel⟩, by decide +kernel⟩
abbrev kw_L_read : Cond := .codeWith yL_read cL_read 7 (Option.some FieldType.int) [((0 : Nat), (14 : Nat), (17 : Nat), (13 : Nat)), ((0 : Nat), (14 : Nat), (21 : Nat), (34 : Nat)), ((0 : Nat), (14 : Nat), (25 : Nat), (67 : Nat))]
theorem cd_L_read : kw_L_read ∈ tw := tw_in 596 (by decide +kernel) (by decide +kernel)
theorem md_L_read : MD yL_read kw_L_read 6 := ⟨cd_L_read, ini_L, ⟨by decide +kernel, by decide +kernel⟩, by decide +kernel⟩
abbrev kw_X5_read : Cond := .code yX5_read cX5_read 8 (Option.some FieldType.int)
theorem cd_X5_read : kw_X5_read ∈ tw := tw_in 601 (by decide +kernel) (by decide +kernel)
theorem md_X5_read : MD yX5_read kw_X5_read 4 := ⟨cd_X5_read, ini_X5, ⟨by decide +kernel, by decide +kernel⟩, by decide +kernel⟩
abbrev kw_X5_pageOf : Cond := .code yX5_pageOf cX5_pageOf 2 (Option.some (FieldType.object "PrintKeeper$Page"))
theorem cd_X5_pageOf : kw_X5_pageOf ∈ tw := tw_in 604 (by decide +kernel) (by decide +kernel)
theorem md_X5_pageOf : MD yX5_pageOf kw_X5_pageOf 2 := ⟨cd_X5_pageOf, ini_X5, ⟨by decide +kernel, by decide +kernel⟩, by decide +kernel⟩
abbrev kw_L_view : Cond := .codeWith yL_view cL_view 6 (Option.some FieldType.int) [((0 : Nat), (9 : Nat), (12 : Nat), (13 : Nat))]
theorem cd_L_view : kw_L_view ∈ tw := tw_in 624 (by decide +kernel) (by decide +kernel)
theorem md_L_view : MD yL_view kw_L_view 5 := ⟨cd_L_view, ini_L, ⟨by decide +kernel, by decide +kernel⟩, by decide +kernel⟩
abbrev kw_X5_view : Cond := .code yX5_view cX5_view 6 none
theorem cd_X5_view : kw_X5_view ∈ tw := tw_in 628 (by decide +kernel) (by decide +kernel)
theorem md_X5_view : MD yX5_view kw_X5_view 4 := ⟨cd_X5_view, ini_X5, ⟨by decide +kernel, by decide +kernel⟩, by decide +kernel⟩
abbrev kw_L_span : Cond := .codeWith yL_span cL_span 5 (Option.some FieldType.int) [((0 : Nat), (10 : Nat), (13 : Nat), (13 : Nat))]
theorem cd_L_span : kw_L_span ∈ tw := tw_in 631 (by decide +kernel) (by decide +kernel)
theorem md_L_span : MD yL_span kw_L_span 4 := ⟨cd_L_span, ini_L, ⟨by decide +kernel, by decide +kernel⟩, by decide +kernel⟩
abbrev kw_X5_span : Cond := .code yX5_span cX5_span 4 (Option.some FieldType.int)
theorem cd_X5_span : kw_X5_span ∈ tw := tw_in 635 (by decide +kernel) (by decide +kernel)
theorem md_X5_span : MD yX5_span kw_X5_span 2 := ⟨cd_X5_span, ini_X5, ⟨by decide +kernel, by decide +kernel⟩, by decide +kernel⟩
abbrev kw_L_hold : Cond := .codeWith yL_hold cL_hold 5 (Option.some FieldType.int) [((0 : Nat), (17 : Nat), (20 : Nat), (13 : Nat))]
theorem cd_L_hold : kw_L_hold ∈ tw := tw_in 639 (by decide +kernel) (by decide +kernel)
theorem md_L_hold : MD yL_hold kw_L_hold 4 := ⟨cd_L_hold, ini_L, ⟨by decide +kernel, by decide +kernel⟩, by decide +kernel⟩
abbrev kw_X5_hold : Cond := .code yX5_hold cX5_hold 4 (Option.some FieldType.boolean)
theorem cd_X5_hold : kw_X5_hold ∈ tw := tw_in 643 (by decide +kernel) (by decide +kernel)
theorem md_X5_hold : MD yX5_hold kw_X5_hold 2 := ⟨cd_X5_hold, ini_X5, ⟨by decide +kernel, by decide +kernel⟩, by decide +kernel⟩
abbrev kw_L_bundle : Cond := .codeWith yL_bundle cL_bundle 5 (Option.some FieldType.int) [((0 : Nat), (10 : Nat), (13 : Nat), (13 : Nat))]
theorem cd_L_bundle : kw_L_bundle ∈ tw := tw_in 647 (by decide +kernel) (by decide +kernel)
theorem md_L_bundle : MD yL_bundle kw_L_bundle 4 := ⟨cd_L_bundle, ini_L, ⟨by decide +kernel, by decide +kernel⟩, by decide +kernel⟩
abbrev kw_X5_bundle : Cond := .code yX5_bundle cX5_bundle 7 (Option.some FieldType.int)
theorem cd_X5_bundle : kw_X5_bundle ∈ tw := tw_in 651 (by decide +kernel) (by decide +kernel)
theorem md_X5_bundle : MD yX5_bundle kw_X5_bundle 2 := ⟨cd_X5_bundle, ini_X5, ⟨by decide +kernel, by decide +kernel⟩, by decide +kernel⟩
abbrev kw_X6_init : Cond := .code yX6_init cX6_init 1 none
theorem cd_X6_init : kw_X6_init ∈ tw := tw_in 656 (by decide +kernel) (by decide +kernel)
theorem md_X6_init : MD yX6_init kw_X6_init 0 := ⟨cd_X6_init, ini_X6, ⟨by decide +kernel, by decide +kernel⟩, by decide +kernel⟩
abbrev kw_X6_thrown : Cond := .code yX6_thrown cX6_thrown 1 (Option.some FieldType.int)
theorem cd_X6_thrown : kw_X6_thrown ∈ tw := tw_in 749 (by decide +kernel) (by decide +kernel)
theorem md_X6_thrown : MD yX6_thrown kw_X6_thrown 0 := ⟨cd_X6_thrown, ini_X6, ⟨by decide +kernel, by decide +kernel⟩, by decide +kernel⟩
abbrev kw_X6_pass : Cond := .code yX6_pass cX6_pass 2 (Option.some FieldType.int)
theorem cd_X6_pass : kw_X6_pass ∈ tw := tw_in 753 (by decide +kernel) (by decide +kernel)
theorem md_X6_pass : MD yX6_pass kw_X6_pass 1 := ⟨cd_X6_pass, ini_X6, ⟨by decide +kernel, by decide +kernel⟩, by decide +kernel⟩
abbrev kw_X6_in : Cond := .code yX6_in cX6_in 3 (Option.some FieldType.boolean)
theorem cd_X6_in : kw_X6_in ∈ tw := tw_in 756 (by decide +kernel) (by decide +kernel)
theorem md_X6_in : MD yX6_in kw_X6_in 3 := ⟨cd_X6_in, ini_X6, ⟨by decide +kernel, by decide +kernel⟩, by decide +kernel⟩
abbrev kw_X6_format : Cond := .code yX6_format cX6_format 5 (Option.some FieldType.int)
theorem cd_X6_format : kw_X6_format ∈ tw := tw_in 760 (by decide +kernel) (by decide +kernel)
theorem md_X6_format : MD yX6_format kw_X6_format 3 := ⟨cd_X6_format, ini_X6, ⟨by decide +kernel, by decide +kernel⟩, by decide +kernel⟩
abbrev kw_X6_line : Cond := .code yX6_line cX6_line 2 (Option.some FieldType.int)
theorem cd_X6_line : kw_X6_line ∈ tw := tw_in 764 (by decide +kernel) (by decide +kernel)
theorem md_X6_line : MD yX6_line kw_X6_line 1 := ⟨cd_X6_line, ini_X6, ⟨by decide +kernel, by decide +kernel⟩, by decide +kernel⟩
abbrev kw_X6_feed : Cond := .code yX6_feed cX6_feed 1 (Option.some FieldType.int)
theorem cd_X6_feed : kw_X6_feed ∈ tw := tw_in 768 (by decide +kernel) (by decide +kernel)
theorem md_X6_feed : MD yX6_feed kw_X6_feed 0 := ⟨cd_X6_feed, ini_X6, ⟨by decide +kernel, by decide +kernel⟩, by decide +kernel⟩
abbrev kw_X6_endsPage : Cond := .code yX6_endsPage cX6_endsPage 3 none
theorem cd_X6_endsPage : kw_X6_endsPage ∈ tw := tw_in 772 (by decide +kernel) (by decide +kernel)
theorem md_X6_endsPage : MD yX6_endsPage kw_X6_endsPage 0 := ⟨cd_X6_endsPage, ini_X6, ⟨by decide +kernel, by decide +kernel⟩, by decide +kernel⟩
abbrev kw_X6_end : Cond := .code yX6_end cX6_end 2 (Option.some FieldType.int)
theorem cd_X6_end : kw_X6_end ∈ tw := tw_in 776 (by decide +kernel) (by decide +kernel)
theorem md_X6_end : MD yX6_end kw_X6_end 0 := ⟨cd_X6_end, ini_X6, ⟨by decide +kernel, by decide +kernel⟩, by decide +kernel⟩
abbrev kw_X6_putsTogether : Cond := .code yX6_putsTogether cX6_putsTogether 6 none
theorem cd_X6_putsTogether : kw_X6_putsTogether ∈ tw := tw_in 780 (by decide +kernel) (by decide +kernel)
theorem md_X6_putsTogether : MD yX6_putsTogether kw_X6_putsTogether 0 := ⟨cd_X6_putsTogether, ini_X6, ⟨by decide +kernel, by decide +kernel⟩, by decide +kernel⟩
abbrev kw_X6_formatNow : Cond := .code yX6_formatNow cX6_formatNow 4 (Option.some FieldType.int)
theorem cd_X6_formatNow : kw_X6_formatNow ∈ tw := tw_in 784 (by decide +kernel) (by decide +kernel)
theorem md_X6_formatNow : MD yX6_formatNow kw_X6_formatNow 0 := ⟨cd_X6_formatNow, ini_X6, ⟨by decide +kernel, by decide +kernel⟩, by decide +kernel⟩
abbrev kw_X6_lineOf : Cond := .code yX6_lineOf cX6_lineOf 3 (Option.some FieldType.int)
theorem cd_X6_lineOf : kw_X6_lineOf ∈ tw := tw_in 788 (by decide +kernel) (by decide +kernel)
theorem md_X6_lineOf : MD yX6_lineOf kw_X6_lineOf 2 := ⟨cd_X6_lineOf, ini_X6, ⟨by decide +kernel, by decide +kernel⟩, by decide +kernel⟩
abbrev kw_X6_begins : Cond := .code yX6_begins cX6_begins 5 none
theorem cd_X6_begins : kw_X6_begins ∈ tw := tw_in 792 (by decide +kernel) (by decide +kernel)
theorem md_X6_begins : MD yX6_begins kw_X6_begins 3 := ⟨cd_X6_begins, ini_X6, ⟨by decide +kernel, by decide +kernel⟩, by decide +kernel⟩
abbrev kw_X6_pages : Cond := .code yX6_pages cX6_pages 2 (Option.some FieldType.int)
theorem cd_X6_pages : kw_X6_pages ∈ tw := tw_in 796 (by decide +kernel) (by decide +kernel)
theorem md_X6_pages : MD yX6_pages kw_X6_pages 1 := ⟨cd_X6_pages, ini_X6, ⟨by decide +kernel, by decide +kernel⟩, by decide +kernel⟩
abbrev kw_X6_isRun : Cond := .code yX6_isRun cX6_isRun 2 (Option.some FieldType.boolean)
theorem cd_X6_isRun : kw_X6_isRun ∈ tw := tw_in 800 (by decide +kernel) (by decide +kernel)
theorem md_X6_isRun : MD yX6_isRun kw_X6_isRun 1 := ⟨cd_X6_isRun, ini_X6, ⟨by decide +kernel, by decide +kernel⟩, by decide +kernel⟩
abbrev kw_X6_twice : Cond := .code yX6_twice cX6_twice 4 (Option.some FieldType.int)
theorem cd_X6_twice : kw_X6_twice ∈ tw := tw_in 804 (by decide +kernel) (by decide +kernel)
theorem md_X6_twice : MD yX6_twice kw_X6_twice 1 := ⟨cd_X6_twice, ini_X6, ⟨by decide +kernel, by decide +kernel⟩, by decide +kernel⟩
abbrev kw_X6_areAlike : Cond := .code yX6_areAlike cX6_areAlike 8 (Option.some FieldType.boolean)
theorem cd_X6_areAlike : kw_X6_areAlike ∈ tw := tw_in 808 (by decide +kernel) (by decide +kernel)
theorem md_X6_areAlike : MD yX6_areAlike kw_X6_areAlike 2 := ⟨cd_X6_areAlike, ini_X6, ⟨by decide +kernel, by decide +kernel⟩, by decide +kernel⟩
abbrev kw_X6_reprint : Cond := .code yX6_reprint cX6_reprint 5 (Option.some FieldType.int)
theorem cd_X6_reprint : kw_X6_reprint ∈ tw := tw_in 812 (by decide +kernel) (by decide +kernel)
theorem md_X6_reprint : MD yX6_reprint kw_X6_reprint 3 := ⟨cd_X6_reprint, ini_X6, ⟨by decide +kernel, by decide +kernel⟩, by decide +kernel⟩
abbrev kw_X6_isPage : Cond := .code yX6_isPage cX6_isPage 3 (Option.some FieldType.boolean)
theorem cd_X6_isPage : kw_X6_isPage ∈ tw := tw_in 816 (by decide +kernel) (by decide +kernel)
theorem md_X6_isPage : MD yX6_isPage kw_X6_isPage 2 := ⟨cd_X6_isPage, ini_X6, ⟨by decide +kernel, by decide +kernel⟩, by decide +kernel⟩
abbrev kw_X6_copies : Cond := .code yX6_copies cX6_copies 3 (Option.some FieldType.int)
theorem cd_X6_copies : kw_X6_copies ∈ tw := tw_in 820 (by decide +kernel) (by decide +kernel)
theorem md_X6_copies : MD yX6_copies kw_X6_copies 2 := ⟨cd_X6_copies, ini_X6, ⟨by decide +kernel, by decide +kernel⟩, by decide +kernel⟩
abbrev kw_X6_documents : Cond := .code yX6_documents cX6_documents 1 (Option.some FieldType.int)
theorem cd_X6_documents : kw_X6_documents ∈ tw := tw_in 824 (by decide +kernel) (by decide +kernel)
theorem md_X6_documents : MD yX6_documents kw_X6_documents 0 := ⟨cd_X6_documents, ini_X6, ⟨by decide +kernel, by decide +kernel⟩, by decide +kernel⟩
abbrev kw_X6_isThere : Cond := .code yX6_isThere cX6_isThere 2 (Option.some FieldType.boolean)
theorem cd_X6_isThere : kw_X6_isThere ∈ tw := tw_in 828 (by decide +kernel) (by decide +kernel)
theorem md_X6_isThere : MD yX6_isThere kw_X6_isThere 1 := ⟨cd_X6_isThere, ini_X6, ⟨by decide +kernel, by decide +kernel⟩, by decide +kernel⟩
abbrev kw_X6_asks : Cond := .code yX6_asks cX6_asks 2 (Option.some FieldType.boolean)
theorem cd_X6_asks : kw_X6_asks ∈ tw := tw_in 832 (by decide +kernel) (by decide +kernel)
theorem md_X6_asks : MD yX6_asks kw_X6_asks 1 := ⟨cd_X6_asks, ini_X6, ⟨by decide +kernel, by decide +kernel⟩, by decide +kernel⟩
abbrev kw_X6_account : Cond := .code yX6_account cX6_account 2 (Option.some FieldType.int)
theorem cd_X6_account : kw_X6_account ∈ tw := tw_in 836 (by decide +kernel) (by decide +kernel)
theorem md_X6_account : MD yX6_account kw_X6_account 1 := ⟨cd_X6_account, ini_X6, ⟨by decide +kernel, by decide +kernel⟩, by decide +kernel⟩
abbrev kw_X6_kind : Cond := .code yX6_kind cX6_kind 2 (Option.some FieldType.int)
theorem cd_X6_kind : kw_X6_kind ∈ tw := tw_in 840 (by decide +kernel) (by decide +kernel)
theorem md_X6_kind : MD yX6_kind kw_X6_kind 1 := ⟨cd_X6_kind, ini_X6, ⟨by decide +kernel, by decide +kernel⟩, by decide +kernel⟩
abbrev kw_X6_length : Cond := .code yX6_length cX6_length 2 (Option.some FieldType.int)
theorem cd_X6_length : kw_X6_length ∈ tw := tw_in 844 (by decide +kernel) (by decide +kernel)
theorem md_X6_length : MD yX6_length kw_X6_length 1 := ⟨cd_X6_length, ini_X6, ⟨by decide +kernel, by decide +kernel⟩, by decide +kernel⟩
abbrev kw_X6_found : Cond := .code yX6_found cX6_found 11 (Option.some FieldType.int)
theorem cd_X6_found : kw_X6_found ∈ tw := tw_in 848 (by decide +kernel) (by decide +kernel)
theorem md_X6_found : MD yX6_found kw_X6_found 5 := ⟨cd_X6_found, ini_X6, ⟨by decide +kernel, by decide +kernel⟩, by decide +kernel⟩
abbrev kw_X6_isReader : Cond := .code yX6_isReader cX6_isReader 1 (Option.some FieldType.boolean)
theorem cd_X6_isReader : kw_X6_isReader ∈ tw := tw_in 851 (by decide +kernel) (by decide +kernel)
theorem md_X6_isReader : MD yX6_isReader kw_X6_isReader 1 := ⟨cd_X6_isReader, ini_X6, ⟨by decide +kernel, by decide +kernel⟩, by decide +kernel⟩
abbrev kw_X6_sees : Cond := .code yX6_sees cX6_sees 4 (Option.some FieldType.boolean)
theorem cd_X6_sees : kw_X6_sees ∈ tw := tw_in 855 (by decide +kernel) (by decide +kernel)
theorem md_X6_sees : MD yX6_sees kw_X6_sees 2 := ⟨cd_X6_sees, ini_X6, ⟨by decide +kernel, by decide +kernel⟩, by decide +kernel⟩
abbrev kw_X6_read : Cond := .code yX6_read cX6_read 6 (Option.some FieldType.int)
theorem cd_X6_read : kw_X6_read ∈ tw := tw_in 859 (by decide +kernel) (by decide +kernel)
theorem md_X6_read : MD yX6_read kw_X6_read 4 := ⟨cd_X6_read, ini_X6, ⟨by decide +kernel, by decide +kernel⟩, by decide +kernel⟩
abbrev kw_X6_view : Cond := .code yX6_view cX6_view 6 none
theorem cd_X6_view : kw_X6_view ∈ tw := tw_in 863 (by decide +kernel) (by decide +kernel)
theorem md_X6_view : MD yX6_view kw_X6_view 4 := ⟨cd_X6_view, ini_X6, ⟨by decide +kernel, by decide +kernel⟩, by decide +kernel⟩
abbrev kw_X6_span : Cond := .code yX6_span cX6_span 4 (Option.some FieldType.int)
theorem cd_X6_span : kw_X6_span ∈ tw := tw_in 867 (by decide +kernel) (by decide +kernel)
theorem md_X6_span : MD yX6_span kw_X6_span 2 := ⟨cd_X6_span, ini_X6, ⟨by decide +kernel, by decide +kernel⟩, by decide +kernel⟩
abbrev kw_X6_hold : Cond := .code yX6_hold cX6_hold 4 (Option.some FieldType.boolean)
theorem cd_X6_hold : kw_X6_hold ∈ tw := tw_in 871 (by decide +kernel) (by decide +kernel)
theorem md_X6_hold : MD yX6_hold kw_X6_hold 2 := ⟨cd_X6_hold, ini_X6, ⟨by decide +kernel, by decide +kernel⟩, by decide +kernel⟩
abbrev kw_X6_clear : Cond := .code yX6_clear cX6_clear 4 (Option.some FieldType.int)
theorem cd_X6_clear : kw_X6_clear ∈ tw := tw_in 875 (by decide +kernel) (by decide +kernel)
theorem md_X6_clear : MD yX6_clear kw_X6_clear 0 := ⟨cd_X6_clear, ini_X6, ⟨by decide +kernel, by decide +kernel⟩, by decide +kernel⟩
abbrev kw_X6_bundle : Cond := .code yX6_bundle cX6_bundle 5 (Option.some FieldType.int)
theorem cd_X6_bundle : kw_X6_bundle ∈ tw := tw_in 879 (by decide +kernel) (by decide +kernel)
theorem md_X6_bundle : MD yX6_bundle kw_X6_bundle 2 := ⟨cd_X6_bundle, ini_X6, ⟨by decide +kernel, by decide +kernel⟩, by decide +kernel⟩
theorem im_X5_init : Cond.instanceMethod yX5_init ∈ tw := tw_in 27 (by decide +kernel) (by decide +kernel)
theorem im_oi : Cond.instanceMethod Lib.objectInit ∈ tw := tw_in 30 (by decide +kernel) (by decide +kernel)
theorem im_X1_init : Cond.instanceMethod yX1_init ∈ tw := tw_in 35 (by decide +kernel) (by decide +kernel)
theorem im_Jx4a65c_init_da8c8 : Cond.instanceMethod yJx4a65c_init_da8c8 ∈ tw := tw_in 54 (by decide +kernel) (by decide +kernel)
theorem im_Jxc12de_init_da8c8 : Cond.instanceMethod yJxc12de_init_da8c8 ∈ tw := tw_in 57 (by decide +kernel) (by decide +kernel)
theorem im_Jxa1e45_init_da8c8 : Cond.instanceMethod yJxa1e45_init_da8c8 ∈ tw := tw_in 60 (by decide +kernel) (by decide +kernel)
theorem im_X4_init : Cond.instanceMethod yX4_init ∈ tw := tw_in 80 (by decide +kernel) (by decide +kernel)
theorem im_X2_init : Cond.instanceMethod yX2_init ∈ tw := tw_in 98 (by decide +kernel) (by decide +kernel)
theorem im_X3_init : Cond.instanceMethod yX3_init ∈ tw := tw_in 117 (by decide +kernel) (by decide +kernel)
theorem im_Jx4a65c_add_9ea2d : Cond.instanceMethod yJx4a65c_add_9ea2d ∈ tw := tw_in 138 (by decide +kernel) (by decide +kernel)
theorem im_Jx4a65c_add_72be8 : Cond.instanceMethod yJx4a65c_add_72be8 ∈ tw := tw_in 143 (by decide +kernel) (by decide +kernel)
theorem im_Jx4a65c_grow_d5877 : Cond.instanceMethod yJx4a65c_grow_d5877 ∈ tw := tw_in 147 (by decide +kernel) (by decide +kernel)
theorem im_Jx4a65c_grow_92f84 : Cond.instanceMethod yJx4a65c_grow_92f84 ∈ tw := tw_in 151 (by decide +kernel) (by decide +kernel)
theorem im_X5_documents : Cond.instanceMethod yX5_documents ∈ tw := tw_in 234 (by decide +kernel) (by decide +kernel)
theorem im_Jx4a65c_size_8abf5 : Cond.instanceMethod yJx4a65c_size_8abf5 ∈ tw := tw_in 238 (by decide +kernel) (by decide +kernel)
theorem im_X5_clear : Cond.instanceMethod yX5_clear ∈ tw := tw_in 242 (by decide +kernel) (by decide +kernel)
theorem im_Jx4a65c_get_915e3 : Cond.instanceMethod yJx4a65c_get_915e3 ∈ tw := tw_in 246 (by decide +kernel) (by decide +kernel)
theorem im_Jx4a65c_elementData_915e3 : Cond.instanceMethod yJx4a65c_elementData_915e3 ∈ tw := tw_in 256 (by decide +kernel) (by decide +kernel)
theorem im_X5_isOver : Cond.instanceMethod yX5_isOver ∈ tw := tw_in 262 (by decide +kernel) (by decide +kernel)
theorem im_X5_isKind : Cond.instanceMethod yX5_isKind ∈ tw := tw_in 266 (by decide +kernel) (by decide +kernel)
theorem im_X5_isHeld : Cond.instanceMethod yX5_isHeld ∈ tw := tw_in 270 (by decide +kernel) (by decide +kernel)
theorem im_X5_isAccount : Cond.instanceMethod yX5_isAccount ∈ tw := tw_in 274 (by decide +kernel) (by decide +kernel)
theorem im_X5_pass : Cond.instanceMethod yX5_pass ∈ tw := tw_in 282 (by decide +kernel) (by decide +kernel)
theorem im_X5_format : Cond.instanceMethod yX5_format ∈ tw := tw_in 377 (by decide +kernel) (by decide +kernel)
theorem im_X5_line : Cond.instanceMethod yX5_line ∈ tw := tw_in 385 (by decide +kernel) (by decide +kernel)
theorem im_X2_put : Cond.instanceMethod yX2_put ∈ tw := tw_in 390 (by decide +kernel) (by decide +kernel)
theorem im_X5_feed : Cond.instanceMethod yX5_feed ∈ tw := tw_in 397 (by decide +kernel) (by decide +kernel)
theorem im_X5_closePage : Cond.instanceMethod yX5_closePage ∈ tw := tw_in 403 (by decide +kernel) (by decide +kernel)
theorem im_X5_end : Cond.instanceMethod yX5_end ∈ tw := tw_in 409 (by decide +kernel) (by decide +kernel)
theorem im_X2_isEmpty : Cond.instanceMethod yX2_isEmpty ∈ tw := tw_in 414 (by decide +kernel) (by decide +kernel)
theorem im_X5_keepOpenRun : Cond.instanceMethod yX5_keepOpenRun ∈ tw := tw_in 420 (by decide +kernel) (by decide +kernel)
theorem im_X5_putTogether : Cond.instanceMethod yX5_putTogether ∈ tw := tw_in 424 (by decide +kernel) (by decide +kernel)
theorem im_X5_formatOn : Cond.instanceMethod yX5_formatOn ∈ tw := tw_in 428 (by decide +kernel) (by decide +kernel)
theorem im_X2_valueAt : Cond.instanceMethod yX2_valueAt ∈ tw := tw_in 432 (by decide +kernel) (by decide +kernel)
theorem im_X2_has : Cond.instanceMethod yX2_has ∈ tw := tw_in 436 (by decide +kernel) (by decide +kernel)
theorem im_X0_init : Cond.instanceMethod yX0_init ∈ tw := tw_in 444 (by decide +kernel) (by decide +kernel)
theorem im_X5_pages : Cond.instanceMethod yX5_pages ∈ tw := tw_in 477 (by decide +kernel) (by decide +kernel)
theorem im_X5_runAt : Cond.instanceMethod yX5_runAt ∈ tw := tw_in 482 (by decide +kernel) (by decide +kernel)
theorem im_X5_twice : Cond.instanceMethod yX5_twice ∈ tw := tw_in 504 (by decide +kernel) (by decide +kernel)
theorem im_X4_isLike : Cond.instanceMethod yX4_isLike ∈ tw := tw_in 509 (by decide +kernel) (by decide +kernel)
theorem im_X2_hasLinesOf : Cond.instanceMethod yX2_hasLinesOf ∈ tw := tw_in 516 (by decide +kernel) (by decide +kernel)
theorem im_X5_reprint : Cond.instanceMethod yX5_reprint ∈ tw := tw_in 523 (by decide +kernel) (by decide +kernel)
theorem im_X5_copies : Cond.instanceMethod yX5_copies ∈ tw := tw_in 534 (by decide +kernel) (by decide +kernel)
theorem im_X5_isThere : Cond.instanceMethod yX5_isThere ∈ tw := tw_in 544 (by decide +kernel) (by decide +kernel)
theorem im_X5_documentAt : Cond.instanceMethod yX5_documentAt ∈ tw := tw_in 549 (by decide +kernel) (by decide +kernel)
theorem im_X5_account : Cond.instanceMethod yX5_account ∈ tw := tw_in 556 (by decide +kernel) (by decide +kernel)
theorem im_X5_kind : Cond.instanceMethod yX5_kind ∈ tw := tw_in 563 (by decide +kernel) (by decide +kernel)
theorem im_X5_length : Cond.instanceMethod yX5_length ∈ tw := tw_in 570 (by decide +kernel) (by decide +kernel)
theorem im_X5_found : Cond.instanceMethod yX5_found ∈ tw := tw_in 577 (by decide +kernel) (by decide +kernel)
theorem im_X5_readerAt : Cond.instanceMethod yX5_readerAt ∈ tw := tw_in 582 (by decide +kernel) (by decide +kernel)
theorem im_X3_sees : Cond.instanceMethod yX3_sees ∈ tw := tw_in 587 (by decide +kernel) (by decide +kernel)
theorem im_X0_fits : Cond.instanceMethod yX0_fits ∈ tw := tw_in 591 (by decide +kernel) (by decide +kernel)
theorem im_X5_read : Cond.instanceMethod yX5_read ∈ tw := tw_in 599 (by decide +kernel) (by decide +kernel)
theorem im_X5_view : Cond.instanceMethod yX5_view ∈ tw := tw_in 626 (by decide +kernel) (by decide +kernel)
theorem im_X5_span : Cond.instanceMethod yX5_span ∈ tw := tw_in 633 (by decide +kernel) (by decide +kernel)
theorem im_X5_hold : Cond.instanceMethod yX5_hold ∈ tw := tw_in 641 (by decide +kernel) (by decide +kernel)
theorem im_X5_bundle : Cond.instanceMethod yX5_bundle ∈ tw := tw_in 649 (by decide +kernel) (by decide +kernel)
theorem im_X6_init : Cond.instanceMethod yX6_init ∈ tw := tw_in 655 (by decide +kernel) (by decide +kernel)
theorem im_X6_thrown : Cond.instanceMethod yX6_thrown ∈ tw := tw_in 747 (by decide +kernel) (by decide +kernel)
theorem im_X6_pass : Cond.instanceMethod yX6_pass ∈ tw := tw_in 751 (by decide +kernel) (by decide +kernel)
theorem im_X6_format : Cond.instanceMethod yX6_format ∈ tw := tw_in 758 (by decide +kernel) (by decide +kernel)
theorem im_X6_line : Cond.instanceMethod yX6_line ∈ tw := tw_in 762 (by decide +kernel) (by decide +kernel)
theorem im_X6_feed : Cond.instanceMethod yX6_feed ∈ tw := tw_in 766 (by decide +kernel) (by decide +kernel)
theorem im_X6_endsPage : Cond.instanceMethod yX6_endsPage ∈ tw := tw_in 771 (by decide +kernel) (by decide +kernel)
theorem im_X6_end : Cond.instanceMethod yX6_end ∈ tw := tw_in 774 (by decide +kernel) (by decide +kernel)
theorem im_X6_putsTogether : Cond.instanceMethod yX6_putsTogether ∈ tw := tw_in 779 (by decide +kernel) (by decide +kernel)
theorem im_X6_formatNow : Cond.instanceMethod yX6_formatNow ∈ tw := tw_in 783 (by decide +kernel) (by decide +kernel)
theorem im_X6_lineOf : Cond.instanceMethod yX6_lineOf ∈ tw := tw_in 787 (by decide +kernel) (by decide +kernel)
theorem im_X6_begins : Cond.instanceMethod yX6_begins ∈ tw := tw_in 791 (by decide +kernel) (by decide +kernel)
theorem im_X6_pages : Cond.instanceMethod yX6_pages ∈ tw := tw_in 794 (by decide +kernel) (by decide +kernel)
theorem im_X6_isRun : Cond.instanceMethod yX6_isRun ∈ tw := tw_in 799 (by decide +kernel) (by decide +kernel)
theorem im_X6_twice : Cond.instanceMethod yX6_twice ∈ tw := tw_in 802 (by decide +kernel) (by decide +kernel)
theorem im_X6_areAlike : Cond.instanceMethod yX6_areAlike ∈ tw := tw_in 807 (by decide +kernel) (by decide +kernel)
theorem im_X6_reprint : Cond.instanceMethod yX6_reprint ∈ tw := tw_in 810 (by decide +kernel) (by decide +kernel)
theorem im_X6_isPage : Cond.instanceMethod yX6_isPage ∈ tw := tw_in 815 (by decide +kernel) (by decide +kernel)
theorem im_X6_copies : Cond.instanceMethod yX6_copies ∈ tw := tw_in 818 (by decide +kernel) (by decide +kernel)
theorem im_X6_documents : Cond.instanceMethod yX6_documents ∈ tw := tw_in 822 (by decide +kernel) (by decide +kernel)
theorem im_X6_isThere : Cond.instanceMethod yX6_isThere ∈ tw := tw_in 826 (by decide +kernel) (by decide +kernel)
theorem im_X6_asks : Cond.instanceMethod yX6_asks ∈ tw := tw_in 831 (by decide +kernel) (by decide +kernel)
theorem im_X6_account : Cond.instanceMethod yX6_account ∈ tw := tw_in 834 (by decide +kernel) (by decide +kernel)
theorem im_X6_kind : Cond.instanceMethod yX6_kind ∈ tw := tw_in 838 (by decide +kernel) (by decide +kernel)
theorem im_X6_length : Cond.instanceMethod yX6_length ∈ tw := tw_in 842 (by decide +kernel) (by decide +kernel)
theorem im_X6_found : Cond.instanceMethod yX6_found ∈ tw := tw_in 846 (by decide +kernel) (by decide +kernel)
theorem im_X6_sees : Cond.instanceMethod yX6_sees ∈ tw := tw_in 854 (by decide +kernel) (by decide +kernel)
theorem im_X6_read : Cond.instanceMethod yX6_read ∈ tw := tw_in 857 (by decide +kernel) (by decide +kernel)
theorem im_X6_view : Cond.instanceMethod yX6_view ∈ tw := tw_in 861 (by decide +kernel) (by decide +kernel)
theorem im_X6_span : Cond.instanceMethod yX6_span ∈ tw := tw_in 865 (by decide +kernel) (by decide +kernel)
theorem im_X6_hold : Cond.instanceMethod yX6_hold ∈ tw := tw_in 869 (by decide +kernel) (by decide +kernel)
theorem im_X6_clear : Cond.instanceMethod yX6_clear ∈ tw := tw_in 873 (by decide +kernel) (by decide +kernel)
theorem im_X6_bundle : Cond.instanceMethod yX6_bundle ∈ tw := tw_in 877 (by decide +kernel) (by decide +kernel)
theorem st_J8_newLength_cabcc : Cond.static yJ8_newLength_cabcc ∈ tw := tw_in 154 (by decide +kernel) (by decide +kernel)
theorem st_J9_max_7cf53 : Cond.static yJ9_max_7cf53 ∈ tw := tw_in 157 (by decide +kernel) (by decide +kernel)
theorem st_J8_hugeLength_7cf53 : Cond.static yJ8_hugeLength_7cf53 ∈ tw := tw_in 161 (by decide +kernel) (by decide +kernel)
theorem st_J7_copyOf_1904c : Cond.static yJ7_copyOf_1904c ∈ tw := tw_in 164 (by decide +kernel) (by decide +kernel)
theorem st_J7_copyOf_6403c : Cond.static yJ7_copyOf_6403c ∈ tw := tw_in 183 (by decide +kernel) (by decide +kernel)
theorem st_J9_min_7cf53 : Cond.static yJ9_min_7cf53 ∈ tw := tw_in 189 (by decide +kernel) (by decide +kernel)
theorem st_J7_fill_53178 : Cond.static yJ7_fill_53178 ∈ tw := tw_in 197 (by decide +kernel) (by decide +kernel)
theorem st_J15_checkIndex_7cf53 : Cond.static yJ15_checkIndex_7cf53 ∈ tw := tw_in 250 (by decide +kernel) (by decide +kernel)
theorem st_J3_checkIndex_8e157 : Cond.static yJ3_checkIndex_8e157 ∈ tw := tw_in 253 (by decide +kernel) (by decide +kernel)
theorem st_L_pass : Cond.static yL_pass ∈ tw := tw_in 277 (by decide +kernel) (by decide +kernel)
theorem st_X5_demandRange : Cond.static yX5_demandRange ∈ tw := tw_in 286 (by decide +kernel) (by decide +kernel)
theorem st_L_format : Cond.static yL_format ∈ tw := tw_in 374 (by decide +kernel) (by decide +kernel)
theorem st_L_line : Cond.static yL_line ∈ tw := tw_in 382 (by decide +kernel) (by decide +kernel)
theorem st_L_feed : Cond.static yL_feed ∈ tw := tw_in 394 (by decide +kernel) (by decide +kernel)
theorem st_L_end : Cond.static yL_end ∈ tw := tw_in 406 (by decide +kernel) (by decide +kernel)
theorem st_X5_kindOf : Cond.static yX5_kindOf ∈ tw := tw_in 440 (by decide +kernel) (by decide +kernel)
theorem st_L_pages : Cond.static yL_pages ∈ tw := tw_in 473 (by decide +kernel) (by decide +kernel)
theorem st_L_twice : Cond.static yL_twice ∈ tw := tw_in 501 (by decide +kernel) (by decide +kernel)
theorem st_L_reprint : Cond.static yL_reprint ∈ tw := tw_in 520 (by decide +kernel) (by decide +kernel)
theorem st_X5_demandPage : Cond.static yX5_demandPage ∈ tw := tw_in 527 (by decide +kernel) (by decide +kernel)
theorem st_L_copies : Cond.static yL_copies ∈ tw := tw_in 531 (by decide +kernel) (by decide +kernel)
theorem st_X5_pageAt : Cond.static yX5_pageAt ∈ tw := tw_in 538 (by decide +kernel) (by decide +kernel)
theorem st_L_isThere : Cond.static yL_isThere ∈ tw := tw_in 541 (by decide +kernel) (by decide +kernel)
theorem st_L_account : Cond.static yL_account ∈ tw := tw_in 553 (by decide +kernel) (by decide +kernel)
theorem st_L_kind : Cond.static yL_kind ∈ tw := tw_in 560 (by decide +kernel) (by decide +kernel)
theorem st_L_length : Cond.static yL_length ∈ tw := tw_in 567 (by decide +kernel) (by decide +kernel)
theorem st_L_found : Cond.static yL_found ∈ tw := tw_in 574 (by decide +kernel) (by decide +kernel)
theorem st_L_read : Cond.static yL_read ∈ tw := tw_in 595 (by decide +kernel) (by decide +kernel)
theorem st_X5_pageOf : Cond.static yX5_pageOf ∈ tw := tw_in 603 (by decide +kernel) (by decide +kernel)
theorem st_L_view : Cond.static yL_view ∈ tw := tw_in 623 (by decide +kernel) (by decide +kernel)
theorem st_L_span : Cond.static yL_span ∈ tw := tw_in 630 (by decide +kernel) (by decide +kernel)
theorem st_L_hold : Cond.static yL_hold ∈ tw := tw_in 638 (by decide +kernel) (by decide +kernel)
theorem st_L_bundle : Cond.static yL_bundle ∈ tw := tw_in 646 (by decide +kernel) (by decide +kernel)
theorem st_X6_in : Cond.static yX6_in ∈ tw := tw_in 755 (by decide +kernel) (by decide +kernel)
theorem st_X6_isReader : Cond.static yX6_isReader ∈ tw := tw_in 850 (by decide +kernel) (by decide +kernel)
theorem se_Jx4a65c_add_9ea2d : Cond.selects RJx4a65c yJx4a65c_add_9ea2d yJx4a65c_add_9ea2d ∈ tw := tw_in 139 (by decide +kernel) (by decide +kernel)
theorem se_X5_documents : Cond.selects RX5 yX5_documents yX5_documents ∈ tw := tw_in 235 (by decide +kernel) (by decide +kernel)
theorem se_Jx4a65c_size_8abf5 : Cond.selects RJx4a65c yJx4a65c_size_8abf5 yJx4a65c_size_8abf5 ∈ tw := tw_in 239 (by decide +kernel) (by decide +kernel)
theorem se_X5_clear : Cond.selects RX5 yX5_clear yX5_clear ∈ tw := tw_in 243 (by decide +kernel) (by decide +kernel)
theorem se_Jx4a65c_get_915e3 : Cond.selects RJx4a65c yJx4a65c_get_915e3 yJx4a65c_get_915e3 ∈ tw := tw_in 247 (by decide +kernel) (by decide +kernel)
theorem se_Jx4a65c_elementData_915e3 : Cond.selects RJx4a65c yJx4a65c_elementData_915e3 yJx4a65c_elementData_915e3 ∈ tw := tw_in 257 (by decide +kernel) (by decide +kernel)
theorem se_X5_pass : Cond.selects RX5 yX5_pass yX5_pass ∈ tw := tw_in 283 (by decide +kernel) (by decide +kernel)
theorem se_X5_format : Cond.selects RX5 yX5_format yX5_format ∈ tw := tw_in 378 (by decide +kernel) (by decide +kernel)
theorem se_X5_line : Cond.selects RX5 yX5_line yX5_line ∈ tw := tw_in 386 (by decide +kernel) (by decide +kernel)
theorem se_X5_feed : Cond.selects RX5 yX5_feed yX5_feed ∈ tw := tw_in 398 (by decide +kernel) (by decide +kernel)
theorem se_X5_end : Cond.selects RX5 yX5_end yX5_end ∈ tw := tw_in 410 (by decide +kernel) (by decide +kernel)
theorem se_X5_pages : Cond.selects RX5 yX5_pages yX5_pages ∈ tw := tw_in 478 (by decide +kernel) (by decide +kernel)
theorem se_X5_twice : Cond.selects RX5 yX5_twice yX5_twice ∈ tw := tw_in 505 (by decide +kernel) (by decide +kernel)
theorem se_X5_reprint : Cond.selects RX5 yX5_reprint yX5_reprint ∈ tw := tw_in 524 (by decide +kernel) (by decide +kernel)
theorem se_X5_copies : Cond.selects RX5 yX5_copies yX5_copies ∈ tw := tw_in 535 (by decide +kernel) (by decide +kernel)
theorem se_X5_isThere : Cond.selects RX5 yX5_isThere yX5_isThere ∈ tw := tw_in 545 (by decide +kernel) (by decide +kernel)
theorem se_X5_account : Cond.selects RX5 yX5_account yX5_account ∈ tw := tw_in 557 (by decide +kernel) (by decide +kernel)
theorem se_X5_kind : Cond.selects RX5 yX5_kind yX5_kind ∈ tw := tw_in 564 (by decide +kernel) (by decide +kernel)
theorem se_X5_length : Cond.selects RX5 yX5_length yX5_length ∈ tw := tw_in 571 (by decide +kernel) (by decide +kernel)
theorem se_X5_found : Cond.selects RX5 yX5_found yX5_found ∈ tw := tw_in 578 (by decide +kernel) (by decide +kernel)
theorem se_X5_read : Cond.selects RX5 yX5_read yX5_read ∈ tw := tw_in 600 (by decide +kernel) (by decide +kernel)
theorem se_X5_view : Cond.selects RX5 yX5_view yX5_view ∈ tw := tw_in 627 (by decide +kernel) (by decide +kernel)
theorem se_X5_span : Cond.selects RX5 yX5_span yX5_span ∈ tw := tw_in 634 (by decide +kernel) (by decide +kernel)
theorem se_X5_hold : Cond.selects RX5 yX5_hold yX5_hold ∈ tw := tw_in 642 (by decide +kernel) (by decide +kernel)
theorem se_X5_bundle : Cond.selects RX5 yX5_bundle yX5_bundle ∈ tw := tw_in 650 (by decide +kernel) (by decide +kernel)
theorem se_X6_thrown : Cond.selects RX6 yX6_thrown yX6_thrown ∈ tw := tw_in 748 (by decide +kernel) (by decide +kernel)
theorem se_X6_pass : Cond.selects RX6 yX6_pass yX6_pass ∈ tw := tw_in 752 (by decide +kernel) (by decide +kernel)
theorem se_X6_format : Cond.selects RX6 yX6_format yX6_format ∈ tw := tw_in 759 (by decide +kernel) (by decide +kernel)
theorem se_X6_line : Cond.selects RX6 yX6_line yX6_line ∈ tw := tw_in 763 (by decide +kernel) (by decide +kernel)
theorem se_X6_feed : Cond.selects RX6 yX6_feed yX6_feed ∈ tw := tw_in 767 (by decide +kernel) (by decide +kernel)
theorem se_X6_end : Cond.selects RX6 yX6_end yX6_end ∈ tw := tw_in 775 (by decide +kernel) (by decide +kernel)
theorem se_X6_pages : Cond.selects RX6 yX6_pages yX6_pages ∈ tw := tw_in 795 (by decide +kernel) (by decide +kernel)
theorem se_X6_twice : Cond.selects RX6 yX6_twice yX6_twice ∈ tw := tw_in 803 (by decide +kernel) (by decide +kernel)
theorem se_X6_reprint : Cond.selects RX6 yX6_reprint yX6_reprint ∈ tw := tw_in 811 (by decide +kernel) (by decide +kernel)
theorem se_X6_copies : Cond.selects RX6 yX6_copies yX6_copies ∈ tw := tw_in 819 (by decide +kernel) (by decide +kernel)
theorem se_X6_documents : Cond.selects RX6 yX6_documents yX6_documents ∈ tw := tw_in 823 (by decide +kernel) (by decide +kernel)
theorem se_X6_isThere : Cond.selects RX6 yX6_isThere yX6_isThere ∈ tw := tw_in 827 (by decide +kernel) (by decide +kernel)
theorem se_X6_account : Cond.selects RX6 yX6_account yX6_account ∈ tw := tw_in 835 (by decide +kernel) (by decide +kernel)
theorem se_X6_kind : Cond.selects RX6 yX6_kind yX6_kind ∈ tw := tw_in 839 (by decide +kernel) (by decide +kernel)
theorem se_X6_length : Cond.selects RX6 yX6_length yX6_length ∈ tw := tw_in 843 (by decide +kernel) (by decide +kernel)
theorem se_X6_found : Cond.selects RX6 yX6_found yX6_found ∈ tw := tw_in 847 (by decide +kernel) (by decide +kernel)
theorem se_X6_read : Cond.selects RX6 yX6_read yX6_read ∈ tw := tw_in 858 (by decide +kernel) (by decide +kernel)
theorem se_X6_view : Cond.selects RX6 yX6_view yX6_view ∈ tw := tw_in 862 (by decide +kernel) (by decide +kernel)
theorem se_X6_span : Cond.selects RX6 yX6_span yX6_span ∈ tw := tw_in 866 (by decide +kernel) (by decide +kernel)
theorem se_X6_hold : Cond.selects RX6 yX6_hold yX6_hold ∈ tw := tw_in 870 (by decide +kernel) (by decide +kernel)
theorem se_X6_clear : Cond.selects RX6 yX6_clear yX6_clear ∈ tw := tw_in 874 (by decide +kernel) (by decide +kernel)
theorem se_X6_bundle : Cond.selects RX6 yX6_bundle yX6_bundle ∈ tw := tw_in 878 (by decide +kernel) (by decide +kernel)
theorem se_Jx4a65c_add_72be8 : Cond.selects RJx4a65c yJx4a65c_add_72be8 yJx4a65c_add_72be8 ∈ tw := tw_sel 0 (by decide +kernel) (by decide +kernel)
theorem se_Jx4a65c_grow_d5877 : Cond.selects RJx4a65c yJx4a65c_grow_d5877 yJx4a65c_grow_d5877 ∈ tw := tw_sel 1 (by decide +kernel) (by decide +kernel)
theorem se_Jx4a65c_grow_92f84 : Cond.selects RJx4a65c yJx4a65c_grow_92f84 yJx4a65c_grow_92f84 ∈ tw := tw_sel 2 (by decide +kernel) (by decide +kernel)
theorem se_X5_isOver : Cond.selects RX5 yX5_isOver yX5_isOver ∈ tw := tw_sel 3 (by decide +kernel) (by decide +kernel)
theorem se_X5_isKind : Cond.selects RX5 yX5_isKind yX5_isKind ∈ tw := tw_sel 4 (by decide +kernel) (by decide +kernel)
theorem se_X5_isHeld : Cond.selects RX5 yX5_isHeld yX5_isHeld ∈ tw := tw_sel 5 (by decide +kernel) (by decide +kernel)
theorem se_X5_isAccount : Cond.selects RX5 yX5_isAccount yX5_isAccount ∈ tw := tw_sel 6 (by decide +kernel) (by decide +kernel)
theorem se_X2_put : Cond.selects RX2 yX2_put yX2_put ∈ tw := tw_sel 8 (by decide +kernel) (by decide +kernel)
theorem se_X5_closePage : Cond.selects RX5 yX5_closePage yX5_closePage ∈ tw := tw_sel 9 (by decide +kernel) (by decide +kernel)
theorem se_X2_isEmpty : Cond.selects RX2 yX2_isEmpty yX2_isEmpty ∈ tw := tw_sel 10 (by decide +kernel) (by decide +kernel)
theorem se_X5_keepOpenRun : Cond.selects RX5 yX5_keepOpenRun yX5_keepOpenRun ∈ tw := tw_sel 11 (by decide +kernel) (by decide +kernel)
theorem se_X5_putTogether : Cond.selects RX5 yX5_putTogether yX5_putTogether ∈ tw := tw_sel 12 (by decide +kernel) (by decide +kernel)
theorem se_X5_formatOn : Cond.selects RX5 yX5_formatOn yX5_formatOn ∈ tw := tw_sel 13 (by decide +kernel) (by decide +kernel)
theorem se_X2_valueAt : Cond.selects RX2 yX2_valueAt yX2_valueAt ∈ tw := tw_sel 14 (by decide +kernel) (by decide +kernel)
theorem se_X2_has : Cond.selects RX2 yX2_has yX2_has ∈ tw := tw_sel 15 (by decide +kernel) (by decide +kernel)
theorem se_X5_runAt : Cond.selects RX5 yX5_runAt yX5_runAt ∈ tw := tw_sel 16 (by decide +kernel) (by decide +kernel)
theorem se_X4_isLike : Cond.selects RX4 yX4_isLike yX4_isLike ∈ tw := tw_sel 17 (by decide +kernel) (by decide +kernel)
theorem se_X2_hasLinesOf : Cond.selects RX2 yX2_hasLinesOf yX2_hasLinesOf ∈ tw := tw_sel 18 (by decide +kernel) (by decide +kernel)
theorem se_X5_documentAt : Cond.selects RX5 yX5_documentAt yX5_documentAt ∈ tw := tw_sel 19 (by decide +kernel) (by decide +kernel)
theorem se_X5_readerAt : Cond.selects RX5 yX5_readerAt yX5_readerAt ∈ tw := tw_sel 20 (by decide +kernel) (by decide +kernel)
theorem se_X3_sees : Cond.selects RX3 yX3_sees yX3_sees ∈ tw := tw_sel 21 (by decide +kernel) (by decide +kernel)
theorem se_X0_fits : Cond.selects RX0 yX0_fits yX0_fits ∈ tw := tw_sel 22 (by decide +kernel) (by decide +kernel)
theorem se_X6_endsPage : Cond.selects RX6 yX6_endsPage yX6_endsPage ∈ tw := tw_sel 23 (by decide +kernel) (by decide +kernel)
theorem se_X6_putsTogether : Cond.selects RX6 yX6_putsTogether yX6_putsTogether ∈ tw := tw_sel 24 (by decide +kernel) (by decide +kernel)
theorem se_X6_formatNow : Cond.selects RX6 yX6_formatNow yX6_formatNow ∈ tw := tw_sel 25 (by decide +kernel) (by decide +kernel)
theorem se_X6_lineOf : Cond.selects RX6 yX6_lineOf yX6_lineOf ∈ tw := tw_sel 26 (by decide +kernel) (by decide +kernel)
theorem se_X6_begins : Cond.selects RX6 yX6_begins yX6_begins ∈ tw := tw_sel 27 (by decide +kernel) (by decide +kernel)
theorem se_X6_isRun : Cond.selects RX6 yX6_isRun yX6_isRun ∈ tw := tw_sel 28 (by decide +kernel) (by decide +kernel)
theorem se_X6_areAlike : Cond.selects RX6 yX6_areAlike yX6_areAlike ∈ tw := tw_sel 29 (by decide +kernel) (by decide +kernel)
theorem se_X6_isPage : Cond.selects RX6 yX6_isPage yX6_isPage ∈ tw := tw_sel 30 (by decide +kernel) (by decide +kernel)
theorem se_X6_asks : Cond.selects RX6 yX6_asks yX6_asks ∈ tw := tw_sel 31 (by decide +kernel) (by decide +kernel)
theorem se_X6_sees : Cond.selects RX6 yX6_sees yX6_sees ∈ tw := tw_sel 32 (by decide +kernel) (by decide +kernel)
theorem ca_IllegalArgumentException_self : Cond.castable "java/lang/IllegalArgumentException" "java/lang/IllegalArgumentException" ∈ tw := tw_in 290 (by decide +kernel) (by decide +kernel)
theorem ca_IllegalStateException_self : Cond.castable "java/lang/IllegalStateException" "java/lang/IllegalStateException" ∈ tw := tw_in 359 (by decide +kernel) (by decide +kernel)
theorem ca_IndexOutOfBoundsException_self : Cond.castable "java/lang/IndexOutOfBoundsException" "java/lang/IndexOutOfBoundsException" ∈ tw := tw_in 486 (by decide +kernel) (by decide +kernel)
theorem ca_NoSuchElementException_self : Cond.castable "java/util/NoSuchElementException" "java/util/NoSuchElementException" ∈ tw := tw_in 608 (by decide +kernel) (by decide +kernel)
theorem ca_X5 : Cond.castable RX5 "java/lang/Object" ∈ tw := tw_in 882 (by decide +kernel) (by decide +kernel)
theorem ca_X1 : Cond.castable RX1 "java/lang/Object" ∈ tw := tw_in 883 (by decide +kernel) (by decide +kernel)
theorem ca_Jx4a65c : Cond.castable RJx4a65c "java/lang/Object" ∈ tw := tw_in 884 (by decide +kernel) (by decide +kernel)
theorem ca_X4 : Cond.castable RX4 "java/lang/Object" ∈ tw := tw_in 885 (by decide +kernel) (by decide +kernel)
theorem ca_X2 : Cond.castable RX2 "java/lang/Object" ∈ tw := tw_in 886 (by decide +kernel) (by decide +kernel)
theorem ca_X3 : Cond.castable RX3 "java/lang/Object" ∈ tw := tw_in 887 (by decide +kernel) (by decide +kernel)
theorem ca_X6 : Cond.castable RX6 "java/lang/Object" ∈ tw := tw_in 888 (by decide +kernel) (by decide +kernel)
theorem ca_IllegalArgumentException : Cond.castable "java/lang/IllegalArgumentException" "java/lang/Object" ∈ tw := tw_in 889 (by decide +kernel) (by decide +kernel)
theorem ca_IllegalStateException : Cond.castable "java/lang/IllegalStateException" "java/lang/Object" ∈ tw := tw_in 890 (by decide +kernel) (by decide +kernel)
theorem ca_X0 : Cond.castable RX0 "java/lang/Object" ∈ tw := tw_in 891 (by decide +kernel) (by decide +kernel)
theorem ca_IndexOutOfBoundsException : Cond.castable "java/lang/IndexOutOfBoundsException" "java/lang/Object" ∈ tw := tw_in 892 (by decide +kernel) (by decide +kernel)
theorem ca_NoSuchElementException : Cond.castable "java/util/NoSuchElementException" "java/lang/Object" ∈ tw := tw_in 893 (by decide +kernel) (by decide +kernel)
theorem ca_J0 : Cond.castable RJ0 "java/lang/Object" ∈ tw := tw_in 895 (by decide +kernel) (by decide +kernel)
theorem cl_L_8 : Cond.classLink RL 8 RX5 ∈ tw := tw_in 24 (by decide +kernel) (by decide +kernel)
theorem cl_X5_9 : Cond.classLink RX5 9 RX1 ∈ tw := tw_in 32 (by decide +kernel) (by decide +kernel)
theorem cl_X5_18 : Cond.classLink RX5 18 RJx4a65c ∈ tw := tw_in 51 (by decide +kernel) (by decide +kernel)
theorem cl_X5_28 : Cond.classLink RX5 28 RX4 ∈ tw := tw_in 77 (by decide +kernel) (by decide +kernel)
theorem cl_X4_7 : Cond.classLink RX4 7 RJx4a65c ∈ tw := tw_in 83 (by decide +kernel) (by decide +kernel)
theorem cl_X5_35 : Cond.classLink RX5 35 RX2 ∈ tw := tw_in 95 (by decide +kernel) (by decide +kernel)
theorem cl_X5_56 : Cond.classLink RX5 56 RX3 ∈ tw := tw_in 114 (by decide +kernel) (by decide +kernel)
theorem cl_J7_110 : Cond.classLink RJ7 110 "[Ljava/lang/Object;" ∈ tw := tw_in 185 (by decide +kernel) (by decide +kernel)
theorem cl_J7_2 : Cond.classLink RJ7 2 "java/lang/Object" ∈ tw := tw_in 187 (by decide +kernel) (by decide +kernel)
theorem cl_Jx4a65c_7 : Cond.classLink RJx4a65c 7 "java/lang/Object" ∈ tw := tw_in 195 (by decide +kernel) (by decide +kernel)
theorem cl_X5_150 : Cond.classLink RX5 150 RX0 ∈ tw := tw_in 259 (by decide +kernel) (by decide +kernel)
theorem cl_L_13 : Cond.classLink RL 13 "java/lang/IllegalArgumentException" ∈ tw := tw_in 279 (by decide +kernel) (by decide +kernel)
theorem cl_L_15 : Cond.classLink RL 15 "java/lang/IllegalStateException" ∈ tw := tw_in 280 (by decide +kernel) (by decide +kernel)
theorem cl_X5_211 : Cond.classLink RX5 211 "java/lang/IllegalArgumentException" ∈ tw := tw_in 288 (by decide +kernel) (by decide +kernel)
theorem cl_X5_78 : Cond.classLink RX5 78 "java/lang/IllegalStateException" ∈ tw := tw_in 357 (by decide +kernel) (by decide +kernel)
theorem cl_L_34 : Cond.classLink RL 34 "java/lang/IndexOutOfBoundsException" ∈ tw := tw_in 475 (by decide +kernel) (by decide +kernel)
theorem cl_X5_176 : Cond.classLink RX5 176 "java/lang/IndexOutOfBoundsException" ∈ tw := tw_in 484 (by decide +kernel) (by decide +kernel)
theorem cl_X4_28 : Cond.classLink RX4 28 RX2 ∈ tw := tw_in 513 (by decide +kernel) (by decide +kernel)
theorem cl_L_67 : Cond.classLink RL 67 "java/util/NoSuchElementException" ∈ tw := tw_in 597 (by decide +kernel) (by decide +kernel)
theorem cl_X5_190 : Cond.classLink RX5 190 "java/util/NoSuchElementException" ∈ tw := tw_in 606 (by decide +kernel) (by decide +kernel)
theorem cl_L_84 : Cond.classLink RL 84 RX6 ∈ tw := tw_in 652 (by decide +kernel) (by decide +kernel)
theorem fl_X1_7 : FL RX1 7 TX1 0 := FL.w (tw_in 38 (by decide +kernel) (by decide +kernel))
theorem fw_X1_7 : Cond.fieldLink RX1 7 (TX1 0).1 (TX1 0).2.1 (TX1 0).2.2.1 ∈ tw := tw_in 38 (by decide +kernel) (by decide +kernel)
theorem fl_X5_265 : FL RX5 265 TX1 0 := FL.n (host := "PrintKeeper") (tw_in 39 (by decide +kernel) (by decide +kernel))
theorem fl_X1_13 : FL RX1 13 TX1 1 := FL.w (tw_in 40 (by decide +kernel) (by decide +kernel))
theorem fw_X1_13 : Cond.fieldLink RX1 13 (TX1 1).1 (TX1 1).2.1 (TX1 1).2.2.1 ∈ tw := tw_in 40 (by decide +kernel) (by decide +kernel)
theorem fl_X5_252 : FL RX5 252 TX1 1 := FL.n (host := "PrintKeeper") (tw_in 41 (by decide +kernel) (by decide +kernel))
theorem fl_X1_16 : FL RX1 16 TX1 2 := FL.w (tw_in 42 (by decide +kernel) (by decide +kernel))
theorem fw_X1_16 : Cond.fieldLink RX1 16 (TX1 2).1 (TX1 2).2.1 (TX1 2).2.2.1 ∈ tw := tw_in 42 (by decide +kernel) (by decide +kernel)
theorem fl_X5_262 : FL RX5 262 TX1 2 := FL.n (host := "PrintKeeper") (tw_in 43 (by decide +kernel) (by decide +kernel))
theorem fs_Jx4a65c_39 : Cond.fieldLink RJx4a65c 39 "java/util/ArrayList" "DEFAULTCAPACITY_EMPTY_ELEMENTDATA" "[Ljava/lang/Object;" ∈ tw := tw_in 63 (by decide +kernel) (by decide +kernel)
theorem fl_Jx4a65c_9 : FL RJx4a65c 9 TJx4a65c 1 := FL.w (tw_in 65 (by decide +kernel) (by decide +kernel))
theorem fl_Jx4a65c_48 : FL RJx4a65c 48 TJx4a65c 2 := FL.w (tw_in 66 (by decide +kernel) (by decide +kernel))
theorem fs_Jxc12de_7 : Cond.fieldLink RJxc12de 7 "java/util/AbstractList" "modCount" "I" ∈ tw := tw_in 67 (by decide +kernel) (by decide +kernel)
theorem fl_Jx4a65c_63 : FL RJx4a65c 63 TJx4a65c 0 := FL.s (ref := "java/util/ArrayList") (tw_in 68 (by decide +kernel) (by decide +kernel)) w_same
theorem fl_X4_10 : FL RX4 10 TX4 0 := FL.w (tw_in 85 (by decide +kernel) (by decide +kernel))
theorem fw_X4_10 : Cond.fieldLink RX4 10 (TX4 0).1 (TX4 0).2.1 (TX4 0).2.2.1 ∈ tw := tw_in 85 (by decide +kernel) (by decide +kernel)
theorem fl_X5_103 : FL RX5 103 TX4 0 := FL.n (host := "PrintKeeper") (tw_in 86 (by decide +kernel) (by decide +kernel))
theorem fl_X4_16 : FL RX4 16 TX4 1 := FL.w (tw_in 87 (by decide +kernel) (by decide +kernel))
theorem fl_X0_25 : FL RX0 25 TX4 1 := FL.n (host := "PrintKeeper") (tw_in 88 (by decide +kernel) (by decide +kernel))
theorem fl_X5_243 : FL RX5 243 TX4 1 := FL.n (host := "PrintKeeper") (tw_in 89 (by decide +kernel) (by decide +kernel))
theorem fl_X2_9 : FL RX2 9 TX2 0 := FL.w (tw_in 101 (by decide +kernel) (by decide +kernel))
theorem fw_X2_9 : Cond.fieldLink RX2 9 (TX2 0).1 (TX2 0).2.1 (TX2 0).2.2.1 ∈ tw := tw_in 101 (by decide +kernel) (by decide +kernel)
theorem fl_X2_19 : FL RX2 19 TX2 1 := FL.w (tw_in 102 (by decide +kernel) (by decide +kernel))
theorem fl_X5_97 : FL RX5 97 TX2 1 := FL.n (host := "PrintKeeper") (tw_in 103 (by decide +kernel) (by decide +kernel))
theorem fl_X2_15 : FL RX2 15 TX2 2 := FL.w (tw_in 104 (by decide +kernel) (by decide +kernel))
theorem fl_X5_138 : FL RX5 138 TX2 2 := FL.n (host := "PrintKeeper") (tw_in 105 (by decide +kernel) (by decide +kernel))
theorem fl_X3_21 : FL RX3 21 TX3 0 := FL.w (tw_in 120 (by decide +kernel) (by decide +kernel))
theorem fw_X3_21 : Cond.fieldLink RX3 21 (TX3 0).1 (TX3 0).2.1 (TX3 0).2.2.1 ∈ tw := tw_in 120 (by decide +kernel) (by decide +kernel)
theorem fl_X3_9 : FL RX3 9 TX3 1 := FL.w (tw_in 121 (by decide +kernel) (by decide +kernel))
theorem fl_X5_202 : FL RX5 202 TX3 1 := FL.n (host := "PrintKeeper") (tw_in 122 (by decide +kernel) (by decide +kernel))
theorem fl_X3_15 : FL RX3 15 TX3 2 := FL.w (tw_in 123 (by decide +kernel) (by decide +kernel))
theorem fl_X5_205 : FL RX5 205 TX3 2 := FL.n (host := "PrintKeeper") (tw_in 124 (by decide +kernel) (by decide +kernel))
theorem fl_X3_18 : FL RX3 18 TX3 3 := FL.w (tw_in 125 (by decide +kernel) (by decide +kernel))
theorem fl_X5_195 : FL RX5 195 TX3 3 := FL.n (host := "PrintKeeper") (tw_in 126 (by decide +kernel) (by decide +kernel))
theorem fl_X5_74 : FL RX5 74 TX5 0 := FL.w (tw_in 199 (by decide +kernel) (by decide +kernel))
theorem fl_X5_14 : FL RX5 14 TX5 1 := FL.w (tw_in 200 (by decide +kernel) (by decide +kernel))
theorem fw_X5_14 : Cond.fieldLink RX5 14 (TX5 1).1 (TX5 1).2.1 (TX5 1).2.2.1 ∈ tw := tw_in 200 (by decide +kernel) (by decide +kernel)
theorem fl_X5_21 : FL RX5 21 TX5 2 := FL.w (tw_in 201 (by decide +kernel) (by decide +kernel))
theorem fw_X5_21 : Cond.fieldLink RX5 21 (TX5 2).1 (TX5 2).2.1 (TX5 2).2.2.1 ∈ tw := tw_in 201 (by decide +kernel) (by decide +kernel)
theorem fl_X5_25 : FL RX5 25 TX5 3 := FL.w (tw_in 202 (by decide +kernel) (by decide +kernel))
theorem fw_X5_25 : Cond.fieldLink RX5 25 (TX5 3).1 (TX5 3).2.1 (TX5 3).2.2.1 ∈ tw := tw_in 202 (by decide +kernel) (by decide +kernel)
theorem fl_X5_100 : FL RX5 100 TX5 4 := FL.w (tw_in 203 (by decide +kernel) (by decide +kernel))
theorem fl_X5_31 : FL RX5 31 TX5 5 := FL.w (tw_in 204 (by decide +kernel) (by decide +kernel))
theorem fl_X5_38 : FL RX5 38 TX5 6 := FL.w (tw_in 205 (by decide +kernel) (by decide +kernel))
theorem fl_X5_42 : FL RX5 42 TX5 7 := FL.w (tw_in 206 (by decide +kernel) (by decide +kernel))
theorem fw_X5_42 : Cond.fieldLink RX5 42 (TX5 7).1 (TX5 7).2.1 (TX5 7).2.2.1 ∈ tw := tw_in 206 (by decide +kernel) (by decide +kernel)
theorem fl_X5_45 : FL RX5 45 TX5 8 := FL.w (tw_in 207 (by decide +kernel) (by decide +kernel))
theorem fw_X5_45 : Cond.fieldLink RX5 45 (TX5 8).1 (TX5 8).2.1 (TX5 8).2.2.1 ∈ tw := tw_in 207 (by decide +kernel) (by decide +kernel)
theorem fl_X5_48 : FL RX5 48 TX5 9 := FL.w (tw_in 208 (by decide +kernel) (by decide +kernel))
theorem fw_X5_48 : Cond.fieldLink RX5 48 (TX5 9).1 (TX5 9).2.1 (TX5 9).2.2.1 ∈ tw := tw_in 208 (by decide +kernel) (by decide +kernel)
theorem fl_X5_52 : FL RX5 52 TX5 10 := FL.w (tw_in 209 (by decide +kernel) (by decide +kernel))
theorem fw_X5_52 : Cond.fieldLink RX5 52 (TX5 10).1 (TX5 10).2.1 (TX5 10).2.2.1 ∈ tw := tw_in 209 (by decide +kernel) (by decide +kernel)
theorem fl_X0_9 : FL RX0 9 TX0 0 := FL.w (tw_in 447 (by decide +kernel) (by decide +kernel))
theorem fw_X0_9 : Cond.fieldLink RX0 9 (TX0 0).1 (TX0 0).2.1 (TX0 0).2.2.1 ∈ tw := tw_in 447 (by decide +kernel) (by decide +kernel)
theorem fl_X5_235 : FL RX5 235 TX0 0 := FL.n (host := "PrintKeeper") (tw_in 448 (by decide +kernel) (by decide +kernel))
theorem fl_X0_15 : FL RX0 15 TX0 1 := FL.w (tw_in 449 (by decide +kernel) (by decide +kernel))
theorem fw_X0_15 : Cond.fieldLink RX0 15 (TX0 1).1 (TX0 1).2.1 (TX0 1).2.2.1 ∈ tw := tw_in 449 (by decide +kernel) (by decide +kernel)
theorem fl_X5_238 : FL RX5 238 TX0 1 := FL.n (host := "PrintKeeper") (tw_in 450 (by decide +kernel) (by decide +kernel))
theorem fl_X0_19 : FL RX0 19 TX0 2 := FL.w (tw_in 451 (by decide +kernel) (by decide +kernel))
theorem fw_X0_19 : Cond.fieldLink RX0 19 (TX0 2).1 (TX0 2).2.1 (TX0 2).2.2.1 ∈ tw := tw_in 451 (by decide +kernel) (by decide +kernel)
theorem fl_X3_30 : FL RX3 30 TX0 2 := FL.n (host := "PrintKeeper") (tw_in 452 (by decide +kernel) (by decide +kernel))
theorem fl_X5_155 : FL RX5 155 TX0 2 := FL.n (host := "PrintKeeper") (tw_in 453 (by decide +kernel) (by decide +kernel))
theorem fl_X0_22 : FL RX0 22 TX0 3 := FL.w (tw_in 454 (by decide +kernel) (by decide +kernel))
theorem fw_X0_22 : Cond.fieldLink RX0 22 (TX0 3).1 (TX0 3).2.1 (TX0 3).2.2.1 ∈ tw := tw_in 454 (by decide +kernel) (by decide +kernel)
theorem fl_X5_158 : FL RX5 158 TX0 3 := FL.n (host := "PrintKeeper") (tw_in 455 (by decide +kernel) (by decide +kernel))
theorem fl_X5_161 : FL RX5 161 TX0 4 := FL.n (host := "PrintKeeper") (tw_in 456 (by decide +kernel) (by decide +kernel))
theorem fl_X3_25 : FL RX3 25 TX0 5 := FL.n (host := "PrintKeeper") (tw_in 457 (by decide +kernel) (by decide +kernel))
theorem fl_X5_149 : FL RX5 149 TX0 5 := FL.n (host := "PrintKeeper") (tw_in 458 (by decide +kernel) (by decide +kernel))
theorem fl_X6_74 : FL RX6 74 TX6 0 := FL.w (tw_in 658 (by decide +kernel) (by decide +kernel))
theorem fl_X6_85 : FL RX6 85 TX6 1 := FL.w (tw_in 659 (by decide +kernel) (by decide +kernel))
theorem fl_X6_88 : FL RX6 88 TX6 2 := FL.w (tw_in 660 (by decide +kernel) (by decide +kernel))
theorem fl_X6_7 : FL RX6 7 TX6 3 := FL.w (tw_in 661 (by decide +kernel) (by decide +kernel))
theorem fw_X6_7 : Cond.fieldLink RX6 7 (TX6 3).1 (TX6 3).2.1 (TX6 3).2.2.1 ∈ tw := tw_in 661 (by decide +kernel) (by decide +kernel)
theorem fl_X6_13 : FL RX6 13 TX6 4 := FL.w (tw_in 662 (by decide +kernel) (by decide +kernel))
theorem fw_X6_13 : Cond.fieldLink RX6 13 (TX6 4).1 (TX6 4).2.1 (TX6 4).2.2.1 ∈ tw := tw_in 662 (by decide +kernel) (by decide +kernel)
theorem fl_X6_16 : FL RX6 16 TX6 5 := FL.w (tw_in 663 (by decide +kernel) (by decide +kernel))
theorem fw_X6_16 : Cond.fieldLink RX6 16 (TX6 5).1 (TX6 5).2.1 (TX6 5).2.2.1 ∈ tw := tw_in 663 (by decide +kernel) (by decide +kernel)
theorem fl_X6_94 : FL RX6 94 TX6 6 := FL.w (tw_in 664 (by decide +kernel) (by decide +kernel))
theorem fl_X6_97 : FL RX6 97 TX6 7 := FL.w (tw_in 665 (by decide +kernel) (by decide +kernel))
theorem fl_X6_19 : FL RX6 19 TX6 8 := FL.w (tw_in 666 (by decide +kernel) (by decide +kernel))
theorem fw_X6_19 : Cond.fieldLink RX6 19 (TX6 8).1 (TX6 8).2.1 (TX6 8).2.2.1 ∈ tw := tw_in 666 (by decide +kernel) (by decide +kernel)
theorem fl_X6_22 : FL RX6 22 TX6 9 := FL.w (tw_in 667 (by decide +kernel) (by decide +kernel))
theorem fw_X6_22 : Cond.fieldLink RX6 22 (TX6 9).1 (TX6 9).2.1 (TX6 9).2.2.1 ∈ tw := tw_in 667 (by decide +kernel) (by decide +kernel)
theorem fl_X6_91 : FL RX6 91 TX6 10 := FL.w (tw_in 668 (by decide +kernel) (by decide +kernel))
theorem fl_X6_25 : FL RX6 25 TX6 11 := FL.w (tw_in 669 (by decide +kernel) (by decide +kernel))
theorem fw_X6_25 : Cond.fieldLink RX6 25 (TX6 11).1 (TX6 11).2.1 (TX6 11).2.2.1 ∈ tw := tw_in 669 (by decide +kernel) (by decide +kernel)
theorem fl_X6_28 : FL RX6 28 TX6 12 := FL.w (tw_in 670 (by decide +kernel) (by decide +kernel))
theorem fw_X6_28 : Cond.fieldLink RX6 28 (TX6 12).1 (TX6 12).2.1 (TX6 12).2.2.1 ∈ tw := tw_in 670 (by decide +kernel) (by decide +kernel)
theorem fl_X6_78 : FL RX6 78 TX6 13 := FL.w (tw_in 671 (by decide +kernel) (by decide +kernel))
theorem fl_X6_31 : FL RX6 31 TX6 14 := FL.w (tw_in 672 (by decide +kernel) (by decide +kernel))
theorem fw_X6_31 : Cond.fieldLink RX6 31 (TX6 14).1 (TX6 14).2.1 (TX6 14).2.2.1 ∈ tw := tw_in 672 (by decide +kernel) (by decide +kernel)
theorem fl_X6_34 : FL RX6 34 TX6 15 := FL.w (tw_in 673 (by decide +kernel) (by decide +kernel))
theorem fw_X6_34 : Cond.fieldLink RX6 34 (TX6 15).1 (TX6 15).2.1 (TX6 15).2.2.1 ∈ tw := tw_in 673 (by decide +kernel) (by decide +kernel)
theorem fl_X6_37 : FL RX6 37 TX6 16 := FL.w (tw_in 674 (by decide +kernel) (by decide +kernel))
theorem fw_X6_37 : Cond.fieldLink RX6 37 (TX6 16).1 (TX6 16).2.1 (TX6 16).2.2.1 ∈ tw := tw_in 674 (by decide +kernel) (by decide +kernel)
theorem fl_X6_107 : FL RX6 107 TX6 17 := FL.w (tw_in 675 (by decide +kernel) (by decide +kernel))
theorem fl_X6_40 : FL RX6 40 TX6 18 := FL.w (tw_in 676 (by decide +kernel) (by decide +kernel))
theorem fw_X6_40 : Cond.fieldLink RX6 40 (TX6 18).1 (TX6 18).2.1 (TX6 18).2.2.1 ∈ tw := tw_in 676 (by decide +kernel) (by decide +kernel)
theorem fl_X6_43 : FL RX6 43 TX6 19 := FL.w (tw_in 677 (by decide +kernel) (by decide +kernel))
theorem fw_X6_43 : Cond.fieldLink RX6 43 (TX6 19).1 (TX6 19).2.1 (TX6 19).2.2.1 ∈ tw := tw_in 677 (by decide +kernel) (by decide +kernel)
theorem fl_X6_46 : FL RX6 46 TX6 20 := FL.w (tw_in 678 (by decide +kernel) (by decide +kernel))
theorem fw_X6_46 : Cond.fieldLink RX6 46 (TX6 20).1 (TX6 20).2.1 (TX6 20).2.2.1 ∈ tw := tw_in 678 (by decide +kernel) (by decide +kernel)
theorem fl_X6_49 : FL RX6 49 TX6 21 := FL.w (tw_in 679 (by decide +kernel) (by decide +kernel))
theorem fw_X6_49 : Cond.fieldLink RX6 49 (TX6 21).1 (TX6 21).2.1 (TX6 21).2.2.1 ∈ tw := tw_in 679 (by decide +kernel) (by decide +kernel)
theorem fl_X6_52 : FL RX6 52 TX6 22 := FL.w (tw_in 680 (by decide +kernel) (by decide +kernel))
theorem fw_X6_52 : Cond.fieldLink RX6 52 (TX6 22).1 (TX6 22).2.1 (TX6 22).2.2.1 ∈ tw := tw_in 680 (by decide +kernel) (by decide +kernel)
theorem fl_X6_55 : FL RX6 55 TX6 23 := FL.w (tw_in 681 (by decide +kernel) (by decide +kernel))
theorem fw_X6_55 : Cond.fieldLink RX6 55 (TX6 23).1 (TX6 23).2.1 (TX6 23).2.2.1 ∈ tw := tw_in 681 (by decide +kernel) (by decide +kernel)
theorem fl_X6_59 : FL RX6 59 TX6 24 := FL.w (tw_in 682 (by decide +kernel) (by decide +kernel))
theorem fw_X6_59 : Cond.fieldLink RX6 59 (TX6 24).1 (TX6 24).2.1 (TX6 24).2.2.1 ∈ tw := tw_in 682 (by decide +kernel) (by decide +kernel)
theorem fl_X6_62 : FL RX6 62 TX6 25 := FL.w (tw_in 683 (by decide +kernel) (by decide +kernel))
theorem fw_X6_62 : Cond.fieldLink RX6 62 (TX6 25).1 (TX6 25).2.1 (TX6 25).2.2.1 ∈ tw := tw_in 683 (by decide +kernel) (by decide +kernel)
theorem fl_X6_65 : FL RX6 65 TX6 26 := FL.w (tw_in 684 (by decide +kernel) (by decide +kernel))
theorem fw_X6_65 : Cond.fieldLink RX6 65 (TX6 26).1 (TX6 26).2.1 (TX6 26).2.2.1 ∈ tw := tw_in 684 (by decide +kernel) (by decide +kernel)
theorem fl_X6_68 : FL RX6 68 TX6 27 := FL.w (tw_in 685 (by decide +kernel) (by decide +kernel))
theorem fw_X6_68 : Cond.fieldLink RX6 68 (TX6 27).1 (TX6 27).2.1 (TX6 27).2.2.1 ∈ tw := tw_in 685 (by decide +kernel) (by decide +kernel)
theorem fl_X6_71 : FL RX6 71 TX6 28 := FL.w (tw_in 686 (by decide +kernel) (by decide +kernel))
theorem fw_X6_71 : Cond.fieldLink RX6 71 (TX6 28).1 (TX6 28).2.1 (TX6 28).2.2.1 ∈ tw := tw_in 686 (by decide +kernel) (by decide +kernel)
theorem ml_L_83 : Cond.methodLink RL 83 yX5_init ∈ tw := tw_in 26 (by decide +kernel) (by decide +kernel)
theorem ml_X5_3 : Cond.methodLink RX5 3 Lib.objectInit ∈ tw := tw_in 29 (by decide +kernel) (by decide +kernel)
theorem ml_X5_11 : Cond.methodLinkNest RX5 11 yX1_init "PrintKeeper" ∈ tw := tw_in 34 (by decide +kernel) (by decide +kernel)
theorem ml_X1_1 : Cond.methodLink RX1 1 Lib.objectInit ∈ tw := tw_in 37 (by decide +kernel) (by decide +kernel)
theorem ml_X5_20 : Cond.methodLink RX5 20 yJx4a65c_init_da8c8 ∈ tw := tw_in 53 (by decide +kernel) (by decide +kernel)
theorem ml_Jx4a65c_1 : Cond.methodLink RJx4a65c 1 yJxc12de_init_da8c8 ∈ tw := tw_in 56 (by decide +kernel) (by decide +kernel)
theorem ml_Jxc12de_1 : Cond.methodLink RJxc12de 1 yJxa1e45_init_da8c8 ∈ tw := tw_in 59 (by decide +kernel) (by decide +kernel)
theorem ml_Jxa1e45_1 : Cond.methodLink RJxa1e45 1 Lib.objectInit ∈ tw := tw_in 62 (by decide +kernel) (by decide +kernel)
theorem ml_X5_30 : Cond.methodLinkNest RX5 30 yX4_init "PrintKeeper" ∈ tw := tw_in 79 (by decide +kernel) (by decide +kernel)
theorem ml_X4_1 : Cond.methodLink RX4 1 Lib.objectInit ∈ tw := tw_in 82 (by decide +kernel) (by decide +kernel)
theorem ml_X4_9 : Cond.methodLink RX4 9 yJx4a65c_init_da8c8 ∈ tw := tw_in 84 (by decide +kernel) (by decide +kernel)
theorem ml_X5_37 : Cond.methodLinkNest RX5 37 yX2_init "PrintKeeper" ∈ tw := tw_in 97 (by decide +kernel) (by decide +kernel)
theorem ml_X2_3 : Cond.methodLink RX2 3 Lib.objectInit ∈ tw := tw_in 100 (by decide +kernel) (by decide +kernel)
theorem ml_X5_58 : Cond.methodLinkNest RX5 58 yX3_init "PrintKeeper" ∈ tw := tw_in 116 (by decide +kernel) (by decide +kernel)
theorem ml_X3_3 : Cond.methodLink RX3 3 Lib.objectInit ∈ tw := tw_in 119 (by decide +kernel) (by decide +kernel)
theorem ml_X5_61 : Cond.methodLink RX5 61 yJx4a65c_add_9ea2d ∈ tw := tw_in 137 (by decide +kernel) (by decide +kernel)
theorem ml_Jx4a65c_131 : Cond.methodLink RJx4a65c 131 yJx4a65c_add_72be8 ∈ tw := tw_in 141 (by decide +kernel) (by decide +kernel)
theorem ml_Jx4a65c_129 : Cond.methodLink RJx4a65c 129 yJx4a65c_grow_d5877 ∈ tw := tw_in 145 (by decide +kernel) (by decide +kernel)
theorem ml_Jx4a65c_69 : Cond.methodLink RJx4a65c 69 yJx4a65c_grow_92f84 ∈ tw := tw_in 149 (by decide +kernel) (by decide +kernel)
theorem ml_Jx4a65c_73 : Cond.methodLink RJx4a65c 73 yJ8_newLength_cabcc ∈ tw := tw_in 153 (by decide +kernel) (by decide +kernel)
theorem ml_J8_194 : Cond.methodLink RJ8 194 yJ9_max_7cf53 ∈ tw := tw_in 156 (by decide +kernel) (by decide +kernel)
theorem ml_J8_201 : Cond.methodLink RJ8 201 yJ8_hugeLength_7cf53 ∈ tw := tw_in 160 (by decide +kernel) (by decide +kernel)
theorem ml_Jx4a65c_66 : Cond.methodLink RJx4a65c 66 yJ7_copyOf_1904c ∈ tw := tw_in 163 (by decide +kernel) (by decide +kernel)
theorem ml_J7_300 : Cond.methodLink RJ7 300 yJ7_copyOf_6403c ∈ tw := tw_in 182 (by decide +kernel) (by decide +kernel)
theorem ml_J7_304 : Cond.methodLink RJ7 304 yJ9_min_7cf53 ∈ tw := tw_in 188 (by decide +kernel) (by decide +kernel)
theorem ml_Jx4a65c_79 : Cond.methodLink RJx4a65c 79 yJ9_max_7cf53 ∈ tw := tw_in 194 (by decide +kernel) (by decide +kernel)
theorem ml_X5_65 : Cond.methodLink RX5 65 yJ7_fill_53178 ∈ tw := tw_in 196 (by decide +kernel) (by decide +kernel)
theorem ml_L_123 : Cond.methodLink RL 123 yX5_documents ∈ tw := tw_in 233 (by decide +kernel) (by decide +kernel)
theorem ml_X5_85 : Cond.methodLink RX5 85 yJx4a65c_size_8abf5 ∈ tw := tw_in 237 (by decide +kernel) (by decide +kernel)
theorem ml_L_158 : Cond.methodLink RL 158 yX5_clear ∈ tw := tw_in 241 (by decide +kernel) (by decide +kernel)
theorem ml_X5_126 : Cond.methodLink RX5 126 yJx4a65c_get_915e3 ∈ tw := tw_in 245 (by decide +kernel) (by decide +kernel)
theorem ml_Jx4a65c_118 : Cond.methodLink RJx4a65c 118 yJ15_checkIndex_7cf53 ∈ tw := tw_in 249 (by decide +kernel) (by decide +kernel)
theorem ml_J15_105 : Cond.methodLink RJ15 105 yJ3_checkIndex_8e157 ∈ tw := tw_in 252 (by decide +kernel) (by decide +kernel)
theorem ml_Jx4a65c_123 : Cond.methodLink RJx4a65c 123 yJx4a65c_elementData_915e3 ∈ tw := tw_in 255 (by decide +kernel) (by decide +kernel)
theorem ml_X5_221 : Cond.methodLink RX5 221 yX5_isOver ∈ tw := tw_in 260 (by decide +kernel) (by decide +kernel)
theorem ml_X5_208 : Cond.methodLink RX5 208 yX5_isKind ∈ tw := tw_in 264 (by decide +kernel) (by decide +kernel)
theorem ml_X5_224 : Cond.methodLink RX5 224 yX5_isHeld ∈ tw := tw_in 268 (by decide +kernel) (by decide +kernel)
theorem ml_X5_216 : Cond.methodLink RX5 216 yX5_isAccount ∈ tw := tw_in 272 (by decide +kernel) (by decide +kernel)
theorem ml_L_87 : Cond.methodLink RL 87 yL_pass ∈ tw := tw_in 276 (by decide +kernel) (by decide +kernel)
theorem ml_L_7 : Cond.methodLink RL 7 yX5_pass ∈ tw := tw_in 281 (by decide +kernel) (by decide +kernel)
theorem ml_X5_71 : Cond.methodLink RX5 71 yX5_demandRange ∈ tw := tw_in 285 (by decide +kernel) (by decide +kernel)
theorem ml_L_96 : Cond.methodLink RL 96 yL_format ∈ tw := tw_in 373 (by decide +kernel) (by decide +kernel)
theorem ml_L_17 : Cond.methodLink RL 17 yX5_format ∈ tw := tw_in 376 (by decide +kernel) (by decide +kernel)
theorem ml_L_100 : Cond.methodLink RL 100 yL_line ∈ tw := tw_in 381 (by decide +kernel) (by decide +kernel)
theorem ml_L_21 : Cond.methodLink RL 21 yX5_line ∈ tw := tw_in 384 (by decide +kernel) (by decide +kernel)
theorem ml_X5_91 : Cond.methodLinkNest RX5 91 yX2_put "PrintKeeper" ∈ tw := tw_in 388 (by decide +kernel) (by decide +kernel)
theorem ml_L_103 : Cond.methodLink RL 103 yL_feed ∈ tw := tw_in 393 (by decide +kernel) (by decide +kernel)
theorem ml_L_24 : Cond.methodLink RL 24 yX5_feed ∈ tw := tw_in 396 (by decide +kernel) (by decide +kernel)
theorem ml_X5_108 : Cond.methodLink RX5 108 yX5_closePage ∈ tw := tw_in 401 (by decide +kernel) (by decide +kernel)
theorem ml_L_107 : Cond.methodLink RL 107 yL_end ∈ tw := tw_in 405 (by decide +kernel) (by decide +kernel)
theorem ml_L_28 : Cond.methodLink RL 28 yX5_end ∈ tw := tw_in 408 (by decide +kernel) (by decide +kernel)
theorem ml_X5_111 : Cond.methodLinkNest RX5 111 yX2_isEmpty "PrintKeeper" ∈ tw := tw_in 412 (by decide +kernel) (by decide +kernel)
theorem ml_X5_119 : Cond.methodLink RX5 119 yX5_keepOpenRun ∈ tw := tw_in 418 (by decide +kernel) (by decide +kernel)
theorem ml_X5_244 : Cond.methodLink RX5 244 yX5_putTogether ∈ tw := tw_in 422 (by decide +kernel) (by decide +kernel)
theorem ml_X5_248 : Cond.methodLink RX5 248 yX5_formatOn ∈ tw := tw_in 426 (by decide +kernel) (by decide +kernel)
theorem ml_X5_198 : Cond.methodLinkNest RX5 198 yX2_valueAt "PrintKeeper" ∈ tw := tw_in 430 (by decide +kernel) (by decide +kernel)
theorem ml_X2_22 : Cond.methodLink RX2 22 yX2_has ∈ tw := tw_in 434 (by decide +kernel) (by decide +kernel)
theorem ml_X5_255 : Cond.methodLink RX5 255 yX5_kindOf ∈ tw := tw_in 439 (by decide +kernel) (by decide +kernel)
theorem ml_X5_185 : Cond.methodLinkNest RX5 185 yX2_has "PrintKeeper" ∈ tw := tw_in 442 (by decide +kernel) (by decide +kernel)
theorem ml_X5_259 : Cond.methodLinkNest RX5 259 yX0_init "PrintKeeper" ∈ tw := tw_in 443 (by decide +kernel) (by decide +kernel)
theorem ml_X0_3 : Cond.methodLink RX0 3 Lib.objectInit ∈ tw := tw_in 446 (by decide +kernel) (by decide +kernel)
theorem ml_L_110 : Cond.methodLink RL 110 yL_pages ∈ tw := tw_in 472 (by decide +kernel) (by decide +kernel)
theorem ml_L_31 : Cond.methodLink RL 31 yX5_pages ∈ tw := tw_in 476 (by decide +kernel) (by decide +kernel)
theorem ml_X5_122 : Cond.methodLink RX5 122 yX5_runAt ∈ tw := tw_in 480 (by decide +kernel) (by decide +kernel)
theorem ml_L_113 : Cond.methodLink RL 113 yL_twice ∈ tw := tw_in 500 (by decide +kernel) (by decide +kernel)
theorem ml_L_36 : Cond.methodLink RL 36 yX5_twice ∈ tw := tw_in 503 (by decide +kernel) (by decide +kernel)
theorem ml_X5_130 : Cond.methodLinkNest RX5 130 yX4_isLike "PrintKeeper" ∈ tw := tw_in 507 (by decide +kernel) (by decide +kernel)
theorem ml_X4_20 : Cond.methodLink RX4 20 yJx4a65c_size_8abf5 ∈ tw := tw_in 511 (by decide +kernel) (by decide +kernel)
theorem ml_X4_24 : Cond.methodLink RX4 24 yJx4a65c_get_915e3 ∈ tw := tw_in 512 (by decide +kernel) (by decide +kernel)
theorem ml_X4_30 : Cond.methodLinkNest RX4 30 yX2_hasLinesOf "PrintKeeper" ∈ tw := tw_in 514 (by decide +kernel) (by decide +kernel)
theorem ml_X2_26 : Cond.methodLink RX2 26 yX2_valueAt ∈ tw := tw_in 518 (by decide +kernel) (by decide +kernel)
theorem ml_L_116 : Cond.methodLink RL 116 yL_reprint ∈ tw := tw_in 519 (by decide +kernel) (by decide +kernel)
theorem ml_L_39 : Cond.methodLink RL 39 yX5_reprint ∈ tw := tw_in 522 (by decide +kernel) (by decide +kernel)
theorem ml_X5_134 : Cond.methodLink RX5 134 yX5_demandPage ∈ tw := tw_in 526 (by decide +kernel) (by decide +kernel)
theorem ml_L_119 : Cond.methodLink RL 119 yL_copies ∈ tw := tw_in 530 (by decide +kernel) (by decide +kernel)
theorem ml_L_42 : Cond.methodLink RL 42 yX5_copies ∈ tw := tw_in 533 (by decide +kernel) (by decide +kernel)
theorem ml_X5_141 : Cond.methodLink RX5 141 yX5_pageAt ∈ tw := tw_in 537 (by decide +kernel) (by decide +kernel)
theorem ml_L_127 : Cond.methodLink RL 127 yL_isThere ∈ tw := tw_in 540 (by decide +kernel) (by decide +kernel)
theorem ml_L_46 : Cond.methodLink RL 46 yX5_isThere ∈ tw := tw_in 543 (by decide +kernel) (by decide +kernel)
theorem ml_X5_145 : Cond.methodLink RX5 145 yX5_documentAt ∈ tw := tw_in 547 (by decide +kernel) (by decide +kernel)
theorem ml_L_130 : Cond.methodLink RL 130 yL_account ∈ tw := tw_in 552 (by decide +kernel) (by decide +kernel)
theorem ml_L_50 : Cond.methodLink RL 50 yX5_account ∈ tw := tw_in 555 (by decide +kernel) (by decide +kernel)
theorem ml_L_133 : Cond.methodLink RL 133 yL_kind ∈ tw := tw_in 559 (by decide +kernel) (by decide +kernel)
theorem ml_L_53 : Cond.methodLink RL 53 yX5_kind ∈ tw := tw_in 562 (by decide +kernel) (by decide +kernel)
theorem ml_L_136 : Cond.methodLink RL 136 yL_length ∈ tw := tw_in 566 (by decide +kernel) (by decide +kernel)
theorem ml_L_56 : Cond.methodLink RL 56 yX5_length ∈ tw := tw_in 569 (by decide +kernel) (by decide +kernel)
theorem ml_L_139 : Cond.methodLink RL 139 yL_found ∈ tw := tw_in 573 (by decide +kernel) (by decide +kernel)
theorem ml_L_59 : Cond.methodLink RL 59 yX5_found ∈ tw := tw_in 576 (by decide +kernel) (by decide +kernel)
theorem ml_X5_164 : Cond.methodLink RX5 164 yX5_readerAt ∈ tw := tw_in 580 (by decide +kernel) (by decide +kernel)
theorem ml_X5_168 : Cond.methodLinkNest RX5 168 yX3_sees "PrintKeeper" ∈ tw := tw_in 585 (by decide +kernel) (by decide +kernel)
theorem ml_X5_172 : Cond.methodLinkNest RX5 172 yX0_fits "PrintKeeper" ∈ tw := tw_in 589 (by decide +kernel) (by decide +kernel)
theorem ml_L_143 : Cond.methodLink RL 143 yL_read ∈ tw := tw_in 594 (by decide +kernel) (by decide +kernel)
theorem ml_L_63 : Cond.methodLink RL 63 yX5_read ∈ tw := tw_in 598 (by decide +kernel) (by decide +kernel)
theorem ml_X5_181 : Cond.methodLink RX5 181 yX5_pageOf ∈ tw := tw_in 602 (by decide +kernel) (by decide +kernel)
theorem ml_L_147 : Cond.methodLink RL 147 yL_view ∈ tw := tw_in 622 (by decide +kernel) (by decide +kernel)
theorem ml_L_69 : Cond.methodLink RL 69 yX5_view ∈ tw := tw_in 625 (by decide +kernel) (by decide +kernel)
theorem ml_L_151 : Cond.methodLink RL 151 yL_span ∈ tw := tw_in 629 (by decide +kernel) (by decide +kernel)
theorem ml_L_73 : Cond.methodLink RL 73 yX5_span ∈ tw := tw_in 632 (by decide +kernel) (by decide +kernel)
theorem ml_L_154 : Cond.methodLink RL 154 yL_hold ∈ tw := tw_in 637 (by decide +kernel) (by decide +kernel)
theorem ml_L_76 : Cond.methodLink RL 76 yX5_hold ∈ tw := tw_in 640 (by decide +kernel) (by decide +kernel)
theorem ml_L_162 : Cond.methodLink RL 162 yL_bundle ∈ tw := tw_in 645 (by decide +kernel) (by decide +kernel)
theorem ml_L_80 : Cond.methodLink RL 80 yX5_bundle ∈ tw := tw_in 648 (by decide +kernel) (by decide +kernel)
theorem ml_L_86 : Cond.methodLink RL 86 yX6_init ∈ tw := tw_in 654 (by decide +kernel) (by decide +kernel)
theorem ml_X6_1 : Cond.methodLink RX6 1 Lib.objectInit ∈ tw := tw_in 657 (by decide +kernel) (by decide +kernel)
theorem ml_L_93 : Cond.methodLink RL 93 yX6_thrown ∈ tw := tw_in 746 (by decide +kernel) (by decide +kernel)
theorem ml_L_92 : Cond.methodLink RL 92 yX6_pass ∈ tw := tw_in 750 (by decide +kernel) (by decide +kernel)
theorem ml_X6_81 : Cond.methodLink RX6 81 yX6_in ∈ tw := tw_in 754 (by decide +kernel) (by decide +kernel)
theorem ml_L_99 : Cond.methodLink RL 99 yX6_format ∈ tw := tw_in 757 (by decide +kernel) (by decide +kernel)
theorem ml_L_102 : Cond.methodLink RL 102 yX6_line ∈ tw := tw_in 761 (by decide +kernel) (by decide +kernel)
theorem ml_L_106 : Cond.methodLink RL 106 yX6_feed ∈ tw := tw_in 765 (by decide +kernel) (by decide +kernel)
theorem ml_X6_100 : Cond.methodLink RX6 100 yX6_endsPage ∈ tw := tw_in 769 (by decide +kernel) (by decide +kernel)
theorem ml_L_109 : Cond.methodLink RL 109 yX6_end ∈ tw := tw_in 773 (by decide +kernel) (by decide +kernel)
theorem ml_X6_118 : Cond.methodLink RX6 118 yX6_putsTogether ∈ tw := tw_in 777 (by decide +kernel) (by decide +kernel)
theorem ml_X6_110 : Cond.methodLink RX6 110 yX6_formatNow ∈ tw := tw_in 781 (by decide +kernel) (by decide +kernel)
theorem ml_X6_103 : Cond.methodLink RX6 103 yX6_lineOf ∈ tw := tw_in 785 (by decide +kernel) (by decide +kernel)
theorem ml_X6_114 : Cond.methodLink RX6 114 yX6_begins ∈ tw := tw_in 789 (by decide +kernel) (by decide +kernel)
theorem ml_L_112 : Cond.methodLink RL 112 yX6_pages ∈ tw := tw_in 793 (by decide +kernel) (by decide +kernel)
theorem ml_X6_121 : Cond.methodLink RX6 121 yX6_isRun ∈ tw := tw_in 797 (by decide +kernel) (by decide +kernel)
theorem ml_L_115 : Cond.methodLink RL 115 yX6_twice ∈ tw := tw_in 801 (by decide +kernel) (by decide +kernel)
theorem ml_X6_125 : Cond.methodLink RX6 125 yX6_areAlike ∈ tw := tw_in 805 (by decide +kernel) (by decide +kernel)
theorem ml_L_118 : Cond.methodLink RL 118 yX6_reprint ∈ tw := tw_in 809 (by decide +kernel) (by decide +kernel)
theorem ml_X6_129 : Cond.methodLink RX6 129 yX6_isPage ∈ tw := tw_in 813 (by decide +kernel) (by decide +kernel)
theorem ml_L_122 : Cond.methodLink RL 122 yX6_copies ∈ tw := tw_in 817 (by decide +kernel) (by decide +kernel)
theorem ml_L_126 : Cond.methodLink RL 126 yX6_documents ∈ tw := tw_in 821 (by decide +kernel) (by decide +kernel)
theorem ml_L_129 : Cond.methodLink RL 129 yX6_isThere ∈ tw := tw_in 825 (by decide +kernel) (by decide +kernel)
theorem ml_X6_132 : Cond.methodLink RX6 132 yX6_asks ∈ tw := tw_in 829 (by decide +kernel) (by decide +kernel)
theorem ml_L_132 : Cond.methodLink RL 132 yX6_account ∈ tw := tw_in 833 (by decide +kernel) (by decide +kernel)
theorem ml_L_135 : Cond.methodLink RL 135 yX6_kind ∈ tw := tw_in 837 (by decide +kernel) (by decide +kernel)
theorem ml_L_138 : Cond.methodLink RL 138 yX6_length ∈ tw := tw_in 841 (by decide +kernel) (by decide +kernel)
theorem ml_L_142 : Cond.methodLink RL 142 yX6_found ∈ tw := tw_in 845 (by decide +kernel) (by decide +kernel)
theorem ml_X6_135 : Cond.methodLink RX6 135 yX6_isReader ∈ tw := tw_in 849 (by decide +kernel) (by decide +kernel)
theorem ml_X6_138 : Cond.methodLink RX6 138 yX6_sees ∈ tw := tw_in 852 (by decide +kernel) (by decide +kernel)
theorem ml_L_146 : Cond.methodLink RL 146 yX6_read ∈ tw := tw_in 856 (by decide +kernel) (by decide +kernel)
theorem ml_L_150 : Cond.methodLink RL 150 yX6_view ∈ tw := tw_in 860 (by decide +kernel) (by decide +kernel)
theorem ml_L_153 : Cond.methodLink RL 153 yX6_span ∈ tw := tw_in 864 (by decide +kernel) (by decide +kernel)
theorem ml_L_157 : Cond.methodLink RL 157 yX6_hold ∈ tw := tw_in 868 (by decide +kernel) (by decide +kernel)
theorem ml_L_161 : Cond.methodLink RL 161 yX6_clear ∈ tw := tw_in 872 (by decide +kernel) (by decide +kernel)
theorem ml_L_164 : Cond.methodLink RL 164 yX6_bundle ∈ tw := tw_in 876 (by decide +kernel) (by decide +kernel)
theorem kc_J8_200 : Cond.constant RJ8 200 2147483639 ∈ tw := tw_in 159 (by decide +kernel) (by decide +kernel)
theorem ml_J7_86 : Cond.methodLink RJ7 86 ⟨"java/lang/Object", "getClass", "()Ljava/lang/Class;"⟩ ∈ tw := tw_in 166 (by decide +kernel) (by decide +kernel)
theorem im_gc : Cond.instanceMethod ⟨"java/lang/Object", "getClass", "()Ljava/lang/Class;"⟩ ∈ tw := tw_in 167 (by decide +kernel) (by decide +kernel)
theorem nt_gc : Cond.native ⟨"java/lang/Object", "getClass", "()Ljava/lang/Class;"⟩ ∈ tw := tw_in 181 (by decide +kernel) (by decide +kernel)
theorem ml_J7_150 : Cond.methodLink RJ7 150 arraycopyName ∈ tw := tw_in 191 (by decide +kernel) (by decide +kernel)
theorem st_ac : Cond.static arraycopyName ∈ tw := tw_in 192 (by decide +kernel) (by decide +kernel)
theorem nt_ac : Cond.native arraycopyName ∈ tw := tw_in 193 (by decide +kernel) (by decide +kernel)
theorem se_gc : Cond.selects "[Ljava/lang/Object;" ⟨"java/lang/Object", "getClass", "()Ljava/lang/Class;"⟩ ⟨"java/lang/Object", "getClass", "()Ljava/lang/Class;"⟩ ∈ tw := tw_in 897 (by decide +kernel) (by decide +kernel)
theorem de_gc : Cond.declares ⟨"java/lang/Object", "getClass", "()Ljava/lang/Class;"⟩ ∈ tw := tw_in 898 (by decide +kernel) (by decide +kernel)
theorem cm_max : Cond.code Lib.Math.max.name Lib.Math.max.code 2 (some .int) ∈ tw := tw_in 158 (by decide +kernel) (by decide +kernel)
theorem sm_max : Cond.static Lib.Math.max.name ∈ tw := tw_in 157 (by decide +kernel) (by decide +kernel)
theorem cm_min : Cond.code Lib.Math.min.name Lib.Math.min.code 2 (some .int) ∈ tw := tw_in 190 (by decide +kernel) (by decide +kernel)
theorem sm_min : Cond.static Lib.Math.min.name ∈ tw := tw_in 189 (by decide +kernel) (by decide +kernel)
theorem kc0_w : ∀ w ∈ u_ws RJx4a65c TJx4a65c 3, w ∈ tw := by
  have h : u_ws RJx4a65c TJx4a65c 3 = ([74, 70, 72] : List Nat).filterMap (fun i => tables_1[i]?) := by decide +kernel
  have h2 : (u_ws RJx4a65c TJx4a65c 3).all okW = true := by decide +kernel
  intro w hw
  have h3 := List.all_eq_true.mp h2 w hw
  rw [h] at hw
  obtain ⟨i, -, hi⟩ := List.mem_filterMap.mp hw
  exact tw_in i hi h3
theorem kc0 : KC 0 RJx4a65c TJx4a65c 3 tyJx4a65c := ⟨rfl, kc0_w, tyJx4a65c_ok, nmJx4a65c⟩
theorem kc1_w : ∀ w ∈ u_ws RX0 TX0 6, w ∈ tw := by
  have h : u_ws RX0 TX0 6 = ([459, 461, 463, 465, 467, 469] : List Nat).filterMap (fun i => tables_1[i]?) := by decide +kernel
  have h2 : (u_ws RX0 TX0 6).all okW = true := by decide +kernel
  intro w hw
  have h3 := List.all_eq_true.mp h2 w hw
  rw [h] at hw
  obtain ⟨i, -, hi⟩ := List.mem_filterMap.mp hw
  exact tw_in i hi h3
theorem kc1 : KC 1 RX0 TX0 6 tyX0 := ⟨rfl, kc1_w, tyX0_ok, nmX0⟩
theorem kc2_w : ∀ w ∈ u_ws RX1 TX1 3, w ∈ tw := by
  have h : u_ws RX1 TX1 3 = ([44, 46, 48] : List Nat).filterMap (fun i => tables_1[i]?) := by decide +kernel
  have h2 : (u_ws RX1 TX1 3).all okW = true := by decide +kernel
  intro w hw
  have h3 := List.all_eq_true.mp h2 w hw
  rw [h] at hw
  obtain ⟨i, -, hi⟩ := List.mem_filterMap.mp hw
  exact tw_in i hi h3
theorem kc2 : KC 2 RX1 TX1 3 tyX1 := ⟨rfl, kc2_w, tyX1_ok, nmX1⟩
theorem kc3_w : ∀ w ∈ u_ws RX2 TX2 3, w ∈ tw := by
  have h : u_ws RX2 TX2 3 = ([106, 108, 110] : List Nat).filterMap (fun i => tables_1[i]?) := by decide +kernel
  have h2 : (u_ws RX2 TX2 3).all okW = true := by decide +kernel
  intro w hw
  have h3 := List.all_eq_true.mp h2 w hw
  rw [h] at hw
  obtain ⟨i, -, hi⟩ := List.mem_filterMap.mp hw
  exact tw_in i hi h3
theorem kc3 : KC 3 RX2 TX2 3 tyX2 := ⟨rfl, kc3_w, tyX2_ok, nmX2⟩
theorem kc4_w : ∀ w ∈ u_ws RX3 TX3 4, w ∈ tw := by
  have h : u_ws RX3 TX3 4 = ([127, 129, 131, 133] : List Nat).filterMap (fun i => tables_1[i]?) := by decide +kernel
  have h2 : (u_ws RX3 TX3 4).all okW = true := by decide +kernel
  intro w hw
  have h3 := List.all_eq_true.mp h2 w hw
  rw [h] at hw
  obtain ⟨i, -, hi⟩ := List.mem_filterMap.mp hw
  exact tw_in i hi h3
theorem kc4 : KC 4 RX3 TX3 4 tyX3 := ⟨rfl, kc4_w, tyX3_ok, nmX3⟩
theorem kc5_w : ∀ w ∈ u_ws RX4 TX4 2, w ∈ tw := by
  have h : u_ws RX4 TX4 2 = ([90, 92] : List Nat).filterMap (fun i => tables_1[i]?) := by decide +kernel
  have h2 : (u_ws RX4 TX4 2).all okW = true := by decide +kernel
  intro w hw
  have h3 := List.all_eq_true.mp h2 w hw
  rw [h] at hw
  obtain ⟨i, -, hi⟩ := List.mem_filterMap.mp hw
  exact tw_in i hi h3
theorem kc5 : KC 5 RX4 TX4 2 tyX4 := ⟨rfl, kc5_w, tyX4_ok, nmX4⟩
theorem kc6_w : ∀ w ∈ u_ws RX5 TX5 11, w ∈ tw := by
  have h : u_ws RX5 TX5 11 = ([210, 212, 214, 216, 218, 220, 222, 224, 226, 228, 230] : List Nat).filterMap (fun i => tables_1[i]?) := by decide +kernel
  have h2 : (u_ws RX5 TX5 11).all okW = true := by decide +kernel
  intro w hw
  have h3 := List.all_eq_true.mp h2 w hw
  rw [h] at hw
  obtain ⟨i, -, hi⟩ := List.mem_filterMap.mp hw
  exact tw_in i hi h3
theorem kc6 : KC 6 RX5 TX5 11 tyX5 := ⟨rfl, kc6_w, tyX5_ok, nmX5⟩
theorem kc7_w : ∀ w ∈ u_ws RX6 TX6 29, w ∈ tw := by
  have h : u_ws RX6 TX6 29 = ([687, 689, 691, 693, 695, 697, 699, 701, 703, 705, 707, 709, 711, 713, 715, 717, 719, 721, 723, 725, 727, 729, 731, 733, 735, 737, 739, 741, 743] : List Nat).filterMap (fun i => tables_1[i]?) := by decide +kernel
  have h2 : (u_ws RX6 TX6 29).all okW = true := by decide +kernel
  intro w hw
  have h3 := List.all_eq_true.mp h2 w hw
  rw [h] at hw
  obtain ⟨i, -, hi⟩ := List.mem_filterMap.mp hw
  exact tw_in i hi h3
theorem kc7 : KC 7 RX6 TX6 29 tyX6 := ⟨rfl, kc7_w, tyX6_ok, nmX6⟩
end
section
/-! More rows: statics, class objects, copying of references; contracts of the common forms. -/
/-- answers v, the world as it was -/
def PV (v : Value) (w : Wd) : RV → Wd → Prop := fun r w' => r = .inl (some v) ∧ w' = w
/-- answers nothing, the world as it was -/
def PU (w : Wd) : RV → Wd → Prop := fun r w' => r = .inl none ∧ w' = w
/-- throws E, the world as it was -/
def PX (E : String) (w : Wd) : RV → Wd → Prop := fun r w' => r = .inr E ∧ w' = w
/-- answers v, with a world of which B holds -/
def PB (v : Value) (B : Wd → Prop) : RV → Wd → Prop := fun r w' => r = .inl (some v) ∧ B w'
/-- answers nothing, with a world of which B holds -/
def PN (B : Wd → Prop) : RV → Wd → Prop := fun r w' => r = .inl none ∧ B w'
section Cont
variable {w : Wd} {v : Value} {E0 : String} {B : Wd → Prop} {K : Option Value → Wd → Prop} {KX : String → Wd → Prop}
theorem kr_V (h : K (some v) w) : ∀ v' w', PV v w (.inl v') w' → K v' w' := fun _ _ hp => by obtain ⟨h1, h2⟩ := hp; cases h1; rw [h2]; exact h
theorem kx_V : ∀ E w', PV v w (.inr E) w' → KX E w' := fun _ _ hp => nomatch hp.1
theorem kn_V : ∀ E w', ¬ PV v w (.inr E) w' := fun _ _ hp => nomatch hp.1
theorem kr_U (h : K none w) : ∀ v' w', PU w (.inl v') w' → K v' w' := fun _ _ hp => by obtain ⟨h1, h2⟩ := hp; cases h1; rw [h2]; exact h
theorem kx_U : ∀ E w', PU w (.inr E) w' → KX E w' := fun _ _ hp => nomatch hp.1
theorem kn_U : ∀ E w', ¬ PU w (.inr E) w' := fun _ _ hp => nomatch hp.1
theorem kr_X : ∀ v' w', PX E0 w (.inl v') w' → K v' w' := fun _ _ hp => nomatch hp.1
theorem kx_X (h : KX E0 w) : ∀ E w', PX E0 w (.inr E) w' → KX E w' := fun _ _ hp => by obtain ⟨h1, h2⟩ := hp; cases h1; rw [h2]; exact h
theorem kr_B (h : ∀ w', B w' → K (some v) w') : ∀ v' w', PB v B (.inl v') w' → K v' w' := fun _ _ hp => by obtain ⟨h1, h2⟩ := hp; cases h1; exact h _ h2
theorem kx_B : ∀ E w', PB v B (.inr E) w' → KX E w' := fun _ _ hp => nomatch hp.1
theorem kn_B : ∀ E w', ¬ PB v B (.inr E) w' := fun _ _ hp => nomatch hp.1
theorem kr_N (h : ∀ w', B w' → K none w') : ∀ v' w', PN B (.inl v') w' → K v' w' := fun _ _ hp => by obtain ⟨h1, h2⟩ := hp; cases h1; exact h _ h2
theorem kx_N : ∀ E w', PN B (.inr E) w' → KX E w' := fun _ _ hp => nomatch hp.1
theorem kn_N : ∀ E w', ¬ PN B (.inr E) w' := fun _ _ hp => nomatch hp.1
end Cont
section MoreRows
variable {G : Gx} {R : Room} {cc : ByteArray} {own : String} {Y : Yx} {C : Cx} {Q : State → Prop} {pc : Nat} {L : List (Option Value)} {st : List Value} {w : Wd} {c k : Nat}
theorem g_gsE {idx : Nat} (d : decode cc pc = .ok (.getstatic idx, 3)) (h1 : Cond.fieldLink own idx "java/util/ArrayList" "DEFAULTCAPACITY_EMPTY_ELEMENTDATA" "[Ljava/lang/Object;" ∈ tw) (h : Go G R cc own Y C Q (pc + 3) L (.ref (gE G) :: st) w c k) : Go G R cc own Y C Q pc L st w c k := by
  obtain ⟨p, e, s, m, args, below, meth, cd⟩ := C
  intro O H ls locs hR hS hL
  have hB : ∀ a : Nat, a < (gH G).size → ¬ gA G a → s.heap[a]? = (gH G)[a]? := fun a ha _ => O.2.2.2.2.1.2 a ha
  exact va_gets O.1 O.2.1 (O.2.2.2.1.2.2.2.2.2.2.1.kept hB) hS O.2.2.1 (O.2.2.2.1.w h1) (fun _ z => z) d (h O H ls locs hR hS hL)
theorem g_getC {idx a n : Nat} {f : Nat → Option Nat} (d : decode cc pc = .ok (.invokevirtual idx, 3)) (h1 : Cond.methodLink own idx ⟨"java/lang/Object", "getClass", "()Ljava/lang/Class;"⟩ ∈ tw) (hw : w a = some (eQ G n f)) (hf : 1 ≤ R.frames) (hl : (st.map fun v => v.category).sum + 14 ≤ R.locals) (h : Go G R cc own Y C Q (pc + 3) L (.ref (gM G) :: st) w c k) : Go G R cc own Y C Q pc L (.ref a :: st) w c k := by
  obtain ⟨p, e, s, m, args, below, meth, cd⟩ := C
  intro O H ls locs hR hS hL
  obtain ⟨cell, q1, q2, q3, q4, q5⟩ := hR.c hw
  refine va_getC O.1 O.2.1 hL.1.symm O.2.2.1 (O.2.2.2.1.w h1) (O.2.2.2.1.w de_gc) (O.2.2.2.1.w se_gc) (O.2.2.2.1.w im_gc) (O.2.2.2.1.w nt_gc) O.2.2.2.1.2.2.2.2.2.2.2.1 ⟨cell, q1, q4, ?_⟩ hf hl d (h O H ls locs hR hS hL)
  rw [q2]
  exact va_nmO (O.2.2.2.1.2.1.2 3 _ rfl).2 (by decide +kernel)
theorem g_ldcM {idx : Nat} (d : decode cc pc = .ok (.ldc idx, 2)) (h1 : Cond.classLink own idx "[Ljava/lang/Object;" ∈ tw) (h : Go G R cc own Y C Q (pc + 2) L (.ref (gM G) :: st) w c k) : Go G R cc own Y C Q pc L st w c k := by
  obtain ⟨p, e, s, m, args, below, meth, cd⟩ := C
  intro O H ls locs hR hS hL
  exact va_ldcM O.1 O.2.1 O.2.2.1 (O.2.2.2.1.w h1) O.2.2.2.1.2.2.2.2.2.2.2.1 d (h O H ls locs hR hS hL)
theorem g_ldcI {idx : Nat} {v : Int32} (d : decode cc pc = .ok (.ldc idx, 2)) (h1 : Cond.constant own idx v ∈ tw) (h : Go G R cc own Y C Q (pc + 2) L (.int v :: st) w c k) : Go G R cc own Y C Q pc L st w c k := by
  obtain ⟨p, e, s, m, args, below, meth, cd⟩ := C
  intro O H ls locs hR hS hL
  exact lv_ldc O.1 O.2.1 O.2.2.1 (O.2.2.2.1.w h1) d (h O H ls locs hR hS hL)
/-- System.arraycopy(a0, 0, a, 0, n) between arrays of references, the elements all of one class of the table -/
theorem g_copyq {idx a0 a n0 n1 n ci N : Nat} {f g : Nat → Option Nat} {Cn : String} {T : u_T} {ty : Nat → FieldType} (hk : KC ci Cn T N ty) (hca : Cond.castable Cn "java/lang/Object" ∈ tw) (d : decode cc pc = .ok (.invokestatic idx, 3)) (h1 : Cond.methodLink own idx arraycopyName ∈ tw) (h2 : Cond.initialized "java/lang/System" ∈ tw)
    (hw0 : w a0 = some (eQ G n0 f)) (hw1 : w a = some (eQ G n1 g)) (ha : (gH G).size ≤ a) (hn : n < 2 ^ 31) (hn0 : n ≤ n0) (hn1 : n ≤ n1) (hel : ∀ i, i < n → ∀ y, f i = some y → ∃ vs, w y = some (eO ci vs)) (hf : 1 ≤ R.frames) (hl : (st.map fun v => v.category).sum + (nativeFrameWords "java/lang/System" "arraycopy" 5 + 11) ≤ R.locals)
    (h : Go G R cc own Y C Q (pc + 3) L st (up w a (eQ G n1 (va_cpy f g 0 0 n))) c k) : Go G R cc own Y C Q pc L (.int (nI n) :: .int 0 :: .ref a :: .int 0 :: .ref a0 :: st) w c k := by
  obtain ⟨p, e, s, m, args, below, meth, cd⟩ := C
  intro O H ls locs hR hS hL T0 hT X
  have hK := O.2.2.2.1.2.1
  obtain ⟨cs, hc0, qc, qs, qv, qu⟩ := hR.c hw0
  have hcs : ∀ j, j < n0 → cs.slots[j]? = some (va_rf (f j)) := fun j hj => by rw [qs]; show (arrV _ _ _).slots[j]? = _; rw [arrV_read _ _ hj]
  have hcz : cs.slots.size = n0 := by rw [qs, vp_cell_q, arrV_size]
  have hc1 : H[a]? = some (vp_cell (gO G) (n1, .inr (.inr (.inr (.inr g))))) := hR.s hw1 ha
  obtain ⟨-, k0, hk0, cm0, hkk0⟩ := (hK.2 3 _ rfl).1 n0 (fun j => va_rf (f j))
  obtain ⟨-, k1, hk1, cm1, hkk1⟩ := (hK.2 3 _ rfl).1 n1 (fun j => va_rf (g j))
  have ei : (nI n).toInt = (n : Int) := nI_toInt hn
  have ec : (nI n).toNatClampNeg = n := nI_clamp hn
  obtain ⟨vm', X', step⟩ := X.arraycopy O.1 O.2.2.1 (O.2.2.2.1.w h1) (O.2.2.2.1.w nt_ac) (O.2.2.2.1.w st_ac) (O.2.2.2.1.w h2) (src := a0) (dst := a) (cs := cs) (cd := vp_cell (gO G) (n1, .inr (.inr (.inr (.inr g))))) (srcPos := 0) (destPos := 0) (n := nI n) (by rw [hT]; exact hc0) (by rw [hT]; exact hc1)
    (fun _ h => by rw [h] at qv; cases qv) (fun _ h => by cases h) qu (fun h => by cases h) (by rw [qc]; exact hk0) hk1 hkk0 hkk1 rfl (by decide) (by decide) (nI_pos hn)
    (by rw [ei, hcz]; have : (0 : Int32).toInt = 0 := rfl; omega)
    (by rw [ei]; show ¬ (0 : Int32).toInt + _ > ((arrV (gO G) n1 (fun j => va_rf (g j))).slots.size : Int); rw [arrV_size]; have : (0 : Int32).toInt = 0 := rfl; omega)
    (fun vm₁ hal i hi => by
      rw [ec] at hi
      have e0 : (0 : Int32).toNatClampNeg = 0 := by decide
      have e : cs.slots.getD ((0 : Int32).toNatClampNeg + i) .null = va_rf (f i) := by
        rw [e0, Nat.zero_add, Array.getD_eq_getD_getElem?, hcs _ (by omega)]
        rfl
      rw [e]
      cases hy : f i with
      | none => exact ⟨rfl, trivial⟩
      | some y =>
        obtain ⟨vs, hv⟩ := hel i hi y hy
        obtain ⟨cellV, g1, g2, g3⟩ := recv_at O hk hR hv
        obtain ⟨kA, comp, r1, r2, r3, -⟩ := (hK.2 3 _ rfl).2
        cases hk1.symm.trans r1
        cases hkk1.symm.trans r2
        obtain ⟨kC, hkC, -⟩ := Vm.findClass_spec g3
        obtain ⟨kE, hkE, -⟩ := Vm.findClass_spec r3
        obtain ⟨kC', hkC', -⟩ := hal.2.2 _ _ hkC
        obtain ⟨kE', hkE', -⟩ := hal.2.2 _ _ hkE
        refine ⟨rfl, cellV, (show T0.heap[y]? = some cellV by rw [hT]; exact g1), (fun q h => by rw [h] at g2; cases g2), ⟨kC', hkC'⟩, ?_, ?_⟩
        · exact ⟨kE', hkE'⟩
        · show vm₁.assignable _ _ = true
          rw [hal.assignable]
          obtain ⟨c5, t5, f1, f2, f3⟩ := Cond.castable_spec (O.2.2.2.1.w (a := args) hca)
          cases g3.symm.trans f1
          cases r3.symm.trans f2
          exact f3)
    (g := F0 m pc ls (.int (nI n) :: .int 0 :: .ref a :: .int 0 :: .ref a0 :: st)) rfl hL.1 (rest := st) rfl (by rw [O.2.1]; exact d) hf (by show 2 * 0 + _ + _ ≤ _; omega)
  have e1 : copied cs (vp_cell (gO G) (n1, .inr (.inr (.inr (.inr g))))) 0 0 (nI n) = vp_cell (gO G) (n1, .inr (.inr (.inr (.inr (va_cpy f g 0 0 n))))) := by
    rw [vp_cell_q, vp_cell_q]
    have h9 := va_copiedX (sp := (0 : Int32).toNatClampNeg) (dp := (0 : Int32).toNatClampNeg) (n := (nI n).toNatClampNeg) (fun z => va_rf z) cs (gO G) f g (n0 := n0) (n1 := n1) hcs (by rw [ec]; show 0 + n ≤ n0; omega)
    refine Eq.trans h9 ?_
    rw [ec, sb_cl0]
  rw [e1] at X' step
  have hlt : a < H.size := (Array.getElem?_eq_some_iff.mp hc1).1
  have hheap : ((T0.setVm vm').setCell a (vp_cell (gO G) (n1, .inr (.inr (.inr (.inr (va_cpy f g 0 0 n))))))).heap = H.setIfInBounds a (vp_cell (gO G) (n1, .inr (.inr (.inr (.inr (va_cpy f g 0 0 n)))))) := by rw [← hT]; rfl
  have oq : ∀ q : Nat, q ≠ a → (H.setIfInBounds a (vp_cell (gO G) (n1, .inr (.inr (.inr (.inr (va_cpy f g 0 0 n)))))))[q]? = H[q]? := fun q hq => by simp [Array.getElem?_setIfInBounds, Ne.symm hq]
  obtain ⟨t, a1, b1⟩ := h O _ ls _ (hR.put (show (H.setIfInBounds a _)[a]? = some _ by simp [Array.getElem?_setIfInBounds, hlt]) oq) ⟨by simp; exact hS.1, fun q g1 g2 => by
      rw [oq q (fun e => g2 (by rw [e]; exact ha))]
      exact hS.2.1 q g1 g2, fun q hq => by
      rcases List.mem_append.mp hq with h | h
      · exact hS.2.2 q h
      · obtain ⟨z, -, hz⟩ := List.mem_map.mp h
        rw [← hz]
        exact ha⟩ hL _ hheap X'
  exact ⟨t, step t a1, b1⟩
end MoreRows
end
section
theorem zz_last : True := trivial
end
