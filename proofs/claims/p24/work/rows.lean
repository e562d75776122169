section
-- ===== PART A: goes FIRST, ahead of the names: the tables' words, and 'selects' of the private methods out of them =====
/-- a private method of a class that the tables say can be made, by its rows of tables_1 -/
def lw_okq (q : MethodName × Nat) : Prop := (q.1.cls ≠ "java/lang/invoke/MethodHandle" ∧ q.1.cls ≠ "java/lang/invoke/VarHandle") ∧ Cond.instantiable q.1.cls q.2 ∈ tables_1 ∧ Cond.privateMethod q.1 ∈ tables_1 ∧ Cond.instanceMethod q.1 ∈ tables_1
theorem lw_p0 : lw_okq (⟨"java/util/ArrayList", "add", "(Ljava/lang/Object;[Ljava/lang/Object;I)V"⟩, 3) := ⟨⟨by decide +kernel, by decide +kernel⟩, List.mem_of_getElem? (i := 51) (by decide +kernel), List.mem_of_getElem? (i := 141) (by decide +kernel), List.mem_of_getElem? (i := 142) (by decide +kernel)⟩
theorem lw_p1 : lw_okq (⟨"java/util/ArrayList", "grow", "()[Ljava/lang/Object;"⟩, 3) := ⟨⟨by decide +kernel, by decide +kernel⟩, List.mem_of_getElem? (i := 51) (by decide +kernel), List.mem_of_getElem? (i := 145) (by decide +kernel), List.mem_of_getElem? (i := 146) (by decide +kernel)⟩
theorem lw_p2 : lw_okq (⟨"java/util/ArrayList", "grow", "(I)[Ljava/lang/Object;"⟩, 3) := ⟨⟨by decide +kernel, by decide +kernel⟩, List.mem_of_getElem? (i := 51) (by decide +kernel), List.mem_of_getElem? (i := 149) (by decide +kernel), List.mem_of_getElem? (i := 150) (by decide +kernel)⟩
theorem lw_p3 : lw_okq (⟨"java/lang/Throwable", "fillInStackTrace", "(I)Ljava/lang/Throwable;"⟩, 6) := ⟨⟨by decide +kernel, by decide +kernel⟩, List.mem_of_getElem? (i := 297) (by decide +kernel), List.mem_of_getElem? (i := 295) (by decide +kernel), List.mem_of_getElem? (i := 296) (by decide +kernel)⟩
theorem lw_p4 : lw_okq (⟨"PrintKeeper$Page", "put", "(I)Z"⟩, 3) := ⟨⟨by decide +kernel, by decide +kernel⟩, List.mem_of_getElem? (i := 95) (by decide +kernel), List.mem_of_getElem? (i := 327) (by decide +kernel), List.mem_of_getElem? (i := 328) (by decide +kernel)⟩
theorem lw_p5 : lw_okq (⟨"PrintKeeper", "closePage", "()V"⟩, 11) := ⟨⟨by decide +kernel, by decide +kernel⟩, List.mem_of_getElem? (i := 24) (by decide +kernel), List.mem_of_getElem? (i := 360) (by decide +kernel), List.mem_of_getElem? (i := 361) (by decide +kernel)⟩
theorem lw_p6 : lw_okq (⟨"PrintKeeper$Page", "isEmpty", "()Z"⟩, 3) := ⟨⟨by decide +kernel, by decide +kernel⟩, List.mem_of_getElem? (i := 95) (by decide +kernel), List.mem_of_getElem? (i := 371) (by decide +kernel), List.mem_of_getElem? (i := 372) (by decide +kernel)⟩
theorem lw_p7 : lw_okq (⟨"PrintKeeper", "keepOpenRun", "()V"⟩, 11) := ⟨⟨by decide +kernel, by decide +kernel⟩, List.mem_of_getElem? (i := 24) (by decide +kernel), List.mem_of_getElem? (i := 377) (by decide +kernel), List.mem_of_getElem? (i := 378) (by decide +kernel)⟩
theorem lw_p8 : lw_okq (⟨"PrintKeeper", "putTogether", "(LPrintKeeper$Run;)V"⟩, 11) := ⟨⟨by decide +kernel, by decide +kernel⟩, List.mem_of_getElem? (i := 24) (by decide +kernel), List.mem_of_getElem? (i := 381) (by decide +kernel), List.mem_of_getElem? (i := 382) (by decide +kernel)⟩
theorem lw_p9 : lw_okq (⟨"PrintKeeper", "formatOn", "(I)LPrintKeeper$Format;"⟩, 11) := ⟨⟨by decide +kernel, by decide +kernel⟩, List.mem_of_getElem? (i := 24) (by decide +kernel), List.mem_of_getElem? (i := 385) (by decide +kernel), List.mem_of_getElem? (i := 386) (by decide +kernel)⟩
theorem lw_p10 : lw_okq (⟨"PrintKeeper$Page", "valueAt", "(I)I"⟩, 3) := ⟨⟨by decide +kernel, by decide +kernel⟩, List.mem_of_getElem? (i := 95) (by decide +kernel), List.mem_of_getElem? (i := 403) (by decide +kernel), List.mem_of_getElem? (i := 404) (by decide +kernel)⟩
theorem lw_p11 : lw_okq (⟨"PrintKeeper$Page", "has", "(I)Z"⟩, 3) := ⟨⟨by decide +kernel, by decide +kernel⟩, List.mem_of_getElem? (i := 95) (by decide +kernel), List.mem_of_getElem? (i := 407) (by decide +kernel), List.mem_of_getElem? (i := 408) (by decide +kernel)⟩
theorem lw_p12 : lw_okq (⟨"PrintKeeper", "runAt", "(I)LPrintKeeper$Run;"⟩, 11) := ⟨⟨by decide +kernel, by decide +kernel⟩, List.mem_of_getElem? (i := 24) (by decide +kernel), List.mem_of_getElem? (i := 481) (by decide +kernel), List.mem_of_getElem? (i := 482) (by decide +kernel)⟩
theorem lw_p13 : lw_okq (⟨"PrintKeeper", "readerAt", "(I)LPrintKeeper$Reader;"⟩, 11) := ⟨⟨by decide +kernel, by decide +kernel⟩, List.mem_of_getElem? (i := 24) (by decide +kernel), List.mem_of_getElem? (i := 512) (by decide +kernel), List.mem_of_getElem? (i := 513) (by decide +kernel)⟩
theorem lw_p14 : lw_okq (⟨"PrintKeeper", "isKind", "(I)Z"⟩, 11) := ⟨⟨by decide +kernel, by decide +kernel⟩, List.mem_of_getElem? (i := 24) (by decide +kernel), List.mem_of_getElem? (i := 524) (by decide +kernel), List.mem_of_getElem? (i := 525) (by decide +kernel)⟩
theorem lw_p15 : lw_okq (⟨"PrintKeeper", "isAccount", "(I)Z"⟩, 11) := ⟨⟨by decide +kernel, by decide +kernel⟩, List.mem_of_getElem? (i := 24) (by decide +kernel), List.mem_of_getElem? (i := 536) (by decide +kernel), List.mem_of_getElem? (i := 537) (by decide +kernel)⟩
def lw_privs_1 : List (MethodName × Nat) := [(⟨"java/util/ArrayList", "add", "(Ljava/lang/Object;[Ljava/lang/Object;I)V"⟩, 3), (⟨"java/util/ArrayList", "grow", "()[Ljava/lang/Object;"⟩, 3), (⟨"java/util/ArrayList", "grow", "(I)[Ljava/lang/Object;"⟩, 3), (⟨"java/lang/Throwable", "fillInStackTrace", "(I)Ljava/lang/Throwable;"⟩, 6), (⟨"PrintKeeper$Page", "put", "(I)Z"⟩, 3), (⟨"PrintKeeper", "closePage", "()V"⟩, 11), (⟨"PrintKeeper$Page", "isEmpty", "()Z"⟩, 3), (⟨"PrintKeeper", "keepOpenRun", "()V"⟩, 11), (⟨"PrintKeeper", "putTogether", "(LPrintKeeper$Run;)V"⟩, 11), (⟨"PrintKeeper", "formatOn", "(I)LPrintKeeper$Format;"⟩, 11), (⟨"PrintKeeper$Page", "valueAt", "(I)I"⟩, 3), (⟨"PrintKeeper$Page", "has", "(I)Z"⟩, 3), (⟨"PrintKeeper", "runAt", "(I)LPrintKeeper$Run;"⟩, 11), (⟨"PrintKeeper", "readerAt", "(I)LPrintKeeper$Reader;"⟩, 11), (⟨"PrintKeeper", "isKind", "(I)Z"⟩, 11), (⟨"PrintKeeper", "isAccount", "(I)Z"⟩, 11)]
theorem lw_r1 : ∀ q ∈ lw_privs_1, lw_okq q := List.forall_mem_cons.mpr ⟨lw_p0, List.forall_mem_cons.mpr ⟨lw_p1, List.forall_mem_cons.mpr ⟨lw_p2, List.forall_mem_cons.mpr ⟨lw_p3, List.forall_mem_cons.mpr ⟨lw_p4, List.forall_mem_cons.mpr ⟨lw_p5, List.forall_mem_cons.mpr ⟨lw_p6, List.forall_mem_cons.mpr ⟨lw_p7, List.forall_mem_cons.mpr ⟨lw_p8, List.forall_mem_cons.mpr ⟨lw_p9, List.forall_mem_cons.mpr ⟨lw_p10, List.forall_mem_cons.mpr ⟨lw_p11, List.forall_mem_cons.mpr ⟨lw_p12, List.forall_mem_cons.mpr ⟨lw_p13, List.forall_mem_cons.mpr ⟨lw_p14, List.forall_mem_cons.mpr ⟨lw_p15, fun _ h => absurd h List.not_mem_nil⟩⟩⟩⟩⟩⟩⟩⟩⟩⟩⟩⟩⟩⟩⟩⟩
theorem lw_p16 : lw_okq (⟨"PrintKeeper", "isOver", "(LPrintKeeper$Document;)Z"⟩, 11) := ⟨⟨by decide +kernel, by decide +kernel⟩, List.mem_of_getElem? (i := 24) (by decide +kernel), List.mem_of_getElem? (i := 548) (by decide +kernel), List.mem_of_getElem? (i := 549) (by decide +kernel)⟩
theorem lw_p17 : lw_okq (⟨"PrintKeeper", "isHeld", "(LPrintKeeper$Document;)Z"⟩, 11) := ⟨⟨by decide +kernel, by decide +kernel⟩, List.mem_of_getElem? (i := 24) (by decide +kernel), List.mem_of_getElem? (i := 552) (by decide +kernel), List.mem_of_getElem? (i := 553) (by decide +kernel)⟩
theorem lw_p18 : lw_okq (⟨"PrintKeeper", "documentAt", "(I)LPrintKeeper$Document;"⟩, 11) := ⟨⟨by decide +kernel, by decide +kernel⟩, List.mem_of_getElem? (i := 24) (by decide +kernel), List.mem_of_getElem? (i := 563) (by decide +kernel), List.mem_of_getElem? (i := 564) (by decide +kernel)⟩
theorem lw_p19 : lw_okq (⟨"PrintKeeper$Run", "isLike", "(LPrintKeeper$Run;)Z"⟩, 2) := ⟨⟨by decide +kernel, by decide +kernel⟩, List.mem_of_getElem? (i := 77) (by decide +kernel), List.mem_of_getElem? (i := 600) (by decide +kernel), List.mem_of_getElem? (i := 601) (by decide +kernel)⟩
theorem lw_p20 : lw_okq (⟨"PrintKeeper$Page", "hasLinesOf", "(LPrintKeeper$Page;)Z"⟩, 3) := ⟨⟨by decide +kernel, by decide +kernel⟩, List.mem_of_getElem? (i := 95) (by decide +kernel), List.mem_of_getElem? (i := 607) (by decide +kernel), List.mem_of_getElem? (i := 608) (by decide +kernel)⟩
theorem lw_p21 : lw_okq (⟨"PrintKeeper$Reader", "sees", "(LPrintKeeper$Document;)Z"⟩, 4) := ⟨⟨by decide +kernel, by decide +kernel⟩, List.mem_of_getElem? (i := 114) (by decide +kernel), List.mem_of_getElem? (i := 632) (by decide +kernel), List.mem_of_getElem? (i := 633) (by decide +kernel)⟩
theorem lw_p22 : lw_okq (⟨"PrintKeeper$Document", "fits", "(III)Z"⟩, 6) := ⟨⟨by decide +kernel, by decide +kernel⟩, List.mem_of_getElem? (i := 411) (by decide +kernel), List.mem_of_getElem? (i := 636) (by decide +kernel), List.mem_of_getElem? (i := 637) (by decide +kernel)⟩
def lw_privs_2 : List (MethodName × Nat) := [(⟨"PrintKeeper", "isOver", "(LPrintKeeper$Document;)Z"⟩, 11), (⟨"PrintKeeper", "isHeld", "(LPrintKeeper$Document;)Z"⟩, 11), (⟨"PrintKeeper", "documentAt", "(I)LPrintKeeper$Document;"⟩, 11), (⟨"PrintKeeper$Run", "isLike", "(LPrintKeeper$Run;)Z"⟩, 2), (⟨"PrintKeeper$Page", "hasLinesOf", "(LPrintKeeper$Page;)Z"⟩, 3), (⟨"PrintKeeper$Reader", "sees", "(LPrintKeeper$Document;)Z"⟩, 4), (⟨"PrintKeeper$Document", "fits", "(III)Z"⟩, 6)]
theorem lw_r2 : ∀ q ∈ lw_privs_2, lw_okq q := List.forall_mem_cons.mpr ⟨lw_p16, List.forall_mem_cons.mpr ⟨lw_p17, List.forall_mem_cons.mpr ⟨lw_p18, List.forall_mem_cons.mpr ⟨lw_p19, List.forall_mem_cons.mpr ⟨lw_p20, List.forall_mem_cons.mpr ⟨lw_p21, List.forall_mem_cons.mpr ⟨lw_p22, fun _ h => absurd h List.not_mem_nil⟩⟩⟩⟩⟩⟩⟩
def lw_privs : List (MethodName × Nat) := lw_privs_1 ++ (lw_privs_2)
def lw_tbl : List Cond := k2_sels lw_privs ++ tables_1
theorem lw_privs_ok : ∀ q ∈ lw_privs, lw_okq q := by
  show ∀ q ∈ lw_privs_1 ++ (lw_privs_2), lw_okq q
  exact List.forall_mem_append.mpr ⟨lw_r1, lw_r2⟩
-- ===== end of PART A; then your names; then what follows =====
/-! ===== BEGIN words of one list among another's, by their places ===== -/
theorem goodIn_r {big : List Cond} (ws : List Cond) (ps : List Nat) (hp : ws = ps.filterMap (fun i => big[i]?)) (h : ws.all goodWord = true) : GoodIn big ws := by
  intro w hw
  have h1 := List.all_eq_true.mp h w hw
  rw [hp] at hw
  obtain ⟨i, -, hi⟩ := List.mem_filterMap.mp hw
  have hm : w ∈ big := by first | exact List.mem_of_getElem? hi | exact List.getElem?_mem hi
  exact ⟨hm, good_of_word h1⟩
theorem goodIn_app {big a b : List Cond} (ha : GoodIn big a) (hb : GoodIn big b) : GoodIn big (a ++ b) := fun w h => (List.mem_append.mp h).elim (ha w) (hb w)
theorem goodIn_ca {big a b : List Cond} {c : Cond} (ha : GoodIn big (c :: a)) (hb : GoodIn big b) : GoodIn big (c :: (a ++ b)) := fun w h => (List.mem_cons.mp h).elim (fun e => ha w (List.mem_cons.mpr (Or.inl e))) (fun h => (List.mem_append.mp h).elim (fun h => ha w (List.mem_cons.mpr (Or.inr h))) (hb w))
theorem goodIn_sub {big ws : List Cond} (hm : ∀ w ∈ ws, w ∈ big) (h : ws.all goodWord = true) : GoodIn big ws := fun w hw => ⟨hm w hw, good_of_word (List.all_eq_true.mp h w hw)⟩
/-! ===== END ===== -/

/-! ===== BEGIN exceptions that leave a method, and their catching by the caller (launches without stack traces) ===== -/
section VXA
/-! The laws vx_back, vx_callV, vx_callS, vx_callSW, vx_throw0, vx_throwS follow proofs of the library, with one case more: JvmDerived/Free/Laws.lean (Back.of_free), Shelf42/LK1.lean (callV, callS), Shelf/KitTraced.lean (throwNew0V, throwNewS). -/
/-- where a method has thrown q: the class by its name, the cell, what was written, the world -/
def vx_T (XC : String → State → State → Prop) (st : State) (q : Addr) (t : State) (mc ms : Nat) (free : Addr → Prop) : Prop :=
  ∃ (E : String) (ce : Cell) (L : List Loc), XC E st t ∧ t.heap[q]? = some ce ∧ ce.vm = .none ∧ st.vm.findClass E = some ce.cls ∧ st.WarmedH t.vm ∧ st.sameButNew ({ t with vm := st.vm } : State) L mc ms ∧ ∀ z ∈ L, free z.base
def vx_Q (Qc : Array Value → State → Outcome → State → Prop) (XC : String → State → State → Prop) (mc ms : Nat) (free : Addr → Prop) : Array Value → State → Outcome → State → Prop := fun a st o t =>
  (Qc a st o t ∧ ∃ L, FrameEnd st o t L mc ms ∧ ∀ q ∈ L, free q.base) ∨ ∃ q, o = .threw q ∧ vx_T XC st q t mc ms free
/-- a callee that returns or throws -/
def vx_Met (l : Launch) (y : MethodName) (ws : List Cond) (rm : Room) (Pc : Array Value → State → Prop) (Qc : Array Value → State → Outcome → State → Prop) (XC : String → State → State → Prop) (mc ms : Nat) (free : Addr → Prop) : Prop :=
  MetFree l y (headSpec ws rm) Pc (fun _ _ _ _ _ => True) (vx_Q Qc XC mc ms free)
def vx_Post (XC : String → State → State → Prop) (mc ms : Nat) (free : Addr → Prop) : Pt → Array Value → Addr → Pt → Prop := fun A a q B =>
  ∃ (g : JFrame) (mk : MethodId) (t : State) (L : List Loc) (E : String) (ce : Cell), B.U.heap = t.heap ∧ B.U.vm = t.vm ∧ XC E (A.U.calling g mk a) t ∧ t.heap[q]? = some ce ∧ ce.vm = .none ∧ A.U.vm.findClass E = some ce.cls ∧ B.locs = A.locs ++ L ∧ (∀ z ∈ L, free z.base) ∧ B.cells = A.cells + mc ∧ B.slots = A.slots + ms
def vx_Back (l : Launch) (R : Room) (p : Program) (e : Env) (below : List Frame) (s : State) (sargs : Array Value) (y : MethodName) (len W9 : Nat)
    (Pre : Pt → Array Value → Prop) (Post : Pt → Array Value → Option Value → Pt → Prop) (PostX : Pt → Array Value → Addr → Pt → Prop) : Prop :=
  ∀ (m : MethodId) (meth : Method) (c : Code) (A : Pt) (g : JFrame) (ig : Instr) (mk : MethodId) (a : Array Value),
    Stand p l e R s m sargs below meth c A.U A.locs A.cells A.slots → g.method = m → g.locals.size = c.maxLocals → decode c.code g.pc = .ok (ig, len) →
    2 * g.monitorRoom + (g.stack.map fun v => v.category).sum ≤ W9 → A.U.methodNamed? y = some mk → Pre A a →
    (∃ (v : Option Value) (B : Pt), Stand p l e R s m sargs below meth c B.U B.locs B.cells B.slots ∧ Post A a v B ∧
      Steps p.tables e below (doInvoke e (A.U.setTop g) [] mk a).1 (B.U.setTop { g with pc := g.pc + len, stack := v.toList ++ g.stack })) ∨
    (∃ (q : Addr) (B : Pt), Stand p l e R s m sargs below meth c B.U B.locs B.cells B.slots ∧ PostX A a q B ∧
      Steps p.tables e below (doInvoke e (A.U.setTop g) [] mk a).1 ((B.U.setTop g).pushFrame (.throwing q)))
section Payer
variable {l : Launch} {R : Room} {p : Program} {e : Env} {below : List Frame} {s : State} {sargs : Array Value} {y : MethodName} {len W9 : Nat}
theorem vx_back {ws : List Cond} {rm : Room} {Pc : Array Value → State → Prop} {Qc : Array Value → State → Outcome → State → Prop} {XC : String → State → State → Prop} {mc ms : Nat} {free : Addr → Prop} {bytes : ByteArray} {maxL : Nat} {ret : Option FieldType}
    (hM : vx_Met l y ws rm Pc Qc XC mc ms free) (hblind : FrameBlind Pc) (hrc : rm.cells = mc) (hrs : rm.slots = ms)
    (hframes : rm.frames + 1 ≤ R.frames) (hlocals : W9 + (maxL + 11) + rm.locals ≤ R.locals)
    (hws : ∀ w ∈ ws, ∀ a' U, s.WarmedH U.vm → w.before a' U = true) (hcode : Cond.code y bytes maxL ret ∈ ws) (hinit : ∀ a' U, s.WarmedH U.vm → (Cond.initialized y.cls).before a' U = true) :
    vx_Back l R p e below s sargs y len W9 (PreOf R mc ms Pc) (PostOf Qc mc ms free) (vx_Post XC mc ms free) := by
  intro m meth c A g ig mk a X hg hsize hdg hW hn hp
  have h1 : (headSpec ws rm).pre.before a A.U = true := atoms_intro fun w hw => hws w hw _ _ X.warmed
  have h2 : (Cond.code y bytes maxL ret).before a A.U = true := hws _ hcode _ _ X.warmed
  have h3 : (Cond.initialized y.cls).before a A.U = true := hinit _ _ X.warmed
  have h4 : A.cells + (headSpec ws rm).room.cells ≤ R.cells := by rw [show (headSpec ws rm).room.cells = mc from hrc]; exact hp.1
  have h5 : A.slots + (headSpec ws rm).room.slots ≤ R.slots := by rw [show (headSpec ws rm).room.slots = ms from hrs]; exact hp.2.1
  have hPc : Pc a (A.U.calling g mk a) := hblind _ _ _ _ hp.2.2
  obtain ⟨U, Ls, c0, s0⟩ := A
  dsimp only [Pt.U, Pt.locs, Pt.cells, Pt.slots] at h1 h2 h3 h4 h5 X hn hPc ⊢
  obtain ⟨methY, cY, hmY, hcY, -, hlY, -, -, -, -⟩ := Cond.code_spec hn h2
  obtain ⟨kY, hkY, -⟩ := className_of_methodNamed hn
  have hinitY : kY.init = .initialized := Cond.initialized_spec (findClass_of_methodNamed hn) hkY h3
  have h : At U g.method c below := by rw [hg]; exact X.here
  have hlocals9 : W9 + (maxL + 11) + (headSpec ws rm).room.locals ≤ R.locals := hlocals
  have happ : (headSpec ws rm).appliesLoose y e.platform (U.calling g mk a) = true :=
    Spec.appliesLoose_calling (g := g) h hdg hn hkY hinitY
      (X.room_calling (g := g) (R' := (headSpec ws rm).room) hsize hmY hcY hframes (by rw [hlY]; omega) h4 h5) h1
  obtain ⟨mid, hmid⟩ := h.above
  have hfr : (U.setTop g).frames = (.java g :: mid) ++ below := by rw [State.frames_setTop' g h.top, hmid]; rfl
  obtain ⟨o, s₂, hsteps, -, hend, hq⟩ := Steps.callFree hM p X.admits X.cas X.clock (acts := []) hfr happ hPc trivial
  have hq' : vx_Q Qc XC mc ms free a (U.calling g mk a) o s₂ := hq
  rw [State.frames_setTop' g h.top] at hend
  obtain ⟨g₀, hg0⟩ := Option.isSome_iff_exists.mp h.top
  obtain ⟨r, hr⟩ := State.topJava?_eq_some.mp hg0
  have hr' : (({ U with heap := s₂.heap, slotsUsed := s₂.slotsUsed } : State).setVm s₂.vm).frames = .java g₀ :: r := hr
  rcases hq' with ⟨hqc, L, hfe, hL⟩ | ⟨q, rfl, E, ce, L, hx, hce, hcv, hcl, hW₂, hsm, hL⟩
  · obtain ⟨⟨v, rfl⟩, hW₂, e2, q2, q3, q4, q5, q6⟩ := id hfe
    have e3 : s₂ = ({ (U.calling g mk a).setFrames s₂.frames with heap := s₂.heap, slotsUsed := s₂.slotsUsed } : State).setVm s₂.vm := by
      have : s₂ = ({ s₂ with vm := (U.calling g mk a).vm } : State).setVm s₂.vm := rfl
      rw [e2] at this
      exact this
    obtain ⟨c₂, i₂, len₂, hc₂, hd₂, hf₂⟩ := hend
    have hW' : U.WarmedH s₂.vm := hW₂
    have hcc : c₂ = c := by
      have h1 : s₂.code? g.method = U.code? g.method := by
        rw [State.code?_eq, State.code?_eq, hW'.alike.method?]
      exact Option.some.inj (hc₂.symm.trans (h1.trans h.code))
    subst hcc
    have hlen : len₂ = len := by rw [hdg] at hd₂; cases hd₂; rfl
    subst hlen
    have hs₂ : s₂ = (({ U with heap := s₂.heap, slotsUsed := s₂.slotsUsed } : State).setVm s₂.vm).setTop { g with pc := g.pc + len₂, stack := v.toList ++ g.stack } := by
      refine e3.trans ?_
      rw [hf₂, State.calling_eq h.top, State.setFrames_setFrames, State.setTop_of_frames _ hr', hr]
      rfl
    have hsame : U.sameButNew ({ U with heap := s₂.heap, slotsUsed := s₂.slotsUsed } : State) L mc ms := by
      refine ⟨?_, q2, q3, q4, q5, q6⟩
      obtain ⟨t, ht, -⟩ := State.frames_cons hr
      show ({ U with heap := s₂.heap, slotsUsed := s₂.slotsUsed } : State) = { U.setFrames U.frames with heap := s₂.heap, slotsUsed := s₂.slotsUsed }
      rw [State.setFrames_self ht]
    subst hg
    refine Or.inl ⟨v, ⟨(({ U with heap := s₂.heap, slotsUsed := s₂.slotsUsed } : State).setVm s₂.vm), Ls ++ L, c0 + mc, s0 + ms⟩,
      ⟨X.admits, X.cas, X.clock, X.frames, X.room, X.hears, X.method, X.code, (X.here.setHeapUsed s₂.heap s₂.slotsUsed).setVm hW'.alike, X.tail, State.WarmedH.trans X.warmed hW', X.limits, X.bytes, X.same.trans (hsame.setVm s.vm)⟩,
      ⟨g, mk, s₂, L, rfl, rfl, hqc, rfl, hL, rfl, rfl⟩, ?_⟩
    show Steps p.tables e below _ ((({ U with heap := s₂.heap, slotsUsed := s₂.slotsUsed } : State).setVm s₂.vm).setTop { g with pc := g.pc + len₂, stack := v.toList ++ g.stack })
    rw [← hs₂]
    exact hsteps
  · obtain ⟨e2, q2, q3, q4, q5, q6⟩ := id hsm
    have e3 : s₂ = ({ (U.calling g mk a).setFrames s₂.frames with heap := s₂.heap, slotsUsed := s₂.slotsUsed } : State).setVm s₂.vm := by
      have : s₂ = ({ s₂ with vm := (U.calling g mk a).vm } : State).setVm s₂.vm := rfl
      rw [e2] at this
      exact this
    have hf₂ : s₂.frames = .throwing q :: .java g :: U.frames.tail := hend
    have hW' : U.WarmedH s₂.vm := hW₂
    have hs₂ : s₂ = ((({ U with heap := s₂.heap, slotsUsed := s₂.slotsUsed } : State).setVm s₂.vm).setTop g).pushFrame (.throwing q) := by
      refine e3.trans ?_
      rw [hf₂, State.calling_eq h.top, State.setFrames_setFrames, State.pushFrame, State.frames_setTop _ hr', State.setTop_of_frames _ hr', State.setFrames_setFrames, hr]
      rfl
    have hsame : U.sameButNew ({ U with heap := s₂.heap, slotsUsed := s₂.slotsUsed } : State) L mc ms := by
      refine ⟨?_, q2, q3, q4, q5, q6⟩
      obtain ⟨t, ht, -⟩ := State.frames_cons hr
      show ({ U with heap := s₂.heap, slotsUsed := s₂.slotsUsed } : State) = { U.setFrames U.frames with heap := s₂.heap, slotsUsed := s₂.slotsUsed }
      rw [State.setFrames_self ht]
    subst hg
    refine Or.inr ⟨q, ⟨(({ U with heap := s₂.heap, slotsUsed := s₂.slotsUsed } : State).setVm s₂.vm), Ls ++ L, c0 + mc, s0 + ms⟩,
      ⟨X.admits, X.cas, X.clock, X.frames, X.room, X.hears, X.method, X.code, (X.here.setHeapUsed s₂.heap s₂.slotsUsed).setVm hW'.alike, X.tail, State.WarmedH.trans X.warmed hW', X.limits, X.bytes, X.same.trans (hsame.setVm s.vm)⟩,
      ⟨g, mk, s₂, L, E, ce, rfl, rfl, hx, hce, hcv, hcl, rfl, hL, rfl, rfl⟩, ?_⟩
    show Steps p.tables e below _ (((({ U with heap := s₂.heap, slotsUsed := s₂.slotsUsed } : State).setVm s₂.vm).setTop g).pushFrame (.throwing q))
    rw [← hs₂]
    exact hsteps
end Payer
section Calls
variable {p : Program} {l : Launch} {e : Env} {R : Room} {s : State} {m : MethodId} {args : Array Value} {below : List Frame} {meth : Method} {c : Code} {T : State} {locs : List Loc} {cells slots : Nat}
theorem vx_callV (X : Stand p l e R s m args below meth c T locs cells slots) (hexec : p.tables.exec = Jvm.exec) {own C : String} {index : Nat} {y : MethodName} {bytes : ByteArray} {maxL : Nat} {ret : Option FieldType}
    (hown : s.vm.findClass own = some m.cls) (hlink : (Cond.methodLink own index y).before args s = true) (hinst : (Cond.instanceMethod y).before args s = true) (hsel : (Cond.selects C y y).before args s = true)
    (hcode : (Cond.code y bytes maxL ret).before args s = true) (hy : y.cls ≠ "java/lang/invoke/MethodHandle" ∧ y.cls ≠ "java/lang/invoke/VarHandle")
    {W9 : Nat} {Pre : Pt → Array Value → Prop} {Post : Pt → Array Value → Option Value → Pt → Prop} {PostX : Pt → Array Value → Addr → Pt → Prop} (hK : vx_Back l R p e below s args y 3 W9 Pre Post PostX)
    {b : Addr} {cellB : Cell} (hcell : T.heap[b]? = some cellB) (hobj : cellB.vm.isStatics = false) (hcls : s.vm.findClass C = some cellB.cls)
    {g : JFrame} (hg : g.method = m) (hsize : g.locals.size = c.maxLocals) {argsL rest : List Value} (hlen : ∀ sig, parseMethodDescriptor y.desc = some sig → argsL.length = sig.parameters.length)
    (hstack : g.stack = argsL.reverse ++ .ref b :: rest) (hW : 2 * g.monitorRoom + (rest.map fun v => v.category).sum ≤ W9) (hdg : decode c.code g.pc = .ok (.invokevirtual index, 3))
    (hpre : ∀ vm₁, s.WarmedH vm₁ → Pre ⟨T.setVm vm₁, locs, cells, slots⟩ (Value.ref b :: argsL).toArray) :
    (∃ (v : Option Value) (vm₁ : Vm) (B : Pt), s.WarmedH vm₁ ∧ Stand p l e R s m args below meth c B.U B.locs B.cells B.slots ∧ Post ⟨T.setVm vm₁, locs, cells, slots⟩ (Value.ref b :: argsL).toArray v B ∧
      ∀ target, Steps p.tables e below (B.U.setTop { g with pc := g.pc + 3, stack := v.toList ++ rest }) target → Steps p.tables e below (T.setTop g) target) ∨
    (∃ (q : Addr) (vm₁ : Vm) (B : Pt), s.WarmedH vm₁ ∧ Stand p l e R s m args below meth c B.U B.locs B.cells B.slots ∧ PostX ⟨T.setVm vm₁, locs, cells, slots⟩ (Value.ref b :: argsL).toArray q B ∧
      Steps p.tables e below (T.setTop g) ((B.U.setTop { g with stack := rest }).pushFrame (.throwing q))) := by
  obtain ⟨mk, methM, hnamed, hmethM, hstM, habM⟩ := Cond.instanceMethod_spec hinst
  obtain ⟨methM', cM, hmethM', -, -, -, -, -, -, hsigM⟩ := Cond.code_spec hnamed hcode
  cases hmethM.symm.trans hmethM'
  obtain ⟨c2, r2, m2, q1, q2, q3, q4, kP, hkP, hkPi⟩ := Cond.selects_spec hsel
  cases hcls.symm.trans q1
  cases (State.methodFound?_of_named hnamed hy).symm.trans q2
  cases hnamed.symm.trans q3
  have hselP : selectMethod e.platform s.vm cellB.cls mk = .method mk := by rw [Launch.admits_selectMethod X.admits]; exact q4
  obtain ⟨vm₁, X₁, hstep₁⟩ := X.invokevirtual hexec hown hlink hnamed hmethM hstM hkP hkPi hy (a := b) (cell := cellB) hcell
    (fun z h => by rw [h] at hobj; cases hobj) hselP hmethM habM hkP hkPi (g := g) hg (argsL := argsL) (rest := rest) (hlen _ hsigM) hstack hdg
  rcases hK m meth c ⟨T.setVm vm₁, locs, cells, slots⟩ { g with stack := rest } (.invokevirtual index) mk (Value.ref b :: argsL).toArray X₁ hg hsize hdg hW (X₁.named hnamed) (hpre vm₁ X₁.warmed) with ⟨v, B, X', hpost, hsteps⟩ | ⟨q, B, X', hpost, hsteps⟩
  · exact Or.inl ⟨v, vm₁, B, X₁.warmed, X', hpost, fun target h => hstep₁ _ fun acts => by rw [doInvoke_state]; exact hsteps.trans h⟩
  · exact Or.inr ⟨q, vm₁, B, X₁.warmed, X', hpost, hstep₁ _ fun acts => by rw [doInvoke_state]; exact hsteps⟩
theorem vx_callS (X : Stand p l e R s m args below meth c T locs cells slots) (hexec : p.tables.exec = Jvm.exec) {own : String} {index : Nat} {y : MethodName} {bytes : ByteArray} {maxL : Nat} {ret : Option FieldType}
    (hown : s.vm.findClass own = some m.cls) (hlink : (Cond.methodLink own index y).before args s = true) (hstat : (Cond.static y).before args s = true) (hinit : (Cond.initialized y.cls).before args s = true)
    (hcode : (Cond.code y bytes maxL ret).before args s = true) (hy : y.cls ≠ "java/lang/invoke/MethodHandle" ∧ y.cls ≠ "java/lang/invoke/VarHandle")
    {W9 : Nat} {Pre : Pt → Array Value → Prop} {Post : Pt → Array Value → Option Value → Pt → Prop} {PostX : Pt → Array Value → Addr → Pt → Prop} (hK : vx_Back l R p e below s args y 3 W9 Pre Post PostX)
    {g : JFrame} (hg : g.method = m) (hsize : g.locals.size = c.maxLocals) {argsL rest : List Value} (hlen : ∀ sig, parseMethodDescriptor y.desc = some sig → argsL.length = sig.parameters.length)
    (hstack : g.stack = argsL.reverse ++ rest) (hW : 2 * g.monitorRoom + (rest.map fun v => v.category).sum ≤ W9) (hdg : decode c.code g.pc = .ok (.invokestatic index, 3))
    (hpre : ∀ vm₁, s.WarmedH vm₁ → Pre ⟨T.setVm vm₁, locs, cells, slots⟩ argsL.toArray) :
    (∃ (v : Option Value) (vm₁ : Vm) (B : Pt), s.WarmedH vm₁ ∧ Stand p l e R s m args below meth c B.U B.locs B.cells B.slots ∧ Post ⟨T.setVm vm₁, locs, cells, slots⟩ argsL.toArray v B ∧
      ∀ target, Steps p.tables e below (B.U.setTop { g with pc := g.pc + 3, stack := v.toList ++ rest }) target → Steps p.tables e below (T.setTop g) target) ∨
    (∃ (q : Addr) (vm₁ : Vm) (B : Pt), s.WarmedH vm₁ ∧ Stand p l e R s m args below meth c B.U B.locs B.cells B.slots ∧ PostX ⟨T.setVm vm₁, locs, cells, slots⟩ argsL.toArray q B ∧
      Steps p.tables e below (T.setTop g) ((B.U.setTop { g with stack := rest }).pushFrame (.throwing q))) := by
  obtain ⟨mk, hnamed⟩ := Cond.code_named hcode
  obtain ⟨methM, cM, hmethM, -, -, -, -, -, -, hsigM⟩ := Cond.code_spec hnamed hcode
  have hstatic : methM.isStatic = true := Cond.static_spec hnamed hmethM hstat
  obtain ⟨kP, hkP, -⟩ := className_of_methodNamed hnamed
  have hinitP : kP.init = .initialized := Cond.initialized_spec (findClass_of_methodNamed hnamed) hkP hinit
  obtain ⟨vm₁, X₁, hstep₁⟩ := X.invokestatic hexec hown hlink hnamed hmethM hstatic hkP hinitP hy (g := g) hg (argsL := argsL) (rest := rest) (hlen _ hsigM) hstack hdg
  rcases hK m meth c ⟨T.setVm vm₁, locs, cells, slots⟩ { g with stack := rest } (.invokestatic index) mk argsL.toArray X₁ hg hsize hdg hW (X₁.named hnamed) (hpre vm₁ X₁.warmed) with ⟨v, B, X', hpost, hsteps⟩ | ⟨q, B, X', hpost, hsteps⟩
  · exact Or.inl ⟨v, vm₁, B, X₁.warmed, X', hpost, fun target h => hstep₁ _ fun acts => by rw [doInvoke_state]; exact hsteps.trans h⟩
  · exact Or.inr ⟨q, vm₁, B, X₁.warmed, X', hpost, hstep₁ _ fun acts => by rw [doInvoke_state]; exact hsteps⟩
end Calls
theorem vx_cls {s : State} {T : State} {vm₁ : Vm} {E : String} {k : ClassId} (hW : s.WarmedH vm₁) (h : (T.setVm vm₁).vm.findClass E = some k) : s.vm.findClass E = some k := by
  have h1 : vm₁.findClass E = some k := h
  rw [hW.alike.findClass] at h1
  exact h1
/-- the method's frame g, with q thrown over it -/
def vx_W (p : Program) (l : Launch) (e : Env) (R : Room) (s : State) (m : MethodId) (args : Array Value) (below : List Frame) (meth : Method) (c : Code) (H : Heap) (locs : List Loc) (cells slots : Nat) (Q : State → Prop) (g : JFrame) (q : Addr) : Prop :=
  ∀ T : State, T.heap = H → Stand p l e R s m args below meth c T locs cells slots → ∃ t, Steps p.tables e below ((T.setTop g).pushFrame (.throwing q)) t ∧ Q t
def vx_Run (p : Program) (l : Launch) (e : Env) (R : Room) (s : State) (m : MethodId) (args : Array Value) (below : List Frame) (meth : Method) (c : Code) (H : Heap) (locs : List Loc) (cells slots mc ms : Nat) (g : JFrame) (rest : List Value) (Qa : State → Outcome → State → Prop) (XC : String → State → State → Prop) (free : Addr → Prop) : Prop :=
  ∀ T : State, T.heap = H → Stand p l e R s m args below meth c T locs cells slots →
    (∃ (v : Option Value) (st₀ t T' : State) (L : List Loc), st₀.heap = H ∧ Stand p l e R s m args below meth c T' (locs ++ L) (cells + mc) (slots + ms) ∧ (∀ q ∈ L, free q.base) ∧ T'.heap = t.heap ∧ T'.vm = t.vm ∧ Qa st₀ (.returned v) t ∧
      Goes p e below T g T' { g with pc := g.pc + 3, stack := v.toList ++ rest }) ∨
    (∃ (q : Addr) (st₀ t T' : State) (L : List Loc) (E : String) (ce : Cell), st₀.heap = H ∧ Stand p l e R s m args below meth c T' (locs ++ L) (cells + mc) (slots + ms) ∧ (∀ z ∈ L, free z.base) ∧ T'.heap = t.heap ∧ T'.vm = t.vm ∧ XC E st₀ t ∧ t.heap[q]? = some ce ∧ ce.vm = .none ∧ s.vm.findClass E = some ce.cls ∧
      Steps p.tables e below (T.setTop g) ((T'.setTop { g with stack := rest }).pushFrame (.throwing q)))
def vx_X {S : Type} (px : S → Prop) (B : String → S → State → Prop) (A : Nat → Prop) : String → State → State → Prop := fun E st t => ∃ u : S, px u ∧ B E u t ∧ va_F A st t
section Runs
variable {p : Program} {l : Launch} {e : Env} {R : Room} {s : State} {m : MethodId} {args : Array Value} {below : List Frame} {meth : Method} {c : Code} {H : Heap} {locs : List Loc} {cells slots : Nat}
variable {y : MethodName} {bytes cc : ByteArray} {maxL nL mc ms n index : Nat} {ret : Option FieldType} {ws : List Cond} {rm : Room} {Pc : Array Value → State → Prop} {Qc : Array Value → State → Outcome → State → Prop} {XC : String → State → State → Prop} {free : Addr → Prop} {Ts : List Cond} {own C : String} {b : Addr} {As rest : List Value} {g : JFrame}
theorem vx_callBack (cb : CallB R s args own index y bytes maxL ret ws rm mc ms n) (hM : vx_Met l y ws rm Pc Qc XC mc ms free) (hbl : FrameBlind Pc) : vx_Back l R p e below s args y 3 8 (PreOf R mc ms Pc) (PostOf Qc mc ms free) (vx_Post XC mc ms free) := by
  obtain ⟨hrc, hrs, hfr, hlo, hws, hcw, -, hini, -⟩ := cb
  exact vx_back (bytes := bytes) (maxL := maxL) (ret := ret) hM hbl hrc hrs hfr hlo hws hcw (fun a' U hW => word_at hW (Or.inl (by first | rfl | simp [Cond.onTables, Cond.keeps, Cond.steady])) hini)
theorem vx_runV (S : CallFix p m c cc nL s args Ts own) (hM : vx_Met l y ws rm Pc Qc XC mc ms free) (cw : CallW R s args own C index y bytes maxL ret ws rm mc ms n) (hp : PreV s H C b Pc As)
    (hg : g.method = m) (hn : As.length = n) (hsize : g.locals.size = nL) (hstack : g.stack = As.reverse ++ .ref b :: rest) (hW : 2 * g.monitorRoom + (rest.map fun v => v.category).sum ≤ 8) (hdg : decode cc g.pc = .ok (.invokevirtual index, 3)) (hf : cells + mc ≤ R.cells ∧ slots + ms ≤ R.slots) :
    vx_Run p l e R s m args below meth c H locs cells slots mc ms g rest (Qc (Value.ref b :: As).toArray) XC free := by
  have hK : vx_Back l R p e below s args y 3 8 (PreOf R mc ms Pc) (PostOf Qc mc ms free) (vx_Post XC mc ms free) := vx_callBack cw.1 hM hp.1
  obtain ⟨⟨-, -, -, -, -, -, hcode, -, hy, hlen, hl⟩, hin, hse⟩ := cw
  obtain ⟨hx, hb, hml, ho, -⟩ := S
  obtain ⟨-, ⟨cellB, hcB, hoB, hclB⟩, hPc⟩ := hp
  intro T hT X
  rcases vx_callV X hx (C := C) (bytes := bytes) (maxL := maxL) (ret := ret) ho hl hin hse hcode hy hK (by rw [hT]; exact hcB) hoB hclB hg (hsize.trans hml.symm) (argsL := As) (rest := rest) (fun sig h => hn.trans (hlen sig h)) hstack hW (by rw [hb]; exact hdg)
    (fun vm₁ hW₁ => ⟨hf.1, hf.2, hPc (T.setVm vm₁) hT hW₁⟩) with ⟨v, vm₁, ⟨U', l2, c2, s2⟩, hW₁, X', ⟨g', mk, t, L, e1, e2, hq, h1, hL, h2, h3⟩, st⟩ | ⟨q, vm₁, ⟨U', l2, c2, s2⟩, hW₁, X', ⟨g', mk, t, L, E, ce, e1, e2, hq, hce, hcv, hcl, h1, hL, h2, h3⟩, st⟩
  · dsimp only [Pt.U, Pt.locs, Pt.cells, Pt.slots] at X' e1 e2 h1 h2 h3 st
    subst h1; subst h2; subst h3
    exact Or.inl ⟨v, (T.setVm vm₁).calling g' mk (Value.ref b :: As).toArray, t, U', L, hT, X', hL, e1, e2, hq, st⟩
  · dsimp only [Pt.U, Pt.locs, Pt.cells, Pt.slots] at X' e1 e2 h1 h2 h3 st hcl
    subst h1; subst h2; subst h3
    exact Or.inr ⟨q, (T.setVm vm₁).calling g' mk (Value.ref b :: As).toArray, t, U', L, E, ce, hT, X', hL, e1, e2, hq, hce, hcv, vx_cls hW₁ hcl, st⟩
theorem vx_runS (S : CallFix p m c cc nL s args Ts own) (hM : vx_Met l y ws rm Pc Qc XC mc ms free) (cw : CallB R s args own index y bytes maxL ret ws rm mc ms n ∧ (Cond.static y).before args s = true) (hp : PreS s H Pc As)
    (hg : g.method = m) (hn : As.length = n) (hsize : g.locals.size = nL) (hstack : g.stack = As.reverse ++ rest) (hW : 2 * g.monitorRoom + (rest.map fun v => v.category).sum ≤ 8) (hdg : decode cc g.pc = .ok (.invokestatic index, 3)) (hf : cells + mc ≤ R.cells ∧ slots + ms ≤ R.slots) :
    vx_Run p l e R s m args below meth c H locs cells slots mc ms g rest (Qc As.toArray) XC free := by
  have hK : vx_Back l R p e below s args y 3 8 (PreOf R mc ms Pc) (PostOf Qc mc ms free) (vx_Post XC mc ms free) := vx_callBack cw.1 hM hp.1
  obtain ⟨⟨-, -, -, -, -, -, hcode, hini, hy, hlen, hl⟩, hstt⟩ := cw
  obtain ⟨hx, hb, hml, ho, -⟩ := S
  intro T hT X
  rcases vx_callS X hx (bytes := bytes) (maxL := maxL) (ret := ret) ho hl hstt hini hcode hy hK hg (hsize.trans hml.symm) (argsL := As) (rest := rest) (fun sig h => hn.trans (hlen sig h)) hstack hW (by rw [hb]; exact hdg)
    (fun vm₁ hW₁ => ⟨hf.1, hf.2, hp.2 (T.setVm vm₁) hT hW₁⟩) with ⟨v, vm₁, ⟨U', l2, c2, s2⟩, hW₁, X', ⟨g', mk, t, L, e1, e2, hq, h1, hL, h2, h3⟩, st⟩ | ⟨q, vm₁, ⟨U', l2, c2, s2⟩, hW₁, X', ⟨g', mk, t, L, E, ce, e1, e2, hq, hce, hcv, hcl, h1, hL, h2, h3⟩, st⟩
  · dsimp only [Pt.U, Pt.locs, Pt.cells, Pt.slots] at X' e1 e2 h1 h2 h3 st
    subst h1; subst h2; subst h3
    exact Or.inl ⟨v, (T.setVm vm₁).calling g' mk As.toArray, t, U', L, hT, X', hL, e1, e2, hq, st⟩
  · dsimp only [Pt.U, Pt.locs, Pt.cells, Pt.slots] at X' e1 e2 h1 h2 h3 st hcl
    subst h1; subst h2; subst h3
    exact Or.inr ⟨q, (T.setVm vm₁).calling g' mk As.toArray, t, U', L, E, ce, hT, X', hL, e1, e2, hq, hce, hcv, vx_cls hW₁ hcl, st⟩
end Runs
section Rows
variable {p : Program} {l : Launch} {e : Env} {R : Room} {s : State} {m : MethodId} {args : Array Value} {below : List Frame} {meth : Method} {c : Code} {H : Heap} {locs : List Loc} {cells slots : Nat} {Q : State → Prop}
variable {mc ms : Nat} {free : Addr → Prop} {A0 A1 : Nat → Prop} {H0 : Heap} {a : Array Value} {pc : Nat} {ls : Array Slot} {st0 rest : List Value}
theorem vx_keep {st₀ t T' : State} {L : List Loc} (h0 : st₀.heap = H) (e1 : T'.heap = t.heap) (hS : va_S A0 H0 H locs) (hA : ∀ q, q < H.size → A1 q → A0 q) (hf : ∀ q, free q → A0 q) (hL : ∀ q ∈ L, free q.base) (hF : va_F A1 st₀ t) :
    H.size ≤ T'.heap.size ∧ (∀ q : Nat, q < H.size → ¬ A1 q → T'.heap[q]? = H[q]?) ∧ va_S A0 H0 T'.heap (locs ++ L) := by
  obtain ⟨hz, hk⟩ := hF
  rw [h0] at hz hk
  exact ⟨by rw [e1]; exact hz, fun q h1 h2 => by rw [e1]; exact hk q h1 h2,
    ⟨Nat.le_trans hS.1 (by rw [e1]; exact hz), fun q h1 h2 => by rw [e1, hk q (Nat.lt_of_lt_of_le h1 hS.1) (fun z => h2 (hA q (Nat.lt_of_lt_of_le h1 hS.1) z))]; exact hS.2.1 q h1 h2, fun q hq => by
      rcases List.mem_append.mp hq with h | h
      · exact hS.2.2 q h
      · exact hf _ (hL q h)⟩⟩
theorem vx_calli {S SX : Type} {post : Int32 → S → Prop} {px : SX → Prop} {B : S → State → Prop} {BX : String → SX → State → Prop} {AX : Nat → Prop} (hr : vx_Run p l e R s m args below meth c H locs cells slots mc ms (F0 m pc ls st0) rest (va_Qi post B A1 a) (vx_X px BX AX) free) (hS : va_S A0 H0 H locs) (hA : ∀ q, q < H.size → A1 q → A0 q) (hf : ∀ q, free q → A0 q) (hAX : ∀ q, q < H.size → AX q → A0 q)
    (kx : ∀ (E : String) (ce : Cell) (q9 : Addr) (u : SX) (t : State) (H1 : Heap) (locs1 : List Loc), t.heap = H1 → s.vm.Alike t.vm → px u → BX E u t → H.size ≤ H1.size → (∀ q : Nat, q < H.size → ¬ AX q → H1[q]? = H[q]?) → va_S A0 H0 H1 locs1 → H1[q9]? = some ce → ce.vm = .none → s.vm.findClass E = some ce.cls → vx_W p l e R s m args below meth c H1 locs1 (cells + mc) (slots + ms) Q (F0 m pc ls rest) q9)
    (kk : ∀ (r : Int32) (u : S) (t : State) (H1 : Heap) (locs1 : List Loc), t.heap = H1 → s.vm.Alike t.vm → post r u → B u t → H.size ≤ H1.size → (∀ q : Nat, q < H.size → ¬ A1 q → H1[q]? = H[q]?) → va_S A0 H0 H1 locs1 → W p l e R s m args below meth c H1 locs1 (cells + mc) (slots + ms) Q (F0 m (pc + 3) ls (.int r :: rest))) : W p l e R s m args below meth c H locs cells slots Q (F0 m pc ls st0) := by
  intro T hT X
  rcases hr T hT X with ⟨v, st₀, t, T', L, h0, X', hL, e1, e2, ⟨⟨r, u, hv, hp, hb⟩, hF⟩, st⟩ | ⟨q, st₀, t, T', L, E, ce, h0, X', hL, e1, e2, ⟨u, hp, hb, hF⟩, hce, hcv, hcl, st⟩
  · cases hv
    obtain ⟨k1, k2, k3⟩ := vx_keep h0 e1 hS hA hf hL hF
    obtain ⟨t2, a1, b1⟩ := kk r u t T'.heap (locs ++ L) e1.symm (by rw [← e2]; exact X'.warmed.alike) hp hb k1 k2 k3 T' rfl X'
    exact ⟨t2, st t2 a1, b1⟩
  · obtain ⟨k1, k2, k3⟩ := vx_keep h0 e1 hS hAX hf hL hF
    obtain ⟨t2, a1, b1⟩ := kx E ce q u t T'.heap (locs ++ L) e1.symm (by rw [← e2]; exact X'.warmed.alike) hp hb k1 k2 k3 (by rw [e1]; exact hce) hcv hcl T' rfl X'
    exact ⟨t2, st.trans a1, b1⟩
theorem vx_calll {S SX : Type} {post : Int64 → S → Prop} {px : SX → Prop} {B : S → State → Prop} {BX : String → SX → State → Prop} {AX : Nat → Prop} (hr : vx_Run p l e R s m args below meth c H locs cells slots mc ms (F0 m pc ls st0) rest (va_Ql post B A1 a) (vx_X px BX AX) free) (hS : va_S A0 H0 H locs) (hA : ∀ q, q < H.size → A1 q → A0 q) (hf : ∀ q, free q → A0 q) (hAX : ∀ q, q < H.size → AX q → A0 q)
    (kx : ∀ (E : String) (ce : Cell) (q9 : Addr) (u : SX) (t : State) (H1 : Heap) (locs1 : List Loc), t.heap = H1 → s.vm.Alike t.vm → px u → BX E u t → H.size ≤ H1.size → (∀ q : Nat, q < H.size → ¬ AX q → H1[q]? = H[q]?) → va_S A0 H0 H1 locs1 → H1[q9]? = some ce → ce.vm = .none → s.vm.findClass E = some ce.cls → vx_W p l e R s m args below meth c H1 locs1 (cells + mc) (slots + ms) Q (F0 m pc ls rest) q9)
    (kk : ∀ (r : Int64) (u : S) (t : State) (H1 : Heap) (locs1 : List Loc), t.heap = H1 → s.vm.Alike t.vm → post r u → B u t → H.size ≤ H1.size → (∀ q : Nat, q < H.size → ¬ A1 q → H1[q]? = H[q]?) → va_S A0 H0 H1 locs1 → W p l e R s m args below meth c H1 locs1 (cells + mc) (slots + ms) Q (F0 m (pc + 3) ls (.long r :: rest))) : W p l e R s m args below meth c H locs cells slots Q (F0 m pc ls st0) := by
  intro T hT X
  rcases hr T hT X with ⟨v, st₀, t, T', L, h0, X', hL, e1, e2, ⟨⟨r, u, hv, hp, hb⟩, hF⟩, st⟩ | ⟨q, st₀, t, T', L, E, ce, h0, X', hL, e1, e2, ⟨u, hp, hb, hF⟩, hce, hcv, hcl, st⟩
  · cases hv
    obtain ⟨k1, k2, k3⟩ := vx_keep h0 e1 hS hA hf hL hF
    obtain ⟨t2, a1, b1⟩ := kk r u t T'.heap (locs ++ L) e1.symm (by rw [← e2]; exact X'.warmed.alike) hp hb k1 k2 k3 T' rfl X'
    exact ⟨t2, st t2 a1, b1⟩
  · obtain ⟨k1, k2, k3⟩ := vx_keep h0 e1 hS hAX hf hL hF
    obtain ⟨t2, a1, b1⟩ := kx E ce q u t T'.heap (locs ++ L) e1.symm (by rw [← e2]; exact X'.warmed.alike) hp hb k1 k2 k3 (by rw [e1]; exact hce) hcv hcl T' rfl X'
    exact ⟨t2, st.trans a1, b1⟩
theorem vx_callf {S SX : Type} {post : UInt32 → S → Prop} {px : SX → Prop} {B : S → State → Prop} {BX : String → SX → State → Prop} {AX : Nat → Prop} (hr : vx_Run p l e R s m args below meth c H locs cells slots mc ms (F0 m pc ls st0) rest (va_Qf post B A1 a) (vx_X px BX AX) free) (hS : va_S A0 H0 H locs) (hA : ∀ q, q < H.size → A1 q → A0 q) (hf : ∀ q, free q → A0 q) (hAX : ∀ q, q < H.size → AX q → A0 q)
    (kx : ∀ (E : String) (ce : Cell) (q9 : Addr) (u : SX) (t : State) (H1 : Heap) (locs1 : List Loc), t.heap = H1 → s.vm.Alike t.vm → px u → BX E u t → H.size ≤ H1.size → (∀ q : Nat, q < H.size → ¬ AX q → H1[q]? = H[q]?) → va_S A0 H0 H1 locs1 → H1[q9]? = some ce → ce.vm = .none → s.vm.findClass E = some ce.cls → vx_W p l e R s m args below meth c H1 locs1 (cells + mc) (slots + ms) Q (F0 m pc ls rest) q9)
    (kk : ∀ (r : UInt32) (u : S) (t : State) (H1 : Heap) (locs1 : List Loc), t.heap = H1 → s.vm.Alike t.vm → post r u → B u t → H.size ≤ H1.size → (∀ q : Nat, q < H.size → ¬ A1 q → H1[q]? = H[q]?) → va_S A0 H0 H1 locs1 → W p l e R s m args below meth c H1 locs1 (cells + mc) (slots + ms) Q (F0 m (pc + 3) ls (.float r :: rest))) : W p l e R s m args below meth c H locs cells slots Q (F0 m pc ls st0) := by
  intro T hT X
  rcases hr T hT X with ⟨v, st₀, t, T', L, h0, X', hL, e1, e2, ⟨⟨r, u, hv, hp, hb⟩, hF⟩, st⟩ | ⟨q, st₀, t, T', L, E, ce, h0, X', hL, e1, e2, ⟨u, hp, hb, hF⟩, hce, hcv, hcl, st⟩
  · cases hv
    obtain ⟨k1, k2, k3⟩ := vx_keep h0 e1 hS hA hf hL hF
    obtain ⟨t2, a1, b1⟩ := kk r u t T'.heap (locs ++ L) e1.symm (by rw [← e2]; exact X'.warmed.alike) hp hb k1 k2 k3 T' rfl X'
    exact ⟨t2, st t2 a1, b1⟩
  · obtain ⟨k1, k2, k3⟩ := vx_keep h0 e1 hS hAX hf hL hF
    obtain ⟨t2, a1, b1⟩ := kx E ce q u t T'.heap (locs ++ L) e1.symm (by rw [← e2]; exact X'.warmed.alike) hp hb k1 k2 k3 (by rw [e1]; exact hce) hcv hcl T' rfl X'
    exact ⟨t2, st.trans a1, b1⟩
theorem vx_calld {S SX : Type} {post : UInt64 → S → Prop} {px : SX → Prop} {B : S → State → Prop} {BX : String → SX → State → Prop} {AX : Nat → Prop} (hr : vx_Run p l e R s m args below meth c H locs cells slots mc ms (F0 m pc ls st0) rest (va_Qd post B A1 a) (vx_X px BX AX) free) (hS : va_S A0 H0 H locs) (hA : ∀ q, q < H.size → A1 q → A0 q) (hf : ∀ q, free q → A0 q) (hAX : ∀ q, q < H.size → AX q → A0 q)
    (kx : ∀ (E : String) (ce : Cell) (q9 : Addr) (u : SX) (t : State) (H1 : Heap) (locs1 : List Loc), t.heap = H1 → s.vm.Alike t.vm → px u → BX E u t → H.size ≤ H1.size → (∀ q : Nat, q < H.size → ¬ AX q → H1[q]? = H[q]?) → va_S A0 H0 H1 locs1 → H1[q9]? = some ce → ce.vm = .none → s.vm.findClass E = some ce.cls → vx_W p l e R s m args below meth c H1 locs1 (cells + mc) (slots + ms) Q (F0 m pc ls rest) q9)
    (kk : ∀ (r : UInt64) (u : S) (t : State) (H1 : Heap) (locs1 : List Loc), t.heap = H1 → s.vm.Alike t.vm → post r u → B u t → H.size ≤ H1.size → (∀ q : Nat, q < H.size → ¬ A1 q → H1[q]? = H[q]?) → va_S A0 H0 H1 locs1 → W p l e R s m args below meth c H1 locs1 (cells + mc) (slots + ms) Q (F0 m (pc + 3) ls (.double r :: rest))) : W p l e R s m args below meth c H locs cells slots Q (F0 m pc ls st0) := by
  intro T hT X
  rcases hr T hT X with ⟨v, st₀, t, T', L, h0, X', hL, e1, e2, ⟨⟨r, u, hv, hp, hb⟩, hF⟩, st⟩ | ⟨q, st₀, t, T', L, E, ce, h0, X', hL, e1, e2, ⟨u, hp, hb, hF⟩, hce, hcv, hcl, st⟩
  · cases hv
    obtain ⟨k1, k2, k3⟩ := vx_keep h0 e1 hS hA hf hL hF
    obtain ⟨t2, a1, b1⟩ := kk r u t T'.heap (locs ++ L) e1.symm (by rw [← e2]; exact X'.warmed.alike) hp hb k1 k2 k3 T' rfl X'
    exact ⟨t2, st t2 a1, b1⟩
  · obtain ⟨k1, k2, k3⟩ := vx_keep h0 e1 hS hAX hf hL hF
    obtain ⟨t2, a1, b1⟩ := kx E ce q u t T'.heap (locs ++ L) e1.symm (by rw [← e2]; exact X'.warmed.alike) hp hb k1 k2 k3 (by rw [e1]; exact hce) hcv hcl T' rfl X'
    exact ⟨t2, st.trans a1, b1⟩
theorem vx_callv {S SX : Type} {post : S → Prop} {px : SX → Prop} {B : S → State → Prop} {BX : String → SX → State → Prop} {AX : Nat → Prop} (hr : vx_Run p l e R s m args below meth c H locs cells slots mc ms (F0 m pc ls st0) rest (va_Qv post B A1 a) (vx_X px BX AX) free) (hS : va_S A0 H0 H locs) (hA : ∀ q, q < H.size → A1 q → A0 q) (hf : ∀ q, free q → A0 q) (hAX : ∀ q, q < H.size → AX q → A0 q)
    (kx : ∀ (E : String) (ce : Cell) (q9 : Addr) (u : SX) (t : State) (H1 : Heap) (locs1 : List Loc), t.heap = H1 → s.vm.Alike t.vm → px u → BX E u t → H.size ≤ H1.size → (∀ q : Nat, q < H.size → ¬ AX q → H1[q]? = H[q]?) → va_S A0 H0 H1 locs1 → H1[q9]? = some ce → ce.vm = .none → s.vm.findClass E = some ce.cls → vx_W p l e R s m args below meth c H1 locs1 (cells + mc) (slots + ms) Q (F0 m pc ls rest) q9)
    (kk : ∀ (u : S) (t : State) (H1 : Heap) (locs1 : List Loc), t.heap = H1 → s.vm.Alike t.vm → post u → B u t → H.size ≤ H1.size → (∀ q : Nat, q < H.size → ¬ A1 q → H1[q]? = H[q]?) → va_S A0 H0 H1 locs1 → W p l e R s m args below meth c H1 locs1 (cells + mc) (slots + ms) Q (F0 m (pc + 3) ls (rest))) : W p l e R s m args below meth c H locs cells slots Q (F0 m pc ls st0) := by
  intro T hT X
  rcases hr T hT X with ⟨v, st₀, t, T', L, h0, X', hL, e1, e2, ⟨⟨u, hv, hp, hb⟩, hF⟩, st⟩ | ⟨q, st₀, t, T', L, E, ce, h0, X', hL, e1, e2, ⟨u, hp, hb, hF⟩, hce, hcv, hcl, st⟩
  · cases hv
    obtain ⟨k1, k2, k3⟩ := vx_keep h0 e1 hS hA hf hL hF
    obtain ⟨t2, a1, b1⟩ := kk u t T'.heap (locs ++ L) e1.symm (by rw [← e2]; exact X'.warmed.alike) hp hb k1 k2 k3 T' rfl X'
    exact ⟨t2, st t2 a1, b1⟩
  · obtain ⟨k1, k2, k3⟩ := vx_keep h0 e1 hS hAX hf hL hF
    obtain ⟨t2, a1, b1⟩ := kx E ce q u t T'.heap (locs ++ L) e1.symm (by rw [← e2]; exact X'.warmed.alike) hp hb k1 k2 k3 (by rw [e1]; exact hce) hcv hcl T' rfl X'
    exact ⟨t2, st.trans a1, b1⟩
/-- caught by the row x of this method's table; the rows ahead don't take it -/
theorem vx_catch {own name : String} {E : String} {ce : Cell} {q : Addr} (hown : s.vm.findClass own = some m.cls) (pre : List ExceptionTableEntry) (x : ExceptionTableEntry) (suf : List ExceptionTableEntry) (hsplit : c.exceptionTable.toList = pre ++ x :: suf)
    (hpass : ∀ z ∈ pre, covers z pc = false ∨ (z.catchType ≠ 0 ∧ ∃ nm : String, (Cond.classLink own z.catchType nm).before args s = true ∧ va_Nc E nm s)) (hx : covers x pc = true) (h0 : x.catchType ≠ 0)
    (hlink : (Cond.classLink own x.catchType name).before args s = true) (hcast : (Cond.castable E name).before args s = true) (hcell : H[q]? = some ce) (hv : ce.vm = .none) (hcl : s.vm.findClass E = some ce.cls)
    (kk : W p l e R s m args below meth c H locs cells slots Q (F0 m x.handlerPc ls [.ref q])) : vx_W p l e R s m args below meth c H locs cells slots Q (F0 m pc ls rest) q := by
  intro T hT X
  have hpl : e.platform.magicAccessors = ({} : Platform).magicAccessors := by rw [X.admits.platform]
  obtain ⟨c3, c4, hc3, hc4, hasg⟩ := Cond.castable_spec hcast
  cases Option.some.inj (hc3.symm.trans hcl)
  obtain ⟨c5, hc5, hcl5⟩ := Cond.classLink_spec hown hlink e.platform hpl
  cases Option.some.inj (hc4.symm.trans hc5)
  obtain ⟨vm', X', st⟩ := X.thenCaughtThrough q (g := F0 m pc ls rest) rfl (Steps.refl _) (by rw [hT]; exact hcell) (by rw [hv]; rfl) (by obtain ⟨k9, h9, -⟩ := Vm.findClass_spec hcl; exact ⟨k9, h9⟩) pre x suf hsplit
    (fun z hz => by
      rcases hpass z hz with h | ⟨hz0, nm, hl1, hn1⟩
      · exact Or.inl h
      · obtain ⟨c6, hc6, hcl6⟩ := Cond.classLink_spec hown hl1 e.platform hpl
        obtain ⟨a8, b8, h1, h2, h3⟩ := hn1
        cases Option.some.inj (h1.symm.trans hcl)
        cases Option.some.inj (h2.symm.trans hc6)
        exact Or.inr ⟨hz0, _, hcl6, h3⟩) hx (Or.inr ⟨h0, c4, hcl5, hasg⟩)
  obtain ⟨t, a1, b1⟩ := kk (T.setVm vm') hT X'
  exact ⟨t, st.trans a1, b1⟩
end Rows
section Ends
variable {p : Program} {l : Launch} {e : Env} {R : Room} {s : State} {m : MethodId} {args : Array Value} {below : List Frame} {meth : Method} {c : Code} {H : Heap} {locs : List Loc} {cells slots : Nat} {Q : State → Prop}
variable {mc ms : Nat} {free : Addr → Prop} {A0 A1 : Nat → Prop} {H0 : Heap} {a : Array Value} {ls : Array Slot} {st0 rest : List Value}
variable {Qc : Array Value → State → Outcome → State → Prop} {XC : String → State → State → Prop}
/-- what a body that may throw owes at its end -/
def vx_MQ (below : List Frame) (Qc : Array Value → State → Outcome → State → Prop) (XC : String → State → State → Prop) (a : Array Value) (s : State) (mc ms : Nat) (free : Addr → Prop) : State → Prop := fun t =>
  ∃ o, t.status = .running ∧ Ended t below o ∧ vx_Q Qc XC mc ms free a s o t
theorem vx_ret {g : JFrame} {mc ms : Nat} (k : W p l e R s m args below meth c H locs cells slots (MQ below Qc args s mc ms free) g) : W p l e R s m args below meth c H locs cells slots (vx_MQ below Qc XC args s mc ms free) g := by
  intro T hT X
  obtain ⟨t, a1, o, b1, b2, b3, b4⟩ := k T hT X
  exact ⟨t, a1, o, b1, b2, Or.inl ⟨b3, b4⟩⟩
/-- not caught here: it goes on to the caller -/
theorem vx_widen {g : JFrame} {q : Addr} {k n : Nat} (h1 : cells ≤ k) (h2 : slots ≤ n) (kk : vx_W p l e R s m args below meth c H locs k n Q g q) : vx_W p l e R s m args below meth c H locs cells slots Q g q := fun T hT X => kk T hT (stand_widen X h1 h2)
theorem vx_out {pc : Nat} {E : String} {ce : Cell} {q : Addr} {mc ms : Nat} (hout : ∀ x ∈ c.exceptionTable.toList, covers x pc = false) (hlocks : meth.locks = false) (hcell : H[q]? = some ce) (hv : ce.vm = .none) (hcl : s.vm.findClass E = some ce.cls)
    (hx : ∀ t : State, t.heap = H → s.vm.Alike t.vm → XC E s t) (hf : ∀ z ∈ locs, free z.base) (hc : cells ≤ mc) (hs : slots ≤ ms) :
    vx_W p l e R s m args below meth c H locs cells slots (vx_MQ below Qc XC args s mc ms free) (F0 m pc ls rest) q := by
  intro T hT X
  obtain ⟨st1, hrun, hend, hW, hsm⟩ := X.leaveThrown q (g := F0 m pc ls rest) rfl rfl rfl hout hlocks
  have hcell9 : (T.setFrames (.throwing q :: below)).heap[q]? = some ce := by
    show T.heap[q]? = some ce
    rw [hT]; exact hcell
  exact ⟨_, st1, .threw q, hrun, hend, Or.inr ⟨q, rfl, E, ce, locs, hx _ hT hW.alike, hcell9, hv, hcl, hW, hsm.mono hc hs, hf⟩⟩
theorem vx_frame {U : State} {k n : Nat} (h : s.sameButNew ({ U with vm := s.vm } : State) locs k n) : s.heap.size ≤ U.heap.size ∧ ∀ q : Nat, q < s.heap.size → (∀ z ∈ locs, z.base ≠ q) → U.heap[q]? = s.heap[q]? := by
  obtain ⟨-, h2, -, -, -, h6⟩ := h
  refine ⟨h2, fun q hq hz => ?_⟩
  obtain ⟨c9, e1, e2, e3, e4⟩ := h6 q _ (Array.getElem?_eq_getElem hq)
  have hs : c9.slots = (s.heap[q]).slots := Array.ext_getElem? fun i => e4 i fun hm => hz _ hm rfl
  have h9 : c9 = s.heap[q] := by
    rw [hs] at e2
    exact e2
  have e5 : U.heap[q]? = some c9 := e1
  rw [e5, h9, Array.getElem?_eq_getElem hq]
/-- the words of a throw but the four that speak of the heap -/
def vx_no (w : Cond) : Bool := decide (w ≠ .isRef (.static Bundle.tN "UNASSIGNED_STACK" Bundle.steD)) && decide (w ≠ .isRef (.static Bundle.tN "SUPPRESSED_SENTINEL" Bundle.listD)) && decide (w ≠ .laysStatic Bundle.tN "UNASSIGNED_STACK" Bundle.steD) && decide (w ≠ .laysStatic Bundle.tN "SUPPRESSED_SENTINEL" Bundle.listD)
def vx_at0 (own : String) (ic : Nat) (X : String) (names : List String) : List Cond := (Bundle.ownAtoms0 own ic X names).filter vx_no
def vx_atS (own : String) (ic : Nat) (X : String) (names : List String) : List Cond := (Bundle.ownAtoms own ic X names).filter vx_no
/-- a word that the tables alone decide, or a good one -/
def vx_ot (w : Cond) : Bool := w.onTables || goodWord w
theorem vx_ot_at {args a' : Array Value} {s U : State} {w : Cond} (hW : s.WarmedH U.vm) (hvm : s.vm = U.vm) (hg : vx_ot w = true) (h : w.before args s = true) : w.before a' U = true := by
  simp only [vx_ot, Bool.or_eq_true] at hg
  rcases hg with hg | hg
  · exact va_tabs hg hvm h
  · exact word_at hW (good_of_word hg) h
/-- a list's words: the good ones out of the method's own list, the others by premises of their own -/
theorem vx_hat {args : Array Value} {s : State} {L B : List Cond} (h1 : ∀ w ∈ L.filter goodWord, w.before args s = true) (h2 : ∀ w ∈ L.filter (fun w => !goodWord w), w ∈ B) (h3 : ∀ w ∈ B, w.before args s = true) : ∀ w ∈ L, w.before args s = true := by
  intro w hw
  by_cases g : goodWord w = true
  · exact h1 w (List.mem_filter.mpr ⟨hw, g⟩)
  · refine h3 w (h2 w (List.mem_filter.mpr ⟨hw, ?_⟩))
    show (!goodWord w) = true
    cases hgw : goodWord w
    · rfl
    · exact absurd hgw g
theorem vx_c {args : Array Value} {s : State} {w : Cond} {B : List Cond} (h : w.before args s = true) (t : ∀ w ∈ B, w.before args s = true) : ∀ w' ∈ w :: B, w'.before args s = true := fun w' h' => (List.mem_cons.mp h').elim (fun e => by rw [e]; exact h) (t w')
theorem vx_n {args : Array Value} {s : State} : ∀ w ∈ ([] : List Cond), w.before args s = true := fun _ h => nomatch h
theorem vx_own {args : Array Value} {s : State} {L : List Cond} (h1 : ∀ w ∈ L.filter vx_no, w.before args s = true)
    (hU : (Cond.isRef (.static Bundle.tN "UNASSIGNED_STACK" Bundle.steD)).before args s = true) (hN : (Cond.isRef (.static Bundle.tN "SUPPRESSED_SENTINEL" Bundle.listD)).before args s = true)
    (lU : (Cond.laysStatic Bundle.tN "UNASSIGNED_STACK" Bundle.steD).before args s = true) (lN : (Cond.laysStatic Bundle.tN "SUPPRESSED_SENTINEL" Bundle.listD).before args s = true) : ∀ w ∈ L, w.before args s = true := by
  intro w hw
  by_cases e1 : w = .isRef (.static Bundle.tN "UNASSIGNED_STACK" Bundle.steD)
  · rw [e1]; exact hU
  · by_cases e2 : w = .isRef (.static Bundle.tN "SUPPRESSED_SENTINEL" Bundle.listD)
    · rw [e2]; exact hN
    · by_cases e3 : w = .laysStatic Bundle.tN "UNASSIGNED_STACK" Bundle.steD
      · rw [e3]; exact lU
      · by_cases e4 : w = .laysStatic Bundle.tN "SUPPRESSED_SENTINEL" Bundle.listD
        · rw [e4]; exact lN
        · exact h1 w (List.mem_filter.mpr ⟨hw, by unfold vx_no; rw [decide_eq_true e1, decide_eq_true e2, decide_eq_true e3, decide_eq_true e4]; rfl⟩)
/-- where a static field lies, its class's statics cell in H -/
def vx_L (C n d : String) (A : Nat → Prop) (U : State) (H : Heap) : Prop := ∃ (c : ClassId) (k : Class) (i : Nat) (f : Field) (a : Nat) (cell : Cell), U.vm.findClass C = some c ∧ U.fieldFound? C n d = some (c, k, i, f) ∧ f.isStatic = true ∧ k.statics = some a ∧ H[a]? = some cell ∧ cell.vm.isStatics = true ∧ cell.cls = c ∧ f.slot < cell.slots.size ∧ k.staticTypes[f.slot]? = some f.type ∧ ¬ A a
theorem vx_L.moved {C n d : String} {A : Nat → Prop} {u U : State} {H : Heap} (hvm : u.vm.Alike U.vm) (h : vx_L C n d A u H) : vx_L C n d A U H := by
  obtain ⟨c, k, i, f, a, cell, h1, h2, h3, h4, h5, h6, h7, h8, h9, h10⟩ := h
  obtain ⟨k', hi', he⟩ := State.fieldFound?_setVm hvm h2
  exact ⟨c, k', i, f, a, cell, by rw [hvm.findClass]; exact h1, hi', h3, by rw [he]; exact h4, h5, h6, h7, h8, by rw [he]; exact h9, h10⟩
theorem vx_L.kept {C n d : String} {A : Nat → Prop} {U : State} {H H1 : Heap} (h : vx_L C n d A U H) (hq : ∀ a : Nat, a < H.size → ¬ A a → H1[a]? = H[a]?) : vx_L C n d A U H1 := by
  obtain ⟨c, k, i, f, a, cell, h1, h2, h3, h4, h5, h6, h7, h8, h9, h10⟩ := h
  exact ⟨c, k, i, f, a, cell, h1, h2, h3, h4, by rw [hq a (Array.getElem?_eq_some_iff.mp h5).1 h10]; exact h5, h6, h7, h8, h9, h10⟩
theorem vx_L.narrow {C n d : String} {A B : Nat → Prop} {U : State} {H : Heap} (h : vx_L C n d A U H) (hAB : ∀ q, B q → A q) : vx_L C n d B U H := by
  obtain ⟨c, k, i, f, a, cell, h1, h2, h3, h4, h5, h6, h7, h8, h9, h10⟩ := h
  exact ⟨c, k, i, f, a, cell, h1, h2, h3, h4, h5, h6, h7, h8, h9, fun z => h10 (hAB _ z)⟩
theorem vx_L.word {C n d : String} {A : Nat → Prop} {s : State} {args : Array Value} (h : vx_L C n d A s s.heap) : (Cond.laysStatic C n d).before args s = true := by
  obtain ⟨c, k, i, f, a, cell, h1, h2, h3, h4, h5, h6, h7, h8, h9, -⟩ := h
  show (Cond.laysStatic C n d).holds args s none s [] = true
  exact Cond.laysStatic_of h1 h2 h3 h4 h5 h6 h7 h8 h9
/-- .. and what it holds: null or some reference -/
def vx_Zq (C n d : String) (A : Nat → Prop) (U : State) (H : Heap) : Prop := va_Zq C n d A U H ∧ vx_L C n d A U H
theorem vx_Zq.moved {C n d : String} {A : Nat → Prop} {u U : State} {H : Heap} (hvm : u.vm.Alike U.vm) (h : vx_Zq C n d A u H) : vx_Zq C n d A U H := ⟨va_Zq.moved hvm h.1, vx_L.moved hvm h.2⟩
theorem vx_Zq.kept {C n d : String} {A : Nat → Prop} {U : State} {H H1 : Heap} (h : vx_Zq C n d A U H) (hq : ∀ a : Nat, a < H.size → ¬ A a → H1[a]? = H[a]?) : vx_Zq C n d A U H1 := ⟨va_Zq.kept h.1 hq, vx_L.kept h.2 hq⟩
theorem vx_Zq.narrow {C n d : String} {A B : Nat → Prop} {U : State} {H : Heap} (h : vx_Zq C n d A U H) (hAB : ∀ q, B q → A q) : vx_Zq C n d B U H := ⟨va_Zq.narrow h.1 hAB, vx_L.narrow h.2 hAB⟩
theorem vx_Zqof {args : Array Value} {s : State} {C n d : String} {A : Nat → Prop} (hl : (Cond.laysStatic C n d).before args s = true) (hini : (Cond.initialized C).before args s = true) (h : (Cond.isRef (.static C n d)).before args s = true) (hA : ∀ a : Nat, a < s.heap.size → ¬ A a) : vx_Zq C n d A s s.heap := by
  refine ⟨va_Zqof hl hini h hA, ?_⟩
  obtain ⟨c, k, i, f, a, cell, h1, h2, h3, h4, h5, h6, h7, h8, h9⟩ := Cond.laysStatic_spec hl
  exact ⟨c, k, i, f, a, cell, h1, h2, h3, h4, h5, h6, h7, h8, h9, hA a (Array.getElem?_eq_some_iff.mp h5).1⟩
theorem vx_isRef {C n d : String} {v : Value} {A : Nat → Prop} {s : State} {args : Array Value} (h : va_Z C n d v A s s.heap) (hv : v.isRef = true) : (Cond.isRef (.static C n d)).before args s = true := by
  obtain ⟨cf, kf, fi, f, a, cell, h1, h2, h3, h4, h5, h6, h7, -⟩ := h
  have he : (Term.static C n d).eval args s none [] s = some v := by
    simp [Term.eval, State.fieldNamed?, h1, h2, h4, h5, h6, h7]
  simp only [Cond.before, Cond.holds, Cond.value, he]
  cases v <;> simp_all [Value.isRef]
theorem vx_isRefq {C n d : String} {A : Nat → Prop} {s : State} {args : Array Value} (h : va_Zq C n d A s s.heap) : (Cond.isRef (.static C n d)).before args s = true := by
  rcases h with h | ⟨t, h⟩
  · exact vx_isRef h rfl
  · exact vx_isRef h rfl
/-- the same frame, seen from here: as if the method were called anew in this heap -/
theorem vx_rebase {T : State} (X : Stand p l e R s m args below meth c T locs cells slots) {R' : Room} (hf : R'.frames ≤ R.frames) (hl : R'.locals ≤ R.locals) (hc : cells + R'.cells ≤ R.cells) (hs : slots + R'.slots ≤ R.slots) :
    Stand p l e R' ((T.setVm s.vm).setFrames (.invoking m args :: below)) m args below meth c T [] 0 0 := by
  have htop : (T.setVm s.vm).topJava?.isSome := X.here.top
  have hF : ((T.setVm s.vm).setFrames (.invoking m args :: below)).frames = .invoking m args :: below := State.frames_setFrames _ (State.cur_lt_of_top htop)
  obtain ⟨g₀, hg0⟩ := Option.isSome_iff_exists.mp htop
  obtain ⟨r, hr⟩ := State.topJava?_eq_some.mp hg0
  have hl9 : e.platform.stackLimits (T.setVm s.vm).me = e.platform.stackLimits s.me := X.limits
  have hb9 : (T.setVm s.vm).me.stackBytes = s.me.stackBytes := X.bytes
  refine ⟨X.admits, X.cas, X.clock, hF, ?_, X.hears, X.method, X.code, X.here, X.tail, X.warmed, ?_, ?_, ?_⟩
  · have h := X.room
    have hU : ((T.setVm s.vm).setFrames (.invoking m args :: below)).localsInUse = s.localsInUse := by
      rw [State.localsInUse_invoking hF (meth := meth) (c := c) X.method X.code, State.localsInUse_invoking X.frames X.method X.code]
    simp only [State.hasRoom, Bool.and_eq_true, decide_eq_true_eq] at h ⊢
    obtain ⟨⟨⟨⟨h1, h2, h3, h4, h5, h6⟩, h7⟩, h8⟩, h9⟩ := h
    rw [X.frames, List.length_cons] at h2 h3
    have q1 := X.heapSize
    have q2 := X.used
    simp only [hF, hU, List.length_cons, State.stackLimits_setFrames, State.stackBytes_setFrames, hl9, hb9]
    refine ⟨⟨⟨⟨by omega, by omega, by omega, by omega, by omega, h6⟩, ?_⟩, ?_⟩, X.book⟩
    · show T.heap.size + R'.cells ≤ e.platform.maxCells
      omega
    · show T.slotsUsed + R'.slots ≤ e.platform.maxSlots
      omega
  · rw [State.stackLimits_setFrames]; rfl
  · rw [State.stackBytes_setFrames]; rfl
  · refine ⟨?_, Nat.le_refl _, Nat.le_refl _, ?_, ?_, fun a c9 h9 => ⟨c9, h9, rfl, rfl, fun _ _ => rfl⟩⟩
    · obtain ⟨t, ht, -⟩ := State.frames_cons hr
      show T.setVm s.vm = { ((T.setVm s.vm).setFrames (.invoking m args :: below)).setFrames (T.setVm s.vm).frames with heap := T.heap, slotsUsed := T.slotsUsed }
      rw [State.setFrames_setFrames, State.setFrames_self ht]
      rfl
    · show T.slotsUsed = T.slotsUsed + ((T.heap.toList.drop T.heap.size).map (·.slots.size)).sum
      rw [List.drop_eq_nil_of_le (Nat.le_of_eq Array.length_toList)]
      rfl
    · show ((T.heap.toList.drop T.heap.size).map (·.slots.size)).sum ≤ 0
      rw [List.drop_eq_nil_of_le (Nat.le_of_eq Array.length_toList)]
      exact Nat.le_refl _
/-- 'throw new E()': new; dup; invokespecial; athrow -/
theorem vx_throw0 {cc : ByteArray} {pc : Nat} (hexec : p.tables.exec = Jvm.exec) (hb : c.code = cc) (hl : l.stackTraces = false) {own cls : String} {names : List String} {ik ic mc ms : Nat} {A : Nat → Prop}
    (hown : s.vm.findClass own = some m.cls) (hcls : Bundle.fit cls = true) (hnames : ∀ n ∈ names, Bundle.fit n = true)
    (hk : (Cond.classLink own ik cls).before args s = true) (hini : (Cond.initialized cls).before args s = true) (hat : ∀ w ∈ vx_at0 own ic cls names, w.before args s = true)
    (hgood : ∀ w ∈ Cond.classLink own ik cls :: Cond.initialized cls :: vx_at0 own ic cls names, vx_ot w = true)
    (hU : vx_Zq Bundle.tN "UNASSIGNED_STACK" Bundle.steD A s s.heap) (hN : vx_Zq Bundle.tN "SUPPRESSED_SENTINEL" Bundle.listD A s s.heap) (hS : va_S A s.heap H locs) (hsize : ls.size = c.maxLocals)
    (d0 : decode cc pc = .ok (.new ik, 3)) (d3 : decode cc (pc + 3) = .ok (.dup, 1)) (d4 : decode cc (pc + 4) = .ok (.invokespecial ic, 3)) (d7 : decode cc (pc + 7) = .ok (.athrow, 1))
    (hout : ∀ x ∈ c.exceptionTable.toList, covers x (pc + 7) = false)
    (hRframes : names.length + 3 < R.frames) (hRlocals : (rest.map fun v => v.category).sum + (13 * (names.length + 1) + 42) ≤ R.locals) (hRcells : cells + 1 ≤ R.cells) (hRslots : slots + 6 ≤ R.slots) (hlocks : meth.locks = false)
    (hx : ∀ t : State, s.vm.Alike t.vm → H.size ≤ t.heap.size → (∀ q : Nat, q < H.size → t.heap[q]? = H[q]?) → XC cls s t)
    (hf : ∀ z ∈ locs, free z.base) (hc : cells + 1 ≤ mc) (hs : slots + 6 ≤ ms) :
    W p l e R s m args below meth c H locs cells slots (vx_MQ below Qc XC args s mc ms free) (F0 m pc ls rest) := by
  intro T hT X
  have htr : e.platform.stackTraces = false := (show e.platform.stackTraces = l.stackTraces by rw [X.admits.platform]).trans hl
  have Y := vx_rebase X (R' := { frames := R.frames, locals := R.locals, cells := 1, slots := 6 }) (Nat.le_refl _) (Nat.le_refl _) hRcells hRslots
  obtain ⟨s', hA⟩ : ∃ z, z = (T.setVm s.vm).setFrames (.invoking m args :: below) := ⟨_, rfl⟩
  rw [← hA] at Y
  have hvm : s'.vm = s.vm := by rw [hA]; rfl
  have hhp : s'.heap = H := by rw [hA]; exact hT
  have hW0 : s.WarmedH s'.vm := by rw [hvm]; exact State.WarmedH.refl s
  have hat' : ∀ w ∈ vx_at0 own ic cls names, w.before args s' = true := fun w hw => vx_ot_at hW0 hvm.symm (hgood w (List.mem_cons_of_mem _ (List.mem_cons_of_mem _ hw))) (hat w hw)
  have hk' : (Cond.classLink own ik cls).before args s' = true := vx_ot_at hW0 hvm.symm (hgood _ List.mem_cons_self) hk
  have hini' : (Cond.initialized cls).before args s' = true := vx_ot_at hW0 hvm.symm (hgood _ (List.mem_cons_of_mem _ List.mem_cons_self)) hini
  have hU' : vx_Zq Bundle.tN "UNASSIGNED_STACK" Bundle.steD A s' s'.heap := by rw [hhp]; exact vx_Zq.moved hW0.alike (hU.kept hS.2.1)
  have hN' : vx_Zq Bundle.tN "SUPPRESSED_SENTINEL" Bundle.listD A s' s'.heap := by rw [hhp]; exact vx_Zq.moved hW0.alike (hN.kept hS.2.1)
  have h : ∀ w ∈ Bundle.ownAtoms0 own ic cls names, w.before args s' = true := vx_own hat' (vx_isRefq hU'.1) (vx_isRefq hN'.1) hU'.2.word hN'.2.word
  have hown' : s'.vm.findClass own = some m.cls := by rw [hvm]; exact hown
  have hins : (Cond.instantiable cls 6).before args s' = true := h _ (by simp [Bundle.ownAtoms0])
  obtain ⟨vm₁, cX, kX, hfX, hkX, -, -, X₁, st1⟩ := Y.newCold hexec (own := own) (C := cls) (index := ik) (n := 6) hown' hk' hins hini'
    (g := F0 m pc ls rest) rfl (by rw [hb]; exact d0) (Nat.le_refl _) (Nat.le_refl _)
  generalize hT1 : (T.setVm vm₁).pushCell { cls := cX, slots := kX.instanceTypes.map defaultValue, vm := .none } = T1 at X₁ st1
  have hcat : (Value.ref T.heap.size).category = 1 := rfl
  have hcellA : T1.heap[T.heap.size]? = some (freshCell cX kX) := by rw [← hT1]; exact State.heap_pushCell_size _ _
  have d3' : decode c.code (pc + 3) = .ok (.dup, 1) := by rw [hb]; exact d3
  obtain ⟨U, hsteps, hrun, hend, hW, hsame, ce, hce, hO⟩ := X₁.ctorThrow0 hexec htr (own := own) (cls := cls) (names := names) (ic := ic) hown' hcls hnames h (fun x hx => nomatch hx) hfX hkX hcellA (by rw [hhp, hT]; exact Nat.le_refl _)
    (g := { method := m, pc := pc + 4, locals := ls, stack := .ref T.heap.size :: .ref T.heap.size :: rest, locked := none }) rfl hsize rfl rfl (rest := rest) rfl
    (by rw [hb]; exact d4) (by rw [hb]; exact d7) hout hRframes (by simp only [List.map_cons, List.sum_cons, hcat]; omega) hlocks
  obtain ⟨f1, f2⟩ := vx_frame hsame
  rw [hhp] at f1 f2
  have hWs : s.WarmedH U.vm := State.WarmedH.trans hW0 hW
  have hcl : s.vm.findClass cls = some ce.cls := by
    have h9 := hO.cls
    rw [hvm] at h9
    exact h9
  have hall : s.sameButNew ({ U with vm := s.vm } : State) locs mc ms := by
    subst hA
    obtain ⟨e1, e2⟩ := hsame
    rw [State.setFrames_setFrames] at e1
    have h2 : (T.setVm s.vm).sameButNew ({ U with vm := s.vm } : State) [] (0 + 1) (0 + 6) := ⟨e1, e2⟩
    have h3 := X.same.trans h2
    rw [List.append_nil] at h3
    exact h3.mono hc hs
  refine ⟨U, ?_, .threw T.heap.size, hrun, hend, Or.inr ⟨T.heap.size, rfl, cls, ce, locs, hx U hWs.alike f1 (fun q hq => f2 q hq (fun z hz => nomatch hz)), hce, hO.vm, hcl, hWs, hall, hf⟩⟩
  refine st1 _ ?_
  show Steps p.tables e below (T1.setTop { method := m, pc := pc + 3, locals := ls, stack := .ref T.heap.size :: rest, locked := none }) _
  jvm_step X₁.here [X₁.here.top, hexec, d3', Value.category]
  exact hsteps
/-- 'throw new E("text")': new; dup; ldc; invokespecial; athrow -/
theorem vx_throwS {cc : ByteArray} {pc : Nat} (hexec : p.tables.exec = Jvm.exec) (hb : c.code = cc) (hl : l.stackTraces = false) {own cls text : String} {names : List String} {ik is ic mc ms sa : Nat} {A : Nat → Prop}
    (hown : s.vm.findClass own = some m.cls) (hcls : Bundle.fit cls = true) (hnames : ∀ n ∈ names, Bundle.fit n = true)
    (hk : (Cond.classLink own ik cls).before args s = true) (hini : (Cond.initialized cls).before args s = true) (hstr : vk_R own is text sa s) (hat : ∀ w ∈ vx_atS own ic cls names, w.before args s = true)
    (hgood : ∀ w ∈ Cond.classLink own ik cls :: Cond.initialized cls :: vx_atS own ic cls names, vx_ot w = true)
    (hU : vx_Zq Bundle.tN "UNASSIGNED_STACK" Bundle.steD A s s.heap) (hN : vx_Zq Bundle.tN "SUPPRESSED_SENTINEL" Bundle.listD A s s.heap) (hS : va_S A s.heap H locs) (hsize : ls.size = c.maxLocals)
    (d0 : decode cc pc = .ok (.new ik, 3)) (d3 : decode cc (pc + 3) = .ok (.dup, 1)) (d4 : decode cc (pc + 4) = .ok (.ldc is, 2)) (d6 : decode cc (pc + 6) = .ok (.invokespecial ic, 3)) (d9 : decode cc (pc + 9) = .ok (.athrow, 1))
    (hout : ∀ x ∈ c.exceptionTable.toList, covers x (pc + 9) = false)
    (hRframes : names.length + 3 < R.frames) (hRlocals : (rest.map fun v => v.category).sum + (13 * (names.length + 1) + 43) ≤ R.locals) (hRcells : cells + 1 ≤ R.cells) (hRslots : slots + 6 ≤ R.slots) (hlocks : meth.locks = false)
    (hx : ∀ t : State, s.vm.Alike t.vm → H.size ≤ t.heap.size → (∀ q : Nat, q < H.size → t.heap[q]? = H[q]?) → XC cls s t)
    (hf : ∀ z ∈ locs, free z.base) (hc : cells + 1 ≤ mc) (hs : slots + 6 ≤ ms) :
    W p l e R s m args below meth c H locs cells slots (vx_MQ below Qc XC args s mc ms free) (F0 m pc ls rest) := by
  intro T hT X
  have htr : e.platform.stackTraces = false := (show e.platform.stackTraces = l.stackTraces by rw [X.admits.platform]).trans hl
  have Y := vx_rebase X (R' := { frames := R.frames, locals := R.locals, cells := 1, slots := 6 }) (Nat.le_refl _) (Nat.le_refl _) hRcells hRslots
  obtain ⟨s', hA⟩ : ∃ z, z = (T.setVm s.vm).setFrames (.invoking m args :: below) := ⟨_, rfl⟩
  rw [← hA] at Y
  have hvm : s'.vm = s.vm := by rw [hA]; rfl
  have hhp : s'.heap = H := by rw [hA]; exact hT
  have hW0 : s.WarmedH s'.vm := by rw [hvm]; exact State.WarmedH.refl s
  have hat' : ∀ w ∈ vx_atS own ic cls names, w.before args s' = true := fun w hw => vx_ot_at hW0 hvm.symm (hgood w (List.mem_cons_of_mem _ (List.mem_cons_of_mem _ hw))) (hat w hw)
  have hk' : (Cond.classLink own ik cls).before args s' = true := vx_ot_at hW0 hvm.symm (hgood _ List.mem_cons_self) hk
  have hini' : (Cond.initialized cls).before args s' = true := vx_ot_at hW0 hvm.symm (hgood _ (List.mem_cons_of_mem _ List.mem_cons_self)) hini
  have hU' : vx_Zq Bundle.tN "UNASSIGNED_STACK" Bundle.steD A s' s'.heap := by rw [hhp]; exact vx_Zq.moved hW0.alike (hU.kept hS.2.1)
  have hN' : vx_Zq Bundle.tN "SUPPRESSED_SENTINEL" Bundle.listD A s' s'.heap := by rw [hhp]; exact vx_Zq.moved hW0.alike (hN.kept hS.2.1)
  have h : ∀ w ∈ Bundle.ownAtoms own ic cls names, w.before args s' = true := vx_own hat' (vx_isRefq hU'.1) (vx_isRefq hN'.1) hU'.2.word hN'.2.word
  have hown' : s'.vm.findClass own = some m.cls := by rw [hvm]; exact hown
  have hins : (Cond.instantiable cls 6).before args s' = true := h _ (by simp [Bundle.ownAtoms])
  obtain ⟨vm₁, cX, kX, hfX, hkX, -, -, X₁, st1⟩ := Y.newCold hexec (own := own) (C := cls) (index := ik) (n := 6) hown' hk' hins hini'
    (g := F0 m pc ls rest) rfl (by rw [hb]; exact d0) (Nat.le_refl _) (Nat.le_refl _)
  generalize hT1 : (T.setVm vm₁).pushCell { cls := cX, slots := kX.instanceTypes.map defaultValue, vm := .none } = T1 at X₁ st1
  have hcat : (Value.ref T.heap.size).category = 1 := rfl
  have hcellA : T1.heap[T.heap.size]? = some (freshCell cX kX) := by rw [← hT1]; exact State.heap_pushCell_size _ _
  have d3' : decode c.code (pc + 3) = .ok (.dup, 1) := by rw [hb]; exact d3
  have d4' : decode c.code (pc + 4) = .ok (.ldc is, 2) := by rw [hb]; exact d4
  have hstr' : vk_R own is text sa s' := vk_R.warm hW0 hstr
  obtain ⟨U, hsteps, hrun, hend, hW, hsame, ce, hce, hO⟩ := X₁.ctorThrowS hexec htr (own := own) (cls := cls) (names := names) (ic := ic) hown' hcls hnames h (fun x hx => nomatch hx) hfX hkX hcellA (by rw [hhp, hT]; exact Nat.le_refl _) (msg := .ref sa) rfl
    (g := { method := m, pc := pc + 6, locals := ls, stack := .ref sa :: .ref T.heap.size :: .ref T.heap.size :: rest, locked := none }) rfl hsize rfl rfl (rest := rest) rfl
    (by rw [hb]; exact d6) (by rw [hb]; exact d9) hout hRframes (by simp only [List.map_cons, List.sum_cons, hcat]; omega) hlocks
  obtain ⟨f1, f2⟩ := vx_frame hsame
  rw [hhp] at f1 f2
  have hWs : s.WarmedH U.vm := State.WarmedH.trans hW0 hW
  have hcl : s.vm.findClass cls = some ce.cls := by
    have h9 := hO.cls
    rw [hvm] at h9
    exact h9
  have hall : s.sameButNew ({ U with vm := s.vm } : State) locs mc ms := by
    subst hA
    obtain ⟨e1, e2⟩ := hsame
    rw [State.setFrames_setFrames] at e1
    have h2 : (T.setVm s.vm).sameButNew ({ U with vm := s.vm } : State) [] (0 + 1) (0 + 6) := ⟨e1, e2⟩
    have h3 := X.same.trans h2
    rw [List.append_nil] at h3
    exact h3.mono hc hs
  refine ⟨U, ?_, .threw T.heap.size, hrun, hend, Or.inr ⟨T.heap.size, rfl, cls, ce, locs, hx U hWs.alike f1 (fun q hq => f2 q hq (fun z hz => nomatch hz)), hce, hO.vm, hcl, hWs, hall, hf⟩⟩
  refine st1 _ ?_
  show Steps p.tables e below (T1.setTop { method := m, pc := pc + 3, locals := ls, stack := .ref T.heap.size :: rest, locked := none }) _
  jvm_step X₁.here [X₁.here.top, hexec, d3', Value.category]
  exact X₁.ldcString hexec (own := own) (text := text) (index := is) (a := sa) hown' hstr'.1 hstr'.2
    (g := { method := m, pc := pc + 4, locals := ls, stack := .ref T.heap.size :: .ref T.heap.size :: rest, locked := none }) rfl d4' _ hsteps
/-- 'throw new E("text")', the text by a wide index -/
theorem vx_throwSW {cc : ByteArray} {pc : Nat} (hexec : p.tables.exec = Jvm.exec) (hb : c.code = cc) (hl : l.stackTraces = false) {own cls text : String} {names : List String} {ik is ic mc ms sa : Nat} {A : Nat → Prop}
    (hown : s.vm.findClass own = some m.cls) (hcls : Bundle.fit cls = true) (hnames : ∀ n ∈ names, Bundle.fit n = true)
    (hk : (Cond.classLink own ik cls).before args s = true) (hini : (Cond.initialized cls).before args s = true) (hstr : vk_R own is text sa s) (hat : ∀ w ∈ vx_atS own ic cls names, w.before args s = true)
    (hgood : ∀ w ∈ Cond.classLink own ik cls :: Cond.initialized cls :: vx_atS own ic cls names, vx_ot w = true)
    (hU : vx_Zq Bundle.tN "UNASSIGNED_STACK" Bundle.steD A s s.heap) (hN : vx_Zq Bundle.tN "SUPPRESSED_SENTINEL" Bundle.listD A s s.heap) (hS : va_S A s.heap H locs) (hsize : ls.size = c.maxLocals)
    (d0 : decode cc pc = .ok (.new ik, 3)) (d3 : decode cc (pc + 3) = .ok (.dup, 1)) (d4 : decode cc (pc + 4) = .ok (.ldc_w is, 3)) (d7 : decode cc (pc + 7) = .ok (.invokespecial ic, 3)) (d10 : decode cc (pc + 10) = .ok (.athrow, 1))
    (hout : ∀ x ∈ c.exceptionTable.toList, covers x (pc + 10) = false)
    (hRframes : names.length + 3 < R.frames) (hRlocals : (rest.map fun v => v.category).sum + (13 * (names.length + 1) + 43) ≤ R.locals) (hRcells : cells + 1 ≤ R.cells) (hRslots : slots + 6 ≤ R.slots) (hlocks : meth.locks = false)
    (hx : ∀ t : State, s.vm.Alike t.vm → H.size ≤ t.heap.size → (∀ q : Nat, q < H.size → t.heap[q]? = H[q]?) → XC cls s t)
    (hf : ∀ z ∈ locs, free z.base) (hc : cells + 1 ≤ mc) (hs : slots + 6 ≤ ms) :
    W p l e R s m args below meth c H locs cells slots (vx_MQ below Qc XC args s mc ms free) (F0 m pc ls rest) := by
  intro T hT X
  have htr : e.platform.stackTraces = false := (show e.platform.stackTraces = l.stackTraces by rw [X.admits.platform]).trans hl
  have Y := vx_rebase X (R' := { frames := R.frames, locals := R.locals, cells := 1, slots := 6 }) (Nat.le_refl _) (Nat.le_refl _) hRcells hRslots
  obtain ⟨s', hA⟩ : ∃ z, z = (T.setVm s.vm).setFrames (.invoking m args :: below) := ⟨_, rfl⟩
  rw [← hA] at Y
  have hvm : s'.vm = s.vm := by rw [hA]; rfl
  have hhp : s'.heap = H := by rw [hA]; exact hT
  have hW0 : s.WarmedH s'.vm := by rw [hvm]; exact State.WarmedH.refl s
  have hat' : ∀ w ∈ vx_atS own ic cls names, w.before args s' = true := fun w hw => vx_ot_at hW0 hvm.symm (hgood w (List.mem_cons_of_mem _ (List.mem_cons_of_mem _ hw))) (hat w hw)
  have hk' : (Cond.classLink own ik cls).before args s' = true := vx_ot_at hW0 hvm.symm (hgood _ List.mem_cons_self) hk
  have hini' : (Cond.initialized cls).before args s' = true := vx_ot_at hW0 hvm.symm (hgood _ (List.mem_cons_of_mem _ List.mem_cons_self)) hini
  have hU' : vx_Zq Bundle.tN "UNASSIGNED_STACK" Bundle.steD A s' s'.heap := by rw [hhp]; exact vx_Zq.moved hW0.alike (hU.kept hS.2.1)
  have hN' : vx_Zq Bundle.tN "SUPPRESSED_SENTINEL" Bundle.listD A s' s'.heap := by rw [hhp]; exact vx_Zq.moved hW0.alike (hN.kept hS.2.1)
  have h : ∀ w ∈ Bundle.ownAtoms own ic cls names, w.before args s' = true := vx_own hat' (vx_isRefq hU'.1) (vx_isRefq hN'.1) hU'.2.word hN'.2.word
  have hown' : s'.vm.findClass own = some m.cls := by rw [hvm]; exact hown
  have hins : (Cond.instantiable cls 6).before args s' = true := h _ (by simp [Bundle.ownAtoms])
  obtain ⟨vm₁, cX, kX, hfX, hkX, -, -, X₁, st1⟩ := Y.newCold hexec (own := own) (C := cls) (index := ik) (n := 6) hown' hk' hins hini'
    (g := F0 m pc ls rest) rfl (by rw [hb]; exact d0) (Nat.le_refl _) (Nat.le_refl _)
  generalize hT1 : (T.setVm vm₁).pushCell { cls := cX, slots := kX.instanceTypes.map defaultValue, vm := .none } = T1 at X₁ st1
  have hcat : (Value.ref T.heap.size).category = 1 := rfl
  have hcellA : T1.heap[T.heap.size]? = some (freshCell cX kX) := by rw [← hT1]; exact State.heap_pushCell_size _ _
  have d3' : decode c.code (pc + 3) = .ok (.dup, 1) := by rw [hb]; exact d3
  have d4' : decode c.code (pc + 4) = .ok (.ldc_w is, 3) := by rw [hb]; exact d4
  have hstr' : vk_R own is text sa s' := vk_R.warm hW0 hstr
  obtain ⟨U, hsteps, hrun, hend, hW, hsame, ce, hce, hO⟩ := X₁.ctorThrowS hexec htr (own := own) (cls := cls) (names := names) (ic := ic) hown' hcls hnames h (fun x hx => nomatch hx) hfX hkX hcellA (by rw [hhp, hT]; exact Nat.le_refl _) (msg := .ref sa) rfl
    (g := { method := m, pc := pc + 7, locals := ls, stack := .ref sa :: .ref T.heap.size :: .ref T.heap.size :: rest, locked := none }) rfl hsize rfl rfl (rest := rest) rfl
    (by rw [hb]; exact d7) (by rw [hb]; exact d10) hout hRframes (by simp only [List.map_cons, List.sum_cons, hcat]; omega) hlocks
  obtain ⟨f1, f2⟩ := vx_frame hsame
  rw [hhp] at f1 f2
  have hWs : s.WarmedH U.vm := State.WarmedH.trans hW0 hW
  have hcl : s.vm.findClass cls = some ce.cls := by
    have h9 := hO.cls
    rw [hvm] at h9
    exact h9
  have hall : s.sameButNew ({ U with vm := s.vm } : State) locs mc ms := by
    subst hA
    obtain ⟨e1, e2⟩ := hsame
    rw [State.setFrames_setFrames] at e1
    have h2 : (T.setVm s.vm).sameButNew ({ U with vm := s.vm } : State) [] (0 + 1) (0 + 6) := ⟨e1, e2⟩
    have h3 := X.same.trans h2
    rw [List.append_nil] at h3
    exact h3.mono hc hs
  refine ⟨U, ?_, .threw T.heap.size, hrun, hend, Or.inr ⟨T.heap.size, rfl, cls, ce, locs, hx U hWs.alike f1 (fun q hq => f2 q hq (fun z hz => nomatch hz)), hce, hO.vm, hcl, hWs, hall, hf⟩⟩
  refine st1 _ ?_
  show Steps p.tables e below (T1.setTop { method := m, pc := pc + 3, locals := ls, stack := .ref T.heap.size :: rest, locked := none }) _
  jvm_step X₁.here [X₁.here.top, hexec, d3', Value.category]
  exact X₁.ldcStringW hexec (own := own) (text := text) (index := is) (a := sa) hown' hstr'.1 hstr'.2
    (g := { method := m, pc := pc + 4, locals := ls, stack := .ref T.heap.size :: .ref T.heap.size :: rest, locked := none }) rfl d4' _ hsteps
end Ends
section Bodies
variable {l : Launch}
theorem vx_ofW {y : MethodName} {ws ws' : List Cond} {rm : Room} {Pc : Array Value → State → Prop} {Qc : Array Value → State → Outcome → State → Prop} {XC : String → State → State → Prop} {mc ms : Nat} {free : Addr → Prop} {cc : ByteArray} {maxL : Nat} {ret : Option FieldType}
    (hy : plainName y.cls = true) (hw : ws = Cond.code y cc maxL ret :: ws')
    (body : ∀ p e s m args below meth c s₁, BodyLoose p l y (headSpec ws rm) cc maxL ret e s m args below meth c s₁ → c.maxLocals = maxL → (∀ x ∈ c.exceptionTable.toList, False) → Pc args s →
      W p l e (headSpec ws rm).room s m args below meth c s.heap [] 0 0 (vx_MQ below Qc XC args s mc ms free) (entryFrame m args maxL)) : vx_Met l y ws rm Pc Qc XC mc ms free := by
  refine MetFree.of_bodyS (code := cc) (maxLocals := maxL) (ret := ret) hy ?_ ?_
  · intro args s m h hn
    obtain ⟨meth, c, h1, h2, h3, h4, h5, h6, -, -⟩ := Cond.code_spec hn (atoms_spec (ws := ws) h _ (by rw [hw]; exact List.mem_cons_self))
    exact ⟨meth, c, h1, h2, h3, h4, h5, h6⟩
  · intro p e s m args below meth c s₁ B hml hP _
    have hh0 : s₁.heap = s.heap := by rw [B.state]; rfl
    have ht : ∀ x ∈ c.exceptionTable.toList, False := by
      obtain ⟨meth9, c9, h1, h2, -, -, -, -, h7, -⟩ := Cond.code_spec B.named (atoms_spec (ws := ws) B.pre _ (by rw [hw]; exact List.mem_cons_self))
      cases Option.some.inj (h1.symm.trans B.method)
      cases Option.some.inj (h2.symm.trans (Stand.of_body B).code)
      intro x hx
      rw [Array.isEmpty_iff.mp h7] at hx
      cases hx
    obtain ⟨t, a1, o, b1, b2, b3⟩ := body p e s m args below meth c s₁ B hml ht hP s₁ hh0 (Stand.of_body B)
    exact ⟨t, o, a1, b1, b2, b3⟩
/-- the table of a body with handlers -/
theorem vx_table {p : Program} {x y : MethodName} {S : Spec} {cc bytes : ByteArray} {maxL maxL' : Nat} {ret ret' : Option FieldType} {e : Env} {s s₁ : State} {m : MethodId} {args : Array Value} {below : List Frame} {meth : Method} {c : Code} {hh : List (Nat × Nat × Nat × Nat)}
    (B : BodyLoose p l y S cc maxL ret e s m args below meth c s₁) (h : (Cond.codeWith y bytes maxL' ret' hh).before args s = true) : c.exceptionTable.toList = tableOf hh := by
  obtain ⟨m9, meth9, c9, hn9, h1, h2, -, -, h6, -⟩ := Cond.codeWith_spec h
  cases Option.some.inj (hn9.symm.trans B.named)
  cases Option.some.inj (h1.symm.trans B.method)
  cases Option.some.inj (h2.symm.trans (Stand.of_body B).code)
  rw [← h6, table_eq]
end Bodies
end VXA
/-! ===== END ===== -/
/-! ===== BEGIN a static call of a method with an exception table ===== -/
section VXS
variable {p : Program} {l : Launch} {e : Env} {R : Room} {s : State} {m : MethodId} {args : Array Value} {below : List Frame} {meth : Method} {c : Code} {T : State} {H : Heap} {locs : List Loc} {cells slots : Nat}
abbrev vx_CSW (R : Room) (s : State) (args : Array Value) (own : String) (index : Nat) (y : MethodName) (bytes : ByteArray) (maxL : Nat) (ret : Option FieldType) (hh : List (Nat × Nat × Nat × Nat)) (ws : List Cond) (rm : Room) (mc ms n : Nat) : Prop :=
  (rm.cells = mc ∧ rm.slots = ms ∧ rm.frames + 1 ≤ R.frames ∧ 8 + (maxL + 11) + rm.locals ≤ R.locals ∧ (∀ w ∈ ws, ∀ (a' : Array Value) (U : State), s.WarmedH U.vm → w.before a' U = true) ∧ Cond.codeWith y bytes maxL ret hh ∈ ws) ∧
  (Cond.codeWith y bytes maxL ret hh).before args s = true ∧ (Cond.initialized y.cls).before args s = true ∧ (y.cls ≠ "java/lang/invoke/MethodHandle" ∧ y.cls ≠ "java/lang/invoke/VarHandle") ∧
  (∀ sig, parseMethodDescriptor y.desc = some sig → n = sig.parameters.length) ∧ (Cond.methodLink own index y).before args s = true ∧ (Cond.static y).before args s = true
theorem vx_cwSW {own : String} {index maxL mc ms : Nat} {y : MethodName} {bytes : ByteArray} {ret : Option FieldType} {hh : List (Nat × Nat × Nat × Nat)} {Ts ws ws' : List Cond} {rm : Room} (n : Nat) (ht : ∀ w ∈ Ts, w.before args s = true) (hT : GoodIn Ts (va_wsS own index y ws)) (hw : ws = Cond.codeWith y bytes maxL ret hh :: ws') (hrc : rm.cells = mc) (hrs : rm.slots = ms)
    (hd : y.cls ≠ "java/lang/invoke/MethodHandle" ∧ y.cls ≠ "java/lang/invoke/VarHandle" ∧ (parseMethodDescriptor y.desc).map (fun d => d.parameters.length) = some n) (hR : rm.frames + 1 ≤ R.frames ∧ 8 + (maxL + 11) + rm.locals ≤ R.locals) :
    vx_CSW R s args own index y bytes maxL ret hh ws rm mc ms n := by
  have ok : ∀ w ∈ va_wsS own index y ws, w.before args s = true := fun w h => ht w (hT w h).1
  have hG : GoodIn Ts ws := fun w h => hT w (by unfold va_wsS; exact List.mem_append_right _ h)
  have hc : Cond.codeWith y bytes maxL ret hh ∈ ws := by rw [hw]; exact List.mem_cons_self
  refine ⟨⟨hrc, hrs, hR.1, hR.2, pay_in ht hG, hc⟩, ht _ (hG _ hc).1, ok _ (by simp [va_wsS]), ⟨hd.1, hd.2.1⟩, fun sig h => ?_, ok _ (by simp [va_wsS]), ok _ (by simp [va_wsS])⟩
  have h2 := hd.2.2
  rw [h] at h2
  exact (Option.some.inj h2).symm
theorem vx_callSW (X : Stand p l e R s m args below meth c T locs cells slots) (hexec : p.tables.exec = Jvm.exec) {own : String} {index : Nat} {y : MethodName} {bytes : ByteArray} {maxL : Nat} {ret : Option FieldType} {hh : List (Nat × Nat × Nat × Nat)}
    (hown : s.vm.findClass own = some m.cls) (hlink : (Cond.methodLink own index y).before args s = true) (hstat : (Cond.static y).before args s = true) (hinit : (Cond.initialized y.cls).before args s = true)
    (hcode : (Cond.codeWith y bytes maxL ret hh).before args s = true) (hy : y.cls ≠ "java/lang/invoke/MethodHandle" ∧ y.cls ≠ "java/lang/invoke/VarHandle")
    {W9 : Nat} {Pre : Pt → Array Value → Prop} {Post : Pt → Array Value → Option Value → Pt → Prop} (hK : Back l R p e below s args y 3 W9 Pre Post)
    {g : JFrame} (hg : g.method = m) (hsize : g.locals.size = c.maxLocals) {argsL rest : List Value} (hlen : ∀ sig, parseMethodDescriptor y.desc = some sig → argsL.length = sig.parameters.length)
    (hstack : g.stack = argsL.reverse ++ rest) (hW : 2 * g.monitorRoom + (rest.map fun v => v.category).sum ≤ W9) (hdg : decode c.code g.pc = .ok (.invokestatic index, 3))
    (hpre : ∀ vm₁, s.WarmedH vm₁ → Pre ⟨T.setVm vm₁, locs, cells, slots⟩ argsL.toArray) :
    ∃ (v : Option Value) (vm₁ : Vm) (B : Pt), s.WarmedH vm₁ ∧ Stand p l e R s m args below meth c B.U B.locs B.cells B.slots ∧ Post ⟨T.setVm vm₁, locs, cells, slots⟩ argsL.toArray v B ∧
      ∀ target, Steps p.tables e below (B.U.setTop { g with pc := g.pc + 3, stack := v.toList ++ rest }) target → Steps p.tables e below (T.setTop g) target := by
  obtain ⟨mk, methM, cM, hnamed, hmethM, -, -, -, -, -, -, hsigM⟩ := Cond.codeWith_spec hcode
  have hstatic : methM.isStatic = true := Cond.static_spec hnamed hmethM hstat
  obtain ⟨kP, hkP, -⟩ := className_of_methodNamed hnamed
  have hinitP : kP.init = .initialized := Cond.initialized_spec (findClass_of_methodNamed hnamed) hkP hinit
  obtain ⟨vm₁, X₁, hstep₁⟩ := X.invokestatic hexec hown hlink hnamed hmethM hstatic hkP hinitP hy (g := g) hg (argsL := argsL) (rest := rest) (hlen _ hsigM) hstack hdg
  obtain ⟨v, B, X', hpost, hsteps⟩ := hK m meth c ⟨T.setVm vm₁, locs, cells, slots⟩ { g with stack := rest } (.invokestatic index) mk argsL.toArray X₁ hg hsize hdg hW (X₁.named hnamed) (hpre vm₁ X₁.warmed)
  exact ⟨v, vm₁, B, X₁.warmed, X', hpost, fun target h => hstep₁ _ fun acts => by rw [doInvoke_state]; exact hsteps.trans h⟩
theorem vx_runSW {y : MethodName} {bytes cc : ByteArray} {maxL nL mc ms n index : Nat} {ret : Option FieldType} {hh : List (Nat × Nat × Nat × Nat)} {ws : List Cond} {rm : Room} {Pc : Array Value → State → Prop} {Qc : Array Value → State → Outcome → State → Prop} {free : Addr → Prop} {Ts : List Cond} {own : String} {As rest : List Value} {g : JFrame}
    (S : CallFix p m c cc nL s args Ts own) (hM : Met l y ws rm Pc Qc mc ms free) (cw : vx_CSW R s args own index y bytes maxL ret hh ws rm mc ms n) (hp : PreS s H Pc As)
    (hg : g.method = m) (hn : As.length = n) (hsize : g.locals.size = nL) (hstack : g.stack = As.reverse ++ rest) (hW : 2 * g.monitorRoom + (rest.map fun v => v.category).sum ≤ 8) (hdg : decode cc g.pc = .ok (.invokestatic index, 3)) (hf : cells + mc ≤ R.cells ∧ slots + ms ≤ R.slots) :
    va_Run p l e R s m args below meth c H locs cells slots mc ms g rest (Qc As.toArray) (free) := by
  obtain ⟨⟨hrc, hrs, hfr, hlo, hws, hcw⟩, hcode, hini, hy, hlen, hl, hstt⟩ := cw
  have hK : Back l R p e below s args y 3 8 (PreOf R mc ms Pc) (PostOf Qc mc ms free) := va_backW (hh := hh) (bytes := bytes) (maxL := maxL) (ret := ret) hM hp.1 hrc hrs hfr hlo hws hcw (fun a' U hW => word_at hW (Or.inl (by first | rfl | simp [Cond.onTables, Cond.keeps, Cond.steady])) hini)
  obtain ⟨hx, hb, hml, ho, -⟩ := S
  intro T hT X
  obtain ⟨v, vm₁, ⟨U', l2, c2, s2⟩, hW₁, X', ⟨g', mk, t, L, e1, e2, hq, h1, hL, h2, h3⟩, st⟩ := vx_callSW X hx (hh := hh) (bytes := bytes) (maxL := maxL) (ret := ret) ho hl hstt hini hcode hy hK hg (hsize.trans hml.symm) (argsL := As) (rest := rest) (fun sig h => hn.trans (hlen sig h)) hstack hW (by rw [hb]; exact hdg)
    (fun vm₁ hW₁ => ⟨hf.1, hf.2, hp.2 (T.setVm vm₁) hT hW₁⟩)
  dsimp only [Pt.U, Pt.locs, Pt.cells, Pt.slots] at X' e1 e2 h1 h2 h3 st
  subst h1; subst h2; subst h3
  exact ⟨v, (T.setVm vm₁).calling g' mk As.toArray, t, U', L, hT, X', hL, e1, e2, hq, st⟩
/-- not caught here, past rows that name other classes: it goes on to the caller -/
theorem vx_outP {p : Program} {l : Launch} {e : Env} {R : Room} {s : State} {m : MethodId} {args : Array Value} {below : List Frame} {meth : Method} {c : Code} {H : Heap} {locs : List Loc} {cells slots : Nat} {free : Addr → Prop} {ls : Array Slot} {rest : List Value} {Qc : Array Value → State → Outcome → State → Prop} {XC : String → State → State → Prop}
    {pc : Nat} {own E : String} {ce : Cell} {q : Addr} {mc ms : Nat} (hown : s.vm.findClass own = some m.cls) (hlocks : meth.locks = false)
    (hpass : ∀ z ∈ c.exceptionTable.toList, covers z pc = false ∨ (z.catchType ≠ 0 ∧ ∃ nm : String, (Cond.classLink own z.catchType nm).before args s = true ∧ va_Nc E nm s)) (hcell : H[q]? = some ce) (hv : ce.vm = .none) (hcl : s.vm.findClass E = some ce.cls)
    (hx : ∀ t : State, t.heap = H → s.vm.Alike t.vm → XC E s t) (hf : ∀ z ∈ locs, free z.base) (hc : cells ≤ mc) (hs : slots ≤ ms) :
    vx_W p l e R s m args below meth c H locs cells slots (vx_MQ below Qc XC args s mc ms free) (F0 m pc ls rest) q := by
  intro T hT X
  have hpl : e.platform.magicAccessors = ({} : Platform).magicAccessors := by rw [X.admits.platform]
  obtain ⟨vm', hW', X', st⟩ := X.outThrough hlocks q (g := F0 m pc ls rest) rfl rfl rfl (cell := ce) (by rw [hT]; exact hcell) (by rw [hv]; rfl)
    (by obtain ⟨k9, h9, -⟩ := Vm.findClass_spec hcl; exact ⟨k9, h9⟩) (fun z hz => by
      rcases hpass z hz with h | ⟨hz0, nm, hl1, hn1⟩
      · exact Or.inl h
      · obtain ⟨c6, hc6, hcl6⟩ := Cond.classLink_spec hown hl1 e.platform hpl
        obtain ⟨a8, b8, h1, h2, h3⟩ := hn1
        cases Option.some.inj (h1.symm.trans hcl)
        cases Option.some.inj (h2.symm.trans hc6)
        exact Or.inr ⟨hz0, _, hcl6, h3⟩)
  obtain ⟨g₀, hfr⟩ := X'.frames_eq
  have hcell9 : ((T.setVm vm').setFrames (.throwing q :: below)).heap[q]? = some ce := by
    show T.heap[q]? = some ce
    rw [hT]; exact hcell
  have hend : Ended ((T.setVm vm').setFrames (.throwing q :: below)) below (.threw q) := State.frames_setFrames _ (State.cur_lt_of_frames hfr)
  refine ⟨(T.setVm vm').setFrames (.throwing q :: below), ?_, .threw q, X'.here.running, hend, Or.inr ⟨q, rfl, E, ce, locs, hx _ hT (X'.ends _).1.alike, hcell9, hv, hcl, (X'.ends _).1, (X'.ends _).2.mono hc hs, hf⟩⟩
  rw [X.pushThrowing_eq]
  exact st
/-- a thing of a world lies in the heap -/
theorem vx_lt {D : va_G} {cl : List vw_C} {ws : va_W} {H1 : Heap} (h : va_P D cl ws H1) {k : Nat} {q : Nat × va_E} (hk : ws[k]? = some q) : q.1 < H1.size := (h k q hk).lt
end VXS
/-! ===== END ===== -/
/-! ===== BEGIN methods with a table of their own: called by a name, returning or throwing ===== -/
section VXH
/-! vx_backW, vx_callVX, vx_callSX, vx_callVW, vx_runVW, vx_runVX, vx_runSX, vx_ofWH follow the same proofs as their sisters above (Free/Laws.lean, Shelf42/LK1.lean); vx_outP calls Shelf42/NT130.lean (outThrough). -/
section
variable {l : Launch} {R : Room} {p : Program} {e : Env} {below : List Frame} {s : State} {sargs : Array Value} {y : MethodName} {len W9 : Nat}
theorem vx_backW {ws : List Cond} {rm : Room} {Pc : Array Value → State → Prop} {Qc : Array Value → State → Outcome → State → Prop} {XC : String → State → State → Prop} {mc ms : Nat} {free : Addr → Prop} {bytes : ByteArray} {maxL : Nat} {ret : Option FieldType} {hh : List (Nat × Nat × Nat × Nat)}
    (hM : vx_Met l y ws rm Pc Qc XC mc ms free) (hblind : FrameBlind Pc) (hrc : rm.cells = mc) (hrs : rm.slots = ms)
    (hframes : rm.frames + 1 ≤ R.frames) (hlocals : W9 + (maxL + 11) + rm.locals ≤ R.locals)
    (hws : ∀ w ∈ ws, ∀ a' U, s.WarmedH U.vm → w.before a' U = true) (hcode : Cond.codeWith y bytes maxL ret hh ∈ ws) (hinit : ∀ a' U, s.WarmedH U.vm → (Cond.initialized y.cls).before a' U = true) :
    vx_Back l R p e below s sargs y len W9 (PreOf R mc ms Pc) (PostOf Qc mc ms free) (vx_Post XC mc ms free) := by
  intro m meth c A g ig mk a X hg hsize hdg hW hn hp
  have h1 : (headSpec ws rm).pre.before a A.U = true := atoms_intro fun w hw => hws w hw _ _ X.warmed
  have h2 : (Cond.codeWith y bytes maxL ret hh).before a A.U = true := hws _ hcode _ _ X.warmed
  have h3 : (Cond.initialized y.cls).before a A.U = true := hinit _ _ X.warmed
  have h4 : A.cells + (headSpec ws rm).room.cells ≤ R.cells := by rw [show (headSpec ws rm).room.cells = mc from hrc]; exact hp.1
  have h5 : A.slots + (headSpec ws rm).room.slots ≤ R.slots := by rw [show (headSpec ws rm).room.slots = ms from hrs]; exact hp.2.1
  have hPc : Pc a (A.U.calling g mk a) := hblind _ _ _ _ hp.2.2
  obtain ⟨U, Ls, c0, s0⟩ := A
  dsimp only [Pt.U, Pt.locs, Pt.cells, Pt.slots] at h1 h2 h3 h4 h5 X hn hPc ⊢
  obtain ⟨m9, methY, cY, hn9, hmY, hcY, -, hlY, -⟩ := Cond.codeWith_spec h2
  cases Option.some.inj (hn9.symm.trans hn)
  obtain ⟨kY, hkY, -⟩ := className_of_methodNamed hn
  have hinitY : kY.init = .initialized := Cond.initialized_spec (findClass_of_methodNamed hn) hkY h3
  have h : At U g.method c below := by rw [hg]; exact X.here
  have hlocals9 : W9 + (maxL + 11) + (headSpec ws rm).room.locals ≤ R.locals := hlocals
  have happ : (headSpec ws rm).appliesLoose y e.platform (U.calling g mk a) = true :=
    Spec.appliesLoose_calling (g := g) h hdg hn hkY hinitY
      (X.room_calling (g := g) (R' := (headSpec ws rm).room) hsize hmY hcY hframes (by rw [hlY]; omega) h4 h5) h1
  obtain ⟨mid, hmid⟩ := h.above
  have hfr : (U.setTop g).frames = (.java g :: mid) ++ below := by rw [State.frames_setTop' g h.top, hmid]; rfl
  obtain ⟨o, s₂, hsteps, -, hend, hq⟩ := Steps.callFree hM p X.admits X.cas X.clock (acts := []) hfr happ hPc trivial
  have hq' : vx_Q Qc XC mc ms free a (U.calling g mk a) o s₂ := hq
  rw [State.frames_setTop' g h.top] at hend
  obtain ⟨g₀, hg0⟩ := Option.isSome_iff_exists.mp h.top
  obtain ⟨r, hr⟩ := State.topJava?_eq_some.mp hg0
  have hr' : (({ U with heap := s₂.heap, slotsUsed := s₂.slotsUsed } : State).setVm s₂.vm).frames = .java g₀ :: r := hr
  rcases hq' with ⟨hqc, L, hfe, hL⟩ | ⟨q, rfl, E, ce, L, hx, hce, hcv, hcl, hW₂, hsm, hL⟩
  · obtain ⟨⟨v, rfl⟩, hW₂, e2, q2, q3, q4, q5, q6⟩ := id hfe
    have e3 : s₂ = ({ (U.calling g mk a).setFrames s₂.frames with heap := s₂.heap, slotsUsed := s₂.slotsUsed } : State).setVm s₂.vm := by
      have : s₂ = ({ s₂ with vm := (U.calling g mk a).vm } : State).setVm s₂.vm := rfl
      rw [e2] at this
      exact this
    obtain ⟨c₂, i₂, len₂, hc₂, hd₂, hf₂⟩ := hend
    have hW' : U.WarmedH s₂.vm := hW₂
    have hcc : c₂ = c := by
      have h1 : s₂.code? g.method = U.code? g.method := by
        rw [State.code?_eq, State.code?_eq, hW'.alike.method?]
      exact Option.some.inj (hc₂.symm.trans (h1.trans h.code))
    subst hcc
    have hlen : len₂ = len := by rw [hdg] at hd₂; cases hd₂; rfl
    subst hlen
    have hs₂ : s₂ = (({ U with heap := s₂.heap, slotsUsed := s₂.slotsUsed } : State).setVm s₂.vm).setTop { g with pc := g.pc + len₂, stack := v.toList ++ g.stack } := by
      refine e3.trans ?_
      rw [hf₂, State.calling_eq h.top, State.setFrames_setFrames, State.setTop_of_frames _ hr', hr]
      rfl
    have hsame : U.sameButNew ({ U with heap := s₂.heap, slotsUsed := s₂.slotsUsed } : State) L mc ms := by
      refine ⟨?_, q2, q3, q4, q5, q6⟩
      obtain ⟨t, ht, -⟩ := State.frames_cons hr
      show ({ U with heap := s₂.heap, slotsUsed := s₂.slotsUsed } : State) = { U.setFrames U.frames with heap := s₂.heap, slotsUsed := s₂.slotsUsed }
      rw [State.setFrames_self ht]
    subst hg
    refine Or.inl ⟨v, ⟨(({ U with heap := s₂.heap, slotsUsed := s₂.slotsUsed } : State).setVm s₂.vm), Ls ++ L, c0 + mc, s0 + ms⟩,
      ⟨X.admits, X.cas, X.clock, X.frames, X.room, X.hears, X.method, X.code, (X.here.setHeapUsed s₂.heap s₂.slotsUsed).setVm hW'.alike, X.tail, State.WarmedH.trans X.warmed hW', X.limits, X.bytes, X.same.trans (hsame.setVm s.vm)⟩,
      ⟨g, mk, s₂, L, rfl, rfl, hqc, rfl, hL, rfl, rfl⟩, ?_⟩
    show Steps p.tables e below _ ((({ U with heap := s₂.heap, slotsUsed := s₂.slotsUsed } : State).setVm s₂.vm).setTop { g with pc := g.pc + len₂, stack := v.toList ++ g.stack })
    rw [← hs₂]
    exact hsteps
  · obtain ⟨e2, q2, q3, q4, q5, q6⟩ := id hsm
    have e3 : s₂ = ({ (U.calling g mk a).setFrames s₂.frames with heap := s₂.heap, slotsUsed := s₂.slotsUsed } : State).setVm s₂.vm := by
      have : s₂ = ({ s₂ with vm := (U.calling g mk a).vm } : State).setVm s₂.vm := rfl
      rw [e2] at this
      exact this
    have hf₂ : s₂.frames = .throwing q :: .java g :: U.frames.tail := hend
    have hW' : U.WarmedH s₂.vm := hW₂
    have hs₂ : s₂ = ((({ U with heap := s₂.heap, slotsUsed := s₂.slotsUsed } : State).setVm s₂.vm).setTop g).pushFrame (.throwing q) := by
      refine e3.trans ?_
      rw [hf₂, State.calling_eq h.top, State.setFrames_setFrames, State.pushFrame, State.frames_setTop _ hr', State.setTop_of_frames _ hr', State.setFrames_setFrames, hr]
      rfl
    have hsame : U.sameButNew ({ U with heap := s₂.heap, slotsUsed := s₂.slotsUsed } : State) L mc ms := by
      refine ⟨?_, q2, q3, q4, q5, q6⟩
      obtain ⟨t, ht, -⟩ := State.frames_cons hr
      show ({ U with heap := s₂.heap, slotsUsed := s₂.slotsUsed } : State) = { U.setFrames U.frames with heap := s₂.heap, slotsUsed := s₂.slotsUsed }
      rw [State.setFrames_self ht]
    subst hg
    refine Or.inr ⟨q, ⟨(({ U with heap := s₂.heap, slotsUsed := s₂.slotsUsed } : State).setVm s₂.vm), Ls ++ L, c0 + mc, s0 + ms⟩,
      ⟨X.admits, X.cas, X.clock, X.frames, X.room, X.hears, X.method, X.code, (X.here.setHeapUsed s₂.heap s₂.slotsUsed).setVm hW'.alike, X.tail, State.WarmedH.trans X.warmed hW', X.limits, X.bytes, X.same.trans (hsame.setVm s.vm)⟩,
      ⟨g, mk, s₂, L, E, ce, rfl, rfl, hx, hce, hcv, hcl, rfl, hL, rfl, rfl⟩, ?_⟩
    show Steps p.tables e below _ (((({ U with heap := s₂.heap, slotsUsed := s₂.slotsUsed } : State).setVm s₂.vm).setTop g).pushFrame (.throwing q))
    rw [← hs₂]
    exact hsteps
end
variable {p : Program} {l : Launch} {e : Env} {R : Room} {s : State} {m : MethodId} {args : Array Value} {below : List Frame} {meth : Method} {c : Code} {T : State} {H : Heap} {locs : List Loc} {cells slots : Nat}
theorem vx_callVX (X : Stand p l e R s m args below meth c T locs cells slots) (hexec : p.tables.exec = Jvm.exec) {own C : String} {index : Nat} {y : MethodName} {bytes : ByteArray} {maxL : Nat} {ret : Option FieldType} {hh : List (Nat × Nat × Nat × Nat)}
    (hown : s.vm.findClass own = some m.cls) (hlink : (Cond.methodLink own index y).before args s = true) (hinst : (Cond.instanceMethod y).before args s = true) (hsel : (Cond.selects C y y).before args s = true)
    (hcode : (Cond.codeWith y bytes maxL ret hh).before args s = true) (hy : y.cls ≠ "java/lang/invoke/MethodHandle" ∧ y.cls ≠ "java/lang/invoke/VarHandle")
    {W9 : Nat} {Pre : Pt → Array Value → Prop} {Post : Pt → Array Value → Option Value → Pt → Prop} {PostX : Pt → Array Value → Addr → Pt → Prop} (hK : vx_Back l R p e below s args y 3 W9 Pre Post PostX)
    {b : Addr} {cellB : Cell} (hcell : T.heap[b]? = some cellB) (hobj : cellB.vm.isStatics = false) (hcls : s.vm.findClass C = some cellB.cls)
    {g : JFrame} (hg : g.method = m) (hsize : g.locals.size = c.maxLocals) {argsL rest : List Value} (hlen : ∀ sig, parseMethodDescriptor y.desc = some sig → argsL.length = sig.parameters.length)
    (hstack : g.stack = argsL.reverse ++ .ref b :: rest) (hW : 2 * g.monitorRoom + (rest.map fun v => v.category).sum ≤ W9) (hdg : decode c.code g.pc = .ok (.invokevirtual index, 3))
    (hpre : ∀ vm₁, s.WarmedH vm₁ → Pre ⟨T.setVm vm₁, locs, cells, slots⟩ (Value.ref b :: argsL).toArray) :
    (∃ (v : Option Value) (vm₁ : Vm) (B : Pt), s.WarmedH vm₁ ∧ Stand p l e R s m args below meth c B.U B.locs B.cells B.slots ∧ Post ⟨T.setVm vm₁, locs, cells, slots⟩ (Value.ref b :: argsL).toArray v B ∧
      ∀ target, Steps p.tables e below (B.U.setTop { g with pc := g.pc + 3, stack := v.toList ++ rest }) target → Steps p.tables e below (T.setTop g) target) ∨
    (∃ (q : Addr) (vm₁ : Vm) (B : Pt), s.WarmedH vm₁ ∧ Stand p l e R s m args below meth c B.U B.locs B.cells B.slots ∧ PostX ⟨T.setVm vm₁, locs, cells, slots⟩ (Value.ref b :: argsL).toArray q B ∧
      Steps p.tables e below (T.setTop g) ((B.U.setTop { g with stack := rest }).pushFrame (.throwing q))) := by
  obtain ⟨mk, methM, hnamed, hmethM, hstM, habM⟩ := Cond.instanceMethod_spec hinst
  obtain ⟨m8, methM', cM, hn8, hmethM', -, -, -, -, -, -, hsigM⟩ := Cond.codeWith_spec hcode
  cases Option.some.inj (hn8.symm.trans hnamed)
  cases hmethM.symm.trans hmethM'
  obtain ⟨c2, r2, m2, q1, q2, q3, q4, kP, hkP, hkPi⟩ := Cond.selects_spec hsel
  cases hcls.symm.trans q1
  cases (State.methodFound?_of_named hnamed hy).symm.trans q2
  cases hnamed.symm.trans q3
  have hselP : selectMethod e.platform s.vm cellB.cls mk = .method mk := by rw [Launch.admits_selectMethod X.admits]; exact q4
  obtain ⟨vm₁, X₁, hstep₁⟩ := X.invokevirtual hexec hown hlink hnamed hmethM hstM hkP hkPi hy (a := b) (cell := cellB) hcell
    (fun z h => by rw [h] at hobj; cases hobj) hselP hmethM habM hkP hkPi (g := g) hg (argsL := argsL) (rest := rest) (hlen _ hsigM) hstack hdg
  rcases hK m meth c ⟨T.setVm vm₁, locs, cells, slots⟩ { g with stack := rest } (.invokevirtual index) mk (Value.ref b :: argsL).toArray X₁ hg hsize hdg hW (X₁.named hnamed) (hpre vm₁ X₁.warmed) with ⟨v, B, X', hpost, hsteps⟩ | ⟨q, B, X', hpost, hsteps⟩
  · exact Or.inl ⟨v, vm₁, B, X₁.warmed, X', hpost, fun target h => hstep₁ _ fun acts => by rw [doInvoke_state]; exact hsteps.trans h⟩
  · exact Or.inr ⟨q, vm₁, B, X₁.warmed, X', hpost, hstep₁ _ fun acts => by rw [doInvoke_state]; exact hsteps⟩
theorem vx_callSX (X : Stand p l e R s m args below meth c T locs cells slots) (hexec : p.tables.exec = Jvm.exec) {own : String} {index : Nat} {y : MethodName} {bytes : ByteArray} {maxL : Nat} {ret : Option FieldType} {hh : List (Nat × Nat × Nat × Nat)}
    (hown : s.vm.findClass own = some m.cls) (hlink : (Cond.methodLink own index y).before args s = true) (hstat : (Cond.static y).before args s = true) (hinit : (Cond.initialized y.cls).before args s = true)
    (hcode : (Cond.codeWith y bytes maxL ret hh).before args s = true) (hy : y.cls ≠ "java/lang/invoke/MethodHandle" ∧ y.cls ≠ "java/lang/invoke/VarHandle")
    {W9 : Nat} {Pre : Pt → Array Value → Prop} {Post : Pt → Array Value → Option Value → Pt → Prop} {PostX : Pt → Array Value → Addr → Pt → Prop} (hK : vx_Back l R p e below s args y 3 W9 Pre Post PostX)
    {g : JFrame} (hg : g.method = m) (hsize : g.locals.size = c.maxLocals) {argsL rest : List Value} (hlen : ∀ sig, parseMethodDescriptor y.desc = some sig → argsL.length = sig.parameters.length)
    (hstack : g.stack = argsL.reverse ++ rest) (hW : 2 * g.monitorRoom + (rest.map fun v => v.category).sum ≤ W9) (hdg : decode c.code g.pc = .ok (.invokestatic index, 3))
    (hpre : ∀ vm₁, s.WarmedH vm₁ → Pre ⟨T.setVm vm₁, locs, cells, slots⟩ argsL.toArray) :
    (∃ (v : Option Value) (vm₁ : Vm) (B : Pt), s.WarmedH vm₁ ∧ Stand p l e R s m args below meth c B.U B.locs B.cells B.slots ∧ Post ⟨T.setVm vm₁, locs, cells, slots⟩ argsL.toArray v B ∧
      ∀ target, Steps p.tables e below (B.U.setTop { g with pc := g.pc + 3, stack := v.toList ++ rest }) target → Steps p.tables e below (T.setTop g) target) ∨
    (∃ (q : Addr) (vm₁ : Vm) (B : Pt), s.WarmedH vm₁ ∧ Stand p l e R s m args below meth c B.U B.locs B.cells B.slots ∧ PostX ⟨T.setVm vm₁, locs, cells, slots⟩ argsL.toArray q B ∧
      Steps p.tables e below (T.setTop g) ((B.U.setTop { g with stack := rest }).pushFrame (.throwing q))) := by
  obtain ⟨mk, methM, cM, hnamed, hmethM, -, -, -, -, -, -, hsigM⟩ := Cond.codeWith_spec hcode
  have hstatic : methM.isStatic = true := Cond.static_spec hnamed hmethM hstat
  obtain ⟨kP, hkP, -⟩ := className_of_methodNamed hnamed
  have hinitP : kP.init = .initialized := Cond.initialized_spec (findClass_of_methodNamed hnamed) hkP hinit
  obtain ⟨vm₁, X₁, hstep₁⟩ := X.invokestatic hexec hown hlink hnamed hmethM hstatic hkP hinitP hy (g := g) hg (argsL := argsL) (rest := rest) (hlen _ hsigM) hstack hdg
  rcases hK m meth c ⟨T.setVm vm₁, locs, cells, slots⟩ { g with stack := rest } (.invokestatic index) mk argsL.toArray X₁ hg hsize hdg hW (X₁.named hnamed) (hpre vm₁ X₁.warmed) with ⟨v, B, X', hpost, hsteps⟩ | ⟨q, B, X', hpost, hsteps⟩
  · exact Or.inl ⟨v, vm₁, B, X₁.warmed, X', hpost, fun target h => hstep₁ _ fun acts => by rw [doInvoke_state]; exact hsteps.trans h⟩
  · exact Or.inr ⟨q, vm₁, B, X₁.warmed, X', hpost, hstep₁ _ fun acts => by rw [doInvoke_state]; exact hsteps⟩
theorem vx_callVW (X : Stand p l e R s m args below meth c T locs cells slots) (hexec : p.tables.exec = Jvm.exec) {own C : String} {index : Nat} {y : MethodName} {bytes : ByteArray} {maxL : Nat} {ret : Option FieldType} {hh : List (Nat × Nat × Nat × Nat)}
    (hown : s.vm.findClass own = some m.cls) (hlink : (Cond.methodLink own index y).before args s = true) (hinst : (Cond.instanceMethod y).before args s = true) (hsel : (Cond.selects C y y).before args s = true)
    (hcode : (Cond.codeWith y bytes maxL ret hh).before args s = true) (hy : y.cls ≠ "java/lang/invoke/MethodHandle" ∧ y.cls ≠ "java/lang/invoke/VarHandle")
    {W9 : Nat} {Pre : Pt → Array Value → Prop} {Post : Pt → Array Value → Option Value → Pt → Prop} (hK : Back l R p e below s args y 3 W9 Pre Post)
    {b : Addr} {cellB : Cell} (hcell : T.heap[b]? = some cellB) (hobj : cellB.vm.isStatics = false) (hcls : s.vm.findClass C = some cellB.cls)
    {g : JFrame} (hg : g.method = m) (hsize : g.locals.size = c.maxLocals) {argsL rest : List Value} (hlen : ∀ sig, parseMethodDescriptor y.desc = some sig → argsL.length = sig.parameters.length)
    (hstack : g.stack = argsL.reverse ++ .ref b :: rest) (hW : 2 * g.monitorRoom + (rest.map fun v => v.category).sum ≤ W9) (hdg : decode c.code g.pc = .ok (.invokevirtual index, 3))
    (hpre : ∀ vm₁, s.WarmedH vm₁ → Pre ⟨T.setVm vm₁, locs, cells, slots⟩ (Value.ref b :: argsL).toArray) :
    ∃ (v : Option Value) (vm₁ : Vm) (B : Pt), s.WarmedH vm₁ ∧ Stand p l e R s m args below meth c B.U B.locs B.cells B.slots ∧ Post ⟨T.setVm vm₁, locs, cells, slots⟩ (Value.ref b :: argsL).toArray v B ∧
      ∀ target, Steps p.tables e below (B.U.setTop { g with pc := g.pc + 3, stack := v.toList ++ rest }) target → Steps p.tables e below (T.setTop g) target := by
  obtain ⟨mk, methM, hnamed, hmethM, hstM, habM⟩ := Cond.instanceMethod_spec hinst
  obtain ⟨m8, methM', cM, hn8, hmethM', -, -, -, -, -, -, hsigM⟩ := Cond.codeWith_spec hcode
  cases Option.some.inj (hn8.symm.trans hnamed)
  cases hmethM.symm.trans hmethM'
  obtain ⟨c2, r2, m2, q1, q2, q3, q4, kP, hkP, hkPi⟩ := Cond.selects_spec hsel
  cases hcls.symm.trans q1
  cases (State.methodFound?_of_named hnamed hy).symm.trans q2
  cases hnamed.symm.trans q3
  have hselP : selectMethod e.platform s.vm cellB.cls mk = .method mk := by rw [Launch.admits_selectMethod X.admits]; exact q4
  obtain ⟨vm₁, X₁, hstep₁⟩ := X.invokevirtual hexec hown hlink hnamed hmethM hstM hkP hkPi hy (a := b) (cell := cellB) hcell
    (fun z h => by rw [h] at hobj; cases hobj) hselP hmethM habM hkP hkPi (g := g) hg (argsL := argsL) (rest := rest) (hlen _ hsigM) hstack hdg
  obtain ⟨v, B, X', hpost, hsteps⟩ := hK m meth c ⟨T.setVm vm₁, locs, cells, slots⟩ { g with stack := rest } (.invokevirtual index) mk (Value.ref b :: argsL).toArray X₁ hg hsize hdg hW (X₁.named hnamed) (hpre vm₁ X₁.warmed)
  exact ⟨v, vm₁, B, X₁.warmed, X', hpost, fun target h => hstep₁ _ fun acts => by rw [doInvoke_state]; exact hsteps.trans h⟩
abbrev vx_CVW (R : Room) (s : State) (args : Array Value) (own C : String) (index : Nat) (y : MethodName) (bytes : ByteArray) (maxL : Nat) (ret : Option FieldType) (hh : List (Nat × Nat × Nat × Nat)) (ws : List Cond) (rm : Room) (mc ms n : Nat) : Prop :=
  (rm.cells = mc ∧ rm.slots = ms ∧ rm.frames + 1 ≤ R.frames ∧ 8 + (maxL + 11) + rm.locals ≤ R.locals ∧ (∀ w ∈ ws, ∀ (a' : Array Value) (U : State), s.WarmedH U.vm → w.before a' U = true) ∧ Cond.codeWith y bytes maxL ret hh ∈ ws) ∧
  (Cond.codeWith y bytes maxL ret hh).before args s = true ∧ (Cond.initialized y.cls).before args s = true ∧ (y.cls ≠ "java/lang/invoke/MethodHandle" ∧ y.cls ≠ "java/lang/invoke/VarHandle") ∧
  (∀ sig, parseMethodDescriptor y.desc = some sig → n = sig.parameters.length) ∧ (Cond.methodLink own index y).before args s = true ∧ (Cond.instanceMethod y).before args s = true ∧ (Cond.selects C y y).before args s = true
theorem vx_cwVW {own C : String} {index maxL mc ms : Nat} {y : MethodName} {bytes : ByteArray} {ret : Option FieldType} {hh : List (Nat × Nat × Nat × Nat)} {Ts ws ws' : List Cond} {rm : Room} (n : Nat) (ht : ∀ w ∈ Ts, w.before args s = true) (hT : GoodIn Ts (wsV own index C y ws)) (hw : ws = Cond.codeWith y bytes maxL ret hh :: ws') (hrc : rm.cells = mc) (hrs : rm.slots = ms)
    (hd : y.cls = C ∧ y.cls ≠ "java/lang/invoke/MethodHandle" ∧ y.cls ≠ "java/lang/invoke/VarHandle" ∧ (parseMethodDescriptor y.desc).map (fun d => d.parameters.length) = some n) (hR : rm.frames + 1 ≤ R.frames ∧ 8 + (maxL + 11) + rm.locals ≤ R.locals) :
    vx_CVW R s args own C index y bytes maxL ret hh ws rm mc ms n := by
  obtain ⟨hC, hd⟩ := hd
  subst hC
  have ok : ∀ w ∈ wsV own index y.cls y ws, w.before args s = true := fun w h => ht w (hT w h).1
  have hG : GoodIn Ts ws := fun w h => hT w (by unfold wsV; exact List.mem_append_right _ h)
  have hc : Cond.codeWith y bytes maxL ret hh ∈ ws := by rw [hw]; exact List.mem_cons_self
  refine ⟨⟨hrc, hrs, hR.1, hR.2, pay_in ht hG, hc⟩, ht _ (hG _ hc).1, ok _ (by simp [wsV]), ⟨hd.1, hd.2.1⟩, fun sig h => ?_, ok _ (by simp [wsV]), ok _ (by simp [wsV]), ok _ (by simp [wsV])⟩
  have h2 := hd.2.2
  rw [h] at h2
  exact (Option.some.inj h2).symm
theorem vx_runVW {y : MethodName} {bytes cc : ByteArray} {maxL nL mc ms n index : Nat} {ret : Option FieldType} {hh : List (Nat × Nat × Nat × Nat)} {ws : List Cond} {rm : Room} {Pc : Array Value → State → Prop} {Qc : Array Value → State → Outcome → State → Prop} {free : Addr → Prop} {Ts : List Cond} {own C : String} {b : Addr} {As rest : List Value} {g : JFrame}
    (S : CallFix p m c cc nL s args Ts own) (hM : Met l y ws rm Pc Qc mc ms free) (cw : vx_CVW R s args own C index y bytes maxL ret hh ws rm mc ms n) (hp : PreV s H C b Pc As)
    (hg : g.method = m) (hn : As.length = n) (hsize : g.locals.size = nL) (hstack : g.stack = As.reverse ++ .ref b :: rest) (hW : 2 * g.monitorRoom + (rest.map fun v => v.category).sum ≤ 8) (hdg : decode cc g.pc = .ok (.invokevirtual index, 3)) (hf : cells + mc ≤ R.cells ∧ slots + ms ≤ R.slots) :
    va_Run p l e R s m args below meth c H locs cells slots mc ms g rest (Qc (Value.ref b :: As).toArray) free := by
  obtain ⟨⟨hrc, hrs, hfr, hlo, hws, hcw⟩, hcode, hini, hy, hlen, hl, hin, hse⟩ := cw
  have hK : Back l R p e below s args y 3 8 (PreOf R mc ms Pc) (PostOf Qc mc ms free) := va_backW (hh := hh) (bytes := bytes) (maxL := maxL) (ret := ret) hM hp.1 hrc hrs hfr hlo hws hcw (fun a' U hW => word_at hW (Or.inl (by first | rfl | simp [Cond.onTables, Cond.keeps, Cond.steady])) hini)
  obtain ⟨hx, hb, hml, ho, -⟩ := S
  obtain ⟨-, ⟨cellB, hcB, hoB, hclB⟩, hPc⟩ := hp
  intro T hT X
  obtain ⟨v, vm₁, ⟨U', l2, c2, s2⟩, hW₁, X', ⟨g', mk, t, L, e1, e2, hq, h1, hL, h2, h3⟩, st⟩ := vx_callVW X hx (C := C) (hh := hh) (bytes := bytes) (maxL := maxL) (ret := ret) ho hl hin hse hcode hy hK (by rw [hT]; exact hcB) hoB hclB hg (hsize.trans hml.symm) (argsL := As) (rest := rest) (fun sig h => hn.trans (hlen sig h)) hstack hW (by rw [hb]; exact hdg)
    (fun vm₁ hW₁ => ⟨hf.1, hf.2, hPc (T.setVm vm₁) hT hW₁⟩)
  dsimp only [Pt.U, Pt.locs, Pt.cells, Pt.slots] at X' e1 e2 h1 h2 h3 st
  subst h1; subst h2; subst h3
  exact ⟨v, (T.setVm vm₁).calling g' mk (Value.ref b :: As).toArray, t, U', L, hT, X', hL, e1, e2, hq, st⟩
section
variable {y : MethodName} {bytes cc : ByteArray} {maxL nL mc ms n index : Nat} {ret : Option FieldType} {ws : List Cond} {rm : Room} {Pc : Array Value → State → Prop} {Qc : Array Value → State → Outcome → State → Prop} {XC : String → State → State → Prop} {free : Addr → Prop} {Ts : List Cond} {own C : String} {b : Addr} {As rest : List Value} {g : JFrame}
theorem vx_runVX {hh : List (Nat × Nat × Nat × Nat)} (S : CallFix p m c cc nL s args Ts own) (hM : vx_Met l y ws rm Pc Qc XC mc ms free) (cw : vx_CVW R s args own C index y bytes maxL ret hh ws rm mc ms n) (hp : PreV s H C b Pc As)
    (hg : g.method = m) (hn : As.length = n) (hsize : g.locals.size = nL) (hstack : g.stack = As.reverse ++ .ref b :: rest) (hW : 2 * g.monitorRoom + (rest.map fun v => v.category).sum ≤ 8) (hdg : decode cc g.pc = .ok (.invokevirtual index, 3)) (hf : cells + mc ≤ R.cells ∧ slots + ms ≤ R.slots) :
    vx_Run p l e R s m args below meth c H locs cells slots mc ms g rest (Qc (Value.ref b :: As).toArray) XC free := by
  obtain ⟨⟨hrc, hrs, hfr, hlo, hws, hcw⟩, hcode, hini, hy, hlen, hl, hin, hse⟩ := cw
  have hK : vx_Back l R p e below s args y 3 8 (PreOf R mc ms Pc) (PostOf Qc mc ms free) (vx_Post XC mc ms free) := vx_backW (hh := hh) (bytes := bytes) (maxL := maxL) (ret := ret) hM hp.1 hrc hrs hfr hlo hws hcw (fun a' U hW => word_at hW (Or.inl (by first | rfl | simp [Cond.onTables, Cond.keeps, Cond.steady])) hini)
  obtain ⟨hx, hb, hml, ho, -⟩ := S
  obtain ⟨-, ⟨cellB, hcB, hoB, hclB⟩, hPc⟩ := hp
  intro T hT X
  rcases vx_callVX X hx (C := C) (hh := hh) (bytes := bytes) (maxL := maxL) (ret := ret) ho hl hin hse hcode hy hK (by rw [hT]; exact hcB) hoB hclB hg (hsize.trans hml.symm) (argsL := As) (rest := rest) (fun sig h => hn.trans (hlen sig h)) hstack hW (by rw [hb]; exact hdg)
    (fun vm₁ hW₁ => ⟨hf.1, hf.2, hPc (T.setVm vm₁) hT hW₁⟩) with ⟨v, vm₁, ⟨U', l2, c2, s2⟩, hW₁, X', ⟨g', mk, t, L, e1, e2, hq, h1, hL, h2, h3⟩, st⟩ | ⟨q, vm₁, ⟨U', l2, c2, s2⟩, hW₁, X', ⟨g', mk, t, L, E, ce, e1, e2, hq, hce, hcv, hcl, h1, hL, h2, h3⟩, st⟩
  · dsimp only [Pt.U, Pt.locs, Pt.cells, Pt.slots] at X' e1 e2 h1 h2 h3 st
    subst h1; subst h2; subst h3
    exact Or.inl ⟨v, (T.setVm vm₁).calling g' mk (Value.ref b :: As).toArray, t, U', L, hT, X', hL, e1, e2, hq, st⟩
  · dsimp only [Pt.U, Pt.locs, Pt.cells, Pt.slots] at X' e1 e2 h1 h2 h3 st hcl
    subst h1; subst h2; subst h3
    exact Or.inr ⟨q, (T.setVm vm₁).calling g' mk (Value.ref b :: As).toArray, t, U', L, E, ce, hT, X', hL, e1, e2, hq, hce, hcv, vx_cls hW₁ hcl, st⟩
theorem vx_runSX {hh : List (Nat × Nat × Nat × Nat)} (S : CallFix p m c cc nL s args Ts own) (hM : vx_Met l y ws rm Pc Qc XC mc ms free) (cw : vx_CSW R s args own index y bytes maxL ret hh ws rm mc ms n) (hp : PreS s H Pc As)
    (hg : g.method = m) (hn : As.length = n) (hsize : g.locals.size = nL) (hstack : g.stack = As.reverse ++ rest) (hW : 2 * g.monitorRoom + (rest.map fun v => v.category).sum ≤ 8) (hdg : decode cc g.pc = .ok (.invokestatic index, 3)) (hf : cells + mc ≤ R.cells ∧ slots + ms ≤ R.slots) :
    vx_Run p l e R s m args below meth c H locs cells slots mc ms g rest (Qc As.toArray) XC free := by
  obtain ⟨⟨hrc, hrs, hfr, hlo, hws, hcw⟩, hcode, hini, hy, hlen, hl, hstt⟩ := cw
  have hK : vx_Back l R p e below s args y 3 8 (PreOf R mc ms Pc) (PostOf Qc mc ms free) (vx_Post XC mc ms free) := vx_backW (hh := hh) (bytes := bytes) (maxL := maxL) (ret := ret) hM hp.1 hrc hrs hfr hlo hws hcw (fun a' U hW => word_at hW (Or.inl (by first | rfl | simp [Cond.onTables, Cond.keeps, Cond.steady])) hini)
  obtain ⟨hx, hb, hml, ho, -⟩ := S
  intro T hT X
  rcases vx_callSX X hx (hh := hh) (bytes := bytes) (maxL := maxL) (ret := ret) ho hl hstt hini hcode hy hK hg (hsize.trans hml.symm) (argsL := As) (rest := rest) (fun sig h => hn.trans (hlen sig h)) hstack hW (by rw [hb]; exact hdg)
    (fun vm₁ hW₁ => ⟨hf.1, hf.2, hp.2 (T.setVm vm₁) hT hW₁⟩) with ⟨v, vm₁, ⟨U', l2, c2, s2⟩, hW₁, X', ⟨g', mk, t, L, e1, e2, hq, h1, hL, h2, h3⟩, st⟩ | ⟨q, vm₁, ⟨U', l2, c2, s2⟩, hW₁, X', ⟨g', mk, t, L, E, ce, e1, e2, hq, hce, hcv, hcl, h1, hL, h2, h3⟩, st⟩
  · dsimp only [Pt.U, Pt.locs, Pt.cells, Pt.slots] at X' e1 e2 h1 h2 h3 st
    subst h1; subst h2; subst h3
    exact Or.inl ⟨v, (T.setVm vm₁).calling g' mk As.toArray, t, U', L, hT, X', hL, e1, e2, hq, st⟩
  · dsimp only [Pt.U, Pt.locs, Pt.cells, Pt.slots] at X' e1 e2 h1 h2 h3 st hcl
    subst h1; subst h2; subst h3
    exact Or.inr ⟨q, (T.setVm vm₁).calling g' mk As.toArray, t, U', L, E, ce, hT, X', hL, e1, e2, hq, hce, hcv, vx_cls hW₁ hcl, st⟩
end
end VXH
theorem vx_ofWH {l : Launch} {y : MethodName} {ws ws' : List Cond} {rm : Room} {Pc : Array Value → State → Prop} {Qc : Array Value → State → Outcome → State → Prop} {XC : String → State → State → Prop} {mc ms : Nat} {free : Addr → Prop} {cc : ByteArray} {maxL : Nat} {ret : Option FieldType} {hh : List (Nat × Nat × Nat × Nat)}
    (hy : plainName y.cls = true) (hw : ws = Cond.codeWith y cc maxL ret hh :: ws')
    (body : ∀ p e s m args below meth c s₁, BodyLoose p l y (headSpec ws rm) cc maxL ret e s m args below meth c s₁ → c.maxLocals = maxL → Pc args s →
      W p l e (headSpec ws rm).room s m args below meth c s.heap [] 0 0 (vx_MQ below Qc XC args s mc ms free) (entryFrame m args maxL)) : vx_Met l y ws rm Pc Qc XC mc ms free := by
  refine MetFree.of_bodyS (code := cc) (maxLocals := maxL) (ret := ret) hy ?_ ?_
  · intro args s m h hn
    obtain ⟨m9, meth, c, hn9, h1, h2, h3, h4, -, h5, h6, -⟩ := Cond.codeWith_spec (atoms_spec (ws := ws) h _ (by rw [hw]; exact List.mem_cons_self))
    cases hn.symm.trans hn9
    exact ⟨meth, c, h1, h2, h3, h4, h5, h6⟩
  · intro p e s m args below meth c s₁ B hml hP _
    have hh0 : s₁.heap = s.heap := by rw [B.state]; rfl
    obtain ⟨t, a1, o, b1, b2, b3⟩ := body p e s m args below meth c s₁ B hml hP s₁ hh0 (Stand.of_body B)
    exact ⟨t, o, a1, b1, b2, b3⟩
/-! ===== END ===== -/

/-! ===== BEGIN printed: names, fields, word lists, decode rows ===== -/
def RX0 : String := "PrintKeeper$Document"
def TX0 : u_T := fun k => match k with
  | 0 => ("PrintKeeper$Document", "run", "LPrintKeeper$Run;", true)
  | 1 => ("PrintKeeper$Document", "firstPage", "I", true)
  | 2 => ("PrintKeeper$Document", "account", "I", true)
  | 3 => ("PrintKeeper$Document", "kind", "I", true)
  | 4 => ("PrintKeeper$Document", "pageCount", "I", false)
  | _ => ("PrintKeeper$Document", "gone", "Z", false)
def tyX0 : Nat → FieldType := fun k => match k with
  | 0 => .object "PrintKeeper$Run"
  | 1 => .int
  | 2 => .int
  | 3 => .int
  | 4 => .int
  | _ => .boolean
abbrev wsX00 : List Cond := u_ws RX0 TX0 6
theorem nmX0 : ∀ a, a < 6 → ∀ b, b < 6 → a ≠ b → (TX0 a).2.1 ≠ (TX0 b).2.1 := by decide +kernel
theorem tyX0_ok : ∀ k, k < 6 → parseFieldDescriptor (TX0 k).2.2.1 = some (tyX0 k) := by decide +kernel
abbrev cX0_init : ByteArray := prog_2_method_1_code
def yX0_init : MethodName := ⟨RX0, "<init>", "(LPrintKeeper$Run;III)V"⟩
abbrev cX0_fits : ByteArray := prog_2_method_2_code
def yX0_fits : MethodName := ⟨RX0, "fits", "(III)Z"⟩
def RX1 : String := "PrintKeeper$Format"
def TX1 : u_T := fun k => match k with
  | 0 => ("PrintKeeper$Format", "day", "I", true)
  | 1 => ("PrintKeeper$Format", "accountLine", "I", true)
  | _ => ("PrintKeeper$Format", "kindLine", "I", true)
def tyX1 : Nat → FieldType := fun k => match k with
  | 0 => .int
  | 1 => .int
  | _ => .int
abbrev wsX10 : List Cond := u_ws RX1 TX1 3
theorem nmX1 : ∀ a, a < 3 → ∀ b, b < 3 → a ≠ b → (TX1 a).2.1 ≠ (TX1 b).2.1 := by decide +kernel
theorem tyX1_ok : ∀ k, k < 3 → parseFieldDescriptor (TX1 k).2.2.1 = some (tyX1 k) := by decide +kernel
abbrev cX1_init : ByteArray := prog_3_method_1_code
def yX1_init : MethodName := ⟨RX1, "<init>", "(III)V"⟩
def RX2 : String := "PrintKeeper$Page"
def TX2 : u_T := fun k => match k with
  | 0 => ("PrintKeeper$Page", "values", "[I", true)
  | 1 => ("PrintKeeper$Page", "count", "I", false)
  | _ => ("PrintKeeper$Page", "copies", "I", false)
def tyX2 : Nat → FieldType := fun k => match k with
  | 0 => .array .int
  | 1 => .int
  | _ => .int
abbrev wsX20 : List Cond := u_ws RX2 TX2 3
theorem nmX2 : ∀ a, a < 3 → ∀ b, b < 3 → a ≠ b → (TX2 a).2.1 ≠ (TX2 b).2.1 := by decide +kernel
theorem tyX2_ok : ∀ k, k < 3 → parseFieldDescriptor (TX2 k).2.2.1 = some (tyX2 k) := by decide +kernel
abbrev cX2_init : ByteArray := prog_4_method_1_code
def yX2_init : MethodName := ⟨RX2, "<init>", "()V"⟩
abbrev cX2_isEmpty : ByteArray := prog_4_method_2_code
def yX2_isEmpty : MethodName := ⟨RX2, "isEmpty", "()Z"⟩
abbrev cX2_put : ByteArray := prog_4_method_3_code
def yX2_put : MethodName := ⟨RX2, "put", "(I)Z"⟩
abbrev cX2_has : ByteArray := prog_4_method_4_code
def yX2_has : MethodName := ⟨RX2, "has", "(I)Z"⟩
abbrev cX2_valueAt : ByteArray := prog_4_method_5_code
def yX2_valueAt : MethodName := ⟨RX2, "valueAt", "(I)I"⟩
abbrev cX2_hasLinesOf : ByteArray := prog_4_method_6_code
def yX2_hasLinesOf : MethodName := ⟨RX2, "hasLinesOf", "(LPrintKeeper$Page;)Z"⟩
def RX3 : String := "PrintKeeper$Reader"
def TX3 : u_T := fun k => match k with
  | 0 => ("PrintKeeper$Reader", "seesLackingAccounts", "Z", true)
  | 1 => ("PrintKeeper$Reader", "first", "I", false)
  | 2 => ("PrintKeeper$Reader", "last", "I", false)
  | _ => ("PrintKeeper$Reader", "blank", "I", false)
def tyX3 : Nat → FieldType := fun k => match k with
  | 0 => .boolean
  | 1 => .int
  | 2 => .int
  | _ => .int
abbrev wsX30 : List Cond := u_ws RX3 TX3 4
theorem nmX3 : ∀ a, a < 4 → ∀ b, b < 4 → a ≠ b → (TX3 a).2.1 ≠ (TX3 b).2.1 := by decide +kernel
theorem tyX3_ok : ∀ k, k < 4 → parseFieldDescriptor (TX3 k).2.2.1 = some (tyX3 k) := by decide +kernel
abbrev cX3_init : ByteArray := prog_5_method_1_code
def yX3_init : MethodName := ⟨RX3, "<init>", "(Z)V"⟩
abbrev cX3_sees : ByteArray := prog_5_method_2_code
def yX3_sees : MethodName := ⟨RX3, "sees", "(LPrintKeeper$Document;)Z"⟩
def RX4 : String := "PrintKeeper$Run"
def TX4 : u_T := fun k => match k with
  | 0 => ("PrintKeeper$Run", "pages", "Ljava/util/ArrayList;", true)
  | _ => ("PrintKeeper$Run", "day", "I", false)
def tyX4 : Nat → FieldType := fun k => match k with
  | 0 => .object "java/util/ArrayList"
  | _ => .int
abbrev wsX40 : List Cond := u_ws RX4 TX4 2
theorem nmX4 : ∀ a, a < 2 → ∀ b, b < 2 → a ≠ b → (TX4 a).2.1 ≠ (TX4 b).2.1 := by decide +kernel
theorem tyX4_ok : ∀ k, k < 2 → parseFieldDescriptor (TX4 k).2.2.1 = some (tyX4 k) := by decide +kernel
abbrev cX4_init : ByteArray := prog_6_method_1_code
def yX4_init : MethodName := ⟨RX4, "<init>", "()V"⟩
abbrev cX4_isLike : ByteArray := prog_6_method_2_code
def yX4_isLike : MethodName := ⟨RX4, "isLike", "(LPrintKeeper$Run;)Z"⟩
def RX5 : String := "PrintKeeper"
def TX5 : u_T := fun k => match k with
  | 0 => ("PrintKeeper", "day", "I", false)
  | 1 => ("PrintKeeper", "usual", "LPrintKeeper$Format;", true)
  | 2 => ("PrintKeeper", "formats", "Ljava/util/ArrayList;", true)
  | 3 => ("PrintKeeper", "runs", "Ljava/util/ArrayList;", true)
  | 4 => ("PrintKeeper", "pagesKept", "I", false)
  | 5 => ("PrintKeeper", "open", "LPrintKeeper$Run;", false)
  | 6 => ("PrintKeeper", "openPage", "LPrintKeeper$Page;", false)
  | 7 => ("PrintKeeper", "documents", "Ljava/util/ArrayList;", true)
  | 8 => ("PrintKeeper", "readers", "Ljava/util/ArrayList;", true)
  | 9 => ("PrintKeeper", "spans", "[I", true)
  | _ => ("PrintKeeper", "heldAccounts", "[Z", true)
def tyX5 : Nat → FieldType := fun k => match k with
  | 0 => .int
  | 1 => .object "PrintKeeper$Format"
  | 2 => .object "java/util/ArrayList"
  | 3 => .object "java/util/ArrayList"
  | 4 => .int
  | 5 => .object "PrintKeeper$Run"
  | 6 => .object "PrintKeeper$Page"
  | 7 => .object "java/util/ArrayList"
  | 8 => .object "java/util/ArrayList"
  | 9 => .array .int
  | _ => .array .boolean
abbrev wsX50 : List Cond := u_ws RX5 TX5 11
theorem nmX5 : ∀ a, a < 11 → ∀ b, b < 11 → a ≠ b → (TX5 a).2.1 ≠ (TX5 b).2.1 := by decide +kernel
theorem tyX5_ok : ∀ k, k < 11 → parseFieldDescriptor (TX5 k).2.2.1 = some (tyX5 k) := by decide +kernel
abbrev cX5_init : ByteArray := prog_1_method_1_code
def yX5_init : MethodName := ⟨RX5, "<init>", "()V"⟩
abbrev cX5_pass : ByteArray := prog_1_method_2_code
def yX5_pass : MethodName := ⟨RX5, "pass", "(I)I"⟩
abbrev cX5_format : ByteArray := prog_1_method_3_code
def yX5_format : MethodName := ⟨RX5, "format", "(III)I"⟩
abbrev cX5_line : ByteArray := prog_1_method_4_code
def yX5_line : MethodName := ⟨RX5, "line", "(I)I"⟩
abbrev cX5_feed : ByteArray := prog_1_method_5_code
def yX5_feed : MethodName := ⟨RX5, "feed", "()I"⟩
abbrev cX5_end : ByteArray := prog_1_method_6_code
def yX5_end : MethodName := ⟨RX5, "end", "()I"⟩
abbrev cX5_pages : ByteArray := prog_1_method_7_code
def yX5_pages : MethodName := ⟨RX5, "pages", "(I)I"⟩
abbrev cX5_twice : ByteArray := prog_1_method_8_code
def yX5_twice : MethodName := ⟨RX5, "twice", "(I)I"⟩
abbrev cX5_reprint : ByteArray := prog_1_method_9_code
def yX5_reprint : MethodName := ⟨RX5, "reprint", "(III)I"⟩
abbrev cX5_copies : ByteArray := prog_1_method_10_code
def yX5_copies : MethodName := ⟨RX5, "copies", "(II)I"⟩
abbrev cX5_documents : ByteArray := prog_1_method_11_code
def yX5_documents : MethodName := ⟨RX5, "documents", "()I"⟩
abbrev cX5_isThere : ByteArray := prog_1_method_12_code
def yX5_isThere : MethodName := ⟨RX5, "isThere", "(I)Z"⟩
abbrev cX5_account : ByteArray := prog_1_method_13_code
def yX5_account : MethodName := ⟨RX5, "account", "(I)I"⟩
abbrev cX5_kind : ByteArray := prog_1_method_14_code
def yX5_kind : MethodName := ⟨RX5, "kind", "(I)I"⟩
abbrev cX5_length : ByteArray := prog_1_method_15_code
def yX5_length : MethodName := ⟨RX5, "length", "(I)I"⟩
abbrev cX5_found : ByteArray := prog_1_method_16_code
def yX5_found : MethodName := ⟨RX5, "found", "(IIIII)I"⟩
abbrev cX5_read : ByteArray := prog_1_method_17_code
def yX5_read : MethodName := ⟨RX5, "read", "(IIII)I"⟩
abbrev cX5_view : ByteArray := prog_1_method_18_code
def yX5_view : MethodName := ⟨RX5, "view", "(IIII)V"⟩
abbrev cX5_span : ByteArray := prog_1_method_19_code
def yX5_span : MethodName := ⟨RX5, "span", "(II)I"⟩
abbrev cX5_hold : ByteArray := prog_1_method_20_code
def yX5_hold : MethodName := ⟨RX5, "hold", "(IZ)Z"⟩
abbrev cX5_clear : ByteArray := prog_1_method_21_code
def yX5_clear : MethodName := ⟨RX5, "clear", "()I"⟩
abbrev cX5_bundle : ByteArray := prog_1_method_22_code
def yX5_bundle : MethodName := ⟨RX5, "bundle", "(II)I"⟩
abbrev cX5_demandRange : ByteArray := prog_1_method_23_code
def yX5_demandRange : MethodName := ⟨RX5, "demandRange", "(III)V"⟩
abbrev cX5_demandPage : ByteArray := prog_1_method_24_code
def yX5_demandPage : MethodName := ⟨RX5, "demandPage", "(LPrintKeeper$Run;I)V"⟩
abbrev cX5_isKind : ByteArray := prog_1_method_25_code
def yX5_isKind : MethodName := ⟨RX5, "isKind", "(I)Z"⟩
abbrev cX5_isAccount : ByteArray := prog_1_method_26_code
def yX5_isAccount : MethodName := ⟨RX5, "isAccount", "(I)Z"⟩
abbrev cX5_runAt : ByteArray := prog_1_method_27_code
def yX5_runAt : MethodName := ⟨RX5, "runAt", "(I)LPrintKeeper$Run;"⟩
abbrev cX5_pageAt : ByteArray := prog_1_method_28_code
def yX5_pageAt : MethodName := ⟨RX5, "pageAt", "(LPrintKeeper$Run;I)LPrintKeeper$Page;"⟩
abbrev cX5_documentAt : ByteArray := prog_1_method_29_code
def yX5_documentAt : MethodName := ⟨RX5, "documentAt", "(I)LPrintKeeper$Document;"⟩
abbrev cX5_pageOf : ByteArray := prog_1_method_30_code
def yX5_pageOf : MethodName := ⟨RX5, "pageOf", "(LPrintKeeper$Document;I)LPrintKeeper$Page;"⟩
abbrev cX5_readerAt : ByteArray := prog_1_method_31_code
def yX5_readerAt : MethodName := ⟨RX5, "readerAt", "(I)LPrintKeeper$Reader;"⟩
abbrev cX5_closePage : ByteArray := prog_1_method_32_code
def yX5_closePage : MethodName := ⟨RX5, "closePage", "()V"⟩
abbrev cX5_keepOpenRun : ByteArray := prog_1_method_33_code
def yX5_keepOpenRun : MethodName := ⟨RX5, "keepOpenRun", "()V"⟩
abbrev cX5_putTogether : ByteArray := prog_1_method_34_code
def yX5_putTogether : MethodName := ⟨RX5, "putTogether", "(LPrintKeeper$Run;)V"⟩
abbrev cX5_kindOf : ByteArray := prog_1_method_35_code
def yX5_kindOf : MethodName := ⟨RX5, "kindOf", "(LPrintKeeper$Page;LPrintKeeper$Format;)I"⟩
abbrev cX5_formatOn : ByteArray := prog_1_method_36_code
def yX5_formatOn : MethodName := ⟨RX5, "formatOn", "(I)LPrintKeeper$Format;"⟩
abbrev cX5_isOver : ByteArray := prog_1_method_37_code
def yX5_isOver : MethodName := ⟨RX5, "isOver", "(LPrintKeeper$Document;)Z"⟩
abbrev cX5_isHeld : ByteArray := prog_1_method_38_code
def yX5_isHeld : MethodName := ⟨RX5, "isHeld", "(LPrintKeeper$Document;)Z"⟩
def RX6 : String := "PrintKeeperModel"
def TX6 : u_T := fun k => match k with
  | _ => ("", "", "", false)
def tyX6 : Nat → FieldType := fun k => match k with
  | _ => .int
abbrev wsX60 : List Cond := u_ws RX6 TX6 0
theorem nmX6 : ∀ a, a < 0 → ∀ b, b < 0 → a ≠ b → (TX6 a).2.1 ≠ (TX6 b).2.1 := by decide +kernel
theorem tyX6_ok : ∀ k, k < 0 → parseFieldDescriptor (TX6 k).2.2.1 = some (tyX6 k) := by decide +kernel
def RJx145de : String := "java/io/Serializable"
def TJx145de : u_T := fun k => match k with
  | _ => ("", "", "", false)
def tyJx145de : Nat → FieldType := fun k => match k with
  | _ => .int
abbrev wsJx145de0 : List Cond := u_ws RJx145de TJx145de 0
theorem nmJx145de : ∀ a, a < 0 → ∀ b, b < 0 → a ≠ b → (TJx145de a).2.1 ≠ (TJx145de b).2.1 := by decide +kernel
theorem tyJx145de_ok : ∀ k, k < 0 → parseFieldDescriptor (TJx145de k).2.2.1 = some (tyJx145de k) := by decide +kernel
def RJx8e188 : String := "java/lang/Cloneable"
def TJx8e188 : u_T := fun k => match k with
  | _ => ("", "", "", false)
def tyJx8e188 : Nat → FieldType := fun k => match k with
  | _ => .int
abbrev wsJx8e1880 : List Cond := u_ws RJx8e188 TJx8e188 0
theorem nmJx8e188 : ∀ a, a < 0 → ∀ b, b < 0 → a ≠ b → (TJx8e188 a).2.1 ≠ (TJx8e188 b).2.1 := by decide +kernel
theorem tyJx8e188_ok : ∀ k, k < 0 → parseFieldDescriptor (TJx8e188 k).2.2.1 = some (tyJx8e188 k) := by decide +kernel
def RJxab1ab : String := "java/lang/Iterable"
def TJxab1ab : u_T := fun k => match k with
  | _ => ("", "", "", false)
def tyJxab1ab : Nat → FieldType := fun k => match k with
  | _ => .int
abbrev wsJxab1ab0 : List Cond := u_ws RJxab1ab TJxab1ab 0
theorem nmJxab1ab : ∀ a, a < 0 → ∀ b, b < 0 → a ≠ b → (TJxab1ab a).2.1 ≠ (TJxab1ab b).2.1 := by decide +kernel
theorem tyJxab1ab_ok : ∀ k, k < 0 → parseFieldDescriptor (TJxab1ab k).2.2.1 = some (tyJxab1ab k) := by decide +kernel
def RJ9 : String := "java/lang/Math"
def TJ9 : u_T := fun k => match k with
  | _ => ("", "", "", false)
def tyJ9 : Nat → FieldType := fun k => match k with
  | _ => .int
abbrev wsJ90 : List Cond := u_ws RJ9 TJ9 0
theorem nmJ9 : ∀ a, a < 0 → ∀ b, b < 0 → a ≠ b → (TJ9 a).2.1 ≠ (TJ9 b).2.1 := by decide +kernel
theorem tyJ9_ok : ∀ k, k < 0 → parseFieldDescriptor (TJ9 k).2.2.1 = some (tyJ9 k) := by decide +kernel
abbrev cJ9_max_7cf53 : ByteArray := prog_16_method_65_code
def yJ9_max_7cf53 : MethodName := ⟨RJ9, "max", "(II)I"⟩
abbrev cJ9_min_7cf53 : ByteArray := prog_16_method_69_code
def yJ9_min_7cf53 : MethodName := ⟨RJ9, "min", "(II)I"⟩
def RJ0 : String := "java/lang/String"
def TJ0 : u_T := fun k => match k with
  | _ => ("", "", "", false)
def tyJ0 : Nat → FieldType := fun k => match k with
  | _ => .int
abbrev wsJ00 : List Cond := u_ws RJ0 TJ0 0
theorem nmJ0 : ∀ a, a < 0 → ∀ b, b < 0 → a ≠ b → (TJ0 a).2.1 ≠ (TJ0 b).2.1 := by decide +kernel
theorem tyJ0_ok : ∀ k, k < 0 → parseFieldDescriptor (TJ0 k).2.2.1 = some (tyJ0 k) := by decide +kernel
def RJ10 : String := "java/lang/System"
def TJ10 : u_T := fun k => match k with
  | _ => ("", "", "", false)
def tyJ10 : Nat → FieldType := fun k => match k with
  | _ => .int
abbrev wsJ100 : List Cond := u_ws RJ10 TJ10 0
theorem nmJ10 : ∀ a, a < 0 → ∀ b, b < 0 → a ≠ b → (TJ10 a).2.1 ≠ (TJ10 b).2.1 := by decide +kernel
theorem tyJ10_ok : ∀ k, k < 0 → parseFieldDescriptor (TJ10 k).2.2.1 = some (tyJ10 k) := by decide +kernel
def RJxa1e45 : String := "java/util/AbstractCollection"
def TJxa1e45 : u_T := fun k => match k with
  | _ => ("", "", "", false)
def tyJxa1e45 : Nat → FieldType := fun k => match k with
  | _ => .int
abbrev wsJxa1e450 : List Cond := u_ws RJxa1e45 TJxa1e45 0
theorem nmJxa1e45 : ∀ a, a < 0 → ∀ b, b < 0 → a ≠ b → (TJxa1e45 a).2.1 ≠ (TJxa1e45 b).2.1 := by decide +kernel
theorem tyJxa1e45_ok : ∀ k, k < 0 → parseFieldDescriptor (TJxa1e45 k).2.2.1 = some (tyJxa1e45 k) := by decide +kernel
abbrev cJxa1e45_init_da8c8 : ByteArray := prog_21_method_1_code
def yJxa1e45_init_da8c8 : MethodName := ⟨RJxa1e45, "<init>", "()V"⟩
def RJxc12de : String := "java/util/AbstractList"
def TJxc12de : u_T := fun k => match k with
  | _ => ("", "", "", false)
def tyJxc12de : Nat → FieldType := fun k => match k with
  | _ => .int
abbrev wsJxc12de0 : List Cond := u_ws RJxc12de TJxc12de 0
theorem nmJxc12de : ∀ a, a < 0 → ∀ b, b < 0 → a ≠ b → (TJxc12de a).2.1 ≠ (TJxc12de b).2.1 := by decide +kernel
theorem tyJxc12de_ok : ∀ k, k < 0 → parseFieldDescriptor (TJxc12de k).2.2.1 = some (tyJxc12de k) := by decide +kernel
abbrev cJxc12de_init_da8c8 : ByteArray := prog_22_method_1_code
def yJxc12de_init_da8c8 : MethodName := ⟨RJxc12de, "<init>", "()V"⟩
def RJx4a65c : String := "java/util/ArrayList"
def TJx4a65c : u_T := fun k => match k with
  | 0 => ("java/util/AbstractList", "modCount", "I", false)
  | 1 => ("java/util/ArrayList", "elementData", "[Ljava/lang/Object;", false)
  | _ => ("java/util/ArrayList", "size", "I", false)
def tyJx4a65c : Nat → FieldType := fun k => match k with
  | 0 => .int
  | 1 => .array (.object "java/lang/Object")
  | _ => .int
abbrev wsJx4a65c0 : List Cond := u_ws RJx4a65c TJx4a65c 3
theorem nmJx4a65c : ∀ a, a < 3 → ∀ b, b < 3 → a ≠ b → (TJx4a65c a).2.1 ≠ (TJx4a65c b).2.1 := by decide +kernel
theorem tyJx4a65c_ok : ∀ k, k < 3 → parseFieldDescriptor (TJx4a65c k).2.2.1 = some (tyJx4a65c k) := by decide +kernel
abbrev cJx4a65c_init_da8c8 : ByteArray := prog_23_method_2_code
def yJx4a65c_init_da8c8 : MethodName := ⟨RJx4a65c, "<init>", "()V"⟩
abbrev cJx4a65c_grow_92f84 : ByteArray := prog_23_method_6_code
def yJx4a65c_grow_92f84 : MethodName := ⟨RJx4a65c, "grow", "(I)[Ljava/lang/Object;"⟩
abbrev cJx4a65c_grow_d5877 : ByteArray := prog_23_method_7_code
def yJx4a65c_grow_d5877 : MethodName := ⟨RJx4a65c, "grow", "()[Ljava/lang/Object;"⟩
abbrev cJx4a65c_size_8abf5 : ByteArray := prog_23_method_8_code
def yJx4a65c_size_8abf5 : MethodName := ⟨RJx4a65c, "size", "()I"⟩
abbrev cJx4a65c_elementData_915e3 : ByteArray := prog_23_method_18_code
def yJx4a65c_elementData_915e3 : MethodName := ⟨RJx4a65c, "elementData", "(I)Ljava/lang/Object;"⟩
abbrev cJx4a65c_get_915e3 : ByteArray := prog_23_method_20_code
def yJx4a65c_get_915e3 : MethodName := ⟨RJx4a65c, "get", "(I)Ljava/lang/Object;"⟩
abbrev cJx4a65c_add_72be8 : ByteArray := prog_23_method_24_code
def yJx4a65c_add_72be8 : MethodName := ⟨RJx4a65c, "add", "(Ljava/lang/Object;[Ljava/lang/Object;I)V"⟩
abbrev cJx4a65c_add_9ea2d : ByteArray := prog_23_method_25_code
def yJx4a65c_add_9ea2d : MethodName := ⟨RJx4a65c, "add", "(Ljava/lang/Object;)Z"⟩
def RJ7 : String := "java/util/Arrays"
def TJ7 : u_T := fun k => match k with
  | _ => ("", "", "", false)
def tyJ7 : Nat → FieldType := fun k => match k with
  | _ => .int
abbrev wsJ70 : List Cond := u_ws RJ7 TJ7 0
theorem nmJ7 : ∀ a, a < 0 → ∀ b, b < 0 → a ≠ b → (TJ7 a).2.1 ≠ (TJ7 b).2.1 := by decide +kernel
theorem tyJ7_ok : ∀ k, k < 0 → parseFieldDescriptor (TJ7 k).2.2.1 = some (tyJ7 k) := by decide +kernel
abbrev cJ7_fill_53178 : ByteArray := prog_24_method_103_code
def yJ7_fill_53178 : MethodName := ⟨RJ7, "fill", "([II)V"⟩
abbrev cJ7_copyOf_1904c : ByteArray := prog_24_method_119_code
def yJ7_copyOf_1904c : MethodName := ⟨RJ7, "copyOf", "([Ljava/lang/Object;I)[Ljava/lang/Object;"⟩
abbrev cJ7_copyOf_6403c : ByteArray := prog_24_method_120_code
def yJ7_copyOf_6403c : MethodName := ⟨RJ7, "copyOf", "([Ljava/lang/Object;ILjava/lang/Class;)[Ljava/lang/Object;"⟩
def RJx5ef63 : String := "java/util/Collection"
def TJx5ef63 : u_T := fun k => match k with
  | _ => ("", "", "", false)
def tyJx5ef63 : Nat → FieldType := fun k => match k with
  | _ => .int
abbrev wsJx5ef630 : List Cond := u_ws RJx5ef63 TJx5ef63 0
theorem nmJx5ef63 : ∀ a, a < 0 → ∀ b, b < 0 → a ≠ b → (TJx5ef63 a).2.1 ≠ (TJx5ef63 b).2.1 := by decide +kernel
theorem tyJx5ef63_ok : ∀ k, k < 0 → parseFieldDescriptor (TJx5ef63 k).2.2.1 = some (tyJx5ef63 k) := by decide +kernel
def RJxbd725 : String := "java/util/List"
def TJxbd725 : u_T := fun k => match k with
  | _ => ("", "", "", false)
def tyJxbd725 : Nat → FieldType := fun k => match k with
  | _ => .int
abbrev wsJxbd7250 : List Cond := u_ws RJxbd725 TJxbd725 0
theorem nmJxbd725 : ∀ a, a < 0 → ∀ b, b < 0 → a ≠ b → (TJxbd725 a).2.1 ≠ (TJxbd725 b).2.1 := by decide +kernel
theorem tyJxbd725_ok : ∀ k, k < 0 → parseFieldDescriptor (TJxbd725 k).2.2.1 = some (tyJxbd725 k) := by decide +kernel
def RJ15 : String := "java/util/Objects"
def TJ15 : u_T := fun k => match k with
  | _ => ("", "", "", false)
def tyJ15 : Nat → FieldType := fun k => match k with
  | _ => .int
abbrev wsJ150 : List Cond := u_ws RJ15 TJ15 0
theorem nmJ15 : ∀ a, a < 0 → ∀ b, b < 0 → a ≠ b → (TJ15 a).2.1 ≠ (TJ15 b).2.1 := by decide +kernel
theorem tyJ15_ok : ∀ k, k < 0 → parseFieldDescriptor (TJ15 k).2.2.1 = some (tyJ15 k) := by decide +kernel
abbrev cJ15_checkIndex_7cf53 : ByteArray := prog_28_method_17_code
def yJ15_checkIndex_7cf53 : MethodName := ⟨RJ15, "checkIndex", "(II)I"⟩
def RJxf0a74 : String := "java/util/RandomAccess"
def TJxf0a74 : u_T := fun k => match k with
  | _ => ("", "", "", false)
def tyJxf0a74 : Nat → FieldType := fun k => match k with
  | _ => .int
abbrev wsJxf0a740 : List Cond := u_ws RJxf0a74 TJxf0a74 0
theorem nmJxf0a74 : ∀ a, a < 0 → ∀ b, b < 0 → a ≠ b → (TJxf0a74 a).2.1 ≠ (TJxf0a74 b).2.1 := by decide +kernel
theorem tyJxf0a74_ok : ∀ k, k < 0 → parseFieldDescriptor (TJxf0a74 k).2.2.1 = some (tyJxf0a74 k) := by decide +kernel
def RJxa66e6 : String := "java/util/SequencedCollection"
def TJxa66e6 : u_T := fun k => match k with
  | _ => ("", "", "", false)
def tyJxa66e6 : Nat → FieldType := fun k => match k with
  | _ => .int
abbrev wsJxa66e60 : List Cond := u_ws RJxa66e6 TJxa66e6 0
theorem nmJxa66e6 : ∀ a, a < 0 → ∀ b, b < 0 → a ≠ b → (TJxa66e6 a).2.1 ≠ (TJxa66e6 b).2.1 := by decide +kernel
theorem tyJxa66e6_ok : ∀ k, k < 0 → parseFieldDescriptor (TJxa66e6 k).2.2.1 = some (tyJxa66e6 k) := by decide +kernel
def RJ8 : String := "jdk/internal/util/ArraysSupport"
def TJ8 : u_T := fun k => match k with
  | _ => ("", "", "", false)
def tyJ8 : Nat → FieldType := fun k => match k with
  | _ => .int
abbrev wsJ80 : List Cond := u_ws RJ8 TJ8 0
theorem nmJ8 : ∀ a, a < 0 → ∀ b, b < 0 → a ≠ b → (TJ8 a).2.1 ≠ (TJ8 b).2.1 := by decide +kernel
theorem tyJ8_ok : ∀ k, k < 0 → parseFieldDescriptor (TJ8 k).2.2.1 = some (tyJ8 k) := by decide +kernel
abbrev cJ8_newLength_cabcc : ByteArray := prog_31_method_27_code
def yJ8_newLength_cabcc : MethodName := ⟨RJ8, "newLength", "(III)I"⟩
abbrev cJ8_hugeLength_7cf53 : ByteArray := prog_31_method_28_code
def yJ8_hugeLength_7cf53 : MethodName := ⟨RJ8, "hugeLength", "(II)I"⟩
def RJ3 : String := "jdk/internal/util/Preconditions"
def TJ3 : u_T := fun k => match k with
  | _ => ("", "", "", false)
def tyJ3 : Nat → FieldType := fun k => match k with
  | _ => .int
abbrev wsJ30 : List Cond := u_ws RJ3 TJ3 0
theorem nmJ3 : ∀ a, a < 0 → ∀ b, b < 0 → a ≠ b → (TJ3 a).2.1 ≠ (TJ3 b).2.1 := by decide +kernel
theorem tyJ3_ok : ∀ k, k < 0 → parseFieldDescriptor (TJ3 k).2.2.1 = some (tyJ3 k) := by decide +kernel
abbrev cJ3_checkIndex_8e157 : ByteArray := prog_32_method_11_code
def yJ3_checkIndex_8e157 : MethodName := ⟨RJ3, "checkIndex", "(IILjava/util/function/BiFunction;)I"⟩
def RL : String := "PrintKeeperLaw"
abbrev cL_cell : ByteArray := method_2_code
def yL_cell : MethodName := ⟨RL, "cell", "([II)I"⟩
abbrev cL_low : ByteArray := method_3_code
def yL_low : MethodName := ⟨RL, "low", "(II)I"⟩
abbrev cL_pass : ByteArray := method_4_code
def yL_pass : MethodName := ⟨RL, "pass", "(LPrintKeeper;I)I"⟩
abbrev cL_format : ByteArray := method_5_code
def yL_format : MethodName := ⟨RL, "format", "(LPrintKeeper;III)I"⟩
abbrev cL_line : ByteArray := method_6_code
def yL_line : MethodName := ⟨RL, "line", "(LPrintKeeper;I)I"⟩
abbrev cL_end : ByteArray := method_7_code
def yL_end : MethodName := ⟨RL, "end", "(LPrintKeeper;)I"⟩
abbrev cL_pages : ByteArray := method_8_code
def yL_pages : MethodName := ⟨RL, "pages", "(LPrintKeeper;I)I"⟩
abbrev cL_twice : ByteArray := method_9_code
def yL_twice : MethodName := ⟨RL, "twice", "(LPrintKeeper;I)I"⟩
abbrev cL_reprint : ByteArray := method_10_code
def yL_reprint : MethodName := ⟨RL, "reprint", "(LPrintKeeper;III)I"⟩
abbrev cL_copies : ByteArray := method_11_code
def yL_copies : MethodName := ⟨RL, "copies", "(LPrintKeeper;II)I"⟩
abbrev cL_account : ByteArray := method_12_code
def yL_account : MethodName := ⟨RL, "account", "(LPrintKeeper;I)I"⟩
abbrev cL_found : ByteArray := method_13_code
def yL_found : MethodName := ⟨RL, "found", "(LPrintKeeper;IIIII)I"⟩
abbrev cL_read : ByteArray := method_14_code
def yL_read : MethodName := ⟨RL, "read", "(LPrintKeeper;IIII)I"⟩
abbrev cL_view : ByteArray := method_15_code
def yL_view : MethodName := ⟨RL, "view", "(LPrintKeeper;IIII)I"⟩
abbrev cL_span : ByteArray := method_16_code
def yL_span : MethodName := ⟨RL, "span", "(LPrintKeeper;II)I"⟩
abbrev cL_hold : ByteArray := method_17_code
def yL_hold : MethodName := ⟨RL, "hold", "(LPrintKeeper;IZ)I"⟩
abbrev cL_bundle : ByteArray := method_18_code
def yL_bundle : MethodName := ⟨RL, "bundle", "(LPrintKeeper;II)I"⟩
abbrev cL_lines : ByteArray := method_19_code
def yL_lines : MethodName := ⟨RL, "lines", "(J)I"⟩
abbrev cL_at : ByteArray := method_20_code
def yL_at : MethodName := ⟨RL, "at", "(JI)I"⟩
abbrev cL_isThere : ByteArray := method_21_code
def yL_isThere : MethodName := ⟨RL, "isThere", "([II)Z"⟩
abbrev cL_length : ByteArray := method_22_code
def yL_length : MethodName := ⟨RL, "length", "([II)I"⟩
abbrev cL_sees : ByteArray := method_23_code
def yL_sees : MethodName := ⟨RL, "sees", "([I[I[III)Z"⟩
abbrev cL_keep : ByteArray := method_24_code
def yL_keep : MethodName := ⟨RL, "keep", "([J[I[I[I[I[I)V"⟩
abbrev cL_types : ByteArray := method_25_code
def yL_types : MethodName := ⟨RL, "types", "(LPrintKeeper;II[J[J[I[I[I[I[I[I)Z"⟩
abbrev cL_acts : ByteArray := method_26_code
def yL_acts : MethodName := ⟨RL, "acts", "(LPrintKeeper;III[I[I[I[I[I[I[I[I[I)Z"⟩
abbrev cL_isTold : ByteArray := method_27_code
def yL_isTold : MethodName := ⟨RL, "isTold", "(LPrintKeeper;II[J[I[I[I[I[I[I)Z"⟩
abbrev cL_law : ByteArray := code
def yL_law : MethodName := ⟨RL, "law", "([I)Z"⟩
abbrev vwCl : List vw_C := [(RJx4a65c, TJx4a65c, 3), (RX0, TX0, 6), (RX1, TX1, 3), (RX2, TX2, 3), (RX3, TX3, 4), (RX4, TX4, 2), (RX5, TX5, 11)]
end
section
theorem dX0_init_0 : decode cX0_init 0 = .ok (.aload_n 0, 1) := by decide +kernel
theorem dX0_init_1 : decode cX0_init 1 = .ok (.invokespecial 3, 3) := by decide +kernel
theorem dX0_init_4 : decode cX0_init 4 = .ok (.aload_n 0, 1) := by decide +kernel
theorem dX0_init_5 : decode cX0_init 5 = .ok (.aload_n 1, 1) := by decide +kernel
theorem dX0_init_6 : decode cX0_init 6 = .ok (.putfield 9, 3) := by decide +kernel
theorem dX0_init_9 : decode cX0_init 9 = .ok (.aload_n 0, 1) := by decide +kernel
theorem dX0_init_10 : decode cX0_init 10 = .ok (.iload_n 2, 1) := by decide +kernel
theorem dX0_init_11 : decode cX0_init 11 = .ok (.putfield 15, 3) := by decide +kernel
theorem dX0_init_14 : decode cX0_init 14 = .ok (.aload_n 0, 1) := by decide +kernel
theorem dX0_init_15 : decode cX0_init 15 = .ok (.iload_n 3, 1) := by decide +kernel
theorem dX0_init_16 : decode cX0_init 16 = .ok (.putfield 19, 3) := by decide +kernel
theorem dX0_init_19 : decode cX0_init 19 = .ok (.aload_n 0, 1) := by decide +kernel
theorem dX0_init_20 : decode cX0_init 20 = .ok (.iload 4, 2) := by decide +kernel
theorem dX0_init_22 : decode cX0_init 22 = .ok (.putfield 22, 3) := by decide +kernel
theorem dX0_init_25 : decode cX0_init 25 = .ok (.return_, 1) := by decide +kernel
theorem dX0_fits_0 : decode cX0_fits 0 = .ok (.iload_n 1, 1) := by decide +kernel
theorem dX0_fits_1 : decode cX0_fits 1 = .ok (.iconst (-1), 1) := by decide +kernel
theorem dX0_fits_2 : decode cX0_fits 2 = .ok (.if_icmp .eq 11, 3) := by decide +kernel
theorem dX0_fits_5 : decode cX0_fits 5 = .ok (.iload_n 1, 1) := by decide +kernel
theorem dX0_fits_6 : decode cX0_fits 6 = .ok (.aload_n 0, 1) := by decide +kernel
theorem dX0_fits_7 : decode cX0_fits 7 = .ok (.getfield 19, 3) := by decide +kernel
theorem dX0_fits_10 : decode cX0_fits 10 = .ok (.if_icmp .ne 31, 3) := by decide +kernel
theorem dX0_fits_13 : decode cX0_fits 13 = .ok (.iload_n 2, 1) := by decide +kernel
theorem dX0_fits_14 : decode cX0_fits 14 = .ok (.iconst (-1), 1) := by decide +kernel
theorem dX0_fits_15 : decode cX0_fits 15 = .ok (.if_icmp .eq 11, 3) := by decide +kernel
theorem dX0_fits_18 : decode cX0_fits 18 = .ok (.iload_n 2, 1) := by decide +kernel
theorem dX0_fits_19 : decode cX0_fits 19 = .ok (.aload_n 0, 1) := by decide +kernel
theorem dX0_fits_20 : decode cX0_fits 20 = .ok (.getfield 22, 3) := by decide +kernel
theorem dX0_fits_23 : decode cX0_fits 23 = .ok (.if_icmp .ne 18, 3) := by decide +kernel
theorem dX0_fits_26 : decode cX0_fits 26 = .ok (.aload_n 0, 1) := by decide +kernel
theorem dX0_fits_27 : decode cX0_fits 27 = .ok (.getfield 9, 3) := by decide +kernel
theorem dX0_fits_30 : decode cX0_fits 30 = .ok (.getfield 25, 3) := by decide +kernel
theorem dX0_fits_33 : decode cX0_fits 33 = .ok (.iload_n 3, 1) := by decide +kernel
theorem dX0_fits_34 : decode cX0_fits 34 = .ok (.if_icmp .lt 7, 3) := by decide +kernel
theorem dX0_fits_37 : decode cX0_fits 37 = .ok (.iconst 1, 1) := by decide +kernel
theorem dX0_fits_38 : decode cX0_fits 38 = .ok (.goto 4, 3) := by decide +kernel
theorem dX0_fits_41 : decode cX0_fits 41 = .ok (.iconst 0, 1) := by decide +kernel
theorem dX0_fits_42 : decode cX0_fits 42 = .ok (.ireturn, 1) := by decide +kernel
theorem dX1_init_0 : decode cX1_init 0 = .ok (.aload_n 0, 1) := by decide +kernel
theorem dX1_init_1 : decode cX1_init 1 = .ok (.invokespecial 1, 3) := by decide +kernel
theorem dX1_init_4 : decode cX1_init 4 = .ok (.aload_n 0, 1) := by decide +kernel
theorem dX1_init_5 : decode cX1_init 5 = .ok (.iload_n 1, 1) := by decide +kernel
theorem dX1_init_6 : decode cX1_init 6 = .ok (.putfield 7, 3) := by decide +kernel
theorem dX1_init_9 : decode cX1_init 9 = .ok (.aload_n 0, 1) := by decide +kernel
theorem dX1_init_10 : decode cX1_init 10 = .ok (.iload_n 2, 1) := by decide +kernel
theorem dX1_init_11 : decode cX1_init 11 = .ok (.putfield 13, 3) := by decide +kernel
theorem dX1_init_14 : decode cX1_init 14 = .ok (.aload_n 0, 1) := by decide +kernel
theorem dX1_init_15 : decode cX1_init 15 = .ok (.iload_n 3, 1) := by decide +kernel
theorem dX1_init_16 : decode cX1_init 16 = .ok (.putfield 16, 3) := by decide +kernel
theorem dX1_init_19 : decode cX1_init 19 = .ok (.return_, 1) := by decide +kernel
theorem dX2_init_0 : decode cX2_init 0 = .ok (.aload_n 0, 1) := by decide +kernel
theorem dX2_init_1 : decode cX2_init 1 = .ok (.invokespecial 3, 3) := by decide +kernel
theorem dX2_init_4 : decode cX2_init 4 = .ok (.aload_n 0, 1) := by decide +kernel
theorem dX2_init_5 : decode cX2_init 5 = .ok (.bipush 8, 2) := by decide +kernel
theorem dX2_init_7 : decode cX2_init 7 = .ok (.newarray .int, 2) := by decide +kernel
theorem dX2_init_9 : decode cX2_init 9 = .ok (.putfield 9, 3) := by decide +kernel
theorem dX2_init_12 : decode cX2_init 12 = .ok (.aload_n 0, 1) := by decide +kernel
theorem dX2_init_13 : decode cX2_init 13 = .ok (.iconst 1, 1) := by decide +kernel
theorem dX2_init_14 : decode cX2_init 14 = .ok (.putfield 15, 3) := by decide +kernel
theorem dX2_init_17 : decode cX2_init 17 = .ok (.return_, 1) := by decide +kernel
theorem dX2_isEmpty_0 : decode cX2_isEmpty 0 = .ok (.aload_n 0, 1) := by decide +kernel
theorem dX2_isEmpty_1 : decode cX2_isEmpty 1 = .ok (.getfield 19, 3) := by decide +kernel
theorem dX2_isEmpty_4 : decode cX2_isEmpty 4 = .ok (.ifCond .ne 7, 3) := by decide +kernel
theorem dX2_isEmpty_7 : decode cX2_isEmpty 7 = .ok (.iconst 1, 1) := by decide +kernel
theorem dX2_isEmpty_8 : decode cX2_isEmpty 8 = .ok (.goto 4, 3) := by decide +kernel
theorem dX2_isEmpty_11 : decode cX2_isEmpty 11 = .ok (.iconst 0, 1) := by decide +kernel
theorem dX2_isEmpty_12 : decode cX2_isEmpty 12 = .ok (.ireturn, 1) := by decide +kernel
theorem dX2_put_0 : decode cX2_put 0 = .ok (.aload_n 0, 1) := by decide +kernel
theorem dX2_put_1 : decode cX2_put 1 = .ok (.getfield 19, 3) := by decide +kernel
theorem dX2_put_4 : decode cX2_put 4 = .ok (.ifCond .lt 15, 3) := by decide +kernel
theorem dX2_put_7 : decode cX2_put 7 = .ok (.aload_n 0, 1) := by decide +kernel
theorem dX2_put_8 : decode cX2_put 8 = .ok (.getfield 19, 3) := by decide +kernel
theorem dX2_put_11 : decode cX2_put 11 = .ok (.aload_n 0, 1) := by decide +kernel
theorem dX2_put_12 : decode cX2_put 12 = .ok (.getfield 9, 3) := by decide +kernel
theorem dX2_put_15 : decode cX2_put 15 = .ok (.arraylength, 1) := by decide +kernel
theorem dX2_put_16 : decode cX2_put 16 = .ok (.if_icmp .lt 5, 3) := by decide +kernel
theorem dX2_put_19 : decode cX2_put 19 = .ok (.iconst 0, 1) := by decide +kernel
theorem dX2_put_20 : decode cX2_put 20 = .ok (.ireturn, 1) := by decide +kernel
theorem dX2_put_21 : decode cX2_put 21 = .ok (.aload_n 0, 1) := by decide +kernel
theorem dX2_put_22 : decode cX2_put 22 = .ok (.getfield 9, 3) := by decide +kernel
theorem dX2_put_25 : decode cX2_put 25 = .ok (.aload_n 0, 1) := by decide +kernel
theorem dX2_put_26 : decode cX2_put 26 = .ok (.getfield 19, 3) := by decide +kernel
theorem dX2_put_29 : decode cX2_put 29 = .ok (.iload_n 1, 1) := by decide +kernel
theorem dX2_put_30 : decode cX2_put 30 = .ok (.iastore, 1) := by decide +kernel
theorem dX2_put_31 : decode cX2_put 31 = .ok (.aload_n 0, 1) := by decide +kernel
theorem dX2_put_32 : decode cX2_put 32 = .ok (.dup, 1) := by decide +kernel
theorem dX2_put_33 : decode cX2_put 33 = .ok (.getfield 19, 3) := by decide +kernel
theorem dX2_put_36 : decode cX2_put 36 = .ok (.iconst 1, 1) := by decide +kernel
theorem dX2_put_37 : decode cX2_put 37 = .ok (.iadd, 1) := by decide +kernel
theorem dX2_put_38 : decode cX2_put 38 = .ok (.putfield 19, 3) := by decide +kernel
theorem dX2_put_41 : decode cX2_put 41 = .ok (.iconst 1, 1) := by decide +kernel
theorem dX2_put_42 : decode cX2_put 42 = .ok (.ireturn, 1) := by decide +kernel
theorem dX2_has_0 : decode cX2_has 0 = .ok (.iload_n 1, 1) := by decide +kernel
theorem dX2_has_1 : decode cX2_has 1 = .ok (.ifCond .lt 24, 3) := by decide +kernel
theorem dX2_has_4 : decode cX2_has 4 = .ok (.iload_n 1, 1) := by decide +kernel
theorem dX2_has_5 : decode cX2_has 5 = .ok (.aload_n 0, 1) := by decide +kernel
theorem dX2_has_6 : decode cX2_has 6 = .ok (.getfield 19, 3) := by decide +kernel
theorem dX2_has_9 : decode cX2_has 9 = .ok (.if_icmp .ge 16, 3) := by decide +kernel
theorem dX2_has_12 : decode cX2_has 12 = .ok (.iload_n 1, 1) := by decide +kernel
theorem dX2_has_13 : decode cX2_has 13 = .ok (.aload_n 0, 1) := by decide +kernel
theorem dX2_has_14 : decode cX2_has 14 = .ok (.getfield 9, 3) := by decide +kernel
theorem dX2_has_17 : decode cX2_has 17 = .ok (.arraylength, 1) := by decide +kernel
theorem dX2_has_18 : decode cX2_has 18 = .ok (.if_icmp .ge 7, 3) := by decide +kernel
theorem dX2_has_21 : decode cX2_has 21 = .ok (.iconst 1, 1) := by decide +kernel
theorem dX2_has_22 : decode cX2_has 22 = .ok (.goto 4, 3) := by decide +kernel
theorem dX2_has_25 : decode cX2_has 25 = .ok (.iconst 0, 1) := by decide +kernel
theorem dX2_has_26 : decode cX2_has 26 = .ok (.ireturn, 1) := by decide +kernel
theorem dX2_valueAt_0 : decode cX2_valueAt 0 = .ok (.aload_n 0, 1) := by decide +kernel
theorem dX2_valueAt_1 : decode cX2_valueAt 1 = .ok (.iload_n 1, 1) := by decide +kernel
theorem dX2_valueAt_2 : decode cX2_valueAt 2 = .ok (.invokevirtual 22, 3) := by decide +kernel
theorem dX2_valueAt_5 : decode cX2_valueAt 5 = .ok (.ifCond .eq 12, 3) := by decide +kernel
theorem dX2_valueAt_8 : decode cX2_valueAt 8 = .ok (.aload_n 0, 1) := by decide +kernel
theorem dX2_valueAt_9 : decode cX2_valueAt 9 = .ok (.getfield 9, 3) := by decide +kernel
theorem dX2_valueAt_12 : decode cX2_valueAt 12 = .ok (.iload_n 1, 1) := by decide +kernel
theorem dX2_valueAt_13 : decode cX2_valueAt 13 = .ok (.iaload, 1) := by decide +kernel
theorem dX2_valueAt_14 : decode cX2_valueAt 14 = .ok (.goto 4, 3) := by decide +kernel
theorem dX2_valueAt_17 : decode cX2_valueAt 17 = .ok (.iconst (-1), 1) := by decide +kernel
theorem dX2_valueAt_18 : decode cX2_valueAt 18 = .ok (.ireturn, 1) := by decide +kernel
theorem dX2_hasLinesOf_0 : decode cX2_hasLinesOf 0 = .ok (.aload_n 0, 1) := by decide +kernel
theorem dX2_hasLinesOf_1 : decode cX2_hasLinesOf 1 = .ok (.getfield 19, 3) := by decide +kernel
theorem dX2_hasLinesOf_4 : decode cX2_hasLinesOf 4 = .ok (.aload_n 1, 1) := by decide +kernel
theorem dX2_hasLinesOf_5 : decode cX2_hasLinesOf 5 = .ok (.getfield 19, 3) := by decide +kernel
theorem dX2_hasLinesOf_8 : decode cX2_hasLinesOf 8 = .ok (.if_icmp .eq 5, 3) := by decide +kernel
theorem dX2_hasLinesOf_11 : decode cX2_hasLinesOf 11 = .ok (.iconst 0, 1) := by decide +kernel
theorem dX2_hasLinesOf_12 : decode cX2_hasLinesOf 12 = .ok (.ireturn, 1) := by decide +kernel
theorem dX2_hasLinesOf_13 : decode cX2_hasLinesOf 13 = .ok (.iconst 0, 1) := by decide +kernel
theorem dX2_hasLinesOf_14 : decode cX2_hasLinesOf 14 = .ok (.istore_n 2, 1) := by decide +kernel
theorem dX2_hasLinesOf_15 : decode cX2_hasLinesOf 15 = .ok (.iload_n 2, 1) := by decide +kernel
theorem dX2_hasLinesOf_16 : decode cX2_hasLinesOf 16 = .ok (.aload_n 0, 1) := by decide +kernel
theorem dX2_hasLinesOf_17 : decode cX2_hasLinesOf 17 = .ok (.getfield 19, 3) := by decide +kernel
theorem dX2_hasLinesOf_20 : decode cX2_hasLinesOf 20 = .ok (.if_icmp .ge 24, 3) := by decide +kernel
theorem dX2_hasLinesOf_23 : decode cX2_hasLinesOf 23 = .ok (.aload_n 0, 1) := by decide +kernel
theorem dX2_hasLinesOf_24 : decode cX2_hasLinesOf 24 = .ok (.iload_n 2, 1) := by decide +kernel
theorem dX2_hasLinesOf_25 : decode cX2_hasLinesOf 25 = .ok (.invokevirtual 26, 3) := by decide +kernel
theorem dX2_hasLinesOf_28 : decode cX2_hasLinesOf 28 = .ok (.aload_n 1, 1) := by decide +kernel
theorem dX2_hasLinesOf_29 : decode cX2_hasLinesOf 29 = .ok (.iload_n 2, 1) := by decide +kernel
theorem dX2_hasLinesOf_30 : decode cX2_hasLinesOf 30 = .ok (.invokevirtual 26, 3) := by decide +kernel
theorem dX2_hasLinesOf_33 : decode cX2_hasLinesOf 33 = .ok (.if_icmp .eq 5, 3) := by decide +kernel
theorem dX2_hasLinesOf_36 : decode cX2_hasLinesOf 36 = .ok (.iconst 0, 1) := by decide +kernel
theorem dX2_hasLinesOf_37 : decode cX2_hasLinesOf 37 = .ok (.ireturn, 1) := by decide +kernel
theorem dX2_hasLinesOf_38 : decode cX2_hasLinesOf 38 = .ok (.iinc 2 1, 3) := by decide +kernel
theorem dX2_hasLinesOf_41 : decode cX2_hasLinesOf 41 = .ok (.goto (-26), 3) := by decide +kernel
theorem dX2_hasLinesOf_44 : decode cX2_hasLinesOf 44 = .ok (.iconst 1, 1) := by decide +kernel
theorem dX2_hasLinesOf_45 : decode cX2_hasLinesOf 45 = .ok (.ireturn, 1) := by decide +kernel
theorem dX3_init_0 : decode cX3_init 0 = .ok (.aload_n 0, 1) := by decide +kernel
theorem dX3_init_1 : decode cX3_init 1 = .ok (.invokespecial 3, 3) := by decide +kernel
theorem dX3_init_4 : decode cX3_init 4 = .ok (.aload_n 0, 1) := by decide +kernel
theorem dX3_init_5 : decode cX3_init 5 = .ok (.iconst 0, 1) := by decide +kernel
theorem dX3_init_6 : decode cX3_init 6 = .ok (.putfield 9, 3) := by decide +kernel
theorem dX3_init_9 : decode cX3_init 9 = .ok (.aload_n 0, 1) := by decide +kernel
theorem dX3_init_10 : decode cX3_init 10 = .ok (.bipush 99, 2) := by decide +kernel
theorem dX3_init_12 : decode cX3_init 12 = .ok (.putfield 15, 3) := by decide +kernel
theorem dX3_init_15 : decode cX3_init 15 = .ok (.aload_n 0, 1) := by decide +kernel
theorem dX3_init_16 : decode cX3_init 16 = .ok (.iconst (-1), 1) := by decide +kernel
theorem dX3_init_17 : decode cX3_init 17 = .ok (.putfield 18, 3) := by decide +kernel
theorem dX3_init_20 : decode cX3_init 20 = .ok (.aload_n 0, 1) := by decide +kernel
theorem dX3_init_21 : decode cX3_init 21 = .ok (.iload_n 1, 1) := by decide +kernel
theorem dX3_init_22 : decode cX3_init 22 = .ok (.putfield 21, 3) := by decide +kernel
theorem dX3_init_25 : decode cX3_init 25 = .ok (.return_, 1) := by decide +kernel
theorem dX3_sees_0 : decode cX3_sees 0 = .ok (.aload_n 1, 1) := by decide +kernel
theorem dX3_sees_1 : decode cX3_sees 1 = .ok (.getfield 25, 3) := by decide +kernel
theorem dX3_sees_4 : decode cX3_sees 4 = .ok (.ifCond .eq 5, 3) := by decide +kernel
theorem dX3_sees_7 : decode cX3_sees 7 = .ok (.iconst 0, 1) := by decide +kernel
theorem dX3_sees_8 : decode cX3_sees 8 = .ok (.ireturn, 1) := by decide +kernel
theorem dX3_sees_9 : decode cX3_sees 9 = .ok (.aload_n 1, 1) := by decide +kernel
theorem dX3_sees_10 : decode cX3_sees 10 = .ok (.getfield 30, 3) := by decide +kernel
theorem dX3_sees_13 : decode cX3_sees 13 = .ok (.iconst (-1), 1) := by decide +kernel
theorem dX3_sees_14 : decode cX3_sees 14 = .ok (.if_icmp .ne 8, 3) := by decide +kernel
theorem dX3_sees_17 : decode cX3_sees 17 = .ok (.aload_n 0, 1) := by decide +kernel
theorem dX3_sees_18 : decode cX3_sees 18 = .ok (.getfield 21, 3) := by decide +kernel
theorem dX3_sees_21 : decode cX3_sees 21 = .ok (.ireturn, 1) := by decide +kernel
theorem dX3_sees_22 : decode cX3_sees 22 = .ok (.aload_n 1, 1) := by decide +kernel
theorem dX3_sees_23 : decode cX3_sees 23 = .ok (.getfield 30, 3) := by decide +kernel
theorem dX3_sees_26 : decode cX3_sees 26 = .ok (.aload_n 0, 1) := by decide +kernel
theorem dX3_sees_27 : decode cX3_sees 27 = .ok (.getfield 9, 3) := by decide +kernel
theorem dX3_sees_30 : decode cX3_sees 30 = .ok (.if_icmp .lt 18, 3) := by decide +kernel
theorem dX3_sees_33 : decode cX3_sees 33 = .ok (.aload_n 1, 1) := by decide +kernel
theorem dX3_sees_34 : decode cX3_sees 34 = .ok (.getfield 30, 3) := by decide +kernel
theorem dX3_sees_37 : decode cX3_sees 37 = .ok (.aload_n 0, 1) := by decide +kernel
theorem dX3_sees_38 : decode cX3_sees 38 = .ok (.getfield 15, 3) := by decide +kernel
theorem dX3_sees_41 : decode cX3_sees 41 = .ok (.if_icmp .gt 7, 3) := by decide +kernel
theorem dX3_sees_44 : decode cX3_sees 44 = .ok (.iconst 1, 1) := by decide +kernel
theorem dX3_sees_45 : decode cX3_sees 45 = .ok (.goto 4, 3) := by decide +kernel
theorem dX3_sees_48 : decode cX3_sees 48 = .ok (.iconst 0, 1) := by decide +kernel
theorem dX3_sees_49 : decode cX3_sees 49 = .ok (.ireturn, 1) := by decide +kernel
theorem dX4_init_0 : decode cX4_init 0 = .ok (.aload_n 0, 1) := by decide +kernel
theorem dX4_init_1 : decode cX4_init 1 = .ok (.invokespecial 1, 3) := by decide +kernel
theorem dX4_init_4 : decode cX4_init 4 = .ok (.aload_n 0, 1) := by decide +kernel
theorem dX4_init_5 : decode cX4_init 5 = .ok (.new 7, 3) := by decide +kernel
theorem dX4_init_8 : decode cX4_init 8 = .ok (.dup, 1) := by decide +kernel
theorem dX4_init_9 : decode cX4_init 9 = .ok (.invokespecial 9, 3) := by decide +kernel
theorem dX4_init_12 : decode cX4_init 12 = .ok (.putfield 10, 3) := by decide +kernel
theorem dX4_init_15 : decode cX4_init 15 = .ok (.return_, 1) := by decide +kernel
theorem dX4_isLike_0 : decode cX4_isLike 0 = .ok (.aload_n 0, 1) := by decide +kernel
theorem dX4_isLike_1 : decode cX4_isLike 1 = .ok (.getfield 16, 3) := by decide +kernel
theorem dX4_isLike_4 : decode cX4_isLike 4 = .ok (.aload_n 1, 1) := by decide +kernel
theorem dX4_isLike_5 : decode cX4_isLike 5 = .ok (.getfield 16, 3) := by decide +kernel
theorem dX4_isLike_8 : decode cX4_isLike 8 = .ok (.if_icmp .ne 20, 3) := by decide +kernel
theorem dX4_isLike_11 : decode cX4_isLike 11 = .ok (.aload_n 0, 1) := by decide +kernel
theorem dX4_isLike_12 : decode cX4_isLike 12 = .ok (.getfield 10, 3) := by decide +kernel
theorem dX4_isLike_15 : decode cX4_isLike 15 = .ok (.invokevirtual 20, 3) := by decide +kernel
theorem dX4_isLike_18 : decode cX4_isLike 18 = .ok (.aload_n 1, 1) := by decide +kernel
theorem dX4_isLike_19 : decode cX4_isLike 19 = .ok (.getfield 10, 3) := by decide +kernel
theorem dX4_isLike_22 : decode cX4_isLike 22 = .ok (.invokevirtual 20, 3) := by decide +kernel
theorem dX4_isLike_25 : decode cX4_isLike 25 = .ok (.if_icmp .eq 5, 3) := by decide +kernel
theorem dX4_isLike_28 : decode cX4_isLike 28 = .ok (.iconst 0, 1) := by decide +kernel
theorem dX4_isLike_29 : decode cX4_isLike 29 = .ok (.ireturn, 1) := by decide +kernel
theorem dX4_isLike_30 : decode cX4_isLike 30 = .ok (.iconst 0, 1) := by decide +kernel
theorem dX4_isLike_31 : decode cX4_isLike 31 = .ok (.istore_n 2, 1) := by decide +kernel
theorem dX4_isLike_32 : decode cX4_isLike 32 = .ok (.iload_n 2, 1) := by decide +kernel
theorem dX4_isLike_33 : decode cX4_isLike 33 = .ok (.aload_n 0, 1) := by decide +kernel
theorem dX4_isLike_34 : decode cX4_isLike 34 = .ok (.getfield 10, 3) := by decide +kernel
theorem dX4_isLike_37 : decode cX4_isLike 37 = .ok (.invokevirtual 20, 3) := by decide +kernel
theorem dX4_isLike_40 : decode cX4_isLike 40 = .ok (.if_icmp .ge 50, 3) := by decide +kernel
theorem dX4_isLike_43 : decode cX4_isLike 43 = .ok (.iload_n 2, 1) := by decide +kernel
theorem dX4_isLike_44 : decode cX4_isLike 44 = .ok (.aload_n 1, 1) := by decide +kernel
theorem dX4_isLike_45 : decode cX4_isLike 45 = .ok (.getfield 10, 3) := by decide +kernel
theorem dX4_isLike_48 : decode cX4_isLike 48 = .ok (.invokevirtual 20, 3) := by decide +kernel
theorem dX4_isLike_51 : decode cX4_isLike 51 = .ok (.if_icmp .ge 39, 3) := by decide +kernel
theorem dX4_isLike_54 : decode cX4_isLike 54 = .ok (.aload_n 0, 1) := by decide +kernel
theorem dX4_isLike_55 : decode cX4_isLike 55 = .ok (.getfield 10, 3) := by decide +kernel
theorem dX4_isLike_58 : decode cX4_isLike 58 = .ok (.iload_n 2, 1) := by decide +kernel
theorem dX4_isLike_59 : decode cX4_isLike 59 = .ok (.invokevirtual 24, 3) := by decide +kernel
theorem dX4_isLike_62 : decode cX4_isLike 62 = .ok (.checkcast 28, 3) := by decide +kernel
theorem dX4_isLike_65 : decode cX4_isLike 65 = .ok (.aload_n 1, 1) := by decide +kernel
theorem dX4_isLike_66 : decode cX4_isLike 66 = .ok (.getfield 10, 3) := by decide +kernel
theorem dX4_isLike_69 : decode cX4_isLike 69 = .ok (.iload_n 2, 1) := by decide +kernel
theorem dX4_isLike_70 : decode cX4_isLike 70 = .ok (.invokevirtual 24, 3) := by decide +kernel
theorem dX4_isLike_73 : decode cX4_isLike 73 = .ok (.checkcast 28, 3) := by decide +kernel
theorem dX4_isLike_76 : decode cX4_isLike 76 = .ok (.invokevirtual 30, 3) := by decide +kernel
theorem dX4_isLike_79 : decode cX4_isLike 79 = .ok (.ifCond .ne 5, 3) := by decide +kernel
theorem dX4_isLike_82 : decode cX4_isLike 82 = .ok (.iconst 0, 1) := by decide +kernel
theorem dX4_isLike_83 : decode cX4_isLike 83 = .ok (.ireturn, 1) := by decide +kernel
theorem dX4_isLike_84 : decode cX4_isLike 84 = .ok (.iinc 2 1, 3) := by decide +kernel
theorem dX4_isLike_87 : decode cX4_isLike 87 = .ok (.goto (-55), 3) := by decide +kernel
theorem dX4_isLike_90 : decode cX4_isLike 90 = .ok (.iconst 1, 1) := by decide +kernel
theorem dX4_isLike_91 : decode cX4_isLike 91 = .ok (.ireturn, 1) := by decide +kernel
theorem dX5_init_0 : decode cX5_init 0 = .ok (.aload_n 0, 1) := by decide +kernel
theorem dX5_init_1 : decode cX5_init 1 = .ok (.invokespecial 3, 3) := by decide +kernel
theorem dX5_init_4 : decode cX5_init 4 = .ok (.aload_n 0, 1) := by decide +kernel
theorem dX5_init_5 : decode cX5_init 5 = .ok (.new 9, 3) := by decide +kernel
theorem dX5_init_8 : decode cX5_init 8 = .ok (.dup, 1) := by decide +kernel
theorem dX5_init_9 : decode cX5_init 9 = .ok (.iconst 0, 1) := by decide +kernel
theorem dX5_init_10 : decode cX5_init 10 = .ok (.iconst 0, 1) := by decide +kernel
theorem dX5_init_11 : decode cX5_init 11 = .ok (.iconst 1, 1) := by decide +kernel
theorem dX5_init_12 : decode cX5_init 12 = .ok (.invokespecial 11, 3) := by decide +kernel
theorem dX5_init_15 : decode cX5_init 15 = .ok (.putfield 14, 3) := by decide +kernel
theorem dX5_init_18 : decode cX5_init 18 = .ok (.aload_n 0, 1) := by decide +kernel
theorem dX5_init_19 : decode cX5_init 19 = .ok (.new 18, 3) := by decide +kernel
theorem dX5_init_22 : decode cX5_init 22 = .ok (.dup, 1) := by decide +kernel
theorem dX5_init_23 : decode cX5_init 23 = .ok (.invokespecial 20, 3) := by decide +kernel
theorem dX5_init_26 : decode cX5_init 26 = .ok (.putfield 21, 3) := by decide +kernel
theorem dX5_init_29 : decode cX5_init 29 = .ok (.aload_n 0, 1) := by decide +kernel
theorem dX5_init_30 : decode cX5_init 30 = .ok (.new 18, 3) := by decide +kernel
theorem dX5_init_33 : decode cX5_init 33 = .ok (.dup, 1) := by decide +kernel
theorem dX5_init_34 : decode cX5_init 34 = .ok (.invokespecial 20, 3) := by decide +kernel
theorem dX5_init_37 : decode cX5_init 37 = .ok (.putfield 25, 3) := by decide +kernel
theorem dX5_init_40 : decode cX5_init 40 = .ok (.aload_n 0, 1) := by decide +kernel
theorem dX5_init_41 : decode cX5_init 41 = .ok (.new 28, 3) := by decide +kernel
theorem dX5_init_44 : decode cX5_init 44 = .ok (.dup, 1) := by decide +kernel
theorem dX5_init_45 : decode cX5_init 45 = .ok (.invokespecial 30, 3) := by decide +kernel
theorem dX5_init_48 : decode cX5_init 48 = .ok (.putfield 31, 3) := by decide +kernel
theorem dX5_init_51 : decode cX5_init 51 = .ok (.aload_n 0, 1) := by decide +kernel
theorem dX5_init_52 : decode cX5_init 52 = .ok (.new 35, 3) := by decide +kernel
theorem dX5_init_55 : decode cX5_init 55 = .ok (.dup, 1) := by decide +kernel
theorem dX5_init_56 : decode cX5_init 56 = .ok (.invokespecial 37, 3) := by decide +kernel
theorem dX5_init_59 : decode cX5_init 59 = .ok (.putfield 38, 3) := by decide +kernel
theorem dX5_init_62 : decode cX5_init 62 = .ok (.aload_n 0, 1) := by decide +kernel
theorem dX5_init_63 : decode cX5_init 63 = .ok (.new 18, 3) := by decide +kernel
theorem dX5_init_66 : decode cX5_init 66 = .ok (.dup, 1) := by decide +kernel
theorem dX5_init_67 : decode cX5_init 67 = .ok (.invokespecial 20, 3) := by decide +kernel
theorem dX5_init_70 : decode cX5_init 70 = .ok (.putfield 42, 3) := by decide +kernel
theorem dX5_init_73 : decode cX5_init 73 = .ok (.aload_n 0, 1) := by decide +kernel
theorem dX5_init_74 : decode cX5_init 74 = .ok (.new 18, 3) := by decide +kernel
theorem dX5_init_77 : decode cX5_init 77 = .ok (.dup, 1) := by decide +kernel
theorem dX5_init_78 : decode cX5_init 78 = .ok (.invokespecial 20, 3) := by decide +kernel
theorem dX5_init_81 : decode cX5_init 81 = .ok (.putfield 45, 3) := by decide +kernel
theorem dX5_init_84 : decode cX5_init 84 = .ok (.aload_n 0, 1) := by decide +kernel
theorem dX5_init_85 : decode cX5_init 85 = .ok (.iconst 4, 1) := by decide +kernel
theorem dX5_init_86 : decode cX5_init 86 = .ok (.newarray .int, 2) := by decide +kernel
theorem dX5_init_88 : decode cX5_init 88 = .ok (.putfield 48, 3) := by decide +kernel
theorem dX5_init_91 : decode cX5_init 91 = .ok (.aload_n 0, 1) := by decide +kernel
theorem dX5_init_92 : decode cX5_init 92 = .ok (.bipush 100, 2) := by decide +kernel
theorem dX5_init_94 : decode cX5_init 94 = .ok (.newarray .boolean, 2) := by decide +kernel
theorem dX5_init_96 : decode cX5_init 96 = .ok (.putfield 52, 3) := by decide +kernel
theorem dX5_init_99 : decode cX5_init 99 = .ok (.iconst 0, 1) := by decide +kernel
theorem dX5_init_100 : decode cX5_init 100 = .ok (.istore_n 1, 1) := by decide +kernel
theorem dX5_init_101 : decode cX5_init 101 = .ok (.iload_n 1, 1) := by decide +kernel
theorem dX5_init_102 : decode cX5_init 102 = .ok (.iconst 4, 1) := by decide +kernel
theorem dX5_init_103 : decode cX5_init 103 = .ok (.if_icmp .ge 33, 3) := by decide +kernel
theorem dX5_init_106 : decode cX5_init 106 = .ok (.aload_n 0, 1) := by decide +kernel
theorem dX5_init_107 : decode cX5_init 107 = .ok (.getfield 45, 3) := by decide +kernel
theorem dX5_init_110 : decode cX5_init 110 = .ok (.new 56, 3) := by decide +kernel
theorem dX5_init_113 : decode cX5_init 113 = .ok (.dup, 1) := by decide +kernel
theorem dX5_init_114 : decode cX5_init 114 = .ok (.iload_n 1, 1) := by decide +kernel
theorem dX5_init_115 : decode cX5_init 115 = .ok (.ifCond .ne 7, 3) := by decide +kernel
theorem dX5_init_118 : decode cX5_init 118 = .ok (.iconst 1, 1) := by decide +kernel
theorem dX5_init_119 : decode cX5_init 119 = .ok (.goto 4, 3) := by decide +kernel
theorem dX5_init_122 : decode cX5_init 122 = .ok (.iconst 0, 1) := by decide +kernel
theorem dX5_init_123 : decode cX5_init 123 = .ok (.invokespecial 58, 3) := by decide +kernel
theorem dX5_init_126 : decode cX5_init 126 = .ok (.invokevirtual 61, 3) := by decide +kernel
theorem dX5_init_129 : decode cX5_init 129 = .ok (.pop, 1) := by decide +kernel
theorem dX5_init_130 : decode cX5_init 130 = .ok (.iinc 1 1, 3) := by decide +kernel
theorem dX5_init_133 : decode cX5_init 133 = .ok (.goto (-32), 3) := by decide +kernel
theorem dX5_init_136 : decode cX5_init 136 = .ok (.aload_n 0, 1) := by decide +kernel
theorem dX5_init_137 : decode cX5_init 137 = .ok (.getfield 48, 3) := by decide +kernel
theorem dX5_init_140 : decode cX5_init 140 = .ok (.bipush 100, 2) := by decide +kernel
theorem dX5_init_142 : decode cX5_init 142 = .ok (.invokestatic 65, 3) := by decide +kernel
theorem dX5_init_145 : decode cX5_init 145 = .ok (.return_, 1) := by decide +kernel
theorem dX5_pass_0 : decode cX5_pass 0 = .ok (.iload_n 1, 1) := by decide +kernel
theorem dX5_pass_1 : decode cX5_pass 1 = .ok (.iconst 1, 1) := by decide +kernel
theorem dX5_pass_2 : decode cX5_pass 2 = .ok (.sipush 1000, 3) := by decide +kernel
theorem dX5_pass_5 : decode cX5_pass 5 = .ok (.invokestatic 71, 3) := by decide +kernel
theorem dX5_pass_8 : decode cX5_pass 8 = .ok (.aload_n 0, 1) := by decide +kernel
theorem dX5_pass_9 : decode cX5_pass 9 = .ok (.getfield 74, 3) := by decide +kernel
theorem dX5_pass_12 : decode cX5_pass 12 = .ok (.iload_n 1, 1) := by decide +kernel
theorem dX5_pass_13 : decode cX5_pass 13 = .ok (.iadd, 1) := by decide +kernel
theorem dX5_pass_14 : decode cX5_pass 14 = .ok (.sipush 9999, 3) := by decide +kernel
theorem dX5_pass_17 : decode cX5_pass 17 = .ok (.if_icmp .le 13, 3) := by decide +kernel
theorem dX5_pass_20 : decode cX5_pass 20 = .ok (.new 78, 3) := by decide +kernel
theorem dX5_pass_23 : decode cX5_pass 23 = .ok (.dup, 1) := by decide +kernel
theorem dX5_pass_24 : decode cX5_pass 24 = .ok (.ldc 80, 2) := by decide +kernel
theorem dX5_pass_26 : decode cX5_pass 26 = .ok (.invokespecial 82, 3) := by decide +kernel
theorem dX5_pass_29 : decode cX5_pass 29 = .ok (.athrow, 1) := by decide +kernel
theorem dX5_pass_30 : decode cX5_pass 30 = .ok (.aload_n 0, 1) := by decide +kernel
theorem dX5_pass_31 : decode cX5_pass 31 = .ok (.dup, 1) := by decide +kernel
theorem dX5_pass_32 : decode cX5_pass 32 = .ok (.getfield 74, 3) := by decide +kernel
theorem dX5_pass_35 : decode cX5_pass 35 = .ok (.iload_n 1, 1) := by decide +kernel
theorem dX5_pass_36 : decode cX5_pass 36 = .ok (.iadd, 1) := by decide +kernel
theorem dX5_pass_37 : decode cX5_pass 37 = .ok (.putfield 74, 3) := by decide +kernel
theorem dX5_pass_40 : decode cX5_pass 40 = .ok (.aload_n 0, 1) := by decide +kernel
theorem dX5_pass_41 : decode cX5_pass 41 = .ok (.getfield 74, 3) := by decide +kernel
theorem dX5_pass_44 : decode cX5_pass 44 = .ok (.ireturn, 1) := by decide +kernel
theorem dX5_format_0 : decode cX5_format 0 = .ok (.iload_n 1, 1) := by decide +kernel
theorem dX5_format_1 : decode cX5_format 1 = .ok (.iconst 0, 1) := by decide +kernel
theorem dX5_format_2 : decode cX5_format 2 = .ok (.sipush 9999, 3) := by decide +kernel
theorem dX5_format_5 : decode cX5_format 5 = .ok (.invokestatic 71, 3) := by decide +kernel
theorem dX5_format_8 : decode cX5_format 8 = .ok (.iload_n 2, 1) := by decide +kernel
theorem dX5_format_9 : decode cX5_format 9 = .ok (.iconst 0, 1) := by decide +kernel
theorem dX5_format_10 : decode cX5_format 10 = .ok (.bipush 7, 2) := by decide +kernel
theorem dX5_format_12 : decode cX5_format 12 = .ok (.invokestatic 71, 3) := by decide +kernel
theorem dX5_format_15 : decode cX5_format 15 = .ok (.iload_n 3, 1) := by decide +kernel
theorem dX5_format_16 : decode cX5_format 16 = .ok (.iconst 0, 1) := by decide +kernel
theorem dX5_format_17 : decode cX5_format 17 = .ok (.bipush 7, 2) := by decide +kernel
theorem dX5_format_19 : decode cX5_format 19 = .ok (.invokestatic 71, 3) := by decide +kernel
theorem dX5_format_22 : decode cX5_format 22 = .ok (.aload_n 0, 1) := by decide +kernel
theorem dX5_format_23 : decode cX5_format 23 = .ok (.getfield 21, 3) := by decide +kernel
theorem dX5_format_26 : decode cX5_format 26 = .ok (.invokevirtual 85, 3) := by decide +kernel
theorem dX5_format_29 : decode cX5_format 29 = .ok (.bipush 10, 2) := by decide +kernel
theorem dX5_format_31 : decode cX5_format 31 = .ok (.if_icmp .lt 13, 3) := by decide +kernel
theorem dX5_format_34 : decode cX5_format 34 = .ok (.new 78, 3) := by decide +kernel
theorem dX5_format_37 : decode cX5_format 37 = .ok (.dup, 1) := by decide +kernel
theorem dX5_format_38 : decode cX5_format 38 = .ok (.ldc 89, 2) := by decide +kernel
theorem dX5_format_40 : decode cX5_format 40 = .ok (.invokespecial 82, 3) := by decide +kernel
theorem dX5_format_43 : decode cX5_format 43 = .ok (.athrow, 1) := by decide +kernel
theorem dX5_format_44 : decode cX5_format 44 = .ok (.aload_n 0, 1) := by decide +kernel
theorem dX5_format_45 : decode cX5_format 45 = .ok (.getfield 21, 3) := by decide +kernel
theorem dX5_format_48 : decode cX5_format 48 = .ok (.new 9, 3) := by decide +kernel
theorem dX5_format_51 : decode cX5_format 51 = .ok (.dup, 1) := by decide +kernel
theorem dX5_format_52 : decode cX5_format 52 = .ok (.iload_n 1, 1) := by decide +kernel
theorem dX5_format_53 : decode cX5_format 53 = .ok (.iload_n 2, 1) := by decide +kernel
theorem dX5_format_54 : decode cX5_format 54 = .ok (.iload_n 3, 1) := by decide +kernel
theorem dX5_format_55 : decode cX5_format 55 = .ok (.invokespecial 11, 3) := by decide +kernel
theorem dX5_format_58 : decode cX5_format 58 = .ok (.invokevirtual 61, 3) := by decide +kernel
theorem dX5_format_61 : decode cX5_format 61 = .ok (.pop, 1) := by decide +kernel
theorem dX5_format_62 : decode cX5_format 62 = .ok (.aload_n 0, 1) := by decide +kernel
theorem dX5_format_63 : decode cX5_format 63 = .ok (.getfield 21, 3) := by decide +kernel
theorem dX5_format_66 : decode cX5_format 66 = .ok (.invokevirtual 85, 3) := by decide +kernel
theorem dX5_format_69 : decode cX5_format 69 = .ok (.ireturn, 1) := by decide +kernel
theorem dX5_line_0 : decode cX5_line 0 = .ok (.iload_n 1, 1) := by decide +kernel
theorem dX5_line_1 : decode cX5_line 1 = .ok (.iconst 0, 1) := by decide +kernel
theorem dX5_line_2 : decode cX5_line 2 = .ok (.bipush 99, 2) := by decide +kernel
theorem dX5_line_4 : decode cX5_line 4 = .ok (.invokestatic 71, 3) := by decide +kernel
theorem dX5_line_7 : decode cX5_line 7 = .ok (.aload_n 0, 1) := by decide +kernel
theorem dX5_line_8 : decode cX5_line 8 = .ok (.getfield 38, 3) := by decide +kernel
theorem dX5_line_11 : decode cX5_line 11 = .ok (.iload_n 1, 1) := by decide +kernel
theorem dX5_line_12 : decode cX5_line 12 = .ok (.invokevirtual 91, 3) := by decide +kernel
theorem dX5_line_15 : decode cX5_line 15 = .ok (.ifCond .ne 13, 3) := by decide +kernel
theorem dX5_line_18 : decode cX5_line 18 = .ok (.new 78, 3) := by decide +kernel
theorem dX5_line_21 : decode cX5_line 21 = .ok (.dup, 1) := by decide +kernel
theorem dX5_line_22 : decode cX5_line 22 = .ok (.ldc 95, 2) := by decide +kernel
theorem dX5_line_24 : decode cX5_line 24 = .ok (.invokespecial 82, 3) := by decide +kernel
theorem dX5_line_27 : decode cX5_line 27 = .ok (.athrow, 1) := by decide +kernel
theorem dX5_line_28 : decode cX5_line 28 = .ok (.aload_n 0, 1) := by decide +kernel
theorem dX5_line_29 : decode cX5_line 29 = .ok (.getfield 38, 3) := by decide +kernel
theorem dX5_line_32 : decode cX5_line 32 = .ok (.getfield 97, 3) := by decide +kernel
theorem dX5_line_35 : decode cX5_line 35 = .ok (.ireturn, 1) := by decide +kernel
theorem dX5_feed_0 : decode cX5_feed 0 = .ok (.aload_n 0, 1) := by decide +kernel
theorem dX5_feed_1 : decode cX5_feed 1 = .ok (.getfield 100, 3) := by decide +kernel
theorem dX5_feed_4 : decode cX5_feed 4 = .ok (.aload_n 0, 1) := by decide +kernel
theorem dX5_feed_5 : decode cX5_feed 5 = .ok (.getfield 31, 3) := by decide +kernel
theorem dX5_feed_8 : decode cX5_feed 8 = .ok (.getfield 103, 3) := by decide +kernel
theorem dX5_feed_11 : decode cX5_feed 11 = .ok (.invokevirtual 85, 3) := by decide +kernel
theorem dX5_feed_14 : decode cX5_feed 14 = .ok (.iadd, 1) := by decide +kernel
theorem dX5_feed_15 : decode cX5_feed 15 = .ok (.iconst 1, 1) := by decide +kernel
theorem dX5_feed_16 : decode cX5_feed 16 = .ok (.iadd, 1) := by decide +kernel
theorem dX5_feed_17 : decode cX5_feed 17 = .ok (.bipush 120, 2) := by decide +kernel
theorem dX5_feed_19 : decode cX5_feed 19 = .ok (.if_icmp .le 13, 3) := by decide +kernel
theorem dX5_feed_22 : decode cX5_feed 22 = .ok (.new 78, 3) := by decide +kernel
theorem dX5_feed_25 : decode cX5_feed 25 = .ok (.dup, 1) := by decide +kernel
theorem dX5_feed_26 : decode cX5_feed 26 = .ok (.ldc 106, 2) := by decide +kernel
theorem dX5_feed_28 : decode cX5_feed 28 = .ok (.invokespecial 82, 3) := by decide +kernel
theorem dX5_feed_31 : decode cX5_feed 31 = .ok (.athrow, 1) := by decide +kernel
theorem dX5_feed_32 : decode cX5_feed 32 = .ok (.aload_n 0, 1) := by decide +kernel
theorem dX5_feed_33 : decode cX5_feed 33 = .ok (.invokevirtual 108, 3) := by decide +kernel
theorem dX5_feed_36 : decode cX5_feed 36 = .ok (.aload_n 0, 1) := by decide +kernel
theorem dX5_feed_37 : decode cX5_feed 37 = .ok (.getfield 31, 3) := by decide +kernel
theorem dX5_feed_40 : decode cX5_feed 40 = .ok (.getfield 103, 3) := by decide +kernel
theorem dX5_feed_43 : decode cX5_feed 43 = .ok (.invokevirtual 85, 3) := by decide +kernel
theorem dX5_feed_46 : decode cX5_feed 46 = .ok (.ireturn, 1) := by decide +kernel
theorem dX5_end_0 : decode cX5_end 0 = .ok (.aload_n 0, 1) := by decide +kernel
theorem dX5_end_1 : decode cX5_end 1 = .ok (.getfield 31, 3) := by decide +kernel
theorem dX5_end_4 : decode cX5_end 4 = .ok (.getfield 103, 3) := by decide +kernel
theorem dX5_end_7 : decode cX5_end 7 = .ok (.invokevirtual 85, 3) := by decide +kernel
theorem dX5_end_10 : decode cX5_end 10 = .ok (.aload_n 0, 1) := by decide +kernel
theorem dX5_end_11 : decode cX5_end 11 = .ok (.getfield 38, 3) := by decide +kernel
theorem dX5_end_14 : decode cX5_end 14 = .ok (.invokevirtual 111, 3) := by decide +kernel
theorem dX5_end_17 : decode cX5_end 17 = .ok (.ifCond .eq 7, 3) := by decide +kernel
theorem dX5_end_20 : decode cX5_end 20 = .ok (.iconst 0, 1) := by decide +kernel
theorem dX5_end_21 : decode cX5_end 21 = .ok (.goto 4, 3) := by decide +kernel
theorem dX5_end_24 : decode cX5_end 24 = .ok (.iconst 1, 1) := by decide +kernel
theorem dX5_end_25 : decode cX5_end 25 = .ok (.iadd, 1) := by decide +kernel
theorem dX5_end_26 : decode cX5_end 26 = .ok (.istore_n 1, 1) := by decide +kernel
theorem dX5_end_27 : decode cX5_end 27 = .ok (.iload_n 1, 1) := by decide +kernel
theorem dX5_end_28 : decode cX5_end 28 = .ok (.ifCond .ne 13, 3) := by decide +kernel
theorem dX5_end_31 : decode cX5_end 31 = .ok (.new 78, 3) := by decide +kernel
theorem dX5_end_34 : decode cX5_end 34 = .ok (.dup, 1) := by decide +kernel
theorem dX5_end_35 : decode cX5_end 35 = .ok (.ldc 115, 2) := by decide +kernel
theorem dX5_end_37 : decode cX5_end 37 = .ok (.invokespecial 82, 3) := by decide +kernel
theorem dX5_end_40 : decode cX5_end 40 = .ok (.athrow, 1) := by decide +kernel
theorem dX5_end_41 : decode cX5_end 41 = .ok (.aload_n 0, 1) := by decide +kernel
theorem dX5_end_42 : decode cX5_end 42 = .ok (.getfield 25, 3) := by decide +kernel
theorem dX5_end_45 : decode cX5_end 45 = .ok (.invokevirtual 85, 3) := by decide +kernel
theorem dX5_end_48 : decode cX5_end 48 = .ok (.bipush 15, 2) := by decide +kernel
theorem dX5_end_50 : decode cX5_end 50 = .ok (.if_icmp .lt 13, 3) := by decide +kernel
theorem dX5_end_53 : decode cX5_end 53 = .ok (.new 78, 3) := by decide +kernel
theorem dX5_end_56 : decode cX5_end 56 = .ok (.dup, 1) := by decide +kernel
theorem dX5_end_57 : decode cX5_end 57 = .ok (.ldc 117, 2) := by decide +kernel
theorem dX5_end_59 : decode cX5_end 59 = .ok (.invokespecial 82, 3) := by decide +kernel
theorem dX5_end_62 : decode cX5_end 62 = .ok (.athrow, 1) := by decide +kernel
theorem dX5_end_63 : decode cX5_end 63 = .ok (.aload_n 0, 1) := by decide +kernel
theorem dX5_end_64 : decode cX5_end 64 = .ok (.getfield 100, 3) := by decide +kernel
theorem dX5_end_67 : decode cX5_end 67 = .ok (.iload_n 1, 1) := by decide +kernel
theorem dX5_end_68 : decode cX5_end 68 = .ok (.iadd, 1) := by decide +kernel
theorem dX5_end_69 : decode cX5_end 69 = .ok (.bipush 120, 2) := by decide +kernel
theorem dX5_end_71 : decode cX5_end 71 = .ok (.if_icmp .le 13, 3) := by decide +kernel
theorem dX5_end_74 : decode cX5_end 74 = .ok (.new 78, 3) := by decide +kernel
theorem dX5_end_77 : decode cX5_end 77 = .ok (.dup, 1) := by decide +kernel
theorem dX5_end_78 : decode cX5_end 78 = .ok (.ldc 106, 2) := by decide +kernel
theorem dX5_end_80 : decode cX5_end 80 = .ok (.invokespecial 82, 3) := by decide +kernel
theorem dX5_end_83 : decode cX5_end 83 = .ok (.athrow, 1) := by decide +kernel
theorem dX5_end_84 : decode cX5_end 84 = .ok (.aload_n 0, 1) := by decide +kernel
theorem dX5_end_85 : decode cX5_end 85 = .ok (.getfield 38, 3) := by decide +kernel
theorem dX5_end_88 : decode cX5_end 88 = .ok (.invokevirtual 111, 3) := by decide +kernel
theorem dX5_end_91 : decode cX5_end 91 = .ok (.ifCond .ne 7, 3) := by decide +kernel
theorem dX5_end_94 : decode cX5_end 94 = .ok (.aload_n 0, 1) := by decide +kernel
theorem dX5_end_95 : decode cX5_end 95 = .ok (.invokevirtual 108, 3) := by decide +kernel
theorem dX5_end_98 : decode cX5_end 98 = .ok (.aload_n 0, 1) := by decide +kernel
theorem dX5_end_99 : decode cX5_end 99 = .ok (.invokevirtual 119, 3) := by decide +kernel
theorem dX5_end_102 : decode cX5_end 102 = .ok (.aload_n 0, 1) := by decide +kernel
theorem dX5_end_103 : decode cX5_end 103 = .ok (.getfield 25, 3) := by decide +kernel
theorem dX5_end_106 : decode cX5_end 106 = .ok (.invokevirtual 85, 3) := by decide +kernel
theorem dX5_end_109 : decode cX5_end 109 = .ok (.iconst 1, 1) := by decide +kernel
theorem dX5_end_110 : decode cX5_end 110 = .ok (.isub, 1) := by decide +kernel
theorem dX5_end_111 : decode cX5_end 111 = .ok (.ireturn, 1) := by decide +kernel
theorem dX5_pages_0 : decode cX5_pages 0 = .ok (.aload_n 0, 1) := by decide +kernel
theorem dX5_pages_1 : decode cX5_pages 1 = .ok (.iload_n 1, 1) := by decide +kernel
theorem dX5_pages_2 : decode cX5_pages 2 = .ok (.invokevirtual 122, 3) := by decide +kernel
theorem dX5_pages_5 : decode cX5_pages 5 = .ok (.getfield 103, 3) := by decide +kernel
theorem dX5_pages_8 : decode cX5_pages 8 = .ok (.invokevirtual 85, 3) := by decide +kernel
theorem dX5_pages_11 : decode cX5_pages 11 = .ok (.ireturn, 1) := by decide +kernel
theorem dX5_twice_0 : decode cX5_twice 0 = .ok (.aload_n 0, 1) := by decide +kernel
theorem dX5_twice_1 : decode cX5_twice 1 = .ok (.iload_n 1, 1) := by decide +kernel
theorem dX5_twice_2 : decode cX5_twice 2 = .ok (.invokevirtual 122, 3) := by decide +kernel
theorem dX5_twice_5 : decode cX5_twice 5 = .ok (.astore_n 2, 1) := by decide +kernel
theorem dX5_twice_6 : decode cX5_twice 6 = .ok (.iconst 0, 1) := by decide +kernel
theorem dX5_twice_7 : decode cX5_twice 7 = .ok (.istore_n 3, 1) := by decide +kernel
theorem dX5_twice_8 : decode cX5_twice 8 = .ok (.iload_n 3, 1) := by decide +kernel
theorem dX5_twice_9 : decode cX5_twice 9 = .ok (.iload_n 1, 1) := by decide +kernel
theorem dX5_twice_10 : decode cX5_twice 10 = .ok (.if_icmp .ge 40, 3) := by decide +kernel
theorem dX5_twice_13 : decode cX5_twice 13 = .ok (.iload_n 3, 1) := by decide +kernel
theorem dX5_twice_14 : decode cX5_twice 14 = .ok (.aload_n 0, 1) := by decide +kernel
theorem dX5_twice_15 : decode cX5_twice 15 = .ok (.getfield 25, 3) := by decide +kernel
theorem dX5_twice_18 : decode cX5_twice 18 = .ok (.invokevirtual 85, 3) := by decide +kernel
theorem dX5_twice_21 : decode cX5_twice 21 = .ok (.if_icmp .ge 29, 3) := by decide +kernel
theorem dX5_twice_24 : decode cX5_twice 24 = .ok (.aload_n 2, 1) := by decide +kernel
theorem dX5_twice_25 : decode cX5_twice 25 = .ok (.aload_n 0, 1) := by decide +kernel
theorem dX5_twice_26 : decode cX5_twice 26 = .ok (.getfield 25, 3) := by decide +kernel
theorem dX5_twice_29 : decode cX5_twice 29 = .ok (.iload_n 3, 1) := by decide +kernel
theorem dX5_twice_30 : decode cX5_twice 30 = .ok (.invokevirtual 126, 3) := by decide +kernel
theorem dX5_twice_33 : decode cX5_twice 33 = .ok (.checkcast 28, 3) := by decide +kernel
theorem dX5_twice_36 : decode cX5_twice 36 = .ok (.invokevirtual 130, 3) := by decide +kernel
theorem dX5_twice_39 : decode cX5_twice 39 = .ok (.ifCond .eq 5, 3) := by decide +kernel
theorem dX5_twice_42 : decode cX5_twice 42 = .ok (.iload_n 3, 1) := by decide +kernel
theorem dX5_twice_43 : decode cX5_twice 43 = .ok (.ireturn, 1) := by decide +kernel
theorem dX5_twice_44 : decode cX5_twice 44 = .ok (.iinc 3 1, 3) := by decide +kernel
theorem dX5_twice_47 : decode cX5_twice 47 = .ok (.goto (-39), 3) := by decide +kernel
theorem dX5_twice_50 : decode cX5_twice 50 = .ok (.iconst (-1), 1) := by decide +kernel
theorem dX5_twice_51 : decode cX5_twice 51 = .ok (.ireturn, 1) := by decide +kernel
theorem dX5_reprint_0 : decode cX5_reprint 0 = .ok (.aload_n 0, 1) := by decide +kernel
theorem dX5_reprint_1 : decode cX5_reprint 1 = .ok (.iload_n 1, 1) := by decide +kernel
theorem dX5_reprint_2 : decode cX5_reprint 2 = .ok (.invokevirtual 122, 3) := by decide +kernel
theorem dX5_reprint_5 : decode cX5_reprint 5 = .ok (.astore 4, 2) := by decide +kernel
theorem dX5_reprint_7 : decode cX5_reprint 7 = .ok (.aload 4, 2) := by decide +kernel
theorem dX5_reprint_9 : decode cX5_reprint 9 = .ok (.iload_n 2, 1) := by decide +kernel
theorem dX5_reprint_10 : decode cX5_reprint 10 = .ok (.invokestatic 134, 3) := by decide +kernel
theorem dX5_reprint_13 : decode cX5_reprint 13 = .ok (.iload_n 3, 1) := by decide +kernel
theorem dX5_reprint_14 : decode cX5_reprint 14 = .ok (.iconst 1, 1) := by decide +kernel
theorem dX5_reprint_15 : decode cX5_reprint 15 = .ok (.bipush 9, 2) := by decide +kernel
theorem dX5_reprint_17 : decode cX5_reprint 17 = .ok (.invokestatic 71, 3) := by decide +kernel
theorem dX5_reprint_20 : decode cX5_reprint 20 = .ok (.iconst 0, 1) := by decide +kernel
theorem dX5_reprint_21 : decode cX5_reprint 21 = .ok (.istore 5, 2) := by decide +kernel
theorem dX5_reprint_23 : decode cX5_reprint 23 = .ok (.iload_n 2, 1) := by decide +kernel
theorem dX5_reprint_24 : decode cX5_reprint 24 = .ok (.istore 6, 2) := by decide +kernel
theorem dX5_reprint_26 : decode cX5_reprint 26 = .ok (.iload 6, 2) := by decide +kernel
theorem dX5_reprint_28 : decode cX5_reprint 28 = .ok (.aload 4, 2) := by decide +kernel
theorem dX5_reprint_30 : decode cX5_reprint 30 = .ok (.getfield 103, 3) := by decide +kernel
theorem dX5_reprint_33 : decode cX5_reprint 33 = .ok (.invokevirtual 85, 3) := by decide +kernel
theorem dX5_reprint_36 : decode cX5_reprint 36 = .ok (.if_icmp .ge 37, 3) := by decide +kernel
theorem dX5_reprint_39 : decode cX5_reprint 39 = .ok (.aload 4, 2) := by decide +kernel
theorem dX5_reprint_41 : decode cX5_reprint 41 = .ok (.getfield 103, 3) := by decide +kernel
theorem dX5_reprint_44 : decode cX5_reprint 44 = .ok (.iload 6, 2) := by decide +kernel
theorem dX5_reprint_46 : decode cX5_reprint 46 = .ok (.invokevirtual 126, 3) := by decide +kernel
theorem dX5_reprint_49 : decode cX5_reprint 49 = .ok (.checkcast 35, 3) := by decide +kernel
theorem dX5_reprint_52 : decode cX5_reprint 52 = .ok (.dup, 1) := by decide +kernel
theorem dX5_reprint_53 : decode cX5_reprint 53 = .ok (.getfield 138, 3) := by decide +kernel
theorem dX5_reprint_56 : decode cX5_reprint 56 = .ok (.iload_n 3, 1) := by decide +kernel
theorem dX5_reprint_57 : decode cX5_reprint 57 = .ok (.iadd, 1) := by decide +kernel
theorem dX5_reprint_58 : decode cX5_reprint 58 = .ok (.putfield 138, 3) := by decide +kernel
theorem dX5_reprint_61 : decode cX5_reprint 61 = .ok (.iload 5, 2) := by decide +kernel
theorem dX5_reprint_63 : decode cX5_reprint 63 = .ok (.iload_n 3, 1) := by decide +kernel
theorem dX5_reprint_64 : decode cX5_reprint 64 = .ok (.iadd, 1) := by decide +kernel
theorem dX5_reprint_65 : decode cX5_reprint 65 = .ok (.istore 5, 2) := by decide +kernel
theorem dX5_reprint_67 : decode cX5_reprint 67 = .ok (.iinc 6 1, 3) := by decide +kernel
theorem dX5_reprint_70 : decode cX5_reprint 70 = .ok (.goto (-44), 3) := by decide +kernel
theorem dX5_reprint_73 : decode cX5_reprint 73 = .ok (.iload 5, 2) := by decide +kernel
theorem dX5_reprint_75 : decode cX5_reprint 75 = .ok (.ireturn, 1) := by decide +kernel
theorem dX5_copies_0 : decode cX5_copies 0 = .ok (.aload_n 0, 1) := by decide +kernel
theorem dX5_copies_1 : decode cX5_copies 1 = .ok (.iload_n 1, 1) := by decide +kernel
theorem dX5_copies_2 : decode cX5_copies 2 = .ok (.invokevirtual 122, 3) := by decide +kernel
theorem dX5_copies_5 : decode cX5_copies 5 = .ok (.iload_n 2, 1) := by decide +kernel
theorem dX5_copies_6 : decode cX5_copies 6 = .ok (.invokestatic 141, 3) := by decide +kernel
theorem dX5_copies_9 : decode cX5_copies 9 = .ok (.getfield 138, 3) := by decide +kernel
theorem dX5_copies_12 : decode cX5_copies 12 = .ok (.ireturn, 1) := by decide +kernel
theorem dX5_documents_0 : decode cX5_documents 0 = .ok (.aload_n 0, 1) := by decide +kernel
theorem dX5_documents_1 : decode cX5_documents 1 = .ok (.getfield 42, 3) := by decide +kernel
theorem dX5_documents_4 : decode cX5_documents 4 = .ok (.invokevirtual 85, 3) := by decide +kernel
theorem dX5_documents_7 : decode cX5_documents 7 = .ok (.ireturn, 1) := by decide +kernel
theorem dX5_isThere_0 : decode cX5_isThere 0 = .ok (.aload_n 0, 1) := by decide +kernel
theorem dX5_isThere_1 : decode cX5_isThere 1 = .ok (.iload_n 1, 1) := by decide +kernel
theorem dX5_isThere_2 : decode cX5_isThere 2 = .ok (.invokevirtual 145, 3) := by decide +kernel
theorem dX5_isThere_5 : decode cX5_isThere 5 = .ok (.getfield 149, 3) := by decide +kernel
theorem dX5_isThere_8 : decode cX5_isThere 8 = .ok (.ifCond .ne 7, 3) := by decide +kernel
theorem dX5_isThere_11 : decode cX5_isThere 11 = .ok (.iconst 1, 1) := by decide +kernel
theorem dX5_isThere_12 : decode cX5_isThere 12 = .ok (.goto 4, 3) := by decide +kernel
theorem dX5_isThere_15 : decode cX5_isThere 15 = .ok (.iconst 0, 1) := by decide +kernel
theorem dX5_isThere_16 : decode cX5_isThere 16 = .ok (.ireturn, 1) := by decide +kernel
theorem dX5_account_0 : decode cX5_account 0 = .ok (.aload_n 0, 1) := by decide +kernel
theorem dX5_account_1 : decode cX5_account 1 = .ok (.iload_n 1, 1) := by decide +kernel
theorem dX5_account_2 : decode cX5_account 2 = .ok (.invokevirtual 145, 3) := by decide +kernel
theorem dX5_account_5 : decode cX5_account 5 = .ok (.getfield 155, 3) := by decide +kernel
theorem dX5_account_8 : decode cX5_account 8 = .ok (.ireturn, 1) := by decide +kernel
theorem dX5_kind_0 : decode cX5_kind 0 = .ok (.aload_n 0, 1) := by decide +kernel
theorem dX5_kind_1 : decode cX5_kind 1 = .ok (.iload_n 1, 1) := by decide +kernel
theorem dX5_kind_2 : decode cX5_kind 2 = .ok (.invokevirtual 145, 3) := by decide +kernel
theorem dX5_kind_5 : decode cX5_kind 5 = .ok (.getfield 158, 3) := by decide +kernel
theorem dX5_kind_8 : decode cX5_kind 8 = .ok (.ireturn, 1) := by decide +kernel
theorem dX5_length_0 : decode cX5_length 0 = .ok (.aload_n 0, 1) := by decide +kernel
theorem dX5_length_1 : decode cX5_length 1 = .ok (.iload_n 1, 1) := by decide +kernel
theorem dX5_length_2 : decode cX5_length 2 = .ok (.invokevirtual 145, 3) := by decide +kernel
theorem dX5_length_5 : decode cX5_length 5 = .ok (.getfield 161, 3) := by decide +kernel
theorem dX5_length_8 : decode cX5_length 8 = .ok (.ireturn, 1) := by decide +kernel
theorem dX5_found_0 : decode cX5_found 0 = .ok (.aload_n 0, 1) := by decide +kernel
theorem dX5_found_1 : decode cX5_found 1 = .ok (.iload_n 1, 1) := by decide +kernel
theorem dX5_found_2 : decode cX5_found 2 = .ok (.invokevirtual 164, 3) := by decide +kernel
theorem dX5_found_5 : decode cX5_found 5 = .ok (.astore 6, 2) := by decide +kernel
theorem dX5_found_7 : decode cX5_found 7 = .ok (.iload_n 2, 1) := by decide +kernel
theorem dX5_found_8 : decode cX5_found 8 = .ok (.iconst (-1), 1) := by decide +kernel
theorem dX5_found_9 : decode cX5_found 9 = .ok (.bipush 99, 2) := by decide +kernel
theorem dX5_found_11 : decode cX5_found 11 = .ok (.invokestatic 71, 3) := by decide +kernel
theorem dX5_found_14 : decode cX5_found 14 = .ok (.iload_n 3, 1) := by decide +kernel
theorem dX5_found_15 : decode cX5_found 15 = .ok (.iconst (-1), 1) := by decide +kernel
theorem dX5_found_16 : decode cX5_found 16 = .ok (.iconst 3, 1) := by decide +kernel
theorem dX5_found_17 : decode cX5_found 17 = .ok (.invokestatic 71, 3) := by decide +kernel
theorem dX5_found_20 : decode cX5_found 20 = .ok (.iload 4, 2) := by decide +kernel
theorem dX5_found_22 : decode cX5_found 22 = .ok (.iconst 0, 1) := by decide +kernel
theorem dX5_found_23 : decode cX5_found 23 = .ok (.sipush 9999, 3) := by decide +kernel
theorem dX5_found_26 : decode cX5_found 26 = .ok (.invokestatic 71, 3) := by decide +kernel
theorem dX5_found_29 : decode cX5_found 29 = .ok (.iconst 0, 1) := by decide +kernel
theorem dX5_found_30 : decode cX5_found 30 = .ok (.istore 7, 2) := by decide +kernel
theorem dX5_found_32 : decode cX5_found 32 = .ok (.iconst 0, 1) := by decide +kernel
theorem dX5_found_33 : decode cX5_found 33 = .ok (.istore 8, 2) := by decide +kernel
theorem dX5_found_35 : decode cX5_found 35 = .ok (.iload 8, 2) := by decide +kernel
theorem dX5_found_37 : decode cX5_found 37 = .ok (.aload_n 0, 1) := by decide +kernel
theorem dX5_found_38 : decode cX5_found 38 = .ok (.getfield 42, 3) := by decide +kernel
theorem dX5_found_41 : decode cX5_found 41 = .ok (.invokevirtual 85, 3) := by decide +kernel
theorem dX5_found_44 : decode cX5_found 44 = .ok (.if_icmp .ge 58, 3) := by decide +kernel
theorem dX5_found_47 : decode cX5_found 47 = .ok (.aload_n 0, 1) := by decide +kernel
theorem dX5_found_48 : decode cX5_found 48 = .ok (.getfield 42, 3) := by decide +kernel
theorem dX5_found_51 : decode cX5_found 51 = .ok (.iload 8, 2) := by decide +kernel
theorem dX5_found_53 : decode cX5_found 53 = .ok (.invokevirtual 126, 3) := by decide +kernel
theorem dX5_found_56 : decode cX5_found 56 = .ok (.checkcast 150, 3) := by decide +kernel
theorem dX5_found_59 : decode cX5_found 59 = .ok (.astore 9, 2) := by decide +kernel
theorem dX5_found_61 : decode cX5_found 61 = .ok (.aload 6, 2) := by decide +kernel
theorem dX5_found_63 : decode cX5_found 63 = .ok (.aload 9, 2) := by decide +kernel
theorem dX5_found_65 : decode cX5_found 65 = .ok (.invokevirtual 168, 3) := by decide +kernel
theorem dX5_found_68 : decode cX5_found 68 = .ok (.ifCond .eq 28, 3) := by decide +kernel
theorem dX5_found_71 : decode cX5_found 71 = .ok (.aload 9, 2) := by decide +kernel
theorem dX5_found_73 : decode cX5_found 73 = .ok (.iload_n 2, 1) := by decide +kernel
theorem dX5_found_74 : decode cX5_found 74 = .ok (.iload_n 3, 1) := by decide +kernel
theorem dX5_found_75 : decode cX5_found 75 = .ok (.iload 4, 2) := by decide +kernel
theorem dX5_found_77 : decode cX5_found 77 = .ok (.invokevirtual 172, 3) := by decide +kernel
theorem dX5_found_80 : decode cX5_found 80 = .ok (.ifCond .eq 16, 3) := by decide +kernel
theorem dX5_found_83 : decode cX5_found 83 = .ok (.iload 7, 2) := by decide +kernel
theorem dX5_found_85 : decode cX5_found 85 = .ok (.iload 5, 2) := by decide +kernel
theorem dX5_found_87 : decode cX5_found 87 = .ok (.if_icmp .ne 6, 3) := by decide +kernel
theorem dX5_found_90 : decode cX5_found 90 = .ok (.iload 8, 2) := by decide +kernel
theorem dX5_found_92 : decode cX5_found 92 = .ok (.ireturn, 1) := by decide +kernel
theorem dX5_found_93 : decode cX5_found 93 = .ok (.iinc 7 1, 3) := by decide +kernel
theorem dX5_found_96 : decode cX5_found 96 = .ok (.iinc 8 1, 3) := by decide +kernel
theorem dX5_found_99 : decode cX5_found 99 = .ok (.goto (-64), 3) := by decide +kernel
theorem dX5_found_102 : decode cX5_found 102 = .ok (.new 176, 3) := by decide +kernel
theorem dX5_found_105 : decode cX5_found 105 = .ok (.dup, 1) := by decide +kernel
theorem dX5_found_106 : decode cX5_found 106 = .ok (.ldc 178, 2) := by decide +kernel
theorem dX5_found_108 : decode cX5_found 108 = .ok (.invokespecial 180, 3) := by decide +kernel
theorem dX5_found_111 : decode cX5_found 111 = .ok (.athrow, 1) := by decide +kernel
theorem dX5_read_0 : decode cX5_read 0 = .ok (.aload_n 0, 1) := by decide +kernel
theorem dX5_read_1 : decode cX5_read 1 = .ok (.iload_n 1, 1) := by decide +kernel
theorem dX5_read_2 : decode cX5_read 2 = .ok (.invokevirtual 164, 3) := by decide +kernel
theorem dX5_read_5 : decode cX5_read 5 = .ok (.astore 5, 2) := by decide +kernel
theorem dX5_read_7 : decode cX5_read 7 = .ok (.aload_n 0, 1) := by decide +kernel
theorem dX5_read_8 : decode cX5_read 8 = .ok (.iload_n 2, 1) := by decide +kernel
theorem dX5_read_9 : decode cX5_read 9 = .ok (.invokevirtual 145, 3) := by decide +kernel
theorem dX5_read_12 : decode cX5_read 12 = .ok (.astore 6, 2) := by decide +kernel
theorem dX5_read_14 : decode cX5_read 14 = .ok (.aload 6, 2) := by decide +kernel
theorem dX5_read_16 : decode cX5_read 16 = .ok (.iload_n 3, 1) := by decide +kernel
theorem dX5_read_17 : decode cX5_read 17 = .ok (.invokestatic 181, 3) := by decide +kernel
theorem dX5_read_20 : decode cX5_read 20 = .ok (.astore 7, 2) := by decide +kernel
theorem dX5_read_22 : decode cX5_read 22 = .ok (.aload 7, 2) := by decide +kernel
theorem dX5_read_24 : decode cX5_read 24 = .ok (.iload 4, 2) := by decide +kernel
theorem dX5_read_26 : decode cX5_read 26 = .ok (.invokevirtual 185, 3) := by decide +kernel
theorem dX5_read_29 : decode cX5_read 29 = .ok (.ifCond .ne 13, 3) := by decide +kernel
theorem dX5_read_32 : decode cX5_read 32 = .ok (.new 176, 3) := by decide +kernel
theorem dX5_read_35 : decode cX5_read 35 = .ok (.dup, 1) := by decide +kernel
theorem dX5_read_36 : decode cX5_read 36 = .ok (.ldc 188, 2) := by decide +kernel
theorem dX5_read_38 : decode cX5_read 38 = .ok (.invokespecial 180, 3) := by decide +kernel
theorem dX5_read_41 : decode cX5_read 41 = .ok (.athrow, 1) := by decide +kernel
theorem dX5_read_42 : decode cX5_read 42 = .ok (.aload 5, 2) := by decide +kernel
theorem dX5_read_44 : decode cX5_read 44 = .ok (.aload 6, 2) := by decide +kernel
theorem dX5_read_46 : decode cX5_read 46 = .ok (.invokevirtual 168, 3) := by decide +kernel
theorem dX5_read_49 : decode cX5_read 49 = .ok (.ifCond .ne 13, 3) := by decide +kernel
theorem dX5_read_52 : decode cX5_read 52 = .ok (.new 190, 3) := by decide +kernel
theorem dX5_read_55 : decode cX5_read 55 = .ok (.dup, 1) := by decide +kernel
theorem dX5_read_56 : decode cX5_read 56 = .ok (.ldc 192, 2) := by decide +kernel
theorem dX5_read_58 : decode cX5_read 58 = .ok (.invokespecial 194, 3) := by decide +kernel
theorem dX5_read_61 : decode cX5_read 61 = .ok (.athrow, 1) := by decide +kernel
theorem dX5_read_62 : decode cX5_read 62 = .ok (.iload 4, 2) := by decide +kernel
theorem dX5_read_64 : decode cX5_read 64 = .ok (.aload 5, 2) := by decide +kernel
theorem dX5_read_66 : decode cX5_read 66 = .ok (.getfield 195, 3) := by decide +kernel
theorem dX5_read_69 : decode cX5_read 69 = .ok (.if_icmp .ne 7, 3) := by decide +kernel
theorem dX5_read_72 : decode cX5_read 72 = .ok (.iconst (-1), 1) := by decide +kernel
theorem dX5_read_73 : decode cX5_read 73 = .ok (.goto 10, 3) := by decide +kernel
theorem dX5_read_76 : decode cX5_read 76 = .ok (.aload 7, 2) := by decide +kernel
theorem dX5_read_78 : decode cX5_read 78 = .ok (.iload 4, 2) := by decide +kernel
theorem dX5_read_80 : decode cX5_read 80 = .ok (.invokevirtual 198, 3) := by decide +kernel
theorem dX5_read_83 : decode cX5_read 83 = .ok (.ireturn, 1) := by decide +kernel
theorem dX5_view_0 : decode cX5_view 0 = .ok (.aload_n 0, 1) := by decide +kernel
theorem dX5_view_1 : decode cX5_view 1 = .ok (.iload_n 1, 1) := by decide +kernel
theorem dX5_view_2 : decode cX5_view 2 = .ok (.invokevirtual 164, 3) := by decide +kernel
theorem dX5_view_5 : decode cX5_view 5 = .ok (.astore 5, 2) := by decide +kernel
theorem dX5_view_7 : decode cX5_view 7 = .ok (.iload_n 2, 1) := by decide +kernel
theorem dX5_view_8 : decode cX5_view 8 = .ok (.iconst 0, 1) := by decide +kernel
theorem dX5_view_9 : decode cX5_view 9 = .ok (.bipush 99, 2) := by decide +kernel
theorem dX5_view_11 : decode cX5_view 11 = .ok (.invokestatic 71, 3) := by decide +kernel
theorem dX5_view_14 : decode cX5_view 14 = .ok (.iload_n 3, 1) := by decide +kernel
theorem dX5_view_15 : decode cX5_view 15 = .ok (.iload_n 2, 1) := by decide +kernel
theorem dX5_view_16 : decode cX5_view 16 = .ok (.bipush 99, 2) := by decide +kernel
theorem dX5_view_18 : decode cX5_view 18 = .ok (.invokestatic 71, 3) := by decide +kernel
theorem dX5_view_21 : decode cX5_view 21 = .ok (.iload 4, 2) := by decide +kernel
theorem dX5_view_23 : decode cX5_view 23 = .ok (.iconst (-1), 1) := by decide +kernel
theorem dX5_view_24 : decode cX5_view 24 = .ok (.bipush 7, 2) := by decide +kernel
theorem dX5_view_26 : decode cX5_view 26 = .ok (.invokestatic 71, 3) := by decide +kernel
theorem dX5_view_29 : decode cX5_view 29 = .ok (.aload 5, 2) := by decide +kernel
theorem dX5_view_31 : decode cX5_view 31 = .ok (.iload_n 2, 1) := by decide +kernel
theorem dX5_view_32 : decode cX5_view 32 = .ok (.putfield 202, 3) := by decide +kernel
theorem dX5_view_35 : decode cX5_view 35 = .ok (.aload 5, 2) := by decide +kernel
theorem dX5_view_37 : decode cX5_view 37 = .ok (.iload_n 3, 1) := by decide +kernel
theorem dX5_view_38 : decode cX5_view 38 = .ok (.putfield 205, 3) := by decide +kernel
theorem dX5_view_41 : decode cX5_view 41 = .ok (.aload 5, 2) := by decide +kernel
theorem dX5_view_43 : decode cX5_view 43 = .ok (.iload 4, 2) := by decide +kernel
theorem dX5_view_45 : decode cX5_view 45 = .ok (.putfield 195, 3) := by decide +kernel
theorem dX5_view_48 : decode cX5_view 48 = .ok (.return_, 1) := by decide +kernel
theorem dX5_span_0 : decode cX5_span 0 = .ok (.aload_n 0, 1) := by decide +kernel
theorem dX5_span_1 : decode cX5_span 1 = .ok (.iload_n 1, 1) := by decide +kernel
theorem dX5_span_2 : decode cX5_span 2 = .ok (.invokevirtual 208, 3) := by decide +kernel
theorem dX5_span_5 : decode cX5_span 5 = .ok (.ifCond .ne 13, 3) := by decide +kernel
theorem dX5_span_8 : decode cX5_span 8 = .ok (.new 211, 3) := by decide +kernel
theorem dX5_span_11 : decode cX5_span 11 = .ok (.dup, 1) := by decide +kernel
theorem dX5_span_12 : decode cX5_span 12 = .ok (.ldc 213, 2) := by decide +kernel
theorem dX5_span_14 : decode cX5_span 14 = .ok (.invokespecial 215, 3) := by decide +kernel
theorem dX5_span_17 : decode cX5_span 17 = .ok (.athrow, 1) := by decide +kernel
theorem dX5_span_18 : decode cX5_span 18 = .ok (.iload_n 2, 1) := by decide +kernel
theorem dX5_span_19 : decode cX5_span 19 = .ok (.iconst 0, 1) := by decide +kernel
theorem dX5_span_20 : decode cX5_span 20 = .ok (.sipush 9999, 3) := by decide +kernel
theorem dX5_span_23 : decode cX5_span 23 = .ok (.invokestatic 71, 3) := by decide +kernel
theorem dX5_span_26 : decode cX5_span 26 = .ok (.aload_n 0, 1) := by decide +kernel
theorem dX5_span_27 : decode cX5_span 27 = .ok (.getfield 48, 3) := by decide +kernel
theorem dX5_span_30 : decode cX5_span 30 = .ok (.iload_n 1, 1) := by decide +kernel
theorem dX5_span_31 : decode cX5_span 31 = .ok (.iaload, 1) := by decide +kernel
theorem dX5_span_32 : decode cX5_span 32 = .ok (.istore_n 3, 1) := by decide +kernel
theorem dX5_span_33 : decode cX5_span 33 = .ok (.aload_n 0, 1) := by decide +kernel
theorem dX5_span_34 : decode cX5_span 34 = .ok (.getfield 48, 3) := by decide +kernel
theorem dX5_span_37 : decode cX5_span 37 = .ok (.iload_n 1, 1) := by decide +kernel
theorem dX5_span_38 : decode cX5_span 38 = .ok (.iload_n 2, 1) := by decide +kernel
theorem dX5_span_39 : decode cX5_span 39 = .ok (.iastore, 1) := by decide +kernel
theorem dX5_span_40 : decode cX5_span 40 = .ok (.iload_n 3, 1) := by decide +kernel
theorem dX5_span_41 : decode cX5_span 41 = .ok (.ireturn, 1) := by decide +kernel
theorem dX5_hold_0 : decode cX5_hold 0 = .ok (.aload_n 0, 1) := by decide +kernel
theorem dX5_hold_1 : decode cX5_hold 1 = .ok (.iload_n 1, 1) := by decide +kernel
theorem dX5_hold_2 : decode cX5_hold 2 = .ok (.invokevirtual 216, 3) := by decide +kernel
theorem dX5_hold_5 : decode cX5_hold 5 = .ok (.ifCond .ne 13, 3) := by decide +kernel
theorem dX5_hold_8 : decode cX5_hold 8 = .ok (.new 211, 3) := by decide +kernel
theorem dX5_hold_11 : decode cX5_hold 11 = .ok (.dup, 1) := by decide +kernel
theorem dX5_hold_12 : decode cX5_hold 12 = .ok (.ldc 219, 2) := by decide +kernel
theorem dX5_hold_14 : decode cX5_hold 14 = .ok (.invokespecial 215, 3) := by decide +kernel
theorem dX5_hold_17 : decode cX5_hold 17 = .ok (.athrow, 1) := by decide +kernel
theorem dX5_hold_18 : decode cX5_hold 18 = .ok (.aload_n 0, 1) := by decide +kernel
theorem dX5_hold_19 : decode cX5_hold 19 = .ok (.getfield 52, 3) := by decide +kernel
theorem dX5_hold_22 : decode cX5_hold 22 = .ok (.iload_n 1, 1) := by decide +kernel
theorem dX5_hold_23 : decode cX5_hold 23 = .ok (.baload, 1) := by decide +kernel
theorem dX5_hold_24 : decode cX5_hold 24 = .ok (.istore_n 3, 1) := by decide +kernel
theorem dX5_hold_25 : decode cX5_hold 25 = .ok (.aload_n 0, 1) := by decide +kernel
theorem dX5_hold_26 : decode cX5_hold 26 = .ok (.getfield 52, 3) := by decide +kernel
theorem dX5_hold_29 : decode cX5_hold 29 = .ok (.iload_n 1, 1) := by decide +kernel
theorem dX5_hold_30 : decode cX5_hold 30 = .ok (.iload_n 2, 1) := by decide +kernel
theorem dX5_hold_31 : decode cX5_hold 31 = .ok (.bastore, 1) := by decide +kernel
theorem dX5_hold_32 : decode cX5_hold 32 = .ok (.iload_n 3, 1) := by decide +kernel
theorem dX5_hold_33 : decode cX5_hold 33 = .ok (.ireturn, 1) := by decide +kernel
theorem dX5_clear_0 : decode cX5_clear 0 = .ok (.iconst 0, 1) := by decide +kernel
theorem dX5_clear_1 : decode cX5_clear 1 = .ok (.istore_n 1, 1) := by decide +kernel
theorem dX5_clear_2 : decode cX5_clear 2 = .ok (.iconst 0, 1) := by decide +kernel
theorem dX5_clear_3 : decode cX5_clear 3 = .ok (.istore_n 2, 1) := by decide +kernel
theorem dX5_clear_4 : decode cX5_clear 4 = .ok (.iload_n 2, 1) := by decide +kernel
theorem dX5_clear_5 : decode cX5_clear 5 = .ok (.aload_n 0, 1) := by decide +kernel
theorem dX5_clear_6 : decode cX5_clear 6 = .ok (.getfield 42, 3) := by decide +kernel
theorem dX5_clear_9 : decode cX5_clear 9 = .ok (.invokevirtual 85, 3) := by decide +kernel
theorem dX5_clear_12 : decode cX5_clear 12 = .ok (.if_icmp .ge 52, 3) := by decide +kernel
theorem dX5_clear_15 : decode cX5_clear 15 = .ok (.aload_n 0, 1) := by decide +kernel
theorem dX5_clear_16 : decode cX5_clear 16 = .ok (.getfield 42, 3) := by decide +kernel
theorem dX5_clear_19 : decode cX5_clear 19 = .ok (.iload_n 2, 1) := by decide +kernel
theorem dX5_clear_20 : decode cX5_clear 20 = .ok (.invokevirtual 126, 3) := by decide +kernel
theorem dX5_clear_23 : decode cX5_clear 23 = .ok (.checkcast 150, 3) := by decide +kernel
theorem dX5_clear_26 : decode cX5_clear 26 = .ok (.astore_n 3, 1) := by decide +kernel
theorem dX5_clear_27 : decode cX5_clear 27 = .ok (.aload_n 3, 1) := by decide +kernel
theorem dX5_clear_28 : decode cX5_clear 28 = .ok (.getfield 149, 3) := by decide +kernel
theorem dX5_clear_31 : decode cX5_clear 31 = .ok (.ifCond .ne 27, 3) := by decide +kernel
theorem dX5_clear_34 : decode cX5_clear 34 = .ok (.aload_n 0, 1) := by decide +kernel
theorem dX5_clear_35 : decode cX5_clear 35 = .ok (.aload_n 3, 1) := by decide +kernel
theorem dX5_clear_36 : decode cX5_clear 36 = .ok (.invokevirtual 221, 3) := by decide +kernel
theorem dX5_clear_39 : decode cX5_clear 39 = .ok (.ifCond .eq 19, 3) := by decide +kernel
theorem dX5_clear_42 : decode cX5_clear 42 = .ok (.aload_n 0, 1) := by decide +kernel
theorem dX5_clear_43 : decode cX5_clear 43 = .ok (.aload_n 3, 1) := by decide +kernel
theorem dX5_clear_44 : decode cX5_clear 44 = .ok (.invokevirtual 224, 3) := by decide +kernel
theorem dX5_clear_47 : decode cX5_clear 47 = .ok (.ifCond .ne 11, 3) := by decide +kernel
theorem dX5_clear_50 : decode cX5_clear 50 = .ok (.aload_n 3, 1) := by decide +kernel
theorem dX5_clear_51 : decode cX5_clear 51 = .ok (.iconst 1, 1) := by decide +kernel
theorem dX5_clear_52 : decode cX5_clear 52 = .ok (.putfield 149, 3) := by decide +kernel
theorem dX5_clear_55 : decode cX5_clear 55 = .ok (.iinc 1 1, 3) := by decide +kernel
theorem dX5_clear_58 : decode cX5_clear 58 = .ok (.iinc 2 1, 3) := by decide +kernel
theorem dX5_clear_61 : decode cX5_clear 61 = .ok (.goto (-57), 3) := by decide +kernel
theorem dX5_clear_64 : decode cX5_clear 64 = .ok (.iload_n 1, 1) := by decide +kernel
theorem dX5_clear_65 : decode cX5_clear 65 = .ok (.ireturn, 1) := by decide +kernel
theorem dX5_bundle_0 : decode cX5_bundle 0 = .ok (.aload_n 0, 1) := by decide +kernel
theorem dX5_bundle_1 : decode cX5_bundle 1 = .ok (.iload_n 1, 1) := by decide +kernel
theorem dX5_bundle_2 : decode cX5_bundle 2 = .ok (.invokevirtual 164, 3) := by decide +kernel
theorem dX5_bundle_5 : decode cX5_bundle 5 = .ok (.astore_n 3, 1) := by decide +kernel
theorem dX5_bundle_6 : decode cX5_bundle 6 = .ok (.iload_n 2, 1) := by decide +kernel
theorem dX5_bundle_7 : decode cX5_bundle 7 = .ok (.iconst 0, 1) := by decide +kernel
theorem dX5_bundle_8 : decode cX5_bundle 8 = .ok (.bipush 99, 2) := by decide +kernel
theorem dX5_bundle_10 : decode cX5_bundle 10 = .ok (.invokestatic 71, 3) := by decide +kernel
theorem dX5_bundle_13 : decode cX5_bundle 13 = .ok (.iconst 0, 1) := by decide +kernel
theorem dX5_bundle_14 : decode cX5_bundle 14 = .ok (.istore 4, 2) := by decide +kernel
theorem dX5_bundle_16 : decode cX5_bundle 16 = .ok (.iconst 0, 1) := by decide +kernel
theorem dX5_bundle_17 : decode cX5_bundle 17 = .ok (.istore 5, 2) := by decide +kernel
theorem dX5_bundle_19 : decode cX5_bundle 19 = .ok (.iload 5, 2) := by decide +kernel
theorem dX5_bundle_21 : decode cX5_bundle 21 = .ok (.aload_n 0, 1) := by decide +kernel
theorem dX5_bundle_22 : decode cX5_bundle 22 = .ok (.getfield 42, 3) := by decide +kernel
theorem dX5_bundle_25 : decode cX5_bundle 25 = .ok (.invokevirtual 85, 3) := by decide +kernel
theorem dX5_bundle_28 : decode cX5_bundle 28 = .ok (.if_icmp .ge 51, 3) := by decide +kernel
theorem dX5_bundle_31 : decode cX5_bundle 31 = .ok (.aload_n 0, 1) := by decide +kernel
theorem dX5_bundle_32 : decode cX5_bundle 32 = .ok (.getfield 42, 3) := by decide +kernel
theorem dX5_bundle_35 : decode cX5_bundle 35 = .ok (.iload 5, 2) := by decide +kernel
theorem dX5_bundle_37 : decode cX5_bundle 37 = .ok (.invokevirtual 126, 3) := by decide +kernel
theorem dX5_bundle_40 : decode cX5_bundle 40 = .ok (.checkcast 150, 3) := by decide +kernel
theorem dX5_bundle_43 : decode cX5_bundle 43 = .ok (.astore 6, 2) := by decide +kernel
theorem dX5_bundle_45 : decode cX5_bundle 45 = .ok (.aload 6, 2) := by decide +kernel
theorem dX5_bundle_47 : decode cX5_bundle 47 = .ok (.getfield 155, 3) := by decide +kernel
theorem dX5_bundle_50 : decode cX5_bundle 50 = .ok (.iload_n 2, 1) := by decide +kernel
theorem dX5_bundle_51 : decode cX5_bundle 51 = .ok (.if_icmp .ne 22, 3) := by decide +kernel
theorem dX5_bundle_54 : decode cX5_bundle 54 = .ok (.aload_n 3, 1) := by decide +kernel
theorem dX5_bundle_55 : decode cX5_bundle 55 = .ok (.aload 6, 2) := by decide +kernel
theorem dX5_bundle_57 : decode cX5_bundle 57 = .ok (.invokevirtual 168, 3) := by decide +kernel
theorem dX5_bundle_60 : decode cX5_bundle 60 = .ok (.ifCond .eq 13, 3) := by decide +kernel
theorem dX5_bundle_63 : decode cX5_bundle 63 = .ok (.iload 4, 2) := by decide +kernel
theorem dX5_bundle_65 : decode cX5_bundle 65 = .ok (.aload 6, 2) := by decide +kernel
theorem dX5_bundle_67 : decode cX5_bundle 67 = .ok (.getfield 161, 3) := by decide +kernel
theorem dX5_bundle_70 : decode cX5_bundle 70 = .ok (.iadd, 1) := by decide +kernel
theorem dX5_bundle_71 : decode cX5_bundle 71 = .ok (.istore 4, 2) := by decide +kernel
theorem dX5_bundle_73 : decode cX5_bundle 73 = .ok (.iinc 5 1, 3) := by decide +kernel
theorem dX5_bundle_76 : decode cX5_bundle 76 = .ok (.goto (-57), 3) := by decide +kernel
theorem dX5_bundle_79 : decode cX5_bundle 79 = .ok (.iload 4, 2) := by decide +kernel
theorem dX5_bundle_81 : decode cX5_bundle 81 = .ok (.ireturn, 1) := by decide +kernel
theorem dX5_demandRange_0 : decode cX5_demandRange 0 = .ok (.iload_n 0, 1) := by decide +kernel
theorem dX5_demandRange_1 : decode cX5_demandRange 1 = .ok (.iload_n 1, 1) := by decide +kernel
theorem dX5_demandRange_2 : decode cX5_demandRange 2 = .ok (.if_icmp .lt 8, 3) := by decide +kernel
theorem dX5_demandRange_5 : decode cX5_demandRange 5 = .ok (.iload_n 0, 1) := by decide +kernel
theorem dX5_demandRange_6 : decode cX5_demandRange 6 = .ok (.iload_n 2, 1) := by decide +kernel
theorem dX5_demandRange_7 : decode cX5_demandRange 7 = .ok (.if_icmp .le 13, 3) := by decide +kernel
theorem dX5_demandRange_10 : decode cX5_demandRange 10 = .ok (.new 211, 3) := by decide +kernel
theorem dX5_demandRange_13 : decode cX5_demandRange 13 = .ok (.dup, 1) := by decide +kernel
theorem dX5_demandRange_14 : decode cX5_demandRange 14 = .ok (.ldc 227, 2) := by decide +kernel
theorem dX5_demandRange_16 : decode cX5_demandRange 16 = .ok (.invokespecial 215, 3) := by decide +kernel
theorem dX5_demandRange_19 : decode cX5_demandRange 19 = .ok (.athrow, 1) := by decide +kernel
theorem dX5_demandRange_20 : decode cX5_demandRange 20 = .ok (.return_, 1) := by decide +kernel
theorem dX5_demandPage_0 : decode cX5_demandPage 0 = .ok (.iload_n 1, 1) := by decide +kernel
theorem dX5_demandPage_1 : decode cX5_demandPage 1 = .ok (.ifCond .lt 14, 3) := by decide +kernel
theorem dX5_demandPage_4 : decode cX5_demandPage 4 = .ok (.iload_n 1, 1) := by decide +kernel
theorem dX5_demandPage_5 : decode cX5_demandPage 5 = .ok (.aload_n 0, 1) := by decide +kernel
theorem dX5_demandPage_6 : decode cX5_demandPage 6 = .ok (.getfield 103, 3) := by decide +kernel
theorem dX5_demandPage_9 : decode cX5_demandPage 9 = .ok (.invokevirtual 85, 3) := by decide +kernel
theorem dX5_demandPage_12 : decode cX5_demandPage 12 = .ok (.if_icmp .lt 13, 3) := by decide +kernel
theorem dX5_demandPage_15 : decode cX5_demandPage 15 = .ok (.new 176, 3) := by decide +kernel
theorem dX5_demandPage_18 : decode cX5_demandPage 18 = .ok (.dup, 1) := by decide +kernel
theorem dX5_demandPage_19 : decode cX5_demandPage 19 = .ok (.ldc 229, 2) := by decide +kernel
theorem dX5_demandPage_21 : decode cX5_demandPage 21 = .ok (.invokespecial 180, 3) := by decide +kernel
theorem dX5_demandPage_24 : decode cX5_demandPage 24 = .ok (.athrow, 1) := by decide +kernel
theorem dX5_demandPage_25 : decode cX5_demandPage 25 = .ok (.return_, 1) := by decide +kernel
theorem dX5_isKind_0 : decode cX5_isKind 0 = .ok (.iload_n 1, 1) := by decide +kernel
theorem dX5_isKind_1 : decode cX5_isKind 1 = .ok (.ifCond .lt 16, 3) := by decide +kernel
theorem dX5_isKind_4 : decode cX5_isKind 4 = .ok (.iload_n 1, 1) := by decide +kernel
theorem dX5_isKind_5 : decode cX5_isKind 5 = .ok (.aload_n 0, 1) := by decide +kernel
theorem dX5_isKind_6 : decode cX5_isKind 6 = .ok (.getfield 48, 3) := by decide +kernel
theorem dX5_isKind_9 : decode cX5_isKind 9 = .ok (.arraylength, 1) := by decide +kernel
theorem dX5_isKind_10 : decode cX5_isKind 10 = .ok (.if_icmp .ge 7, 3) := by decide +kernel
theorem dX5_isKind_13 : decode cX5_isKind 13 = .ok (.iconst 1, 1) := by decide +kernel
theorem dX5_isKind_14 : decode cX5_isKind 14 = .ok (.goto 4, 3) := by decide +kernel
theorem dX5_isKind_17 : decode cX5_isKind 17 = .ok (.iconst 0, 1) := by decide +kernel
theorem dX5_isKind_18 : decode cX5_isKind 18 = .ok (.ireturn, 1) := by decide +kernel
theorem dX5_isAccount_0 : decode cX5_isAccount 0 = .ok (.iload_n 1, 1) := by decide +kernel
theorem dX5_isAccount_1 : decode cX5_isAccount 1 = .ok (.ifCond .lt 16, 3) := by decide +kernel
theorem dX5_isAccount_4 : decode cX5_isAccount 4 = .ok (.iload_n 1, 1) := by decide +kernel
theorem dX5_isAccount_5 : decode cX5_isAccount 5 = .ok (.aload_n 0, 1) := by decide +kernel
theorem dX5_isAccount_6 : decode cX5_isAccount 6 = .ok (.getfield 52, 3) := by decide +kernel
theorem dX5_isAccount_9 : decode cX5_isAccount 9 = .ok (.arraylength, 1) := by decide +kernel
theorem dX5_isAccount_10 : decode cX5_isAccount 10 = .ok (.if_icmp .ge 7, 3) := by decide +kernel
theorem dX5_isAccount_13 : decode cX5_isAccount 13 = .ok (.iconst 1, 1) := by decide +kernel
theorem dX5_isAccount_14 : decode cX5_isAccount 14 = .ok (.goto 4, 3) := by decide +kernel
theorem dX5_isAccount_17 : decode cX5_isAccount 17 = .ok (.iconst 0, 1) := by decide +kernel
theorem dX5_isAccount_18 : decode cX5_isAccount 18 = .ok (.ireturn, 1) := by decide +kernel
theorem dX5_runAt_0 : decode cX5_runAt 0 = .ok (.iload_n 1, 1) := by decide +kernel
theorem dX5_runAt_1 : decode cX5_runAt 1 = .ok (.ifCond .lt 14, 3) := by decide +kernel
theorem dX5_runAt_4 : decode cX5_runAt 4 = .ok (.iload_n 1, 1) := by decide +kernel
theorem dX5_runAt_5 : decode cX5_runAt 5 = .ok (.aload_n 0, 1) := by decide +kernel
theorem dX5_runAt_6 : decode cX5_runAt 6 = .ok (.getfield 25, 3) := by decide +kernel
theorem dX5_runAt_9 : decode cX5_runAt 9 = .ok (.invokevirtual 85, 3) := by decide +kernel
theorem dX5_runAt_12 : decode cX5_runAt 12 = .ok (.if_icmp .lt 13, 3) := by decide +kernel
theorem dX5_runAt_15 : decode cX5_runAt 15 = .ok (.new 176, 3) := by decide +kernel
theorem dX5_runAt_18 : decode cX5_runAt 18 = .ok (.dup, 1) := by decide +kernel
theorem dX5_runAt_19 : decode cX5_runAt 19 = .ok (.ldc 231, 2) := by decide +kernel
theorem dX5_runAt_21 : decode cX5_runAt 21 = .ok (.invokespecial 180, 3) := by decide +kernel
theorem dX5_runAt_24 : decode cX5_runAt 24 = .ok (.athrow, 1) := by decide +kernel
theorem dX5_runAt_25 : decode cX5_runAt 25 = .ok (.aload_n 0, 1) := by decide +kernel
theorem dX5_runAt_26 : decode cX5_runAt 26 = .ok (.getfield 25, 3) := by decide +kernel
theorem dX5_runAt_29 : decode cX5_runAt 29 = .ok (.iload_n 1, 1) := by decide +kernel
theorem dX5_runAt_30 : decode cX5_runAt 30 = .ok (.invokevirtual 126, 3) := by decide +kernel
theorem dX5_runAt_33 : decode cX5_runAt 33 = .ok (.checkcast 28, 3) := by decide +kernel
theorem dX5_runAt_36 : decode cX5_runAt 36 = .ok (.areturn, 1) := by decide +kernel
theorem dX5_pageAt_0 : decode cX5_pageAt 0 = .ok (.aload_n 0, 1) := by decide +kernel
theorem dX5_pageAt_1 : decode cX5_pageAt 1 = .ok (.iload_n 1, 1) := by decide +kernel
theorem dX5_pageAt_2 : decode cX5_pageAt 2 = .ok (.invokestatic 134, 3) := by decide +kernel
theorem dX5_pageAt_5 : decode cX5_pageAt 5 = .ok (.aload_n 0, 1) := by decide +kernel
theorem dX5_pageAt_6 : decode cX5_pageAt 6 = .ok (.getfield 103, 3) := by decide +kernel
theorem dX5_pageAt_9 : decode cX5_pageAt 9 = .ok (.iload_n 1, 1) := by decide +kernel
theorem dX5_pageAt_10 : decode cX5_pageAt 10 = .ok (.invokevirtual 126, 3) := by decide +kernel
theorem dX5_pageAt_13 : decode cX5_pageAt 13 = .ok (.checkcast 35, 3) := by decide +kernel
theorem dX5_pageAt_16 : decode cX5_pageAt 16 = .ok (.areturn, 1) := by decide +kernel
theorem dX5_documentAt_0 : decode cX5_documentAt 0 = .ok (.iload_n 1, 1) := by decide +kernel
theorem dX5_documentAt_1 : decode cX5_documentAt 1 = .ok (.ifCond .lt 14, 3) := by decide +kernel
theorem dX5_documentAt_4 : decode cX5_documentAt 4 = .ok (.iload_n 1, 1) := by decide +kernel
theorem dX5_documentAt_5 : decode cX5_documentAt 5 = .ok (.aload_n 0, 1) := by decide +kernel
theorem dX5_documentAt_6 : decode cX5_documentAt 6 = .ok (.getfield 42, 3) := by decide +kernel
theorem dX5_documentAt_9 : decode cX5_documentAt 9 = .ok (.invokevirtual 85, 3) := by decide +kernel
theorem dX5_documentAt_12 : decode cX5_documentAt 12 = .ok (.if_icmp .lt 13, 3) := by decide +kernel
theorem dX5_documentAt_15 : decode cX5_documentAt 15 = .ok (.new 176, 3) := by decide +kernel
theorem dX5_documentAt_18 : decode cX5_documentAt 18 = .ok (.dup, 1) := by decide +kernel
theorem dX5_documentAt_19 : decode cX5_documentAt 19 = .ok (.ldc 233, 2) := by decide +kernel
theorem dX5_documentAt_21 : decode cX5_documentAt 21 = .ok (.invokespecial 180, 3) := by decide +kernel
theorem dX5_documentAt_24 : decode cX5_documentAt 24 = .ok (.athrow, 1) := by decide +kernel
theorem dX5_documentAt_25 : decode cX5_documentAt 25 = .ok (.aload_n 0, 1) := by decide +kernel
theorem dX5_documentAt_26 : decode cX5_documentAt 26 = .ok (.getfield 42, 3) := by decide +kernel
theorem dX5_documentAt_29 : decode cX5_documentAt 29 = .ok (.iload_n 1, 1) := by decide +kernel
theorem dX5_documentAt_30 : decode cX5_documentAt 30 = .ok (.invokevirtual 126, 3) := by decide +kernel
theorem dX5_documentAt_33 : decode cX5_documentAt 33 = .ok (.checkcast 150, 3) := by decide +kernel
theorem dX5_documentAt_36 : decode cX5_documentAt 36 = .ok (.areturn, 1) := by decide +kernel
theorem dX5_pageOf_0 : decode cX5_pageOf 0 = .ok (.iload_n 1, 1) := by decide +kernel
theorem dX5_pageOf_1 : decode cX5_pageOf 1 = .ok (.ifCond .lt 11, 3) := by decide +kernel
theorem dX5_pageOf_4 : decode cX5_pageOf 4 = .ok (.iload_n 1, 1) := by decide +kernel
theorem dX5_pageOf_5 : decode cX5_pageOf 5 = .ok (.aload_n 0, 1) := by decide +kernel
theorem dX5_pageOf_6 : decode cX5_pageOf 6 = .ok (.getfield 161, 3) := by decide +kernel
theorem dX5_pageOf_9 : decode cX5_pageOf 9 = .ok (.if_icmp .lt 13, 3) := by decide +kernel
theorem dX5_pageOf_12 : decode cX5_pageOf 12 = .ok (.new 176, 3) := by decide +kernel
theorem dX5_pageOf_15 : decode cX5_pageOf 15 = .ok (.dup, 1) := by decide +kernel
theorem dX5_pageOf_16 : decode cX5_pageOf 16 = .ok (.ldc 229, 2) := by decide +kernel
theorem dX5_pageOf_18 : decode cX5_pageOf 18 = .ok (.invokespecial 180, 3) := by decide +kernel
theorem dX5_pageOf_21 : decode cX5_pageOf 21 = .ok (.athrow, 1) := by decide +kernel
theorem dX5_pageOf_22 : decode cX5_pageOf 22 = .ok (.aload_n 0, 1) := by decide +kernel
theorem dX5_pageOf_23 : decode cX5_pageOf 23 = .ok (.getfield 235, 3) := by decide +kernel
theorem dX5_pageOf_26 : decode cX5_pageOf 26 = .ok (.aload_n 0, 1) := by decide +kernel
theorem dX5_pageOf_27 : decode cX5_pageOf 27 = .ok (.getfield 238, 3) := by decide +kernel
theorem dX5_pageOf_30 : decode cX5_pageOf 30 = .ok (.iload_n 1, 1) := by decide +kernel
theorem dX5_pageOf_31 : decode cX5_pageOf 31 = .ok (.iadd, 1) := by decide +kernel
theorem dX5_pageOf_32 : decode cX5_pageOf 32 = .ok (.invokestatic 141, 3) := by decide +kernel
theorem dX5_pageOf_35 : decode cX5_pageOf 35 = .ok (.areturn, 1) := by decide +kernel
theorem dX5_readerAt_0 : decode cX5_readerAt 0 = .ok (.iload_n 1, 1) := by decide +kernel
theorem dX5_readerAt_1 : decode cX5_readerAt 1 = .ok (.ifCond .lt 14, 3) := by decide +kernel
theorem dX5_readerAt_4 : decode cX5_readerAt 4 = .ok (.iload_n 1, 1) := by decide +kernel
theorem dX5_readerAt_5 : decode cX5_readerAt 5 = .ok (.aload_n 0, 1) := by decide +kernel
theorem dX5_readerAt_6 : decode cX5_readerAt 6 = .ok (.getfield 45, 3) := by decide +kernel
theorem dX5_readerAt_9 : decode cX5_readerAt 9 = .ok (.invokevirtual 85, 3) := by decide +kernel
theorem dX5_readerAt_12 : decode cX5_readerAt 12 = .ok (.if_icmp .lt 13, 3) := by decide +kernel
theorem dX5_readerAt_15 : decode cX5_readerAt 15 = .ok (.new 211, 3) := by decide +kernel
theorem dX5_readerAt_18 : decode cX5_readerAt 18 = .ok (.dup, 1) := by decide +kernel
theorem dX5_readerAt_19 : decode cX5_readerAt 19 = .ok (.ldc 241, 2) := by decide +kernel
theorem dX5_readerAt_21 : decode cX5_readerAt 21 = .ok (.invokespecial 215, 3) := by decide +kernel
theorem dX5_readerAt_24 : decode cX5_readerAt 24 = .ok (.athrow, 1) := by decide +kernel
theorem dX5_readerAt_25 : decode cX5_readerAt 25 = .ok (.aload_n 0, 1) := by decide +kernel
theorem dX5_readerAt_26 : decode cX5_readerAt 26 = .ok (.getfield 45, 3) := by decide +kernel
theorem dX5_readerAt_29 : decode cX5_readerAt 29 = .ok (.iload_n 1, 1) := by decide +kernel
theorem dX5_readerAt_30 : decode cX5_readerAt 30 = .ok (.invokevirtual 126, 3) := by decide +kernel
theorem dX5_readerAt_33 : decode cX5_readerAt 33 = .ok (.checkcast 56, 3) := by decide +kernel
theorem dX5_readerAt_36 : decode cX5_readerAt 36 = .ok (.areturn, 1) := by decide +kernel
theorem dX5_closePage_0 : decode cX5_closePage 0 = .ok (.aload_n 0, 1) := by decide +kernel
theorem dX5_closePage_1 : decode cX5_closePage 1 = .ok (.getfield 31, 3) := by decide +kernel
theorem dX5_closePage_4 : decode cX5_closePage 4 = .ok (.getfield 103, 3) := by decide +kernel
theorem dX5_closePage_7 : decode cX5_closePage 7 = .ok (.aload_n 0, 1) := by decide +kernel
theorem dX5_closePage_8 : decode cX5_closePage 8 = .ok (.getfield 38, 3) := by decide +kernel
theorem dX5_closePage_11 : decode cX5_closePage 11 = .ok (.invokevirtual 61, 3) := by decide +kernel
theorem dX5_closePage_14 : decode cX5_closePage 14 = .ok (.pop, 1) := by decide +kernel
theorem dX5_closePage_15 : decode cX5_closePage 15 = .ok (.aload_n 0, 1) := by decide +kernel
theorem dX5_closePage_16 : decode cX5_closePage 16 = .ok (.new 35, 3) := by decide +kernel
theorem dX5_closePage_19 : decode cX5_closePage 19 = .ok (.dup, 1) := by decide +kernel
theorem dX5_closePage_20 : decode cX5_closePage 20 = .ok (.invokespecial 37, 3) := by decide +kernel
theorem dX5_closePage_23 : decode cX5_closePage 23 = .ok (.putfield 38, 3) := by decide +kernel
theorem dX5_closePage_26 : decode cX5_closePage 26 = .ok (.return_, 1) := by decide +kernel
theorem dX5_keepOpenRun_0 : decode cX5_keepOpenRun 0 = .ok (.aload_n 0, 1) := by decide +kernel
theorem dX5_keepOpenRun_1 : decode cX5_keepOpenRun 1 = .ok (.getfield 31, 3) := by decide +kernel
theorem dX5_keepOpenRun_4 : decode cX5_keepOpenRun 4 = .ok (.aload_n 0, 1) := by decide +kernel
theorem dX5_keepOpenRun_5 : decode cX5_keepOpenRun 5 = .ok (.getfield 74, 3) := by decide +kernel
theorem dX5_keepOpenRun_8 : decode cX5_keepOpenRun 8 = .ok (.putfield 243, 3) := by decide +kernel
theorem dX5_keepOpenRun_11 : decode cX5_keepOpenRun 11 = .ok (.aload_n 0, 1) := by decide +kernel
theorem dX5_keepOpenRun_12 : decode cX5_keepOpenRun 12 = .ok (.getfield 25, 3) := by decide +kernel
theorem dX5_keepOpenRun_15 : decode cX5_keepOpenRun 15 = .ok (.aload_n 0, 1) := by decide +kernel
theorem dX5_keepOpenRun_16 : decode cX5_keepOpenRun 16 = .ok (.getfield 31, 3) := by decide +kernel
theorem dX5_keepOpenRun_19 : decode cX5_keepOpenRun 19 = .ok (.invokevirtual 61, 3) := by decide +kernel
theorem dX5_keepOpenRun_22 : decode cX5_keepOpenRun 22 = .ok (.pop, 1) := by decide +kernel
theorem dX5_keepOpenRun_23 : decode cX5_keepOpenRun 23 = .ok (.aload_n 0, 1) := by decide +kernel
theorem dX5_keepOpenRun_24 : decode cX5_keepOpenRun 24 = .ok (.dup, 1) := by decide +kernel
theorem dX5_keepOpenRun_25 : decode cX5_keepOpenRun 25 = .ok (.getfield 100, 3) := by decide +kernel
theorem dX5_keepOpenRun_28 : decode cX5_keepOpenRun 28 = .ok (.aload_n 0, 1) := by decide +kernel
theorem dX5_keepOpenRun_29 : decode cX5_keepOpenRun 29 = .ok (.getfield 31, 3) := by decide +kernel
theorem dX5_keepOpenRun_32 : decode cX5_keepOpenRun 32 = .ok (.getfield 103, 3) := by decide +kernel
theorem dX5_keepOpenRun_35 : decode cX5_keepOpenRun 35 = .ok (.invokevirtual 85, 3) := by decide +kernel
theorem dX5_keepOpenRun_38 : decode cX5_keepOpenRun 38 = .ok (.iadd, 1) := by decide +kernel
theorem dX5_keepOpenRun_39 : decode cX5_keepOpenRun 39 = .ok (.putfield 100, 3) := by decide +kernel
theorem dX5_keepOpenRun_42 : decode cX5_keepOpenRun 42 = .ok (.aload_n 0, 1) := by decide +kernel
theorem dX5_keepOpenRun_43 : decode cX5_keepOpenRun 43 = .ok (.aload_n 0, 1) := by decide +kernel
theorem dX5_keepOpenRun_44 : decode cX5_keepOpenRun 44 = .ok (.getfield 31, 3) := by decide +kernel
theorem dX5_keepOpenRun_47 : decode cX5_keepOpenRun 47 = .ok (.invokevirtual 244, 3) := by decide +kernel
theorem dX5_keepOpenRun_50 : decode cX5_keepOpenRun 50 = .ok (.aload_n 0, 1) := by decide +kernel
theorem dX5_keepOpenRun_51 : decode cX5_keepOpenRun 51 = .ok (.new 28, 3) := by decide +kernel
theorem dX5_keepOpenRun_54 : decode cX5_keepOpenRun 54 = .ok (.dup, 1) := by decide +kernel
theorem dX5_keepOpenRun_55 : decode cX5_keepOpenRun 55 = .ok (.invokespecial 30, 3) := by decide +kernel
theorem dX5_keepOpenRun_58 : decode cX5_keepOpenRun 58 = .ok (.putfield 31, 3) := by decide +kernel
theorem dX5_keepOpenRun_61 : decode cX5_keepOpenRun 61 = .ok (.return_, 1) := by decide +kernel
theorem dX5_putTogether_0 : decode cX5_putTogether 0 = .ok (.aload_n 0, 1) := by decide +kernel
theorem dX5_putTogether_1 : decode cX5_putTogether 1 = .ok (.aload_n 1, 1) := by decide +kernel
theorem dX5_putTogether_2 : decode cX5_putTogether 2 = .ok (.getfield 243, 3) := by decide +kernel
theorem dX5_putTogether_5 : decode cX5_putTogether 5 = .ok (.invokevirtual 248, 3) := by decide +kernel
theorem dX5_putTogether_8 : decode cX5_putTogether 8 = .ok (.astore_n 2, 1) := by decide +kernel
theorem dX5_putTogether_9 : decode cX5_putTogether 9 = .ok (.aconst_null, 1) := by decide +kernel
theorem dX5_putTogether_10 : decode cX5_putTogether 10 = .ok (.astore_n 3, 1) := by decide +kernel
theorem dX5_putTogether_11 : decode cX5_putTogether 11 = .ok (.iconst 0, 1) := by decide +kernel
theorem dX5_putTogether_12 : decode cX5_putTogether 12 = .ok (.istore 4, 2) := by decide +kernel
theorem dX5_putTogether_14 : decode cX5_putTogether 14 = .ok (.iload 4, 2) := by decide +kernel
theorem dX5_putTogether_16 : decode cX5_putTogether 16 = .ok (.aload_n 1, 1) := by decide +kernel
theorem dX5_putTogether_17 : decode cX5_putTogether 17 = .ok (.getfield 103, 3) := by decide +kernel
theorem dX5_putTogether_20 : decode cX5_putTogether 20 = .ok (.invokevirtual 85, 3) := by decide +kernel
theorem dX5_putTogether_23 : decode cX5_putTogether 23 = .ok (.if_icmp .ge 91, 3) := by decide +kernel
theorem dX5_putTogether_26 : decode cX5_putTogether 26 = .ok (.aload_n 1, 1) := by decide +kernel
theorem dX5_putTogether_27 : decode cX5_putTogether 27 = .ok (.getfield 103, 3) := by decide +kernel
theorem dX5_putTogether_30 : decode cX5_putTogether 30 = .ok (.iload 4, 2) := by decide +kernel
theorem dX5_putTogether_32 : decode cX5_putTogether 32 = .ok (.invokevirtual 126, 3) := by decide +kernel
theorem dX5_putTogether_35 : decode cX5_putTogether 35 = .ok (.checkcast 35, 3) := by decide +kernel
theorem dX5_putTogether_38 : decode cX5_putTogether 38 = .ok (.astore 5, 2) := by decide +kernel
theorem dX5_putTogether_40 : decode cX5_putTogether 40 = .ok (.aload 5, 2) := by decide +kernel
theorem dX5_putTogether_42 : decode cX5_putTogether 42 = .ok (.aload_n 2, 1) := by decide +kernel
theorem dX5_putTogether_43 : decode cX5_putTogether 43 = .ok (.getfield 252, 3) := by decide +kernel
theorem dX5_putTogether_46 : decode cX5_putTogether 46 = .ok (.invokevirtual 198, 3) := by decide +kernel
theorem dX5_putTogether_49 : decode cX5_putTogether 49 = .ok (.istore 6, 2) := by decide +kernel
theorem dX5_putTogether_51 : decode cX5_putTogether 51 = .ok (.aload_n 3, 1) := by decide +kernel
theorem dX5_putTogether_52 : decode cX5_putTogether 52 = .ok (.ifnull 18, 3) := by decide +kernel
theorem dX5_putTogether_55 : decode cX5_putTogether 55 = .ok (.iload 6, 2) := by decide +kernel
theorem dX5_putTogether_57 : decode cX5_putTogether 57 = .ok (.iconst (-1), 1) := by decide +kernel
theorem dX5_putTogether_58 : decode cX5_putTogether 58 = .ok (.if_icmp .eq 40, 3) := by decide +kernel
theorem dX5_putTogether_61 : decode cX5_putTogether 61 = .ok (.iload 6, 2) := by decide +kernel
theorem dX5_putTogether_63 : decode cX5_putTogether 63 = .ok (.aload_n 3, 1) := by decide +kernel
theorem dX5_putTogether_64 : decode cX5_putTogether 64 = .ok (.getfield 155, 3) := by decide +kernel
theorem dX5_putTogether_67 : decode cX5_putTogether 67 = .ok (.if_icmp .eq 31, 3) := by decide +kernel
theorem dX5_putTogether_70 : decode cX5_putTogether 70 = .ok (.new 150, 3) := by decide +kernel
theorem dX5_putTogether_73 : decode cX5_putTogether 73 = .ok (.dup, 1) := by decide +kernel
theorem dX5_putTogether_74 : decode cX5_putTogether 74 = .ok (.aload_n 1, 1) := by decide +kernel
theorem dX5_putTogether_75 : decode cX5_putTogether 75 = .ok (.iload 4, 2) := by decide +kernel
theorem dX5_putTogether_77 : decode cX5_putTogether 77 = .ok (.iload 6, 2) := by decide +kernel
theorem dX5_putTogether_79 : decode cX5_putTogether 79 = .ok (.aload 5, 2) := by decide +kernel
theorem dX5_putTogether_81 : decode cX5_putTogether 81 = .ok (.aload_n 2, 1) := by decide +kernel
theorem dX5_putTogether_82 : decode cX5_putTogether 82 = .ok (.invokestatic 255, 3) := by decide +kernel
theorem dX5_putTogether_85 : decode cX5_putTogether 85 = .ok (.invokespecial 259, 3) := by decide +kernel
theorem dX5_putTogether_88 : decode cX5_putTogether 88 = .ok (.astore_n 3, 1) := by decide +kernel
theorem dX5_putTogether_89 : decode cX5_putTogether 89 = .ok (.aload_n 0, 1) := by decide +kernel
theorem dX5_putTogether_90 : decode cX5_putTogether 90 = .ok (.getfield 42, 3) := by decide +kernel
theorem dX5_putTogether_93 : decode cX5_putTogether 93 = .ok (.aload_n 3, 1) := by decide +kernel
theorem dX5_putTogether_94 : decode cX5_putTogether 94 = .ok (.invokevirtual 61, 3) := by decide +kernel
theorem dX5_putTogether_97 : decode cX5_putTogether 97 = .ok (.pop, 1) := by decide +kernel
theorem dX5_putTogether_98 : decode cX5_putTogether 98 = .ok (.aload_n 3, 1) := by decide +kernel
theorem dX5_putTogether_99 : decode cX5_putTogether 99 = .ok (.dup, 1) := by decide +kernel
theorem dX5_putTogether_100 : decode cX5_putTogether 100 = .ok (.getfield 161, 3) := by decide +kernel
theorem dX5_putTogether_103 : decode cX5_putTogether 103 = .ok (.iconst 1, 1) := by decide +kernel
theorem dX5_putTogether_104 : decode cX5_putTogether 104 = .ok (.iadd, 1) := by decide +kernel
theorem dX5_putTogether_105 : decode cX5_putTogether 105 = .ok (.putfield 161, 3) := by decide +kernel
theorem dX5_putTogether_108 : decode cX5_putTogether 108 = .ok (.iinc 4 1, 3) := by decide +kernel
theorem dX5_putTogether_111 : decode cX5_putTogether 111 = .ok (.goto (-97), 3) := by decide +kernel
theorem dX5_putTogether_114 : decode cX5_putTogether 114 = .ok (.return_, 1) := by decide +kernel
theorem dX5_kindOf_0 : decode cX5_kindOf 0 = .ok (.aload_n 0, 1) := by decide +kernel
theorem dX5_kindOf_1 : decode cX5_kindOf 1 = .ok (.aload_n 1, 1) := by decide +kernel
theorem dX5_kindOf_2 : decode cX5_kindOf 2 = .ok (.getfield 262, 3) := by decide +kernel
theorem dX5_kindOf_5 : decode cX5_kindOf 5 = .ok (.invokevirtual 185, 3) := by decide +kernel
theorem dX5_kindOf_8 : decode cX5_kindOf 8 = .ok (.ifCond .eq 16, 3) := by decide +kernel
theorem dX5_kindOf_11 : decode cX5_kindOf 11 = .ok (.aload_n 0, 1) := by decide +kernel
theorem dX5_kindOf_12 : decode cX5_kindOf 12 = .ok (.aload_n 1, 1) := by decide +kernel
theorem dX5_kindOf_13 : decode cX5_kindOf 13 = .ok (.getfield 262, 3) := by decide +kernel
theorem dX5_kindOf_16 : decode cX5_kindOf 16 = .ok (.invokevirtual 198, 3) := by decide +kernel
theorem dX5_kindOf_19 : decode cX5_kindOf 19 = .ok (.iconst 4, 1) := by decide +kernel
theorem dX5_kindOf_20 : decode cX5_kindOf 20 = .ok (.irem, 1) := by decide +kernel
theorem dX5_kindOf_21 : decode cX5_kindOf 21 = .ok (.goto 4, 3) := by decide +kernel
theorem dX5_kindOf_24 : decode cX5_kindOf 24 = .ok (.iconst 0, 1) := by decide +kernel
theorem dX5_kindOf_25 : decode cX5_kindOf 25 = .ok (.ireturn, 1) := by decide +kernel
theorem dX5_formatOn_0 : decode cX5_formatOn 0 = .ok (.aload_n 0, 1) := by decide +kernel
theorem dX5_formatOn_1 : decode cX5_formatOn 1 = .ok (.getfield 14, 3) := by decide +kernel
theorem dX5_formatOn_4 : decode cX5_formatOn 4 = .ok (.astore_n 2, 1) := by decide +kernel
theorem dX5_formatOn_5 : decode cX5_formatOn 5 = .ok (.iconst 0, 1) := by decide +kernel
theorem dX5_formatOn_6 : decode cX5_formatOn 6 = .ok (.istore_n 3, 1) := by decide +kernel
theorem dX5_formatOn_7 : decode cX5_formatOn 7 = .ok (.iload_n 3, 1) := by decide +kernel
theorem dX5_formatOn_8 : decode cX5_formatOn 8 = .ok (.aload_n 0, 1) := by decide +kernel
theorem dX5_formatOn_9 : decode cX5_formatOn 9 = .ok (.getfield 21, 3) := by decide +kernel
theorem dX5_formatOn_12 : decode cX5_formatOn 12 = .ok (.invokevirtual 85, 3) := by decide +kernel
theorem dX5_formatOn_15 : decode cX5_formatOn 15 = .ok (.if_icmp .ge 46, 3) := by decide +kernel
theorem dX5_formatOn_18 : decode cX5_formatOn 18 = .ok (.aload_n 0, 1) := by decide +kernel
theorem dX5_formatOn_19 : decode cX5_formatOn 19 = .ok (.getfield 21, 3) := by decide +kernel
theorem dX5_formatOn_22 : decode cX5_formatOn 22 = .ok (.iload_n 3, 1) := by decide +kernel
theorem dX5_formatOn_23 : decode cX5_formatOn 23 = .ok (.invokevirtual 126, 3) := by decide +kernel
theorem dX5_formatOn_26 : decode cX5_formatOn 26 = .ok (.checkcast 9, 3) := by decide +kernel
theorem dX5_formatOn_29 : decode cX5_formatOn 29 = .ok (.astore 4, 2) := by decide +kernel
theorem dX5_formatOn_31 : decode cX5_formatOn 31 = .ok (.aload 4, 2) := by decide +kernel
theorem dX5_formatOn_33 : decode cX5_formatOn 33 = .ok (.getfield 265, 3) := by decide +kernel
theorem dX5_formatOn_36 : decode cX5_formatOn 36 = .ok (.iload_n 1, 1) := by decide +kernel
theorem dX5_formatOn_37 : decode cX5_formatOn 37 = .ok (.if_icmp .gt 18, 3) := by decide +kernel
theorem dX5_formatOn_40 : decode cX5_formatOn 40 = .ok (.aload 4, 2) := by decide +kernel
theorem dX5_formatOn_42 : decode cX5_formatOn 42 = .ok (.getfield 265, 3) := by decide +kernel
theorem dX5_formatOn_45 : decode cX5_formatOn 45 = .ok (.aload_n 2, 1) := by decide +kernel
theorem dX5_formatOn_46 : decode cX5_formatOn 46 = .ok (.getfield 265, 3) := by decide +kernel
theorem dX5_formatOn_49 : decode cX5_formatOn 49 = .ok (.if_icmp .lt 6, 3) := by decide +kernel
theorem dX5_formatOn_52 : decode cX5_formatOn 52 = .ok (.aload 4, 2) := by decide +kernel
theorem dX5_formatOn_54 : decode cX5_formatOn 54 = .ok (.astore_n 2, 1) := by decide +kernel
theorem dX5_formatOn_55 : decode cX5_formatOn 55 = .ok (.iinc 3 1, 3) := by decide +kernel
theorem dX5_formatOn_58 : decode cX5_formatOn 58 = .ok (.goto (-51), 3) := by decide +kernel
theorem dX5_formatOn_61 : decode cX5_formatOn 61 = .ok (.aload_n 2, 1) := by decide +kernel
theorem dX5_formatOn_62 : decode cX5_formatOn 62 = .ok (.areturn, 1) := by decide +kernel
theorem dX5_isOver_0 : decode cX5_isOver 0 = .ok (.aload_n 0, 1) := by decide +kernel
theorem dX5_isOver_1 : decode cX5_isOver 1 = .ok (.aload_n 1, 1) := by decide +kernel
theorem dX5_isOver_2 : decode cX5_isOver 2 = .ok (.getfield 158, 3) := by decide +kernel
theorem dX5_isOver_5 : decode cX5_isOver 5 = .ok (.invokevirtual 208, 3) := by decide +kernel
theorem dX5_isOver_8 : decode cX5_isOver 8 = .ok (.ifCond .eq 31, 3) := by decide +kernel
theorem dX5_isOver_11 : decode cX5_isOver 11 = .ok (.aload_n 0, 1) := by decide +kernel
theorem dX5_isOver_12 : decode cX5_isOver 12 = .ok (.getfield 74, 3) := by decide +kernel
theorem dX5_isOver_15 : decode cX5_isOver 15 = .ok (.aload_n 1, 1) := by decide +kernel
theorem dX5_isOver_16 : decode cX5_isOver 16 = .ok (.getfield 235, 3) := by decide +kernel
theorem dX5_isOver_19 : decode cX5_isOver 19 = .ok (.getfield 243, 3) := by decide +kernel
theorem dX5_isOver_22 : decode cX5_isOver 22 = .ok (.aload_n 0, 1) := by decide +kernel
theorem dX5_isOver_23 : decode cX5_isOver 23 = .ok (.getfield 48, 3) := by decide +kernel
theorem dX5_isOver_26 : decode cX5_isOver 26 = .ok (.aload_n 1, 1) := by decide +kernel
theorem dX5_isOver_27 : decode cX5_isOver 27 = .ok (.getfield 158, 3) := by decide +kernel
theorem dX5_isOver_30 : decode cX5_isOver 30 = .ok (.iaload, 1) := by decide +kernel
theorem dX5_isOver_31 : decode cX5_isOver 31 = .ok (.iadd, 1) := by decide +kernel
theorem dX5_isOver_32 : decode cX5_isOver 32 = .ok (.if_icmp .le 7, 3) := by decide +kernel
theorem dX5_isOver_35 : decode cX5_isOver 35 = .ok (.iconst 1, 1) := by decide +kernel
theorem dX5_isOver_36 : decode cX5_isOver 36 = .ok (.goto 4, 3) := by decide +kernel
theorem dX5_isOver_39 : decode cX5_isOver 39 = .ok (.iconst 0, 1) := by decide +kernel
theorem dX5_isOver_40 : decode cX5_isOver 40 = .ok (.ireturn, 1) := by decide +kernel
theorem dX5_isHeld_0 : decode cX5_isHeld 0 = .ok (.aload_n 0, 1) := by decide +kernel
theorem dX5_isHeld_1 : decode cX5_isHeld 1 = .ok (.aload_n 1, 1) := by decide +kernel
theorem dX5_isHeld_2 : decode cX5_isHeld 2 = .ok (.getfield 155, 3) := by decide +kernel
theorem dX5_isHeld_5 : decode cX5_isHeld 5 = .ok (.invokevirtual 216, 3) := by decide +kernel
theorem dX5_isHeld_8 : decode cX5_isHeld 8 = .ok (.ifCond .eq 19, 3) := by decide +kernel
theorem dX5_isHeld_11 : decode cX5_isHeld 11 = .ok (.aload_n 0, 1) := by decide +kernel
theorem dX5_isHeld_12 : decode cX5_isHeld 12 = .ok (.getfield 52, 3) := by decide +kernel
theorem dX5_isHeld_15 : decode cX5_isHeld 15 = .ok (.aload_n 1, 1) := by decide +kernel
theorem dX5_isHeld_16 : decode cX5_isHeld 16 = .ok (.getfield 155, 3) := by decide +kernel
theorem dX5_isHeld_19 : decode cX5_isHeld 19 = .ok (.baload, 1) := by decide +kernel
theorem dX5_isHeld_20 : decode cX5_isHeld 20 = .ok (.ifCond .eq 7, 3) := by decide +kernel
theorem dX5_isHeld_23 : decode cX5_isHeld 23 = .ok (.iconst 1, 1) := by decide +kernel
theorem dX5_isHeld_24 : decode cX5_isHeld 24 = .ok (.goto 4, 3) := by decide +kernel
theorem dX5_isHeld_27 : decode cX5_isHeld 27 = .ok (.iconst 0, 1) := by decide +kernel
theorem dX5_isHeld_28 : decode cX5_isHeld 28 = .ok (.ireturn, 1) := by decide +kernel
theorem dJ9_max_7cf53_0 : decode cJ9_max_7cf53 0 = .ok (.iload_n 0, 1) := by decide +kernel
theorem dJ9_max_7cf53_1 : decode cJ9_max_7cf53 1 = .ok (.iload_n 1, 1) := by decide +kernel
theorem dJ9_max_7cf53_2 : decode cJ9_max_7cf53 2 = .ok (.if_icmp .lt 7, 3) := by decide +kernel
theorem dJ9_max_7cf53_5 : decode cJ9_max_7cf53 5 = .ok (.iload_n 0, 1) := by decide +kernel
theorem dJ9_max_7cf53_6 : decode cJ9_max_7cf53 6 = .ok (.goto 4, 3) := by decide +kernel
theorem dJ9_max_7cf53_9 : decode cJ9_max_7cf53 9 = .ok (.iload_n 1, 1) := by decide +kernel
theorem dJ9_max_7cf53_10 : decode cJ9_max_7cf53 10 = .ok (.ireturn, 1) := by decide +kernel
theorem dJ9_min_7cf53_0 : decode cJ9_min_7cf53 0 = .ok (.iload_n 0, 1) := by decide +kernel
theorem dJ9_min_7cf53_1 : decode cJ9_min_7cf53 1 = .ok (.iload_n 1, 1) := by decide +kernel
theorem dJ9_min_7cf53_2 : decode cJ9_min_7cf53 2 = .ok (.if_icmp .gt 7, 3) := by decide +kernel
theorem dJ9_min_7cf53_5 : decode cJ9_min_7cf53 5 = .ok (.iload_n 0, 1) := by decide +kernel
theorem dJ9_min_7cf53_6 : decode cJ9_min_7cf53 6 = .ok (.goto 4, 3) := by decide +kernel
theorem dJ9_min_7cf53_9 : decode cJ9_min_7cf53 9 = .ok (.iload_n 1, 1) := by decide +kernel
theorem dJ9_min_7cf53_10 : decode cJ9_min_7cf53 10 = .ok (.ireturn, 1) := by decide +kernel
theorem dJxa1e45_init_da8c8_0 : decode cJxa1e45_init_da8c8 0 = .ok (.aload_n 0, 1) := by decide +kernel
theorem dJxa1e45_init_da8c8_1 : decode cJxa1e45_init_da8c8 1 = .ok (.invokespecial 1, 3) := by decide +kernel
theorem dJxa1e45_init_da8c8_4 : decode cJxa1e45_init_da8c8 4 = .ok (.return_, 1) := by decide +kernel
theorem dJxc12de_init_da8c8_0 : decode cJxc12de_init_da8c8 0 = .ok (.aload_n 0, 1) := by decide +kernel
theorem dJxc12de_init_da8c8_1 : decode cJxc12de_init_da8c8 1 = .ok (.invokespecial 1, 3) := by decide +kernel
theorem dJxc12de_init_da8c8_4 : decode cJxc12de_init_da8c8 4 = .ok (.aload_n 0, 1) := by decide +kernel
theorem dJxc12de_init_da8c8_5 : decode cJxc12de_init_da8c8 5 = .ok (.iconst 0, 1) := by decide +kernel
theorem dJxc12de_init_da8c8_6 : decode cJxc12de_init_da8c8 6 = .ok (.putfield 7, 3) := by decide +kernel
theorem dJxc12de_init_da8c8_9 : decode cJxc12de_init_da8c8 9 = .ok (.return_, 1) := by decide +kernel
theorem dJx4a65c_init_da8c8_0 : decode cJx4a65c_init_da8c8 0 = .ok (.aload_n 0, 1) := by decide +kernel
theorem dJx4a65c_init_da8c8_1 : decode cJx4a65c_init_da8c8 1 = .ok (.invokespecial 1, 3) := by decide +kernel
theorem dJx4a65c_init_da8c8_4 : decode cJx4a65c_init_da8c8 4 = .ok (.aload_n 0, 1) := by decide +kernel
theorem dJx4a65c_init_da8c8_5 : decode cJx4a65c_init_da8c8 5 = .ok (.getstatic 39, 3) := by decide +kernel
theorem dJx4a65c_init_da8c8_8 : decode cJx4a65c_init_da8c8 8 = .ok (.putfield 9, 3) := by decide +kernel
theorem dJx4a65c_init_da8c8_11 : decode cJx4a65c_init_da8c8 11 = .ok (.return_, 1) := by decide +kernel
theorem dJx4a65c_grow_92f84_0 : decode cJx4a65c_grow_92f84 0 = .ok (.aload_n 0, 1) := by decide +kernel
theorem dJx4a65c_grow_92f84_1 : decode cJx4a65c_grow_92f84 1 = .ok (.getfield 9, 3) := by decide +kernel
theorem dJx4a65c_grow_92f84_4 : decode cJx4a65c_grow_92f84 4 = .ok (.arraylength, 1) := by decide +kernel
theorem dJx4a65c_grow_92f84_5 : decode cJx4a65c_grow_92f84 5 = .ok (.istore_n 2, 1) := by decide +kernel
theorem dJx4a65c_grow_92f84_6 : decode cJx4a65c_grow_92f84 6 = .ok (.iload_n 2, 1) := by decide +kernel
theorem dJx4a65c_grow_92f84_7 : decode cJx4a65c_grow_92f84 7 = .ok (.ifCond .gt 13, 3) := by decide +kernel
theorem dJx4a65c_grow_92f84_10 : decode cJx4a65c_grow_92f84 10 = .ok (.aload_n 0, 1) := by decide +kernel
theorem dJx4a65c_grow_92f84_11 : decode cJx4a65c_grow_92f84 11 = .ok (.getfield 9, 3) := by decide +kernel
theorem dJx4a65c_grow_92f84_14 : decode cJx4a65c_grow_92f84 14 = .ok (.getstatic 39, 3) := by decide +kernel
theorem dJx4a65c_grow_92f84_17 : decode cJx4a65c_grow_92f84 17 = .ok (.if_acmp .eq 28, 3) := by decide +kernel
theorem dJx4a65c_grow_92f84_20 : decode cJx4a65c_grow_92f84 20 = .ok (.iload_n 2, 1) := by decide +kernel
theorem dJx4a65c_grow_92f84_21 : decode cJx4a65c_grow_92f84 21 = .ok (.iload_n 1, 1) := by decide +kernel
theorem dJx4a65c_grow_92f84_22 : decode cJx4a65c_grow_92f84 22 = .ok (.iload_n 2, 1) := by decide +kernel
theorem dJx4a65c_grow_92f84_23 : decode cJx4a65c_grow_92f84 23 = .ok (.isub, 1) := by decide +kernel
theorem dJx4a65c_grow_92f84_24 : decode cJx4a65c_grow_92f84 24 = .ok (.iload_n 2, 1) := by decide +kernel
theorem dJx4a65c_grow_92f84_25 : decode cJx4a65c_grow_92f84 25 = .ok (.iconst 1, 1) := by decide +kernel
theorem dJx4a65c_grow_92f84_26 : decode cJx4a65c_grow_92f84 26 = .ok (.ishr, 1) := by decide +kernel
theorem dJx4a65c_grow_92f84_27 : decode cJx4a65c_grow_92f84 27 = .ok (.invokestatic 73, 3) := by decide +kernel
theorem dJx4a65c_grow_92f84_30 : decode cJx4a65c_grow_92f84 30 = .ok (.istore_n 3, 1) := by decide +kernel
theorem dJx4a65c_grow_92f84_31 : decode cJx4a65c_grow_92f84 31 = .ok (.aload_n 0, 1) := by decide +kernel
theorem dJx4a65c_grow_92f84_32 : decode cJx4a65c_grow_92f84 32 = .ok (.aload_n 0, 1) := by decide +kernel
theorem dJx4a65c_grow_92f84_33 : decode cJx4a65c_grow_92f84 33 = .ok (.getfield 9, 3) := by decide +kernel
theorem dJx4a65c_grow_92f84_36 : decode cJx4a65c_grow_92f84 36 = .ok (.iload_n 3, 1) := by decide +kernel
theorem dJx4a65c_grow_92f84_37 : decode cJx4a65c_grow_92f84 37 = .ok (.invokestatic 66, 3) := by decide +kernel
theorem dJx4a65c_grow_92f84_40 : decode cJx4a65c_grow_92f84 40 = .ok (.dup_x1, 1) := by decide +kernel
theorem dJx4a65c_grow_92f84_41 : decode cJx4a65c_grow_92f84 41 = .ok (.putfield 9, 3) := by decide +kernel
theorem dJx4a65c_grow_92f84_44 : decode cJx4a65c_grow_92f84 44 = .ok (.areturn, 1) := by decide +kernel
theorem dJx4a65c_grow_92f84_45 : decode cJx4a65c_grow_92f84 45 = .ok (.aload_n 0, 1) := by decide +kernel
theorem dJx4a65c_grow_92f84_46 : decode cJx4a65c_grow_92f84 46 = .ok (.bipush 10, 2) := by decide +kernel
theorem dJx4a65c_grow_92f84_48 : decode cJx4a65c_grow_92f84 48 = .ok (.iload_n 1, 1) := by decide +kernel
theorem dJx4a65c_grow_92f84_49 : decode cJx4a65c_grow_92f84 49 = .ok (.invokestatic 79, 3) := by decide +kernel
theorem dJx4a65c_grow_92f84_52 : decode cJx4a65c_grow_92f84 52 = .ok (.anewarray 7, 3) := by decide +kernel
theorem dJx4a65c_grow_92f84_55 : decode cJx4a65c_grow_92f84 55 = .ok (.dup_x1, 1) := by decide +kernel
theorem dJx4a65c_grow_92f84_56 : decode cJx4a65c_grow_92f84 56 = .ok (.putfield 9, 3) := by decide +kernel
theorem dJx4a65c_grow_92f84_59 : decode cJx4a65c_grow_92f84 59 = .ok (.areturn, 1) := by decide +kernel
theorem dJx4a65c_grow_d5877_0 : decode cJx4a65c_grow_d5877 0 = .ok (.aload_n 0, 1) := by decide +kernel
theorem dJx4a65c_grow_d5877_1 : decode cJx4a65c_grow_d5877 1 = .ok (.aload_n 0, 1) := by decide +kernel
theorem dJx4a65c_grow_d5877_2 : decode cJx4a65c_grow_d5877 2 = .ok (.getfield 48, 3) := by decide +kernel
theorem dJx4a65c_grow_d5877_5 : decode cJx4a65c_grow_d5877 5 = .ok (.iconst 1, 1) := by decide +kernel
theorem dJx4a65c_grow_d5877_6 : decode cJx4a65c_grow_d5877 6 = .ok (.iadd, 1) := by decide +kernel
theorem dJx4a65c_grow_d5877_7 : decode cJx4a65c_grow_d5877 7 = .ok (.invokevirtual 69, 3) := by decide +kernel
theorem dJx4a65c_grow_d5877_10 : decode cJx4a65c_grow_d5877 10 = .ok (.areturn, 1) := by decide +kernel
theorem dJx4a65c_size_8abf5_0 : decode cJx4a65c_size_8abf5 0 = .ok (.aload_n 0, 1) := by decide +kernel
theorem dJx4a65c_size_8abf5_1 : decode cJx4a65c_size_8abf5 1 = .ok (.getfield 48, 3) := by decide +kernel
theorem dJx4a65c_size_8abf5_4 : decode cJx4a65c_size_8abf5 4 = .ok (.ireturn, 1) := by decide +kernel
theorem dJx4a65c_elementData_915e3_0 : decode cJx4a65c_elementData_915e3 0 = .ok (.aload_n 0, 1) := by decide +kernel
theorem dJx4a65c_elementData_915e3_1 : decode cJx4a65c_elementData_915e3 1 = .ok (.getfield 9, 3) := by decide +kernel
theorem dJx4a65c_elementData_915e3_4 : decode cJx4a65c_elementData_915e3 4 = .ok (.iload_n 1, 1) := by decide +kernel
theorem dJx4a65c_elementData_915e3_5 : decode cJx4a65c_elementData_915e3 5 = .ok (.aaload, 1) := by decide +kernel
theorem dJx4a65c_elementData_915e3_6 : decode cJx4a65c_elementData_915e3 6 = .ok (.areturn, 1) := by decide +kernel
theorem dJx4a65c_get_915e3_0 : decode cJx4a65c_get_915e3 0 = .ok (.iload_n 1, 1) := by decide +kernel
theorem dJx4a65c_get_915e3_1 : decode cJx4a65c_get_915e3 1 = .ok (.aload_n 0, 1) := by decide +kernel
theorem dJx4a65c_get_915e3_2 : decode cJx4a65c_get_915e3 2 = .ok (.getfield 48, 3) := by decide +kernel
theorem dJx4a65c_get_915e3_5 : decode cJx4a65c_get_915e3 5 = .ok (.invokestatic 118, 3) := by decide +kernel
theorem dJx4a65c_get_915e3_8 : decode cJx4a65c_get_915e3 8 = .ok (.pop, 1) := by decide +kernel
theorem dJx4a65c_get_915e3_9 : decode cJx4a65c_get_915e3 9 = .ok (.aload_n 0, 1) := by decide +kernel
theorem dJx4a65c_get_915e3_10 : decode cJx4a65c_get_915e3 10 = .ok (.iload_n 1, 1) := by decide +kernel
theorem dJx4a65c_get_915e3_11 : decode cJx4a65c_get_915e3 11 = .ok (.invokevirtual 123, 3) := by decide +kernel
theorem dJx4a65c_get_915e3_14 : decode cJx4a65c_get_915e3 14 = .ok (.areturn, 1) := by decide +kernel
theorem dJx4a65c_add_72be8_0 : decode cJx4a65c_add_72be8 0 = .ok (.iload_n 3, 1) := by decide +kernel
theorem dJx4a65c_add_72be8_1 : decode cJx4a65c_add_72be8 1 = .ok (.aload_n 2, 1) := by decide +kernel
theorem dJx4a65c_add_72be8_2 : decode cJx4a65c_add_72be8 2 = .ok (.arraylength, 1) := by decide +kernel
theorem dJx4a65c_add_72be8_3 : decode cJx4a65c_add_72be8 3 = .ok (.if_icmp .ne 8, 3) := by decide +kernel
theorem dJx4a65c_add_72be8_6 : decode cJx4a65c_add_72be8 6 = .ok (.aload_n 0, 1) := by decide +kernel
theorem dJx4a65c_add_72be8_7 : decode cJx4a65c_add_72be8 7 = .ok (.invokevirtual 129, 3) := by decide +kernel
theorem dJx4a65c_add_72be8_10 : decode cJx4a65c_add_72be8 10 = .ok (.astore_n 2, 1) := by decide +kernel
theorem dJx4a65c_add_72be8_11 : decode cJx4a65c_add_72be8 11 = .ok (.aload_n 2, 1) := by decide +kernel
theorem dJx4a65c_add_72be8_12 : decode cJx4a65c_add_72be8 12 = .ok (.iload_n 3, 1) := by decide +kernel
theorem dJx4a65c_add_72be8_13 : decode cJx4a65c_add_72be8 13 = .ok (.aload_n 1, 1) := by decide +kernel
theorem dJx4a65c_add_72be8_14 : decode cJx4a65c_add_72be8 14 = .ok (.aastore, 1) := by decide +kernel
theorem dJx4a65c_add_72be8_15 : decode cJx4a65c_add_72be8 15 = .ok (.aload_n 0, 1) := by decide +kernel
theorem dJx4a65c_add_72be8_16 : decode cJx4a65c_add_72be8 16 = .ok (.iload_n 3, 1) := by decide +kernel
theorem dJx4a65c_add_72be8_17 : decode cJx4a65c_add_72be8 17 = .ok (.iconst 1, 1) := by decide +kernel
theorem dJx4a65c_add_72be8_18 : decode cJx4a65c_add_72be8 18 = .ok (.iadd, 1) := by decide +kernel
theorem dJx4a65c_add_72be8_19 : decode cJx4a65c_add_72be8 19 = .ok (.putfield 48, 3) := by decide +kernel
theorem dJx4a65c_add_72be8_22 : decode cJx4a65c_add_72be8 22 = .ok (.return_, 1) := by decide +kernel
theorem dJx4a65c_add_9ea2d_0 : decode cJx4a65c_add_9ea2d 0 = .ok (.aload_n 0, 1) := by decide +kernel
theorem dJx4a65c_add_9ea2d_1 : decode cJx4a65c_add_9ea2d 1 = .ok (.dup, 1) := by decide +kernel
theorem dJx4a65c_add_9ea2d_2 : decode cJx4a65c_add_9ea2d 2 = .ok (.getfield 63, 3) := by decide +kernel
theorem dJx4a65c_add_9ea2d_5 : decode cJx4a65c_add_9ea2d 5 = .ok (.iconst 1, 1) := by decide +kernel
theorem dJx4a65c_add_9ea2d_6 : decode cJx4a65c_add_9ea2d 6 = .ok (.iadd, 1) := by decide +kernel
theorem dJx4a65c_add_9ea2d_7 : decode cJx4a65c_add_9ea2d 7 = .ok (.putfield 63, 3) := by decide +kernel
theorem dJx4a65c_add_9ea2d_10 : decode cJx4a65c_add_9ea2d 10 = .ok (.aload_n 0, 1) := by decide +kernel
theorem dJx4a65c_add_9ea2d_11 : decode cJx4a65c_add_9ea2d 11 = .ok (.aload_n 1, 1) := by decide +kernel
theorem dJx4a65c_add_9ea2d_12 : decode cJx4a65c_add_9ea2d 12 = .ok (.aload_n 0, 1) := by decide +kernel
theorem dJx4a65c_add_9ea2d_13 : decode cJx4a65c_add_9ea2d 13 = .ok (.getfield 9, 3) := by decide +kernel
theorem dJx4a65c_add_9ea2d_16 : decode cJx4a65c_add_9ea2d 16 = .ok (.aload_n 0, 1) := by decide +kernel
theorem dJx4a65c_add_9ea2d_17 : decode cJx4a65c_add_9ea2d 17 = .ok (.getfield 48, 3) := by decide +kernel
theorem dJx4a65c_add_9ea2d_20 : decode cJx4a65c_add_9ea2d 20 = .ok (.invokevirtual 131, 3) := by decide +kernel
theorem dJx4a65c_add_9ea2d_23 : decode cJx4a65c_add_9ea2d 23 = .ok (.iconst 1, 1) := by decide +kernel
theorem dJx4a65c_add_9ea2d_24 : decode cJx4a65c_add_9ea2d 24 = .ok (.ireturn, 1) := by decide +kernel
theorem dJ7_fill_53178_0 : decode cJ7_fill_53178 0 = .ok (.iconst 0, 1) := by decide +kernel
theorem dJ7_fill_53178_1 : decode cJ7_fill_53178 1 = .ok (.istore_n 2, 1) := by decide +kernel
theorem dJ7_fill_53178_2 : decode cJ7_fill_53178 2 = .ok (.aload_n 0, 1) := by decide +kernel
theorem dJ7_fill_53178_3 : decode cJ7_fill_53178 3 = .ok (.arraylength, 1) := by decide +kernel
theorem dJ7_fill_53178_4 : decode cJ7_fill_53178 4 = .ok (.istore_n 3, 1) := by decide +kernel
theorem dJ7_fill_53178_5 : decode cJ7_fill_53178 5 = .ok (.iload_n 2, 1) := by decide +kernel
theorem dJ7_fill_53178_6 : decode cJ7_fill_53178 6 = .ok (.iload_n 3, 1) := by decide +kernel
theorem dJ7_fill_53178_7 : decode cJ7_fill_53178 7 = .ok (.if_icmp .ge 13, 3) := by decide +kernel
theorem dJ7_fill_53178_10 : decode cJ7_fill_53178 10 = .ok (.aload_n 0, 1) := by decide +kernel
theorem dJ7_fill_53178_11 : decode cJ7_fill_53178 11 = .ok (.iload_n 2, 1) := by decide +kernel
theorem dJ7_fill_53178_12 : decode cJ7_fill_53178 12 = .ok (.iload_n 1, 1) := by decide +kernel
theorem dJ7_fill_53178_13 : decode cJ7_fill_53178 13 = .ok (.iastore, 1) := by decide +kernel
theorem dJ7_fill_53178_14 : decode cJ7_fill_53178 14 = .ok (.iinc 2 1, 3) := by decide +kernel
theorem dJ7_fill_53178_17 : decode cJ7_fill_53178 17 = .ok (.goto (-12), 3) := by decide +kernel
theorem dJ7_fill_53178_20 : decode cJ7_fill_53178 20 = .ok (.return_, 1) := by decide +kernel
theorem dJ7_copyOf_1904c_0 : decode cJ7_copyOf_1904c 0 = .ok (.aload_n 0, 1) := by decide +kernel
theorem dJ7_copyOf_1904c_1 : decode cJ7_copyOf_1904c 1 = .ok (.iload_n 1, 1) := by decide +kernel
theorem dJ7_copyOf_1904c_2 : decode cJ7_copyOf_1904c 2 = .ok (.aload_n 0, 1) := by decide +kernel
theorem dJ7_copyOf_1904c_3 : decode cJ7_copyOf_1904c 3 = .ok (.invokevirtual 86, 3) := by decide +kernel
theorem dJ7_copyOf_1904c_6 : decode cJ7_copyOf_1904c 6 = .ok (.invokestatic 300, 3) := by decide +kernel
theorem dJ7_copyOf_1904c_9 : decode cJ7_copyOf_1904c 9 = .ok (.areturn, 1) := by decide +kernel
theorem dJ7_copyOf_6403c_0 : decode cJ7_copyOf_6403c 0 = .ok (.aload_n 2, 1) := by decide +kernel
theorem dJ7_copyOf_6403c_1 : decode cJ7_copyOf_6403c 1 = .ok (.ldc 110, 2) := by decide +kernel
theorem dJ7_copyOf_6403c_3 : decode cJ7_copyOf_6403c 3 = .ok (.if_acmp .ne 10, 3) := by decide +kernel
theorem dJ7_copyOf_6403c_6 : decode cJ7_copyOf_6403c 6 = .ok (.iload_n 1, 1) := by decide +kernel
theorem dJ7_copyOf_6403c_7 : decode cJ7_copyOf_6403c 7 = .ok (.anewarray 2, 3) := by decide +kernel
theorem dJ7_copyOf_6403c_10 : decode cJ7_copyOf_6403c 10 = .ok (.goto 14, 3) := by decide +kernel
theorem dJ7_copyOf_6403c_13 : decode cJ7_copyOf_6403c 13 = .ok (.aload_n 2, 1) := by decide +kernel
theorem dJ7_copyOf_6403c_14 : decode cJ7_copyOf_6403c 14 = .ok (.invokevirtual 90, 3) := by decide +kernel
theorem dJ7_copyOf_6403c_17 : decode cJ7_copyOf_6403c 17 = .ok (.iload_n 1, 1) := by decide +kernel
theorem dJ7_copyOf_6403c_18 : decode cJ7_copyOf_6403c 18 = .ok (.invokestatic 95, 3) := by decide +kernel
theorem dJ7_copyOf_6403c_21 : decode cJ7_copyOf_6403c 21 = .ok (.checkcast 110, 3) := by decide +kernel
theorem dJ7_copyOf_6403c_24 : decode cJ7_copyOf_6403c 24 = .ok (.astore_n 3, 1) := by decide +kernel
theorem dJ7_copyOf_6403c_25 : decode cJ7_copyOf_6403c 25 = .ok (.aload_n 0, 1) := by decide +kernel
theorem dJ7_copyOf_6403c_26 : decode cJ7_copyOf_6403c 26 = .ok (.iconst 0, 1) := by decide +kernel
theorem dJ7_copyOf_6403c_27 : decode cJ7_copyOf_6403c 27 = .ok (.aload_n 3, 1) := by decide +kernel
theorem dJ7_copyOf_6403c_28 : decode cJ7_copyOf_6403c 28 = .ok (.iconst 0, 1) := by decide +kernel
theorem dJ7_copyOf_6403c_29 : decode cJ7_copyOf_6403c 29 = .ok (.aload_n 0, 1) := by decide +kernel
theorem dJ7_copyOf_6403c_30 : decode cJ7_copyOf_6403c 30 = .ok (.arraylength, 1) := by decide +kernel
theorem dJ7_copyOf_6403c_31 : decode cJ7_copyOf_6403c 31 = .ok (.iload_n 1, 1) := by decide +kernel
theorem dJ7_copyOf_6403c_32 : decode cJ7_copyOf_6403c 32 = .ok (.invokestatic 304, 3) := by decide +kernel
theorem dJ7_copyOf_6403c_35 : decode cJ7_copyOf_6403c 35 = .ok (.invokestatic 150, 3) := by decide +kernel
theorem dJ7_copyOf_6403c_38 : decode cJ7_copyOf_6403c 38 = .ok (.aload_n 3, 1) := by decide +kernel
theorem dJ7_copyOf_6403c_39 : decode cJ7_copyOf_6403c 39 = .ok (.areturn, 1) := by decide +kernel
theorem dJ15_checkIndex_7cf53_0 : decode cJ15_checkIndex_7cf53 0 = .ok (.iload_n 0, 1) := by decide +kernel
theorem dJ15_checkIndex_7cf53_1 : decode cJ15_checkIndex_7cf53 1 = .ok (.iload_n 1, 1) := by decide +kernel
theorem dJ15_checkIndex_7cf53_2 : decode cJ15_checkIndex_7cf53 2 = .ok (.aconst_null, 1) := by decide +kernel
theorem dJ15_checkIndex_7cf53_3 : decode cJ15_checkIndex_7cf53 3 = .ok (.invokestatic 105, 3) := by decide +kernel
theorem dJ15_checkIndex_7cf53_6 : decode cJ15_checkIndex_7cf53 6 = .ok (.ireturn, 1) := by decide +kernel
theorem dJ8_newLength_cabcc_0 : decode cJ8_newLength_cabcc 0 = .ok (.iload_n 0, 1) := by decide +kernel
theorem dJ8_newLength_cabcc_1 : decode cJ8_newLength_cabcc 1 = .ok (.iload_n 1, 1) := by decide +kernel
theorem dJ8_newLength_cabcc_2 : decode cJ8_newLength_cabcc 2 = .ok (.iload_n 2, 1) := by decide +kernel
theorem dJ8_newLength_cabcc_3 : decode cJ8_newLength_cabcc 3 = .ok (.invokestatic 194, 3) := by decide +kernel
theorem dJ8_newLength_cabcc_6 : decode cJ8_newLength_cabcc 6 = .ok (.iadd, 1) := by decide +kernel
theorem dJ8_newLength_cabcc_7 : decode cJ8_newLength_cabcc 7 = .ok (.istore_n 3, 1) := by decide +kernel
theorem dJ8_newLength_cabcc_8 : decode cJ8_newLength_cabcc 8 = .ok (.iconst 0, 1) := by decide +kernel
theorem dJ8_newLength_cabcc_9 : decode cJ8_newLength_cabcc 9 = .ok (.iload_n 3, 1) := by decide +kernel
theorem dJ8_newLength_cabcc_10 : decode cJ8_newLength_cabcc 10 = .ok (.if_icmp .ge 11, 3) := by decide +kernel
theorem dJ8_newLength_cabcc_13 : decode cJ8_newLength_cabcc 13 = .ok (.iload_n 3, 1) := by decide +kernel
theorem dJ8_newLength_cabcc_14 : decode cJ8_newLength_cabcc 14 = .ok (.ldc 200, 2) := by decide +kernel
theorem dJ8_newLength_cabcc_16 : decode cJ8_newLength_cabcc 16 = .ok (.if_icmp .gt 5, 3) := by decide +kernel
theorem dJ8_newLength_cabcc_19 : decode cJ8_newLength_cabcc 19 = .ok (.iload_n 3, 1) := by decide +kernel
theorem dJ8_newLength_cabcc_20 : decode cJ8_newLength_cabcc 20 = .ok (.ireturn, 1) := by decide +kernel
theorem dJ8_newLength_cabcc_21 : decode cJ8_newLength_cabcc 21 = .ok (.iload_n 0, 1) := by decide +kernel
theorem dJ8_newLength_cabcc_22 : decode cJ8_newLength_cabcc 22 = .ok (.iload_n 1, 1) := by decide +kernel
theorem dJ8_newLength_cabcc_23 : decode cJ8_newLength_cabcc 23 = .ok (.invokestatic 201, 3) := by decide +kernel
theorem dJ8_newLength_cabcc_26 : decode cJ8_newLength_cabcc 26 = .ok (.ireturn, 1) := by decide +kernel
theorem dJ8_hugeLength_7cf53_0 : decode cJ8_hugeLength_7cf53 0 = .ok (.iload_n 0, 1) := by decide +kernel
theorem dJ8_hugeLength_7cf53_1 : decode cJ8_hugeLength_7cf53 1 = .ok (.iload_n 1, 1) := by decide +kernel
theorem dJ8_hugeLength_7cf53_2 : decode cJ8_hugeLength_7cf53 2 = .ok (.iadd, 1) := by decide +kernel
theorem dJ8_hugeLength_7cf53_3 : decode cJ8_hugeLength_7cf53 3 = .ok (.istore_n 2, 1) := by decide +kernel
theorem dJ8_hugeLength_7cf53_4 : decode cJ8_hugeLength_7cf53 4 = .ok (.iload_n 2, 1) := by decide +kernel
theorem dJ8_hugeLength_7cf53_5 : decode cJ8_hugeLength_7cf53 5 = .ok (.ifCond .ge 44, 3) := by decide +kernel
theorem dJ8_hugeLength_7cf53_8 : decode cJ8_hugeLength_7cf53 8 = .ok (.new 204, 3) := by decide +kernel
theorem dJ8_hugeLength_7cf53_11 : decode cJ8_hugeLength_7cf53 11 = .ok (.dup, 1) := by decide +kernel
theorem dJ8_hugeLength_7cf53_12 : decode cJ8_hugeLength_7cf53 12 = .ok (.new 89, 3) := by decide +kernel
theorem dJ8_hugeLength_7cf53_15 : decode cJ8_hugeLength_7cf53 15 = .ok (.dup, 1) := by decide +kernel
theorem dJ8_hugeLength_7cf53_16 : decode cJ8_hugeLength_7cf53 16 = .ok (.invokespecial 91, 3) := by decide +kernel
theorem dJ8_hugeLength_7cf53_19 : decode cJ8_hugeLength_7cf53 19 = .ok (.ldc 206, 2) := by decide +kernel
theorem dJ8_hugeLength_7cf53_21 : decode cJ8_hugeLength_7cf53 21 = .ok (.invokevirtual 94, 3) := by decide +kernel
theorem dJ8_hugeLength_7cf53_24 : decode cJ8_hugeLength_7cf53 24 = .ok (.iload_n 0, 1) := by decide +kernel
theorem dJ8_hugeLength_7cf53_25 : decode cJ8_hugeLength_7cf53 25 = .ok (.invokevirtual 98, 3) := by decide +kernel
theorem dJ8_hugeLength_7cf53_28 : decode cJ8_hugeLength_7cf53 28 = .ok (.ldc 208, 2) := by decide +kernel
theorem dJ8_hugeLength_7cf53_30 : decode cJ8_hugeLength_7cf53 30 = .ok (.invokevirtual 94, 3) := by decide +kernel
theorem dJ8_hugeLength_7cf53_33 : decode cJ8_hugeLength_7cf53 33 = .ok (.iload_n 1, 1) := by decide +kernel
theorem dJ8_hugeLength_7cf53_34 : decode cJ8_hugeLength_7cf53 34 = .ok (.invokevirtual 98, 3) := by decide +kernel
theorem dJ8_hugeLength_7cf53_37 : decode cJ8_hugeLength_7cf53 37 = .ok (.ldc 210, 2) := by decide +kernel
theorem dJ8_hugeLength_7cf53_39 : decode cJ8_hugeLength_7cf53 39 = .ok (.invokevirtual 94, 3) := by decide +kernel
theorem dJ8_hugeLength_7cf53_42 : decode cJ8_hugeLength_7cf53 42 = .ok (.invokevirtual 101, 3) := by decide +kernel
theorem dJ8_hugeLength_7cf53_45 : decode cJ8_hugeLength_7cf53 45 = .ok (.invokespecial 212, 3) := by decide +kernel
theorem dJ8_hugeLength_7cf53_48 : decode cJ8_hugeLength_7cf53 48 = .ok (.athrow, 1) := by decide +kernel
theorem dJ8_hugeLength_7cf53_49 : decode cJ8_hugeLength_7cf53 49 = .ok (.iload_n 2, 1) := by decide +kernel
theorem dJ8_hugeLength_7cf53_50 : decode cJ8_hugeLength_7cf53 50 = .ok (.ldc 200, 2) := by decide +kernel
theorem dJ8_hugeLength_7cf53_52 : decode cJ8_hugeLength_7cf53 52 = .ok (.if_icmp .gt 6, 3) := by decide +kernel
theorem dJ8_hugeLength_7cf53_55 : decode cJ8_hugeLength_7cf53 55 = .ok (.ldc 200, 2) := by decide +kernel
theorem dJ8_hugeLength_7cf53_57 : decode cJ8_hugeLength_7cf53 57 = .ok (.ireturn, 1) := by decide +kernel
theorem dJ8_hugeLength_7cf53_58 : decode cJ8_hugeLength_7cf53 58 = .ok (.iload_n 2, 1) := by decide +kernel
theorem dJ8_hugeLength_7cf53_59 : decode cJ8_hugeLength_7cf53 59 = .ok (.ireturn, 1) := by decide +kernel
theorem dJ3_checkIndex_8e157_0 : decode cJ3_checkIndex_8e157 0 = .ok (.iload_n 0, 1) := by decide +kernel
theorem dJ3_checkIndex_8e157_1 : decode cJ3_checkIndex_8e157 1 = .ok (.ifCond .lt 8, 3) := by decide +kernel
theorem dJ3_checkIndex_8e157_4 : decode cJ3_checkIndex_8e157 4 = .ok (.iload_n 0, 1) := by decide +kernel
theorem dJ3_checkIndex_8e157_5 : decode cJ3_checkIndex_8e157 5 = .ok (.iload_n 1, 1) := by decide +kernel
theorem dJ3_checkIndex_8e157_6 : decode cJ3_checkIndex_8e157 6 = .ok (.if_icmp .lt 10, 3) := by decide +kernel
theorem dJ3_checkIndex_8e157_9 : decode cJ3_checkIndex_8e157 9 = .ok (.aload_n 2, 1) := by decide +kernel
theorem dJ3_checkIndex_8e157_10 : decode cJ3_checkIndex_8e157 10 = .ok (.iload_n 0, 1) := by decide +kernel
theorem dJ3_checkIndex_8e157_11 : decode cJ3_checkIndex_8e157 11 = .ok (.iload_n 1, 1) := by decide +kernel
theorem dJ3_checkIndex_8e157_12 : decode cJ3_checkIndex_8e157 12 = .ok (.invokestatic 95, 3) := by decide +kernel
theorem dJ3_checkIndex_8e157_15 : decode cJ3_checkIndex_8e157 15 = .ok (.athrow, 1) := by decide +kernel
theorem dJ3_checkIndex_8e157_16 : decode cJ3_checkIndex_8e157 16 = .ok (.iload_n 0, 1) := by decide +kernel
theorem dJ3_checkIndex_8e157_17 : decode cJ3_checkIndex_8e157 17 = .ok (.ireturn, 1) := by decide +kernel
theorem dL_cell_0 : decode cL_cell 0 = .ok (.iload_n 1, 1) := by decide +kernel
theorem dL_cell_1 : decode cL_cell 1 = .ok (.aload_n 0, 1) := by decide +kernel
theorem dL_cell_2 : decode cL_cell 2 = .ok (.arraylength, 1) := by decide +kernel
theorem dL_cell_3 : decode cL_cell 3 = .ok (.if_icmp .ge 9, 3) := by decide +kernel
theorem dL_cell_6 : decode cL_cell 6 = .ok (.aload_n 0, 1) := by decide +kernel
theorem dL_cell_7 : decode cL_cell 7 = .ok (.iload_n 1, 1) := by decide +kernel
theorem dL_cell_8 : decode cL_cell 8 = .ok (.iaload, 1) := by decide +kernel
theorem dL_cell_9 : decode cL_cell 9 = .ok (.goto 10, 3) := by decide +kernel
theorem dL_cell_12 : decode cL_cell 12 = .ok (.ldc 7, 2) := by decide +kernel
theorem dL_cell_14 : decode cL_cell 14 = .ok (.iload_n 1, 1) := by decide +kernel
theorem dL_cell_15 : decode cL_cell 15 = .ok (.bipush 6, 2) := by decide +kernel
theorem dL_cell_17 : decode cL_cell 17 = .ok (.iadd, 1) := by decide +kernel
theorem dL_cell_18 : decode cL_cell 18 = .ok (.imul, 1) := by decide +kernel
theorem dL_cell_19 : decode cL_cell 19 = .ok (.ireturn, 1) := by decide +kernel
theorem dL_low_0 : decode cL_low 0 = .ok (.iload_n 0, 1) := by decide +kernel
theorem dL_low_1 : decode cL_low 1 = .ok (.iconst 1, 1) := by decide +kernel
theorem dL_low_2 : decode cL_low 2 = .ok (.iushr, 1) := by decide +kernel
theorem dL_low_3 : decode cL_low 3 = .ok (.iload_n 1, 1) := by decide +kernel
theorem dL_low_4 : decode cL_low 4 = .ok (.irem, 1) := by decide +kernel
theorem dL_low_5 : decode cL_low 5 = .ok (.ireturn, 1) := by decide +kernel
theorem dL_pass_0 : decode cL_pass 0 = .ok (.aload_n 0, 1) := by decide +kernel
theorem dL_pass_1 : decode cL_pass 1 = .ok (.iload_n 1, 1) := by decide +kernel
theorem dL_pass_2 : decode cL_pass 2 = .ok (.invokevirtual 8, 3) := by decide +kernel
theorem dL_pass_5 : decode cL_pass 5 = .ok (.istore_n 2, 1) := by decide +kernel
theorem dL_pass_6 : decode cL_pass 6 = .ok (.goto 11, 3) := by decide +kernel
theorem dL_pass_9 : decode cL_pass 9 = .ok (.astore_n 3, 1) := by decide +kernel
theorem dL_pass_10 : decode cL_pass 10 = .ok (.bipush (-71), 2) := by decide +kernel
theorem dL_pass_12 : decode cL_pass 12 = .ok (.ireturn, 1) := by decide +kernel
theorem dL_pass_13 : decode cL_pass 13 = .ok (.astore_n 3, 1) := by decide +kernel
theorem dL_pass_14 : decode cL_pass 14 = .ok (.bipush (-72), 2) := by decide +kernel
theorem dL_pass_16 : decode cL_pass 16 = .ok (.ireturn, 1) := by decide +kernel
theorem dL_pass_17 : decode cL_pass 17 = .ok (.iload_n 2, 1) := by decide +kernel
theorem dL_pass_18 : decode cL_pass 18 = .ok (.ireturn, 1) := by decide +kernel
theorem dL_format_0 : decode cL_format 0 = .ok (.aload_n 0, 1) := by decide +kernel
theorem dL_format_1 : decode cL_format 1 = .ok (.iload_n 1, 1) := by decide +kernel
theorem dL_format_2 : decode cL_format 2 = .ok (.iload_n 2, 1) := by decide +kernel
theorem dL_format_3 : decode cL_format 3 = .ok (.iload_n 3, 1) := by decide +kernel
theorem dL_format_4 : decode cL_format 4 = .ok (.invokevirtual 18, 3) := by decide +kernel
theorem dL_format_7 : decode cL_format 7 = .ok (.istore 4, 2) := by decide +kernel
theorem dL_format_9 : decode cL_format 9 = .ok (.goto 13, 3) := by decide +kernel
theorem dL_format_12 : decode cL_format 12 = .ok (.astore 5, 2) := by decide +kernel
theorem dL_format_14 : decode cL_format 14 = .ok (.bipush (-71), 2) := by decide +kernel
theorem dL_format_16 : decode cL_format 16 = .ok (.ireturn, 1) := by decide +kernel
theorem dL_format_17 : decode cL_format 17 = .ok (.astore 5, 2) := by decide +kernel
theorem dL_format_19 : decode cL_format 19 = .ok (.bipush (-72), 2) := by decide +kernel
theorem dL_format_21 : decode cL_format 21 = .ok (.ireturn, 1) := by decide +kernel
theorem dL_format_22 : decode cL_format 22 = .ok (.iload 4, 2) := by decide +kernel
theorem dL_format_24 : decode cL_format 24 = .ok (.ireturn, 1) := by decide +kernel
theorem dL_line_0 : decode cL_line 0 = .ok (.aload_n 0, 1) := by decide +kernel
theorem dL_line_1 : decode cL_line 1 = .ok (.iload_n 1, 1) := by decide +kernel
theorem dL_line_2 : decode cL_line 2 = .ok (.invokevirtual 22, 3) := by decide +kernel
theorem dL_line_5 : decode cL_line 5 = .ok (.istore_n 2, 1) := by decide +kernel
theorem dL_line_6 : decode cL_line 6 = .ok (.goto 11, 3) := by decide +kernel
theorem dL_line_9 : decode cL_line 9 = .ok (.astore_n 3, 1) := by decide +kernel
theorem dL_line_10 : decode cL_line 10 = .ok (.bipush (-71), 2) := by decide +kernel
theorem dL_line_12 : decode cL_line 12 = .ok (.ireturn, 1) := by decide +kernel
theorem dL_line_13 : decode cL_line 13 = .ok (.astore_n 3, 1) := by decide +kernel
theorem dL_line_14 : decode cL_line 14 = .ok (.bipush (-72), 2) := by decide +kernel
theorem dL_line_16 : decode cL_line 16 = .ok (.ireturn, 1) := by decide +kernel
theorem dL_line_17 : decode cL_line 17 = .ok (.iload_n 2, 1) := by decide +kernel
theorem dL_line_18 : decode cL_line 18 = .ok (.ireturn, 1) := by decide +kernel
theorem dL_end_0 : decode cL_end 0 = .ok (.aload_n 0, 1) := by decide +kernel
theorem dL_end_1 : decode cL_end 1 = .ok (.invokevirtual 25, 3) := by decide +kernel
theorem dL_end_4 : decode cL_end 4 = .ok (.istore_n 1, 1) := by decide +kernel
theorem dL_end_5 : decode cL_end 5 = .ok (.goto 7, 3) := by decide +kernel
theorem dL_end_8 : decode cL_end 8 = .ok (.astore_n 2, 1) := by decide +kernel
theorem dL_end_9 : decode cL_end 9 = .ok (.bipush (-72), 2) := by decide +kernel
theorem dL_end_11 : decode cL_end 11 = .ok (.ireturn, 1) := by decide +kernel
theorem dL_end_12 : decode cL_end 12 = .ok (.iload_n 1, 1) := by decide +kernel
theorem dL_end_13 : decode cL_end 13 = .ok (.ireturn, 1) := by decide +kernel
theorem dL_pages_0 : decode cL_pages 0 = .ok (.aload_n 0, 1) := by decide +kernel
theorem dL_pages_1 : decode cL_pages 1 = .ok (.iload_n 1, 1) := by decide +kernel
theorem dL_pages_2 : decode cL_pages 2 = .ok (.invokevirtual 29, 3) := by decide +kernel
theorem dL_pages_5 : decode cL_pages 5 = .ok (.istore_n 2, 1) := by decide +kernel
theorem dL_pages_6 : decode cL_pages 6 = .ok (.goto 7, 3) := by decide +kernel
theorem dL_pages_9 : decode cL_pages 9 = .ok (.astore_n 3, 1) := by decide +kernel
theorem dL_pages_10 : decode cL_pages 10 = .ok (.bipush (-73), 2) := by decide +kernel
theorem dL_pages_12 : decode cL_pages 12 = .ok (.ireturn, 1) := by decide +kernel
theorem dL_pages_13 : decode cL_pages 13 = .ok (.iload_n 2, 1) := by decide +kernel
theorem dL_pages_14 : decode cL_pages 14 = .ok (.ireturn, 1) := by decide +kernel
theorem dL_twice_0 : decode cL_twice 0 = .ok (.aload_n 0, 1) := by decide +kernel
theorem dL_twice_1 : decode cL_twice 1 = .ok (.iload_n 1, 1) := by decide +kernel
theorem dL_twice_2 : decode cL_twice 2 = .ok (.invokevirtual 34, 3) := by decide +kernel
theorem dL_twice_5 : decode cL_twice 5 = .ok (.istore_n 2, 1) := by decide +kernel
theorem dL_twice_6 : decode cL_twice 6 = .ok (.goto 7, 3) := by decide +kernel
theorem dL_twice_9 : decode cL_twice 9 = .ok (.astore_n 3, 1) := by decide +kernel
theorem dL_twice_10 : decode cL_twice 10 = .ok (.bipush (-73), 2) := by decide +kernel
theorem dL_twice_12 : decode cL_twice 12 = .ok (.ireturn, 1) := by decide +kernel
theorem dL_twice_13 : decode cL_twice 13 = .ok (.iload_n 2, 1) := by decide +kernel
theorem dL_twice_14 : decode cL_twice 14 = .ok (.ireturn, 1) := by decide +kernel
theorem dL_reprint_0 : decode cL_reprint 0 = .ok (.aload_n 0, 1) := by decide +kernel
theorem dL_reprint_1 : decode cL_reprint 1 = .ok (.iload_n 1, 1) := by decide +kernel
theorem dL_reprint_2 : decode cL_reprint 2 = .ok (.iload_n 2, 1) := by decide +kernel
theorem dL_reprint_3 : decode cL_reprint 3 = .ok (.iload_n 3, 1) := by decide +kernel
theorem dL_reprint_4 : decode cL_reprint 4 = .ok (.invokevirtual 37, 3) := by decide +kernel
theorem dL_reprint_7 : decode cL_reprint 7 = .ok (.istore 4, 2) := by decide +kernel
theorem dL_reprint_9 : decode cL_reprint 9 = .ok (.goto 13, 3) := by decide +kernel
theorem dL_reprint_12 : decode cL_reprint 12 = .ok (.astore 5, 2) := by decide +kernel
theorem dL_reprint_14 : decode cL_reprint 14 = .ok (.bipush (-73), 2) := by decide +kernel
theorem dL_reprint_16 : decode cL_reprint 16 = .ok (.ireturn, 1) := by decide +kernel
theorem dL_reprint_17 : decode cL_reprint 17 = .ok (.astore 5, 2) := by decide +kernel
theorem dL_reprint_19 : decode cL_reprint 19 = .ok (.bipush (-71), 2) := by decide +kernel
theorem dL_reprint_21 : decode cL_reprint 21 = .ok (.ireturn, 1) := by decide +kernel
theorem dL_reprint_22 : decode cL_reprint 22 = .ok (.iload 4, 2) := by decide +kernel
theorem dL_reprint_24 : decode cL_reprint 24 = .ok (.ireturn, 1) := by decide +kernel
theorem dL_copies_0 : decode cL_copies 0 = .ok (.aload_n 0, 1) := by decide +kernel
theorem dL_copies_1 : decode cL_copies 1 = .ok (.iload_n 1, 1) := by decide +kernel
theorem dL_copies_2 : decode cL_copies 2 = .ok (.iload_n 2, 1) := by decide +kernel
theorem dL_copies_3 : decode cL_copies 3 = .ok (.invokevirtual 40, 3) := by decide +kernel
theorem dL_copies_6 : decode cL_copies 6 = .ok (.istore_n 3, 1) := by decide +kernel
theorem dL_copies_7 : decode cL_copies 7 = .ok (.goto 8, 3) := by decide +kernel
theorem dL_copies_10 : decode cL_copies 10 = .ok (.astore 4, 2) := by decide +kernel
theorem dL_copies_12 : decode cL_copies 12 = .ok (.bipush (-73), 2) := by decide +kernel
theorem dL_copies_14 : decode cL_copies 14 = .ok (.ireturn, 1) := by decide +kernel
theorem dL_copies_15 : decode cL_copies 15 = .ok (.iload_n 3, 1) := by decide +kernel
theorem dL_copies_16 : decode cL_copies 16 = .ok (.ireturn, 1) := by decide +kernel
theorem dL_account_0 : decode cL_account 0 = .ok (.aload_n 0, 1) := by decide +kernel
theorem dL_account_1 : decode cL_account 1 = .ok (.iload_n 1, 1) := by decide +kernel
theorem dL_account_2 : decode cL_account 2 = .ok (.invokevirtual 44, 3) := by decide +kernel
theorem dL_account_5 : decode cL_account 5 = .ok (.istore_n 2, 1) := by decide +kernel
theorem dL_account_6 : decode cL_account 6 = .ok (.goto 7, 3) := by decide +kernel
theorem dL_account_9 : decode cL_account 9 = .ok (.astore_n 3, 1) := by decide +kernel
theorem dL_account_10 : decode cL_account 10 = .ok (.bipush (-73), 2) := by decide +kernel
theorem dL_account_12 : decode cL_account 12 = .ok (.ireturn, 1) := by decide +kernel
theorem dL_account_13 : decode cL_account 13 = .ok (.iload_n 2, 1) := by decide +kernel
theorem dL_account_14 : decode cL_account 14 = .ok (.ireturn, 1) := by decide +kernel
theorem dL_found_0 : decode cL_found 0 = .ok (.aload_n 0, 1) := by decide +kernel
theorem dL_found_1 : decode cL_found 1 = .ok (.iload_n 1, 1) := by decide +kernel
theorem dL_found_2 : decode cL_found 2 = .ok (.iload_n 2, 1) := by decide +kernel
theorem dL_found_3 : decode cL_found 3 = .ok (.iload_n 3, 1) := by decide +kernel
theorem dL_found_4 : decode cL_found 4 = .ok (.iload 4, 2) := by decide +kernel
theorem dL_found_6 : decode cL_found 6 = .ok (.iload 5, 2) := by decide +kernel
theorem dL_found_8 : decode cL_found 8 = .ok (.invokevirtual 47, 3) := by decide +kernel
theorem dL_found_11 : decode cL_found 11 = .ok (.istore 6, 2) := by decide +kernel
theorem dL_found_13 : decode cL_found 13 = .ok (.goto 13, 3) := by decide +kernel
theorem dL_found_16 : decode cL_found 16 = .ok (.astore 7, 2) := by decide +kernel
theorem dL_found_18 : decode cL_found 18 = .ok (.bipush (-71), 2) := by decide +kernel
theorem dL_found_20 : decode cL_found 20 = .ok (.ireturn, 1) := by decide +kernel
theorem dL_found_21 : decode cL_found 21 = .ok (.astore 7, 2) := by decide +kernel
theorem dL_found_23 : decode cL_found 23 = .ok (.bipush (-73), 2) := by decide +kernel
theorem dL_found_25 : decode cL_found 25 = .ok (.ireturn, 1) := by decide +kernel
theorem dL_found_26 : decode cL_found 26 = .ok (.iload 6, 2) := by decide +kernel
theorem dL_found_28 : decode cL_found 28 = .ok (.ireturn, 1) := by decide +kernel
theorem dL_read_0 : decode cL_read 0 = .ok (.aload_n 0, 1) := by decide +kernel
theorem dL_read_1 : decode cL_read 1 = .ok (.iload_n 1, 1) := by decide +kernel
theorem dL_read_2 : decode cL_read 2 = .ok (.iload_n 2, 1) := by decide +kernel
theorem dL_read_3 : decode cL_read 3 = .ok (.iload_n 3, 1) := by decide +kernel
theorem dL_read_4 : decode cL_read 4 = .ok (.iload 4, 2) := by decide +kernel
theorem dL_read_6 : decode cL_read 6 = .ok (.invokevirtual 51, 3) := by decide +kernel
theorem dL_read_9 : decode cL_read 9 = .ok (.istore 5, 2) := by decide +kernel
theorem dL_read_11 : decode cL_read 11 = .ok (.goto 18, 3) := by decide +kernel
theorem dL_read_14 : decode cL_read 14 = .ok (.astore 6, 2) := by decide +kernel
theorem dL_read_16 : decode cL_read 16 = .ok (.bipush (-71), 2) := by decide +kernel
theorem dL_read_18 : decode cL_read 18 = .ok (.ireturn, 1) := by decide +kernel
theorem dL_read_19 : decode cL_read 19 = .ok (.astore 6, 2) := by decide +kernel
theorem dL_read_21 : decode cL_read 21 = .ok (.bipush (-73), 2) := by decide +kernel
theorem dL_read_23 : decode cL_read 23 = .ok (.ireturn, 1) := by decide +kernel
theorem dL_read_24 : decode cL_read 24 = .ok (.astore 6, 2) := by decide +kernel
theorem dL_read_26 : decode cL_read 26 = .ok (.bipush (-74), 2) := by decide +kernel
theorem dL_read_28 : decode cL_read 28 = .ok (.ireturn, 1) := by decide +kernel
theorem dL_read_29 : decode cL_read 29 = .ok (.iload 5, 2) := by decide +kernel
theorem dL_read_31 : decode cL_read 31 = .ok (.ireturn, 1) := by decide +kernel
theorem dL_view_0 : decode cL_view 0 = .ok (.aload_n 0, 1) := by decide +kernel
theorem dL_view_1 : decode cL_view 1 = .ok (.iload_n 1, 1) := by decide +kernel
theorem dL_view_2 : decode cL_view 2 = .ok (.iload_n 2, 1) := by decide +kernel
theorem dL_view_3 : decode cL_view 3 = .ok (.iload_n 3, 1) := by decide +kernel
theorem dL_view_4 : decode cL_view 4 = .ok (.iload 4, 2) := by decide +kernel
theorem dL_view_6 : decode cL_view 6 = .ok (.invokevirtual 57, 3) := by decide +kernel
theorem dL_view_9 : decode cL_view 9 = .ok (.goto 8, 3) := by decide +kernel
theorem dL_view_12 : decode cL_view 12 = .ok (.astore 5, 2) := by decide +kernel
theorem dL_view_14 : decode cL_view 14 = .ok (.bipush (-71), 2) := by decide +kernel
theorem dL_view_16 : decode cL_view 16 = .ok (.ireturn, 1) := by decide +kernel
theorem dL_view_17 : decode cL_view 17 = .ok (.iconst 0, 1) := by decide +kernel
theorem dL_view_18 : decode cL_view 18 = .ok (.ireturn, 1) := by decide +kernel
theorem dL_span_0 : decode cL_span 0 = .ok (.aload_n 0, 1) := by decide +kernel
theorem dL_span_1 : decode cL_span 1 = .ok (.iload_n 1, 1) := by decide +kernel
theorem dL_span_2 : decode cL_span 2 = .ok (.iload_n 2, 1) := by decide +kernel
theorem dL_span_3 : decode cL_span 3 = .ok (.invokevirtual 61, 3) := by decide +kernel
theorem dL_span_6 : decode cL_span 6 = .ok (.istore_n 3, 1) := by decide +kernel
theorem dL_span_7 : decode cL_span 7 = .ok (.goto 8, 3) := by decide +kernel
theorem dL_span_10 : decode cL_span 10 = .ok (.astore 4, 2) := by decide +kernel
theorem dL_span_12 : decode cL_span 12 = .ok (.bipush (-71), 2) := by decide +kernel
theorem dL_span_14 : decode cL_span 14 = .ok (.ireturn, 1) := by decide +kernel
theorem dL_span_15 : decode cL_span 15 = .ok (.iload_n 3, 1) := by decide +kernel
theorem dL_span_16 : decode cL_span 16 = .ok (.ireturn, 1) := by decide +kernel
theorem dL_hold_0 : decode cL_hold 0 = .ok (.aload_n 0, 1) := by decide +kernel
theorem dL_hold_1 : decode cL_hold 1 = .ok (.iload_n 1, 1) := by decide +kernel
theorem dL_hold_2 : decode cL_hold 2 = .ok (.iload_n 2, 1) := by decide +kernel
theorem dL_hold_3 : decode cL_hold 3 = .ok (.invokevirtual 64, 3) := by decide +kernel
theorem dL_hold_6 : decode cL_hold 6 = .ok (.istore_n 3, 1) := by decide +kernel
theorem dL_hold_7 : decode cL_hold 7 = .ok (.goto 8, 3) := by decide +kernel
theorem dL_hold_10 : decode cL_hold 10 = .ok (.astore 4, 2) := by decide +kernel
theorem dL_hold_12 : decode cL_hold 12 = .ok (.bipush (-71), 2) := by decide +kernel
theorem dL_hold_14 : decode cL_hold 14 = .ok (.ireturn, 1) := by decide +kernel
theorem dL_hold_15 : decode cL_hold 15 = .ok (.iload_n 3, 1) := by decide +kernel
theorem dL_hold_16 : decode cL_hold 16 = .ok (.ifCond .eq 7, 3) := by decide +kernel
theorem dL_hold_19 : decode cL_hold 19 = .ok (.iconst 1, 1) := by decide +kernel
theorem dL_hold_20 : decode cL_hold 20 = .ok (.goto 4, 3) := by decide +kernel
theorem dL_hold_23 : decode cL_hold 23 = .ok (.iconst 0, 1) := by decide +kernel
theorem dL_hold_24 : decode cL_hold 24 = .ok (.ireturn, 1) := by decide +kernel
theorem dL_bundle_0 : decode cL_bundle 0 = .ok (.aload_n 0, 1) := by decide +kernel
theorem dL_bundle_1 : decode cL_bundle 1 = .ok (.iload_n 1, 1) := by decide +kernel
theorem dL_bundle_2 : decode cL_bundle 2 = .ok (.iload_n 2, 1) := by decide +kernel
theorem dL_bundle_3 : decode cL_bundle 3 = .ok (.invokevirtual 68, 3) := by decide +kernel
theorem dL_bundle_6 : decode cL_bundle 6 = .ok (.istore_n 3, 1) := by decide +kernel
theorem dL_bundle_7 : decode cL_bundle 7 = .ok (.goto 8, 3) := by decide +kernel
theorem dL_bundle_10 : decode cL_bundle 10 = .ok (.astore 4, 2) := by decide +kernel
theorem dL_bundle_12 : decode cL_bundle 12 = .ok (.bipush (-71), 2) := by decide +kernel
theorem dL_bundle_14 : decode cL_bundle 14 = .ok (.ireturn, 1) := by decide +kernel
theorem dL_bundle_15 : decode cL_bundle 15 = .ok (.iload_n 3, 1) := by decide +kernel
theorem dL_bundle_16 : decode cL_bundle 16 = .ok (.ireturn, 1) := by decide +kernel
theorem dL_lines_0 : decode cL_lines 0 = .ok (.lload_n 0, 1) := by decide +kernel
theorem dL_lines_1 : decode cL_lines 1 = .ok (.ldc2_w 71, 3) := by decide +kernel
theorem dL_lines_4 : decode cL_lines 4 = .ok (.land, 1) := by decide +kernel
theorem dL_lines_5 : decode cL_lines 5 = .ok (.l2i, 1) := by decide +kernel
theorem dL_lines_6 : decode cL_lines 6 = .ok (.ireturn, 1) := by decide +kernel
theorem dL_at_0 : decode cL_at 0 = .ok (.iload_n 2, 1) := by decide +kernel
theorem dL_at_1 : decode cL_at 1 = .ok (.lload_n 0, 1) := by decide +kernel
theorem dL_at_2 : decode cL_at 2 = .ok (.invokestatic 73, 3) := by decide +kernel
theorem dL_at_5 : decode cL_at 5 = .ok (.if_icmp .ge 19, 3) := by decide +kernel
theorem dL_at_8 : decode cL_at 8 = .ok (.lload_n 0, 1) := by decide +kernel
theorem dL_at_9 : decode cL_at 9 = .ok (.iconst 4, 1) := by decide +kernel
theorem dL_at_10 : decode cL_at 10 = .ok (.bipush 7, 2) := by decide +kernel
theorem dL_at_12 : decode cL_at 12 = .ok (.iload_n 2, 1) := by decide +kernel
theorem dL_at_13 : decode cL_at 13 = .ok (.imul, 1) := by decide +kernel
theorem dL_at_14 : decode cL_at 14 = .ok (.iadd, 1) := by decide +kernel
theorem dL_at_15 : decode cL_at 15 = .ok (.lshr, 1) := by decide +kernel
theorem dL_at_16 : decode cL_at 16 = .ok (.ldc2_w 79, 3) := by decide +kernel
theorem dL_at_19 : decode cL_at 19 = .ok (.land, 1) := by decide +kernel
theorem dL_at_20 : decode cL_at 20 = .ok (.l2i, 1) := by decide +kernel
theorem dL_at_21 : decode cL_at 21 = .ok (.goto 4, 3) := by decide +kernel
theorem dL_at_24 : decode cL_at 24 = .ok (.iconst (-1), 1) := by decide +kernel
theorem dL_at_25 : decode cL_at 25 = .ok (.ireturn, 1) := by decide +kernel
theorem dL_isThere_0 : decode cL_isThere 0 = .ok (.aload_n 0, 1) := by decide +kernel
theorem dL_isThere_1 : decode cL_isThere 1 = .ok (.iload_n 1, 1) := by decide +kernel
theorem dL_isThere_2 : decode cL_isThere 2 = .ok (.iaload, 1) := by decide +kernel
theorem dL_isThere_3 : decode cL_isThere 3 = .ok (.ifCond .le 7, 3) := by decide +kernel
theorem dL_isThere_6 : decode cL_isThere 6 = .ok (.iconst 1, 1) := by decide +kernel
theorem dL_isThere_7 : decode cL_isThere 7 = .ok (.goto 4, 3) := by decide +kernel
theorem dL_isThere_10 : decode cL_isThere 10 = .ok (.iconst 0, 1) := by decide +kernel
theorem dL_isThere_11 : decode cL_isThere 11 = .ok (.ireturn, 1) := by decide +kernel
theorem dL_length_0 : decode cL_length 0 = .ok (.aload_n 0, 1) := by decide +kernel
theorem dL_length_1 : decode cL_length 1 = .ok (.iload_n 1, 1) := by decide +kernel
theorem dL_length_2 : decode cL_length 2 = .ok (.iaload, 1) := by decide +kernel
theorem dL_length_3 : decode cL_length 3 = .ok (.ifCond .le 9, 3) := by decide +kernel
theorem dL_length_6 : decode cL_length 6 = .ok (.aload_n 0, 1) := by decide +kernel
theorem dL_length_7 : decode cL_length 7 = .ok (.iload_n 1, 1) := by decide +kernel
theorem dL_length_8 : decode cL_length 8 = .ok (.iaload, 1) := by decide +kernel
theorem dL_length_9 : decode cL_length 9 = .ok (.goto 7, 3) := by decide +kernel
theorem dL_length_12 : decode cL_length 12 = .ok (.aload_n 0, 1) := by decide +kernel
theorem dL_length_13 : decode cL_length 13 = .ok (.iload_n 1, 1) := by decide +kernel
theorem dL_length_14 : decode cL_length 14 = .ok (.iaload, 1) := by decide +kernel
theorem dL_length_15 : decode cL_length 15 = .ok (.ineg, 1) := by decide +kernel
theorem dL_length_16 : decode cL_length 16 = .ok (.ireturn, 1) := by decide +kernel
theorem dL_sees_0 : decode cL_sees 0 = .ok (.aload_n 0, 1) := by decide +kernel
theorem dL_sees_1 : decode cL_sees 1 = .ok (.iload 4, 2) := by decide +kernel
theorem dL_sees_3 : decode cL_sees 3 = .ok (.iaload, 1) := by decide +kernel
theorem dL_sees_4 : decode cL_sees 4 = .ok (.bipush 127, 2) := by decide +kernel
theorem dL_sees_6 : decode cL_sees 6 = .ok (.iand, 1) := by decide +kernel
theorem dL_sees_7 : decode cL_sees 7 = .ok (.iconst 1, 1) := by decide +kernel
theorem dL_sees_8 : decode cL_sees 8 = .ok (.isub, 1) := by decide +kernel
theorem dL_sees_9 : decode cL_sees 9 = .ok (.istore 5, 2) := by decide +kernel
theorem dL_sees_11 : decode cL_sees 11 = .ok (.aload_n 1, 1) := by decide +kernel
theorem dL_sees_12 : decode cL_sees 12 = .ok (.iload 4, 2) := by decide +kernel
theorem dL_sees_14 : decode cL_sees 14 = .ok (.invokestatic 81, 3) := by decide +kernel
theorem dL_sees_17 : decode cL_sees 17 = .ok (.ifCond .eq 44, 3) := by decide +kernel
theorem dL_sees_20 : decode cL_sees 20 = .ok (.iload 5, 2) := by decide +kernel
theorem dL_sees_22 : decode cL_sees 22 = .ok (.ifCond .ge 10, 3) := by decide +kernel
theorem dL_sees_25 : decode cL_sees 25 = .ok (.iload_n 3, 1) := by decide +kernel
theorem dL_sees_26 : decode cL_sees 26 = .ok (.ifCond .ne 35, 3) := by decide +kernel
theorem dL_sees_29 : decode cL_sees 29 = .ok (.goto 28, 3) := by decide +kernel
theorem dL_sees_32 : decode cL_sees 32 = .ok (.iload 5, 2) := by decide +kernel
theorem dL_sees_34 : decode cL_sees 34 = .ok (.aload_n 2, 1) := by decide +kernel
theorem dL_sees_35 : decode cL_sees 35 = .ok (.iload_n 3, 1) := by decide +kernel
theorem dL_sees_36 : decode cL_sees 36 = .ok (.iaload, 1) := by decide +kernel
theorem dL_sees_37 : decode cL_sees 37 = .ok (.bipush 127, 2) := by decide +kernel
theorem dL_sees_39 : decode cL_sees 39 = .ok (.iand, 1) := by decide +kernel
theorem dL_sees_40 : decode cL_sees 40 = .ok (.if_icmp .lt 21, 3) := by decide +kernel
theorem dL_sees_43 : decode cL_sees 43 = .ok (.iload 5, 2) := by decide +kernel
theorem dL_sees_45 : decode cL_sees 45 = .ok (.aload_n 2, 1) := by decide +kernel
theorem dL_sees_46 : decode cL_sees 46 = .ok (.iload_n 3, 1) := by decide +kernel
theorem dL_sees_47 : decode cL_sees 47 = .ok (.iaload, 1) := by decide +kernel
theorem dL_sees_48 : decode cL_sees 48 = .ok (.bipush 7, 2) := by decide +kernel
theorem dL_sees_50 : decode cL_sees 50 = .ok (.ishr, 1) := by decide +kernel
theorem dL_sees_51 : decode cL_sees 51 = .ok (.bipush 127, 2) := by decide +kernel
theorem dL_sees_53 : decode cL_sees 53 = .ok (.iand, 1) := by decide +kernel
theorem dL_sees_54 : decode cL_sees 54 = .ok (.if_icmp .gt 7, 3) := by decide +kernel
theorem dL_sees_57 : decode cL_sees 57 = .ok (.iconst 1, 1) := by decide +kernel
theorem dL_sees_58 : decode cL_sees 58 = .ok (.goto 4, 3) := by decide +kernel
theorem dL_sees_61 : decode cL_sees 61 = .ok (.iconst 0, 1) := by decide +kernel
theorem dL_sees_62 : decode cL_sees 62 = .ok (.ireturn, 1) := by decide +kernel
theorem dL_keep_0 : decode cL_keep 0 = .ok (.iconst (-1), 1) := by decide +kernel
theorem dL_keep_1 : decode cL_keep 1 = .ok (.istore 6, 2) := by decide +kernel
theorem dL_keep_3 : decode cL_keep 3 = .ok (.iconst 0, 1) := by decide +kernel
theorem dL_keep_4 : decode cL_keep 4 = .ok (.istore 7, 2) := by decide +kernel
theorem dL_keep_6 : decode cL_keep 6 = .ok (.iload 7, 2) := by decide +kernel
theorem dL_keep_8 : decode cL_keep 8 = .ok (.aload 5, 2) := by decide +kernel
theorem dL_keep_10 : decode cL_keep 10 = .ok (.iconst 1, 1) := by decide +kernel
theorem dL_keep_11 : decode cL_keep 11 = .ok (.iaload, 1) := by decide +kernel
theorem dL_keep_12 : decode cL_keep 12 = .ok (.if_icmp .ge 49, 3) := by decide +kernel
theorem dL_keep_15 : decode cL_keep 15 = .ok (.aload_n 2, 1) := by decide +kernel
theorem dL_keep_16 : decode cL_keep 16 = .ok (.iload 7, 2) := by decide +kernel
theorem dL_keep_18 : decode cL_keep 18 = .ok (.iaload, 1) := by decide +kernel
theorem dL_keep_19 : decode cL_keep 19 = .ok (.bipush 6, 2) := by decide +kernel
theorem dL_keep_21 : decode cL_keep 21 = .ok (.ishr, 1) := by decide +kernel
theorem dL_keep_22 : decode cL_keep 22 = .ok (.aload 5, 2) := by decide +kernel
theorem dL_keep_24 : decode cL_keep 24 = .ok (.iconst 0, 1) := by decide +kernel
theorem dL_keep_25 : decode cL_keep 25 = .ok (.iaload, 1) := by decide +kernel
theorem dL_keep_26 : decode cL_keep 26 = .ok (.if_icmp .gt 29, 3) := by decide +kernel
theorem dL_keep_29 : decode cL_keep 29 = .ok (.iload 6, 2) := by decide +kernel
theorem dL_keep_31 : decode cL_keep 31 = .ok (.ifCond .lt 20, 3) := by decide +kernel
theorem dL_keep_34 : decode cL_keep 34 = .ok (.aload_n 2, 1) := by decide +kernel
theorem dL_keep_35 : decode cL_keep 35 = .ok (.iload 7, 2) := by decide +kernel
theorem dL_keep_37 : decode cL_keep 37 = .ok (.iaload, 1) := by decide +kernel
theorem dL_keep_38 : decode cL_keep 38 = .ok (.bipush 6, 2) := by decide +kernel
theorem dL_keep_40 : decode cL_keep 40 = .ok (.ishr, 1) := by decide +kernel
theorem dL_keep_41 : decode cL_keep 41 = .ok (.aload_n 2, 1) := by decide +kernel
theorem dL_keep_42 : decode cL_keep 42 = .ok (.iload 6, 2) := by decide +kernel
theorem dL_keep_44 : decode cL_keep 44 = .ok (.iaload, 1) := by decide +kernel
theorem dL_keep_45 : decode cL_keep 45 = .ok (.bipush 6, 2) := by decide +kernel
theorem dL_keep_47 : decode cL_keep 47 = .ok (.ishr, 1) := by decide +kernel
theorem dL_keep_48 : decode cL_keep 48 = .ok (.if_icmp .lt 7, 3) := by decide +kernel
theorem dL_keep_51 : decode cL_keep 51 = .ok (.iload 7, 2) := by decide +kernel
theorem dL_keep_53 : decode cL_keep 53 = .ok (.istore 6, 2) := by decide +kernel
theorem dL_keep_55 : decode cL_keep 55 = .ok (.iinc 7 1, 3) := by decide +kernel
theorem dL_keep_58 : decode cL_keep 58 = .ok (.goto (-52), 3) := by decide +kernel
theorem dL_keep_61 : decode cL_keep 61 = .ok (.iload 6, 2) := by decide +kernel
theorem dL_keep_63 : decode cL_keep 63 = .ok (.ifCond .ge 7, 3) := by decide +kernel
theorem dL_keep_66 : decode cL_keep 66 = .ok (.iconst 0, 1) := by decide +kernel
theorem dL_keep_67 : decode cL_keep 67 = .ok (.goto 12, 3) := by decide +kernel
theorem dL_keep_70 : decode cL_keep 70 = .ok (.aload_n 2, 1) := by decide +kernel
theorem dL_keep_71 : decode cL_keep 71 = .ok (.iload 6, 2) := by decide +kernel
theorem dL_keep_73 : decode cL_keep 73 = .ok (.iaload, 1) := by decide +kernel
theorem dL_keep_74 : decode cL_keep 74 = .ok (.iconst 3, 1) := by decide +kernel
theorem dL_keep_75 : decode cL_keep 75 = .ok (.ishr, 1) := by decide +kernel
theorem dL_keep_76 : decode cL_keep 76 = .ok (.bipush 7, 2) := by decide +kernel
theorem dL_keep_78 : decode cL_keep 78 = .ok (.iand, 1) := by decide +kernel
theorem dL_keep_79 : decode cL_keep 79 = .ok (.istore 7, 2) := by decide +kernel
theorem dL_keep_81 : decode cL_keep 81 = .ok (.iload 6, 2) := by decide +kernel
theorem dL_keep_83 : decode cL_keep 83 = .ok (.ifCond .ge 7, 3) := by decide +kernel
theorem dL_keep_86 : decode cL_keep 86 = .ok (.iconst 1, 1) := by decide +kernel
theorem dL_keep_87 : decode cL_keep 87 = .ok (.goto 10, 3) := by decide +kernel
theorem dL_keep_90 : decode cL_keep 90 = .ok (.aload_n 2, 1) := by decide +kernel
theorem dL_keep_91 : decode cL_keep 91 = .ok (.iload 6, 2) := by decide +kernel
theorem dL_keep_93 : decode cL_keep 93 = .ok (.iaload, 1) := by decide +kernel
theorem dL_keep_94 : decode cL_keep 94 = .ok (.bipush 7, 2) := by decide +kernel
theorem dL_keep_96 : decode cL_keep 96 = .ok (.iand, 1) := by decide +kernel
theorem dL_keep_97 : decode cL_keep 97 = .ok (.istore 8, 2) := by decide +kernel
theorem dL_keep_99 : decode cL_keep 99 = .ok (.aload 5, 2) := by decide +kernel
theorem dL_keep_101 : decode cL_keep 101 = .ok (.iconst 2, 1) := by decide +kernel
theorem dL_keep_102 : decode cL_keep 102 = .ok (.iaload, 1) := by decide +kernel
theorem dL_keep_103 : decode cL_keep 103 = .ok (.istore 9, 2) := by decide +kernel
theorem dL_keep_105 : decode cL_keep 105 = .ok (.iload 9, 2) := by decide +kernel
theorem dL_keep_107 : decode cL_keep 107 = .ok (.aload 5, 2) := by decide +kernel
theorem dL_keep_109 : decode cL_keep 109 = .ok (.iconst 2, 1) := by decide +kernel
theorem dL_keep_110 : decode cL_keep 110 = .ok (.iaload, 1) := by decide +kernel
theorem dL_keep_111 : decode cL_keep 111 = .ok (.aload 5, 2) := by decide +kernel
theorem dL_keep_113 : decode cL_keep 113 = .ok (.iconst 3, 1) := by decide +kernel
theorem dL_keep_114 : decode cL_keep 114 = .ok (.iaload, 1) := by decide +kernel
theorem dL_keep_115 : decode cL_keep 115 = .ok (.iadd, 1) := by decide +kernel
theorem dL_keep_116 : decode cL_keep 116 = .ok (.if_icmp .ge 147, 3) := by decide +kernel
theorem dL_keep_119 : decode cL_keep 119 = .ok (.aload_n 0, 1) := by decide +kernel
theorem dL_keep_120 : decode cL_keep 120 = .ok (.iload 9, 2) := by decide +kernel
theorem dL_keep_122 : decode cL_keep 122 = .ok (.laload, 1) := by decide +kernel
theorem dL_keep_123 : decode cL_keep 123 = .ok (.iload 7, 2) := by decide +kernel
theorem dL_keep_125 : decode cL_keep 125 = .ok (.invokestatic 85, 3) := by decide +kernel
theorem dL_keep_128 : decode cL_keep 128 = .ok (.istore 10, 2) := by decide +kernel
theorem dL_keep_130 : decode cL_keep 130 = .ok (.iload 9, 2) := by decide +kernel
theorem dL_keep_132 : decode cL_keep 132 = .ok (.aload 5, 2) := by decide +kernel
theorem dL_keep_134 : decode cL_keep 134 = .ok (.iconst 2, 1) := by decide +kernel
theorem dL_keep_135 : decode cL_keep 135 = .ok (.iaload, 1) := by decide +kernel
theorem dL_keep_136 : decode cL_keep 136 = .ok (.if_icmp .le 30, 3) := by decide +kernel
theorem dL_keep_139 : decode cL_keep 139 = .ok (.iload 10, 2) := by decide +kernel
theorem dL_keep_141 : decode cL_keep 141 = .ok (.ifCond .lt 21, 3) := by decide +kernel
theorem dL_keep_144 : decode cL_keep 144 = .ok (.iload 10, 2) := by decide +kernel
theorem dL_keep_146 : decode cL_keep 146 = .ok (.aload_n 3, 1) := by decide +kernel
theorem dL_keep_147 : decode cL_keep 147 = .ok (.aload 5, 2) := by decide +kernel
theorem dL_keep_149 : decode cL_keep 149 = .ok (.iconst 5, 1) := by decide +kernel
theorem dL_keep_150 : decode cL_keep 150 = .ok (.iaload, 1) := by decide +kernel
theorem dL_keep_151 : decode cL_keep 151 = .ok (.iconst 1, 1) := by decide +kernel
theorem dL_keep_152 : decode cL_keep 152 = .ok (.isub, 1) := by decide +kernel
theorem dL_keep_153 : decode cL_keep 153 = .ok (.iaload, 1) := by decide +kernel
theorem dL_keep_154 : decode cL_keep 154 = .ok (.bipush 127, 2) := by decide +kernel
theorem dL_keep_156 : decode cL_keep 156 = .ok (.iand, 1) := by decide +kernel
theorem dL_keep_157 : decode cL_keep 157 = .ok (.iconst 1, 1) := by decide +kernel
theorem dL_keep_158 : decode cL_keep 158 = .ok (.isub, 1) := by decide +kernel
theorem dL_keep_159 : decode cL_keep 159 = .ok (.if_icmp .ne 7, 3) := by decide +kernel
theorem dL_keep_162 : decode cL_keep 162 = .ok (.iconst 1, 1) := by decide +kernel
theorem dL_keep_163 : decode cL_keep 163 = .ok (.goto 4, 3) := by decide +kernel
theorem dL_keep_166 : decode cL_keep 166 = .ok (.iconst 0, 1) := by decide +kernel
theorem dL_keep_167 : decode cL_keep 167 = .ok (.istore 11, 2) := by decide +kernel
theorem dL_keep_169 : decode cL_keep 169 = .ok (.iload 11, 2) := by decide +kernel
theorem dL_keep_171 : decode cL_keep 171 = .ok (.ifCond .ne 73, 3) := by decide +kernel
theorem dL_keep_174 : decode cL_keep 174 = .ok (.aload_n 0, 1) := by decide +kernel
theorem dL_keep_175 : decode cL_keep 175 = .ok (.iload 9, 2) := by decide +kernel
theorem dL_keep_177 : decode cL_keep 177 = .ok (.laload, 1) := by decide +kernel
theorem dL_keep_178 : decode cL_keep 178 = .ok (.iload 8, 2) := by decide +kernel
theorem dL_keep_180 : decode cL_keep 180 = .ok (.invokestatic 85, 3) := by decide +kernel
theorem dL_keep_183 : decode cL_keep 183 = .ok (.istore 12, 2) := by decide +kernel
theorem dL_keep_185 : decode cL_keep 185 = .ok (.aload_n 3, 1) := by decide +kernel
theorem dL_keep_186 : decode cL_keep 186 = .ok (.aload 5, 2) := by decide +kernel
theorem dL_keep_188 : decode cL_keep 188 = .ok (.iconst 5, 1) := by decide +kernel
theorem dL_keep_189 : decode cL_keep 189 = .ok (.iaload, 1) := by decide +kernel
theorem dL_keep_190 : decode cL_keep 190 = .ok (.iload 10, 2) := by decide +kernel
theorem dL_keep_192 : decode cL_keep 192 = .ok (.iconst 1, 1) := by decide +kernel
theorem dL_keep_193 : decode cL_keep 193 = .ok (.iadd, 1) := by decide +kernel
theorem dL_keep_194 : decode cL_keep 194 = .ok (.sipush 128, 3) := by decide +kernel
theorem dL_keep_197 : decode cL_keep 197 = .ok (.iload 12, 2) := by decide +kernel
theorem dL_keep_199 : decode cL_keep 199 = .ok (.ifCond .ge 7, 3) := by decide +kernel
theorem dL_keep_202 : decode cL_keep 202 = .ok (.iconst 0, 1) := by decide +kernel
theorem dL_keep_203 : decode cL_keep 203 = .ok (.goto 7, 3) := by decide +kernel
theorem dL_keep_206 : decode cL_keep 206 = .ok (.iload 12, 2) := by decide +kernel
theorem dL_keep_208 : decode cL_keep 208 = .ok (.iconst 4, 1) := by decide +kernel
theorem dL_keep_209 : decode cL_keep 209 = .ok (.irem, 1) := by decide +kernel
theorem dL_keep_210 : decode cL_keep 210 = .ok (.imul, 1) := by decide +kernel
theorem dL_keep_211 : decode cL_keep 211 = .ok (.iadd, 1) := by decide +kernel
theorem dL_keep_212 : decode cL_keep 212 = .ok (.sipush 512, 3) := by decide +kernel
theorem dL_keep_215 : decode cL_keep 215 = .ok (.iload 9, 2) := by decide +kernel
theorem dL_keep_217 : decode cL_keep 217 = .ok (.imul, 1) := by decide +kernel
theorem dL_keep_218 : decode cL_keep 218 = .ok (.iadd, 1) := by decide +kernel
theorem dL_keep_219 : decode cL_keep 219 = .ok (.ldc 89, 2) := by decide +kernel
theorem dL_keep_221 : decode cL_keep 221 = .ok (.aload 5, 2) := by decide +kernel
theorem dL_keep_223 : decode cL_keep 223 = .ok (.iconst 4, 1) := by decide +kernel
theorem dL_keep_224 : decode cL_keep 224 = .ok (.iaload, 1) := by decide +kernel
theorem dL_keep_225 : decode cL_keep 225 = .ok (.imul, 1) := by decide +kernel
theorem dL_keep_226 : decode cL_keep 226 = .ok (.iadd, 1) := by decide +kernel
theorem dL_keep_227 : decode cL_keep 227 = .ok (.iastore, 1) := by decide +kernel
theorem dL_keep_228 : decode cL_keep 228 = .ok (.aload 4, 2) := by decide +kernel
theorem dL_keep_230 : decode cL_keep 230 = .ok (.aload 5, 2) := by decide +kernel
theorem dL_keep_232 : decode cL_keep 232 = .ok (.iconst 5, 1) := by decide +kernel
theorem dL_keep_233 : decode cL_keep 233 = .ok (.iaload, 1) := by decide +kernel
theorem dL_keep_234 : decode cL_keep 234 = .ok (.iconst 0, 1) := by decide +kernel
theorem dL_keep_235 : decode cL_keep 235 = .ok (.iastore, 1) := by decide +kernel
theorem dL_keep_236 : decode cL_keep 236 = .ok (.aload 5, 2) := by decide +kernel
theorem dL_keep_238 : decode cL_keep 238 = .ok (.iconst 5, 1) := by decide +kernel
theorem dL_keep_239 : decode cL_keep 239 = .ok (.dup2, 1) := by decide +kernel
theorem dL_keep_240 : decode cL_keep 240 = .ok (.iaload, 1) := by decide +kernel
theorem dL_keep_241 : decode cL_keep 241 = .ok (.iconst 1, 1) := by decide +kernel
theorem dL_keep_242 : decode cL_keep 242 = .ok (.iadd, 1) := by decide +kernel
theorem dL_keep_243 : decode cL_keep 243 = .ok (.iastore, 1) := by decide +kernel
theorem dL_keep_244 : decode cL_keep 244 = .ok (.aload 4, 2) := by decide +kernel
theorem dL_keep_246 : decode cL_keep 246 = .ok (.aload 5, 2) := by decide +kernel
theorem dL_keep_248 : decode cL_keep 248 = .ok (.iconst 5, 1) := by decide +kernel
theorem dL_keep_249 : decode cL_keep 249 = .ok (.iaload, 1) := by decide +kernel
theorem dL_keep_250 : decode cL_keep 250 = .ok (.iconst 1, 1) := by decide +kernel
theorem dL_keep_251 : decode cL_keep 251 = .ok (.isub, 1) := by decide +kernel
theorem dL_keep_252 : decode cL_keep 252 = .ok (.dup2, 1) := by decide +kernel
theorem dL_keep_253 : decode cL_keep 253 = .ok (.iaload, 1) := by decide +kernel
theorem dL_keep_254 : decode cL_keep 254 = .ok (.iconst 1, 1) := by decide +kernel
theorem dL_keep_255 : decode cL_keep 255 = .ok (.iadd, 1) := by decide +kernel
theorem dL_keep_256 : decode cL_keep 256 = .ok (.iastore, 1) := by decide +kernel
theorem dL_keep_257 : decode cL_keep 257 = .ok (.iinc 9 1, 3) := by decide +kernel
theorem dL_keep_260 : decode cL_keep 260 = .ok (.goto (-155), 3) := by decide +kernel
theorem dL_keep_263 : decode cL_keep 263 = .ok (.aload_n 1, 1) := by decide +kernel
theorem dL_keep_264 : decode cL_keep 264 = .ok (.aload 5, 2) := by decide +kernel
theorem dL_keep_266 : decode cL_keep 266 = .ok (.iconst 4, 1) := by decide +kernel
theorem dL_keep_267 : decode cL_keep 267 = .ok (.iaload, 1) := by decide +kernel
theorem dL_keep_268 : decode cL_keep 268 = .ok (.aload 5, 2) := by decide +kernel
theorem dL_keep_270 : decode cL_keep 270 = .ok (.iconst 2, 1) := by decide +kernel
theorem dL_keep_271 : decode cL_keep 271 = .ok (.iaload, 1) := by decide +kernel
theorem dL_keep_272 : decode cL_keep 272 = .ok (.bipush 64, 2) := by decide +kernel
theorem dL_keep_274 : decode cL_keep 274 = .ok (.aload 5, 2) := by decide +kernel
theorem dL_keep_276 : decode cL_keep 276 = .ok (.iconst 3, 1) := by decide +kernel
theorem dL_keep_277 : decode cL_keep 277 = .ok (.iaload, 1) := by decide +kernel
theorem dL_keep_278 : decode cL_keep 278 = .ok (.imul, 1) := by decide +kernel
theorem dL_keep_279 : decode cL_keep 279 = .ok (.iadd, 1) := by decide +kernel
theorem dL_keep_280 : decode cL_keep 280 = .ok (.sipush 4096, 3) := by decide +kernel
theorem dL_keep_283 : decode cL_keep 283 = .ok (.aload 5, 2) := by decide +kernel
theorem dL_keep_285 : decode cL_keep 285 = .ok (.iconst 0, 1) := by decide +kernel
theorem dL_keep_286 : decode cL_keep 286 = .ok (.iaload, 1) := by decide +kernel
theorem dL_keep_287 : decode cL_keep 287 = .ok (.imul, 1) := by decide +kernel
theorem dL_keep_288 : decode cL_keep 288 = .ok (.iadd, 1) := by decide +kernel
theorem dL_keep_289 : decode cL_keep 289 = .ok (.iastore, 1) := by decide +kernel
theorem dL_keep_290 : decode cL_keep 290 = .ok (.aload 5, 2) := by decide +kernel
theorem dL_keep_292 : decode cL_keep 292 = .ok (.iconst 2, 1) := by decide +kernel
theorem dL_keep_293 : decode cL_keep 293 = .ok (.dup2, 1) := by decide +kernel
theorem dL_keep_294 : decode cL_keep 294 = .ok (.iaload, 1) := by decide +kernel
theorem dL_keep_295 : decode cL_keep 295 = .ok (.aload 5, 2) := by decide +kernel
theorem dL_keep_297 : decode cL_keep 297 = .ok (.iconst 3, 1) := by decide +kernel
theorem dL_keep_298 : decode cL_keep 298 = .ok (.iaload, 1) := by decide +kernel
theorem dL_keep_299 : decode cL_keep 299 = .ok (.iadd, 1) := by decide +kernel
theorem dL_keep_300 : decode cL_keep 300 = .ok (.iastore, 1) := by decide +kernel
theorem dL_keep_301 : decode cL_keep 301 = .ok (.aload 5, 2) := by decide +kernel
theorem dL_keep_303 : decode cL_keep 303 = .ok (.iconst 3, 1) := by decide +kernel
theorem dL_keep_304 : decode cL_keep 304 = .ok (.iconst 0, 1) := by decide +kernel
theorem dL_keep_305 : decode cL_keep 305 = .ok (.iastore, 1) := by decide +kernel
theorem dL_keep_306 : decode cL_keep 306 = .ok (.aload 5, 2) := by decide +kernel
theorem dL_keep_308 : decode cL_keep 308 = .ok (.iconst 4, 1) := by decide +kernel
theorem dL_keep_309 : decode cL_keep 309 = .ok (.dup2, 1) := by decide +kernel
theorem dL_keep_310 : decode cL_keep 310 = .ok (.iaload, 1) := by decide +kernel
theorem dL_keep_311 : decode cL_keep 311 = .ok (.iconst 1, 1) := by decide +kernel
theorem dL_keep_312 : decode cL_keep 312 = .ok (.iadd, 1) := by decide +kernel
theorem dL_keep_313 : decode cL_keep 313 = .ok (.iastore, 1) := by decide +kernel
theorem dL_keep_314 : decode cL_keep 314 = .ok (.return_, 1) := by decide +kernel
theorem dL_types_0 : decode cL_types 0 = .ok (.iload_n 1, 1) := by decide +kernel
theorem dL_types_1 : decode cL_types 1 = .ok (.bipush 8, 2) := by decide +kernel
theorem dL_types_3 : decode cL_types 3 = .ok (.if_icmp .ge 124, 3) := by decide +kernel
theorem dL_types_6 : decode cL_types 6 = .ok (.iload_n 2, 1) := by decide +kernel
theorem dL_types_7 : decode cL_types 7 = .ok (.bipush 6, 2) := by decide +kernel
theorem dL_types_9 : decode cL_types 9 = .ok (.iand, 1) := by decide +kernel
theorem dL_types_10 : decode cL_types 10 = .ok (.ifCond .ne 14, 3) := by decide +kernel
theorem dL_types_13 : decode cL_types 13 = .ok (.iload_n 2, 1) := by decide +kernel
theorem dL_types_14 : decode cL_types 14 = .ok (.iconst 3, 1) := by decide +kernel
theorem dL_types_15 : decode cL_types 15 = .ok (.ishr, 1) := by decide +kernel
theorem dL_types_16 : decode cL_types 16 = .ok (.bipush 100, 2) := by decide +kernel
theorem dL_types_18 : decode cL_types 18 = .ok (.invokestatic 90, 3) := by decide +kernel
theorem dL_types_21 : decode cL_types 21 = .ok (.goto 11, 3) := by decide +kernel
theorem dL_types_24 : decode cL_types 24 = .ok (.iload_n 2, 1) := by decide +kernel
theorem dL_types_25 : decode cL_types 25 = .ok (.iconst 3, 1) := by decide +kernel
theorem dL_types_26 : decode cL_types 26 = .ok (.ishr, 1) := by decide +kernel
theorem dL_types_27 : decode cL_types 27 = .ok (.bipush 6, 2) := by decide +kernel
theorem dL_types_29 : decode cL_types 29 = .ok (.invokestatic 90, 3) := by decide +kernel
theorem dL_types_32 : decode cL_types 32 = .ok (.istore 11, 2) := by decide +kernel
theorem dL_types_34 : decode cL_types 34 = .ok (.aload_n 3, 1) := by decide +kernel
theorem dL_types_35 : decode cL_types 35 = .ok (.iconst 0, 1) := by decide +kernel
theorem dL_types_36 : decode cL_types 36 = .ok (.laload, 1) := by decide +kernel
theorem dL_types_37 : decode cL_types 37 = .ok (.invokestatic 73, 3) := by decide +kernel
theorem dL_types_40 : decode cL_types 40 = .ok (.istore 12, 2) := by decide +kernel
theorem dL_types_42 : decode cL_types 42 = .ok (.aload_n 0, 1) := by decide +kernel
theorem dL_types_43 : decode cL_types 43 = .ok (.bipush 100, 2) := by decide +kernel
theorem dL_types_45 : decode cL_types 45 = .ok (.invokestatic 93, 3) := by decide +kernel
theorem dL_types_48 : decode cL_types 48 = .ok (.bipush (-71), 2) := by decide +kernel
theorem dL_types_50 : decode cL_types 50 = .ok (.if_icmp .ne 13, 3) := by decide +kernel
theorem dL_types_53 : decode cL_types 53 = .ok (.aload_n 0, 1) := by decide +kernel
theorem dL_types_54 : decode cL_types 54 = .ok (.iconst (-1), 1) := by decide +kernel
theorem dL_types_55 : decode cL_types 55 = .ok (.invokestatic 93, 3) := by decide +kernel
theorem dL_types_58 : decode cL_types 58 = .ok (.bipush (-71), 2) := by decide +kernel
theorem dL_types_60 : decode cL_types 60 = .ok (.if_icmp .eq 5, 3) := by decide +kernel
theorem dL_types_63 : decode cL_types 63 = .ok (.iconst 0, 1) := by decide +kernel
theorem dL_types_64 : decode cL_types 64 = .ok (.ireturn, 1) := by decide +kernel
theorem dL_types_65 : decode cL_types 65 = .ok (.iload 12, 2) := by decide +kernel
theorem dL_types_67 : decode cL_types 67 = .ok (.bipush 8, 2) := by decide +kernel
theorem dL_types_69 : decode cL_types 69 = .ok (.if_icmp .ne 20, 3) := by decide +kernel
theorem dL_types_72 : decode cL_types 72 = .ok (.aload_n 0, 1) := by decide +kernel
theorem dL_types_73 : decode cL_types 73 = .ok (.iload 11, 2) := by decide +kernel
theorem dL_types_75 : decode cL_types 75 = .ok (.invokestatic 93, 3) := by decide +kernel
theorem dL_types_78 : decode cL_types 78 = .ok (.bipush (-72), 2) := by decide +kernel
theorem dL_types_80 : decode cL_types 80 = .ok (.if_icmp .ne 7, 3) := by decide +kernel
theorem dL_types_83 : decode cL_types 83 = .ok (.iconst 1, 1) := by decide +kernel
theorem dL_types_84 : decode cL_types 84 = .ok (.goto 4, 3) := by decide +kernel
theorem dL_types_87 : decode cL_types 87 = .ok (.iconst 0, 1) := by decide +kernel
theorem dL_types_88 : decode cL_types 88 = .ok (.ireturn, 1) := by decide +kernel
theorem dL_types_89 : decode cL_types 89 = .ok (.aload_n 3, 1) := by decide +kernel
theorem dL_types_90 : decode cL_types 90 = .ok (.iconst 0, 1) := by decide +kernel
theorem dL_types_91 : decode cL_types 91 = .ok (.dup2, 1) := by decide +kernel
theorem dL_types_92 : decode cL_types 92 = .ok (.laload, 1) := by decide +kernel
theorem dL_types_93 : decode cL_types 93 = .ok (.lconst 1, 1) := by decide +kernel
theorem dL_types_94 : decode cL_types 94 = .ok (.iload 11, 2) := by decide +kernel
theorem dL_types_96 : decode cL_types 96 = .ok (.i2l, 1) := by decide +kernel
theorem dL_types_97 : decode cL_types 97 = .ok (.iconst 4, 1) := by decide +kernel
theorem dL_types_98 : decode cL_types 98 = .ok (.bipush 7, 2) := by decide +kernel
theorem dL_types_100 : decode cL_types 100 = .ok (.iload 12, 2) := by decide +kernel
theorem dL_types_102 : decode cL_types 102 = .ok (.imul, 1) := by decide +kernel
theorem dL_types_103 : decode cL_types 103 = .ok (.iadd, 1) := by decide +kernel
theorem dL_types_104 : decode cL_types 104 = .ok (.lshl, 1) := by decide +kernel
theorem dL_types_105 : decode cL_types 105 = .ok (.ladd, 1) := by decide +kernel
theorem dL_types_106 : decode cL_types 106 = .ok (.ladd, 1) := by decide +kernel
theorem dL_types_107 : decode cL_types 107 = .ok (.lastore, 1) := by decide +kernel
theorem dL_types_108 : decode cL_types 108 = .ok (.aload_n 0, 1) := by decide +kernel
theorem dL_types_109 : decode cL_types 109 = .ok (.iload 11, 2) := by decide +kernel
theorem dL_types_111 : decode cL_types 111 = .ok (.invokestatic 93, 3) := by decide +kernel
theorem dL_types_114 : decode cL_types 114 = .ok (.iload 12, 2) := by decide +kernel
theorem dL_types_116 : decode cL_types 116 = .ok (.iconst 1, 1) := by decide +kernel
theorem dL_types_117 : decode cL_types 117 = .ok (.iadd, 1) := by decide +kernel
theorem dL_types_118 : decode cL_types 118 = .ok (.if_icmp .ne 7, 3) := by decide +kernel
theorem dL_types_121 : decode cL_types 121 = .ok (.iconst 1, 1) := by decide +kernel
theorem dL_types_122 : decode cL_types 122 = .ok (.goto 4, 3) := by decide +kernel
theorem dL_types_125 : decode cL_types 125 = .ok (.iconst 0, 1) := by decide +kernel
theorem dL_types_126 : decode cL_types 126 = .ok (.ireturn, 1) := by decide +kernel
theorem dL_types_127 : decode cL_types 127 = .ok (.aload 10, 2) := by decide +kernel
theorem dL_types_129 : decode cL_types 129 = .ok (.iconst 2, 1) := by decide +kernel
theorem dL_types_130 : decode cL_types 130 = .ok (.iaload, 1) := by decide +kernel
theorem dL_types_131 : decode cL_types 131 = .ok (.aload 10, 2) := by decide +kernel
theorem dL_types_133 : decode cL_types 133 = .ok (.iconst 3, 1) := by decide +kernel
theorem dL_types_134 : decode cL_types 134 = .ok (.iaload, 1) := by decide +kernel
theorem dL_types_135 : decode cL_types 135 = .ok (.iadd, 1) := by decide +kernel
theorem dL_types_136 : decode cL_types 136 = .ok (.bipush 58, 2) := by decide +kernel
theorem dL_types_138 : decode cL_types 138 = .ok (.if_icmp .le 20, 3) := by decide +kernel
theorem dL_types_141 : decode cL_types 141 = .ok (.aload_n 0, 1) := by decide +kernel
theorem dL_types_142 : decode cL_types 142 = .ok (.invokevirtual 96, 3) := by decide +kernel
theorem dL_types_145 : decode cL_types 145 = .ok (.aload 10, 2) := by decide +kernel
theorem dL_types_147 : decode cL_types 147 = .ok (.iconst 5, 1) := by decide +kernel
theorem dL_types_148 : decode cL_types 148 = .ok (.iaload, 1) := by decide +kernel
theorem dL_types_149 : decode cL_types 149 = .ok (.if_icmp .ne 7, 3) := by decide +kernel
theorem dL_types_152 : decode cL_types 152 = .ok (.iconst 1, 1) := by decide +kernel
theorem dL_types_153 : decode cL_types 153 = .ok (.goto 4, 3) := by decide +kernel
theorem dL_types_156 : decode cL_types 156 = .ok (.iconst 0, 1) := by decide +kernel
theorem dL_types_157 : decode cL_types 157 = .ok (.ireturn, 1) := by decide +kernel
theorem dL_types_158 : decode cL_types 158 = .ok (.iload_n 1, 1) := by decide +kernel
theorem dL_types_159 : decode cL_types 159 = .ok (.bipush 12, 2) := by decide +kernel
theorem dL_types_161 : decode cL_types 161 = .ok (.if_icmp .ge 60, 3) := by decide +kernel
theorem dL_types_164 : decode cL_types 164 = .ok (.aload 4, 2) := by decide +kernel
theorem dL_types_166 : decode cL_types 166 = .ok (.aload 10, 2) := by decide +kernel
theorem dL_types_168 : decode cL_types 168 = .ok (.iconst 2, 1) := by decide +kernel
theorem dL_types_169 : decode cL_types 169 = .ok (.iaload, 1) := by decide +kernel
theorem dL_types_170 : decode cL_types 170 = .ok (.aload 10, 2) := by decide +kernel
theorem dL_types_172 : decode cL_types 172 = .ok (.iconst 3, 1) := by decide +kernel
theorem dL_types_173 : decode cL_types 173 = .ok (.iaload, 1) := by decide +kernel
theorem dL_types_174 : decode cL_types 174 = .ok (.iadd, 1) := by decide +kernel
theorem dL_types_175 : decode cL_types 175 = .ok (.aload_n 3, 1) := by decide +kernel
theorem dL_types_176 : decode cL_types 176 = .ok (.iconst 0, 1) := by decide +kernel
theorem dL_types_177 : decode cL_types 177 = .ok (.laload, 1) := by decide +kernel
theorem dL_types_178 : decode cL_types 178 = .ok (.lastore, 1) := by decide +kernel
theorem dL_types_179 : decode cL_types 179 = .ok (.aload 5, 2) := by decide +kernel
theorem dL_types_181 : decode cL_types 181 = .ok (.aload 10, 2) := by decide +kernel
theorem dL_types_183 : decode cL_types 183 = .ok (.iconst 2, 1) := by decide +kernel
theorem dL_types_184 : decode cL_types 184 = .ok (.iaload, 1) := by decide +kernel
theorem dL_types_185 : decode cL_types 185 = .ok (.aload 10, 2) := by decide +kernel
theorem dL_types_187 : decode cL_types 187 = .ok (.iconst 3, 1) := by decide +kernel
theorem dL_types_188 : decode cL_types 188 = .ok (.iaload, 1) := by decide +kernel
theorem dL_types_189 : decode cL_types 189 = .ok (.iadd, 1) := by decide +kernel
theorem dL_types_190 : decode cL_types 190 = .ok (.iconst 1, 1) := by decide +kernel
theorem dL_types_191 : decode cL_types 191 = .ok (.iastore, 1) := by decide +kernel
theorem dL_types_192 : decode cL_types 192 = .ok (.aload_n 3, 1) := by decide +kernel
theorem dL_types_193 : decode cL_types 193 = .ok (.iconst 0, 1) := by decide +kernel
theorem dL_types_194 : decode cL_types 194 = .ok (.lconst 0, 1) := by decide +kernel
theorem dL_types_195 : decode cL_types 195 = .ok (.lastore, 1) := by decide +kernel
theorem dL_types_196 : decode cL_types 196 = .ok (.aload 10, 2) := by decide +kernel
theorem dL_types_198 : decode cL_types 198 = .ok (.iconst 3, 1) := by decide +kernel
theorem dL_types_199 : decode cL_types 199 = .ok (.dup2, 1) := by decide +kernel
theorem dL_types_200 : decode cL_types 200 = .ok (.iaload, 1) := by decide +kernel
theorem dL_types_201 : decode cL_types 201 = .ok (.iconst 1, 1) := by decide +kernel
theorem dL_types_202 : decode cL_types 202 = .ok (.iadd, 1) := by decide +kernel
theorem dL_types_203 : decode cL_types 203 = .ok (.iastore, 1) := by decide +kernel
theorem dL_types_204 : decode cL_types 204 = .ok (.aload_n 0, 1) := by decide +kernel
theorem dL_types_205 : decode cL_types 205 = .ok (.invokevirtual 99, 3) := by decide +kernel
theorem dL_types_208 : decode cL_types 208 = .ok (.aload 10, 2) := by decide +kernel
theorem dL_types_210 : decode cL_types 210 = .ok (.iconst 3, 1) := by decide +kernel
theorem dL_types_211 : decode cL_types 211 = .ok (.iaload, 1) := by decide +kernel
theorem dL_types_212 : decode cL_types 212 = .ok (.if_icmp .ne 7, 3) := by decide +kernel
theorem dL_types_215 : decode cL_types 215 = .ok (.iconst 1, 1) := by decide +kernel
theorem dL_types_216 : decode cL_types 216 = .ok (.goto 4, 3) := by decide +kernel
theorem dL_types_219 : decode cL_types 219 = .ok (.iconst 0, 1) := by decide +kernel
theorem dL_types_220 : decode cL_types 220 = .ok (.ireturn, 1) := by decide +kernel
theorem dL_types_221 : decode cL_types 221 = .ok (.aload_n 3, 1) := by decide +kernel
theorem dL_types_222 : decode cL_types 222 = .ok (.iconst 0, 1) := by decide +kernel
theorem dL_types_223 : decode cL_types 223 = .ok (.laload, 1) := by decide +kernel
theorem dL_types_224 : decode cL_types 224 = .ok (.invokestatic 73, 3) := by decide +kernel
theorem dL_types_227 : decode cL_types 227 = .ok (.ifCond .ne 10, 3) := by decide +kernel
theorem dL_types_230 : decode cL_types 230 = .ok (.aload 10, 2) := by decide +kernel
theorem dL_types_232 : decode cL_types 232 = .ok (.iconst 3, 1) := by decide +kernel
theorem dL_types_233 : decode cL_types 233 = .ok (.iaload, 1) := by decide +kernel
theorem dL_types_234 : decode cL_types 234 = .ok (.ifCond .eq 12, 3) := by decide +kernel
theorem dL_types_237 : decode cL_types 237 = .ok (.aload 10, 2) := by decide +kernel
theorem dL_types_239 : decode cL_types 239 = .ok (.iconst 4, 1) := by decide +kernel
theorem dL_types_240 : decode cL_types 240 = .ok (.iaload, 1) := by decide +kernel
theorem dL_types_241 : decode cL_types 241 = .ok (.bipush 15, 2) := by decide +kernel
theorem dL_types_243 : decode cL_types 243 = .ok (.if_icmp .ne 18, 3) := by decide +kernel
theorem dL_types_246 : decode cL_types 246 = .ok (.aload_n 0, 1) := by decide +kernel
theorem dL_types_247 : decode cL_types 247 = .ok (.invokestatic 102, 3) := by decide +kernel
theorem dL_types_250 : decode cL_types 250 = .ok (.bipush (-72), 2) := by decide +kernel
theorem dL_types_252 : decode cL_types 252 = .ok (.if_icmp .ne 7, 3) := by decide +kernel
theorem dL_types_255 : decode cL_types 255 = .ok (.iconst 1, 1) := by decide +kernel
theorem dL_types_256 : decode cL_types 256 = .ok (.goto 4, 3) := by decide +kernel
theorem dL_types_259 : decode cL_types 259 = .ok (.iconst 0, 1) := by decide +kernel
theorem dL_types_260 : decode cL_types 260 = .ok (.ireturn, 1) := by decide +kernel
theorem dL_types_261 : decode cL_types 261 = .ok (.aload_n 3, 1) := by decide +kernel
theorem dL_types_262 : decode cL_types 262 = .ok (.iconst 0, 1) := by decide +kernel
theorem dL_types_263 : decode cL_types 263 = .ok (.laload, 1) := by decide +kernel
theorem dL_types_264 : decode cL_types 264 = .ok (.invokestatic 73, 3) := by decide +kernel
theorem dL_types_267 : decode cL_types 267 = .ok (.ifCond .le 43, 3) := by decide +kernel
theorem dL_types_270 : decode cL_types 270 = .ok (.aload 4, 2) := by decide +kernel
theorem dL_types_272 : decode cL_types 272 = .ok (.aload 10, 2) := by decide +kernel
theorem dL_types_274 : decode cL_types 274 = .ok (.iconst 2, 1) := by decide +kernel
theorem dL_types_275 : decode cL_types 275 = .ok (.iaload, 1) := by decide +kernel
theorem dL_types_276 : decode cL_types 276 = .ok (.aload 10, 2) := by decide +kernel
theorem dL_types_278 : decode cL_types 278 = .ok (.iconst 3, 1) := by decide +kernel
theorem dL_types_279 : decode cL_types 279 = .ok (.iaload, 1) := by decide +kernel
theorem dL_types_280 : decode cL_types 280 = .ok (.iadd, 1) := by decide +kernel
theorem dL_types_281 : decode cL_types 281 = .ok (.aload_n 3, 1) := by decide +kernel
theorem dL_types_282 : decode cL_types 282 = .ok (.iconst 0, 1) := by decide +kernel
theorem dL_types_283 : decode cL_types 283 = .ok (.laload, 1) := by decide +kernel
theorem dL_types_284 : decode cL_types 284 = .ok (.lastore, 1) := by decide +kernel
theorem dL_types_285 : decode cL_types 285 = .ok (.aload 5, 2) := by decide +kernel
theorem dL_types_287 : decode cL_types 287 = .ok (.aload 10, 2) := by decide +kernel
theorem dL_types_289 : decode cL_types 289 = .ok (.iconst 2, 1) := by decide +kernel
theorem dL_types_290 : decode cL_types 290 = .ok (.iaload, 1) := by decide +kernel
theorem dL_types_291 : decode cL_types 291 = .ok (.aload 10, 2) := by decide +kernel
theorem dL_types_293 : decode cL_types 293 = .ok (.iconst 3, 1) := by decide +kernel
theorem dL_types_294 : decode cL_types 294 = .ok (.iaload, 1) := by decide +kernel
theorem dL_types_295 : decode cL_types 295 = .ok (.iadd, 1) := by decide +kernel
theorem dL_types_296 : decode cL_types 296 = .ok (.iconst 1, 1) := by decide +kernel
theorem dL_types_297 : decode cL_types 297 = .ok (.iastore, 1) := by decide +kernel
theorem dL_types_298 : decode cL_types 298 = .ok (.aload_n 3, 1) := by decide +kernel
theorem dL_types_299 : decode cL_types 299 = .ok (.iconst 0, 1) := by decide +kernel
theorem dL_types_300 : decode cL_types 300 = .ok (.lconst 0, 1) := by decide +kernel
theorem dL_types_301 : decode cL_types 301 = .ok (.lastore, 1) := by decide +kernel
theorem dL_types_302 : decode cL_types 302 = .ok (.aload 10, 2) := by decide +kernel
theorem dL_types_304 : decode cL_types 304 = .ok (.iconst 3, 1) := by decide +kernel
theorem dL_types_305 : decode cL_types 305 = .ok (.dup2, 1) := by decide +kernel
theorem dL_types_306 : decode cL_types 306 = .ok (.iaload, 1) := by decide +kernel
theorem dL_types_307 : decode cL_types 307 = .ok (.iconst 1, 1) := by decide +kernel
theorem dL_types_308 : decode cL_types 308 = .ok (.iadd, 1) := by decide +kernel
theorem dL_types_309 : decode cL_types 309 = .ok (.iastore, 1) := by decide +kernel
theorem dL_types_310 : decode cL_types 310 = .ok (.aload 4, 2) := by decide +kernel
theorem dL_types_312 : decode cL_types 312 = .ok (.aload 6, 2) := by decide +kernel
theorem dL_types_314 : decode cL_types 314 = .ok (.aload 7, 2) := by decide +kernel
theorem dL_types_316 : decode cL_types 316 = .ok (.aload 8, 2) := by decide +kernel
theorem dL_types_318 : decode cL_types 318 = .ok (.aload 9, 2) := by decide +kernel
theorem dL_types_320 : decode cL_types 320 = .ok (.aload 10, 2) := by decide +kernel
theorem dL_types_322 : decode cL_types 322 = .ok (.invokestatic 105, 3) := by decide +kernel
theorem dL_types_325 : decode cL_types 325 = .ok (.aload_n 0, 1) := by decide +kernel
theorem dL_types_326 : decode cL_types 326 = .ok (.invokestatic 102, 3) := by decide +kernel
theorem dL_types_329 : decode cL_types 329 = .ok (.aload 10, 2) := by decide +kernel
theorem dL_types_331 : decode cL_types 331 = .ok (.iconst 4, 1) := by decide +kernel
theorem dL_types_332 : decode cL_types 332 = .ok (.iaload, 1) := by decide +kernel
theorem dL_types_333 : decode cL_types 333 = .ok (.iconst 1, 1) := by decide +kernel
theorem dL_types_334 : decode cL_types 334 = .ok (.isub, 1) := by decide +kernel
theorem dL_types_335 : decode cL_types 335 = .ok (.if_icmp .ne 7, 3) := by decide +kernel
theorem dL_types_338 : decode cL_types 338 = .ok (.iconst 1, 1) := by decide +kernel
theorem dL_types_339 : decode cL_types 339 = .ok (.goto 4, 3) := by decide +kernel
theorem dL_types_342 : decode cL_types 342 = .ok (.iconst 0, 1) := by decide +kernel
theorem dL_types_343 : decode cL_types 343 = .ok (.ireturn, 1) := by decide +kernel
theorem dL_acts_0 : decode cL_acts 0 = .ok (.iload_n 1, 1) := by decide +kernel
theorem dL_acts_1 : decode cL_acts 1 = .ok (.ifCond .ne 118, 3) := by decide +kernel
theorem dL_acts_4 : decode cL_acts 4 = .ok (.iload_n 2, 1) := by decide +kernel
theorem dL_acts_5 : decode cL_acts 5 = .ok (.bipush 6, 2) := by decide +kernel
theorem dL_acts_7 : decode cL_acts 7 = .ok (.iand, 1) := by decide +kernel
theorem dL_acts_8 : decode cL_acts 8 = .ok (.ifCond .ne 17, 3) := by decide +kernel
theorem dL_acts_11 : decode cL_acts 11 = .ok (.iconst 1, 1) := by decide +kernel
theorem dL_acts_12 : decode cL_acts 12 = .ok (.iload_n 2, 1) := by decide +kernel
theorem dL_acts_13 : decode cL_acts 13 = .ok (.iconst 3, 1) := by decide +kernel
theorem dL_acts_14 : decode cL_acts 14 = .ok (.ishr, 1) := by decide +kernel
theorem dL_acts_15 : decode cL_acts 15 = .ok (.sipush 1000, 3) := by decide +kernel
theorem dL_acts_18 : decode cL_acts 18 = .ok (.invokestatic 90, 3) := by decide +kernel
theorem dL_acts_21 : decode cL_acts 21 = .ok (.iadd, 1) := by decide +kernel
theorem dL_acts_22 : decode cL_acts 22 = .ok (.goto 13, 3) := by decide +kernel
theorem dL_acts_25 : decode cL_acts 25 = .ok (.iconst 1, 1) := by decide +kernel
theorem dL_acts_26 : decode cL_acts 26 = .ok (.iload_n 2, 1) := by decide +kernel
theorem dL_acts_27 : decode cL_acts 27 = .ok (.iconst 3, 1) := by decide +kernel
theorem dL_acts_28 : decode cL_acts 28 = .ok (.ishr, 1) := by decide +kernel
theorem dL_acts_29 : decode cL_acts 29 = .ok (.bipush 60, 2) := by decide +kernel
theorem dL_acts_31 : decode cL_acts 31 = .ok (.invokestatic 90, 3) := by decide +kernel
theorem dL_acts_34 : decode cL_acts 34 = .ok (.iadd, 1) := by decide +kernel
theorem dL_acts_35 : decode cL_acts 35 = .ok (.istore 13, 2) := by decide +kernel
theorem dL_acts_37 : decode cL_acts 37 = .ok (.aload_n 0, 1) := by decide +kernel
theorem dL_acts_38 : decode cL_acts 38 = .ok (.iconst 0, 1) := by decide +kernel
theorem dL_acts_39 : decode cL_acts 39 = .ok (.invokestatic 109, 3) := by decide +kernel
theorem dL_acts_42 : decode cL_acts 42 = .ok (.bipush (-71), 2) := by decide +kernel
theorem dL_acts_44 : decode cL_acts 44 = .ok (.if_icmp .ne 15, 3) := by decide +kernel
theorem dL_acts_47 : decode cL_acts 47 = .ok (.aload_n 0, 1) := by decide +kernel
theorem dL_acts_48 : decode cL_acts 48 = .ok (.sipush 1001, 3) := by decide +kernel
theorem dL_acts_51 : decode cL_acts 51 = .ok (.invokestatic 109, 3) := by decide +kernel
theorem dL_acts_54 : decode cL_acts 54 = .ok (.bipush (-71), 2) := by decide +kernel
theorem dL_acts_56 : decode cL_acts 56 = .ok (.if_icmp .eq 5, 3) := by decide +kernel
theorem dL_acts_59 : decode cL_acts 59 = .ok (.iconst 0, 1) := by decide +kernel
theorem dL_acts_60 : decode cL_acts 60 = .ok (.ireturn, 1) := by decide +kernel
theorem dL_acts_61 : decode cL_acts 61 = .ok (.aload 12, 2) := by decide +kernel
theorem dL_acts_63 : decode cL_acts 63 = .ok (.iconst 0, 1) := by decide +kernel
theorem dL_acts_64 : decode cL_acts 64 = .ok (.iaload, 1) := by decide +kernel
theorem dL_acts_65 : decode cL_acts 65 = .ok (.iload 13, 2) := by decide +kernel
theorem dL_acts_67 : decode cL_acts 67 = .ok (.iadd, 1) := by decide +kernel
theorem dL_acts_68 : decode cL_acts 68 = .ok (.sipush 9999, 3) := by decide +kernel
theorem dL_acts_71 : decode cL_acts 71 = .ok (.if_icmp .le 20, 3) := by decide +kernel
theorem dL_acts_74 : decode cL_acts 74 = .ok (.aload_n 0, 1) := by decide +kernel
theorem dL_acts_75 : decode cL_acts 75 = .ok (.iload 13, 2) := by decide +kernel
theorem dL_acts_77 : decode cL_acts 77 = .ok (.invokestatic 109, 3) := by decide +kernel
theorem dL_acts_80 : decode cL_acts 80 = .ok (.bipush (-72), 2) := by decide +kernel
theorem dL_acts_82 : decode cL_acts 82 = .ok (.if_icmp .ne 7, 3) := by decide +kernel
theorem dL_acts_85 : decode cL_acts 85 = .ok (.iconst 1, 1) := by decide +kernel
theorem dL_acts_86 : decode cL_acts 86 = .ok (.goto 4, 3) := by decide +kernel
theorem dL_acts_89 : decode cL_acts 89 = .ok (.iconst 0, 1) := by decide +kernel
theorem dL_acts_90 : decode cL_acts 90 = .ok (.ireturn, 1) := by decide +kernel
theorem dL_acts_91 : decode cL_acts 91 = .ok (.aload 12, 2) := by decide +kernel
theorem dL_acts_93 : decode cL_acts 93 = .ok (.iconst 0, 1) := by decide +kernel
theorem dL_acts_94 : decode cL_acts 94 = .ok (.dup2, 1) := by decide +kernel
theorem dL_acts_95 : decode cL_acts 95 = .ok (.iaload, 1) := by decide +kernel
theorem dL_acts_96 : decode cL_acts 96 = .ok (.iload 13, 2) := by decide +kernel
theorem dL_acts_98 : decode cL_acts 98 = .ok (.iadd, 1) := by decide +kernel
theorem dL_acts_99 : decode cL_acts 99 = .ok (.iastore, 1) := by decide +kernel
theorem dL_acts_100 : decode cL_acts 100 = .ok (.aload_n 0, 1) := by decide +kernel
theorem dL_acts_101 : decode cL_acts 101 = .ok (.iload 13, 2) := by decide +kernel
theorem dL_acts_103 : decode cL_acts 103 = .ok (.invokestatic 109, 3) := by decide +kernel
theorem dL_acts_106 : decode cL_acts 106 = .ok (.aload 12, 2) := by decide +kernel
theorem dL_acts_108 : decode cL_acts 108 = .ok (.iconst 0, 1) := by decide +kernel
theorem dL_acts_109 : decode cL_acts 109 = .ok (.iaload, 1) := by decide +kernel
theorem dL_acts_110 : decode cL_acts 110 = .ok (.if_icmp .ne 7, 3) := by decide +kernel
theorem dL_acts_113 : decode cL_acts 113 = .ok (.iconst 1, 1) := by decide +kernel
theorem dL_acts_114 : decode cL_acts 114 = .ok (.goto 4, 3) := by decide +kernel
theorem dL_acts_117 : decode cL_acts 117 = .ok (.iconst 0, 1) := by decide +kernel
theorem dL_acts_118 : decode cL_acts 118 = .ok (.ireturn, 1) := by decide +kernel
theorem dL_acts_119 : decode cL_acts 119 = .ok (.iload_n 1, 1) := by decide +kernel
theorem dL_acts_120 : decode cL_acts 120 = .ok (.iconst 1, 1) := by decide +kernel
theorem dL_acts_121 : decode cL_acts 121 = .ok (.if_icmp .ne 215, 3) := by decide +kernel
theorem dL_acts_124 : decode cL_acts 124 = .ok (.iload_n 3, 1) := by decide +kernel
theorem dL_acts_125 : decode cL_acts 125 = .ok (.bipush 6, 2) := by decide +kernel
theorem dL_acts_127 : decode cL_acts 127 = .ok (.iand, 1) := by decide +kernel
theorem dL_acts_128 : decode cL_acts 128 = .ok (.ifCond .ne 15, 3) := by decide +kernel
theorem dL_acts_131 : decode cL_acts 131 = .ok (.iload_n 3, 1) := by decide +kernel
theorem dL_acts_132 : decode cL_acts 132 = .ok (.iconst 3, 1) := by decide +kernel
theorem dL_acts_133 : decode cL_acts 133 = .ok (.ishr, 1) := by decide +kernel
theorem dL_acts_134 : decode cL_acts 134 = .ok (.sipush 10000, 3) := by decide +kernel
theorem dL_acts_137 : decode cL_acts 137 = .ok (.invokestatic 90, 3) := by decide +kernel
theorem dL_acts_140 : decode cL_acts 140 = .ok (.goto 16, 3) := by decide +kernel
theorem dL_acts_143 : decode cL_acts 143 = .ok (.aload 12, 2) := by decide +kernel
theorem dL_acts_145 : decode cL_acts 145 = .ok (.iconst 0, 1) := by decide +kernel
theorem dL_acts_146 : decode cL_acts 146 = .ok (.iaload, 1) := by decide +kernel
theorem dL_acts_147 : decode cL_acts 147 = .ok (.iload_n 3, 1) := by decide +kernel
theorem dL_acts_148 : decode cL_acts 148 = .ok (.iconst 3, 1) := by decide +kernel
theorem dL_acts_149 : decode cL_acts 149 = .ok (.ishr, 1) := by decide +kernel
theorem dL_acts_150 : decode cL_acts 150 = .ok (.bipush 50, 2) := by decide +kernel
theorem dL_acts_152 : decode cL_acts 152 = .ok (.invokestatic 90, 3) := by decide +kernel
theorem dL_acts_155 : decode cL_acts 155 = .ok (.iadd, 1) := by decide +kernel
theorem dL_acts_156 : decode cL_acts 156 = .ok (.istore 13, 2) := by decide +kernel
theorem dL_acts_158 : decode cL_acts 158 = .ok (.iload 13, 2) := by decide +kernel
theorem dL_acts_160 : decode cL_acts 160 = .ok (.sipush 9999, 3) := by decide +kernel
theorem dL_acts_163 : decode cL_acts 163 = .ok (.if_icmp .le 9, 3) := by decide +kernel
theorem dL_acts_166 : decode cL_acts 166 = .ok (.sipush 9999, 3) := by decide +kernel
theorem dL_acts_169 : decode cL_acts 169 = .ok (.goto 5, 3) := by decide +kernel
theorem dL_acts_172 : decode cL_acts 172 = .ok (.iload 13, 2) := by decide +kernel
theorem dL_acts_174 : decode cL_acts 174 = .ok (.istore 13, 2) := by decide +kernel
theorem dL_acts_176 : decode cL_acts 176 = .ok (.iload_n 2, 1) := by decide +kernel
theorem dL_acts_177 : decode cL_acts 177 = .ok (.iconst 4, 1) := by decide +kernel
theorem dL_acts_178 : decode cL_acts 178 = .ok (.invokestatic 90, 3) := by decide +kernel
theorem dL_acts_181 : decode cL_acts 181 = .ok (.istore 14, 2) := by decide +kernel
theorem dL_acts_183 : decode cL_acts 183 = .ok (.iload_n 2, 1) := by decide +kernel
theorem dL_acts_184 : decode cL_acts 184 = .ok (.iconst 3, 1) := by decide +kernel
theorem dL_acts_185 : decode cL_acts 185 = .ok (.ishr, 1) := by decide +kernel
theorem dL_acts_186 : decode cL_acts 186 = .ok (.bipush 8, 2) := by decide +kernel
theorem dL_acts_188 : decode cL_acts 188 = .ok (.invokestatic 90, 3) := by decide +kernel
theorem dL_acts_191 : decode cL_acts 191 = .ok (.istore 15, 2) := by decide +kernel
theorem dL_acts_193 : decode cL_acts 193 = .ok (.aload_n 0, 1) := by decide +kernel
theorem dL_acts_194 : decode cL_acts 194 = .ok (.sipush 10000, 3) := by decide +kernel
theorem dL_acts_197 : decode cL_acts 197 = .ok (.iload 14, 2) := by decide +kernel
theorem dL_acts_199 : decode cL_acts 199 = .ok (.iload 15, 2) := by decide +kernel
theorem dL_acts_201 : decode cL_acts 201 = .ok (.invokestatic 111, 3) := by decide +kernel
theorem dL_acts_204 : decode cL_acts 204 = .ok (.bipush (-71), 2) := by decide +kernel
theorem dL_acts_206 : decode cL_acts 206 = .ok (.if_icmp .ne 46, 3) := by decide +kernel
theorem dL_acts_209 : decode cL_acts 209 = .ok (.aload_n 0, 1) := by decide +kernel
theorem dL_acts_210 : decode cL_acts 210 = .ok (.iconst (-1), 1) := by decide +kernel
theorem dL_acts_211 : decode cL_acts 211 = .ok (.iload 14, 2) := by decide +kernel
theorem dL_acts_213 : decode cL_acts 213 = .ok (.iload 15, 2) := by decide +kernel
theorem dL_acts_215 : decode cL_acts 215 = .ok (.invokestatic 111, 3) := by decide +kernel
theorem dL_acts_218 : decode cL_acts 218 = .ok (.bipush (-71), 2) := by decide +kernel
theorem dL_acts_220 : decode cL_acts 220 = .ok (.if_icmp .ne 32, 3) := by decide +kernel
theorem dL_acts_223 : decode cL_acts 223 = .ok (.aload_n 0, 1) := by decide +kernel
theorem dL_acts_224 : decode cL_acts 224 = .ok (.iload 13, 2) := by decide +kernel
theorem dL_acts_226 : decode cL_acts 226 = .ok (.bipush 8, 2) := by decide +kernel
theorem dL_acts_228 : decode cL_acts 228 = .ok (.iload 15, 2) := by decide +kernel
theorem dL_acts_230 : decode cL_acts 230 = .ok (.invokestatic 111, 3) := by decide +kernel
theorem dL_acts_233 : decode cL_acts 233 = .ok (.bipush (-71), 2) := by decide +kernel
theorem dL_acts_235 : decode cL_acts 235 = .ok (.if_icmp .ne 17, 3) := by decide +kernel
theorem dL_acts_238 : decode cL_acts 238 = .ok (.aload_n 0, 1) := by decide +kernel
theorem dL_acts_239 : decode cL_acts 239 = .ok (.iload 13, 2) := by decide +kernel
theorem dL_acts_241 : decode cL_acts 241 = .ok (.iload 14, 2) := by decide +kernel
theorem dL_acts_243 : decode cL_acts 243 = .ok (.iconst (-1), 1) := by decide +kernel
theorem dL_acts_244 : decode cL_acts 244 = .ok (.invokestatic 111, 3) := by decide +kernel
theorem dL_acts_247 : decode cL_acts 247 = .ok (.bipush (-71), 2) := by decide +kernel
theorem dL_acts_249 : decode cL_acts 249 = .ok (.if_icmp .eq 5, 3) := by decide +kernel
theorem dL_acts_252 : decode cL_acts 252 = .ok (.iconst 0, 1) := by decide +kernel
theorem dL_acts_253 : decode cL_acts 253 = .ok (.ireturn, 1) := by decide +kernel
theorem dL_acts_254 : decode cL_acts 254 = .ok (.aload 12, 2) := by decide +kernel
theorem dL_acts_256 : decode cL_acts 256 = .ok (.iconst 1, 1) := by decide +kernel
theorem dL_acts_257 : decode cL_acts 257 = .ok (.iaload, 1) := by decide +kernel
theorem dL_acts_258 : decode cL_acts 258 = .ok (.bipush 10, 2) := by decide +kernel
theorem dL_acts_260 : decode cL_acts 260 = .ok (.if_icmp .ne 24, 3) := by decide +kernel
theorem dL_acts_263 : decode cL_acts 263 = .ok (.aload_n 0, 1) := by decide +kernel
theorem dL_acts_264 : decode cL_acts 264 = .ok (.iload 13, 2) := by decide +kernel
theorem dL_acts_266 : decode cL_acts 266 = .ok (.iload 14, 2) := by decide +kernel
theorem dL_acts_268 : decode cL_acts 268 = .ok (.iload 15, 2) := by decide +kernel
theorem dL_acts_270 : decode cL_acts 270 = .ok (.invokestatic 111, 3) := by decide +kernel
theorem dL_acts_273 : decode cL_acts 273 = .ok (.bipush (-72), 2) := by decide +kernel
theorem dL_acts_275 : decode cL_acts 275 = .ok (.if_icmp .ne 7, 3) := by decide +kernel
theorem dL_acts_278 : decode cL_acts 278 = .ok (.iconst 1, 1) := by decide +kernel
theorem dL_acts_279 : decode cL_acts 279 = .ok (.goto 4, 3) := by decide +kernel
theorem dL_acts_282 : decode cL_acts 282 = .ok (.iconst 0, 1) := by decide +kernel
theorem dL_acts_283 : decode cL_acts 283 = .ok (.ireturn, 1) := by decide +kernel
theorem dL_acts_284 : decode cL_acts 284 = .ok (.aload 6, 2) := by decide +kernel
theorem dL_acts_286 : decode cL_acts 286 = .ok (.aload 12, 2) := by decide +kernel
theorem dL_acts_288 : decode cL_acts 288 = .ok (.iconst 1, 1) := by decide +kernel
theorem dL_acts_289 : decode cL_acts 289 = .ok (.iaload, 1) := by decide +kernel
theorem dL_acts_290 : decode cL_acts 290 = .ok (.bipush 64, 2) := by decide +kernel
theorem dL_acts_292 : decode cL_acts 292 = .ok (.iload 13, 2) := by decide +kernel
theorem dL_acts_294 : decode cL_acts 294 = .ok (.imul, 1) := by decide +kernel
theorem dL_acts_295 : decode cL_acts 295 = .ok (.bipush 8, 2) := by decide +kernel
theorem dL_acts_297 : decode cL_acts 297 = .ok (.iload 14, 2) := by decide +kernel
theorem dL_acts_299 : decode cL_acts 299 = .ok (.imul, 1) := by decide +kernel
theorem dL_acts_300 : decode cL_acts 300 = .ok (.iadd, 1) := by decide +kernel
theorem dL_acts_301 : decode cL_acts 301 = .ok (.iload 15, 2) := by decide +kernel
theorem dL_acts_303 : decode cL_acts 303 = .ok (.iadd, 1) := by decide +kernel
theorem dL_acts_304 : decode cL_acts 304 = .ok (.iastore, 1) := by decide +kernel
theorem dL_acts_305 : decode cL_acts 305 = .ok (.aload 12, 2) := by decide +kernel
theorem dL_acts_307 : decode cL_acts 307 = .ok (.iconst 1, 1) := by decide +kernel
theorem dL_acts_308 : decode cL_acts 308 = .ok (.dup2, 1) := by decide +kernel
theorem dL_acts_309 : decode cL_acts 309 = .ok (.iaload, 1) := by decide +kernel
theorem dL_acts_310 : decode cL_acts 310 = .ok (.iconst 1, 1) := by decide +kernel
theorem dL_acts_311 : decode cL_acts 311 = .ok (.iadd, 1) := by decide +kernel
theorem dL_acts_312 : decode cL_acts 312 = .ok (.iastore, 1) := by decide +kernel
theorem dL_acts_313 : decode cL_acts 313 = .ok (.aload_n 0, 1) := by decide +kernel
theorem dL_acts_314 : decode cL_acts 314 = .ok (.iload 13, 2) := by decide +kernel
theorem dL_acts_316 : decode cL_acts 316 = .ok (.iload 14, 2) := by decide +kernel
theorem dL_acts_318 : decode cL_acts 318 = .ok (.iload 15, 2) := by decide +kernel
theorem dL_acts_320 : decode cL_acts 320 = .ok (.invokestatic 111, 3) := by decide +kernel
theorem dL_acts_323 : decode cL_acts 323 = .ok (.aload 12, 2) := by decide +kernel
theorem dL_acts_325 : decode cL_acts 325 = .ok (.iconst 1, 1) := by decide +kernel
theorem dL_acts_326 : decode cL_acts 326 = .ok (.iaload, 1) := by decide +kernel
theorem dL_acts_327 : decode cL_acts 327 = .ok (.if_icmp .ne 7, 3) := by decide +kernel
theorem dL_acts_330 : decode cL_acts 330 = .ok (.iconst 1, 1) := by decide +kernel
theorem dL_acts_331 : decode cL_acts 331 = .ok (.goto 4, 3) := by decide +kernel
theorem dL_acts_334 : decode cL_acts 334 = .ok (.iconst 0, 1) := by decide +kernel
theorem dL_acts_335 : decode cL_acts 335 = .ok (.ireturn, 1) := by decide +kernel
theorem dL_acts_336 : decode cL_acts 336 = .ok (.iload_n 1, 1) := by decide +kernel
theorem dL_acts_337 : decode cL_acts 337 = .ok (.iconst 2, 1) := by decide +kernel
theorem dL_acts_338 : decode cL_acts 338 = .ok (.if_icmp .ne 196, 3) := by decide +kernel
theorem dL_acts_341 : decode cL_acts 341 = .ok (.iload_n 2, 1) := by decide +kernel
theorem dL_acts_342 : decode cL_acts 342 = .ok (.aload 12, 2) := by decide +kernel
theorem dL_acts_344 : decode cL_acts 344 = .ok (.iconst 4, 1) := by decide +kernel
theorem dL_acts_345 : decode cL_acts 345 = .ok (.iaload, 1) := by decide +kernel
theorem dL_acts_346 : decode cL_acts 346 = .ok (.iconst 1, 1) := by decide +kernel
theorem dL_acts_347 : decode cL_acts 347 = .ok (.iadd, 1) := by decide +kernel
theorem dL_acts_348 : decode cL_acts 348 = .ok (.invokestatic 90, 3) := by decide +kernel
theorem dL_acts_351 : decode cL_acts 351 = .ok (.istore 13, 2) := by decide +kernel
theorem dL_acts_353 : decode cL_acts 353 = .ok (.iload 13, 2) := by decide +kernel
theorem dL_acts_355 : decode cL_acts 355 = .ok (.aload 12, 2) := by decide +kernel
theorem dL_acts_357 : decode cL_acts 357 = .ok (.iconst 4, 1) := by decide +kernel
theorem dL_acts_358 : decode cL_acts 358 = .ok (.iaload, 1) := by decide +kernel
theorem dL_acts_359 : decode cL_acts 359 = .ok (.if_icmp .ne 35, 3) := by decide +kernel
theorem dL_acts_362 : decode cL_acts 362 = .ok (.aload_n 0, 1) := by decide +kernel
theorem dL_acts_363 : decode cL_acts 363 = .ok (.iload 13, 2) := by decide +kernel
theorem dL_acts_365 : decode cL_acts 365 = .ok (.iconst 0, 1) := by decide +kernel
theorem dL_acts_366 : decode cL_acts 366 = .ok (.bipush 10, 2) := by decide +kernel
theorem dL_acts_368 : decode cL_acts 368 = .ok (.invokestatic 114, 3) := by decide +kernel
theorem dL_acts_371 : decode cL_acts 371 = .ok (.bipush (-73), 2) := by decide +kernel
theorem dL_acts_373 : decode cL_acts 373 = .ok (.if_icmp .ne 19, 3) := by decide +kernel
theorem dL_acts_376 : decode cL_acts 376 = .ok (.aload_n 0, 1) := by decide +kernel
theorem dL_acts_377 : decode cL_acts 377 = .ok (.iconst (-1), 1) := by decide +kernel
theorem dL_acts_378 : decode cL_acts 378 = .ok (.iconst 0, 1) := by decide +kernel
theorem dL_acts_379 : decode cL_acts 379 = .ok (.iconst 1, 1) := by decide +kernel
theorem dL_acts_380 : decode cL_acts 380 = .ok (.invokestatic 114, 3) := by decide +kernel
theorem dL_acts_383 : decode cL_acts 383 = .ok (.bipush (-73), 2) := by decide +kernel
theorem dL_acts_385 : decode cL_acts 385 = .ok (.if_icmp .ne 7, 3) := by decide +kernel
theorem dL_acts_388 : decode cL_acts 388 = .ok (.iconst 1, 1) := by decide +kernel
theorem dL_acts_389 : decode cL_acts 389 = .ok (.goto 4, 3) := by decide +kernel
theorem dL_acts_392 : decode cL_acts 392 = .ok (.iconst 0, 1) := by decide +kernel
theorem dL_acts_393 : decode cL_acts 393 = .ok (.ireturn, 1) := by decide +kernel
theorem dL_acts_394 : decode cL_acts 394 = .ok (.aload 5, 2) := by decide +kernel
theorem dL_acts_396 : decode cL_acts 396 = .ok (.iload 13, 2) := by decide +kernel
theorem dL_acts_398 : decode cL_acts 398 = .ok (.iaload, 1) := by decide +kernel
theorem dL_acts_399 : decode cL_acts 399 = .ok (.bipush 6, 2) := by decide +kernel
theorem dL_acts_401 : decode cL_acts 401 = .ok (.ishr, 1) := by decide +kernel
theorem dL_acts_402 : decode cL_acts 402 = .ok (.bipush 63, 2) := by decide +kernel
theorem dL_acts_404 : decode cL_acts 404 = .ok (.iand, 1) := by decide +kernel
theorem dL_acts_405 : decode cL_acts 405 = .ok (.istore 14, 2) := by decide +kernel
theorem dL_acts_407 : decode cL_acts 407 = .ok (.iload_n 2, 1) := by decide +kernel
theorem dL_acts_408 : decode cL_acts 408 = .ok (.iconst 5, 1) := by decide +kernel
theorem dL_acts_409 : decode cL_acts 409 = .ok (.ishr, 1) := by decide +kernel
theorem dL_acts_410 : decode cL_acts 410 = .ok (.iload 14, 2) := by decide +kernel
theorem dL_acts_412 : decode cL_acts 412 = .ok (.invokestatic 90, 3) := by decide +kernel
theorem dL_acts_415 : decode cL_acts 415 = .ok (.istore 15, 2) := by decide +kernel
theorem dL_acts_417 : decode cL_acts 417 = .ok (.iconst 1, 1) := by decide +kernel
theorem dL_acts_418 : decode cL_acts 418 = .ok (.iload_n 3, 1) := by decide +kernel
theorem dL_acts_419 : decode cL_acts 419 = .ok (.bipush 9, 2) := by decide +kernel
theorem dL_acts_421 : decode cL_acts 421 = .ok (.invokestatic 90, 3) := by decide +kernel
theorem dL_acts_424 : decode cL_acts 424 = .ok (.iadd, 1) := by decide +kernel
theorem dL_acts_425 : decode cL_acts 425 = .ok (.istore 16, 2) := by decide +kernel
theorem dL_acts_427 : decode cL_acts 427 = .ok (.iload 15, 2) := by decide +kernel
theorem dL_acts_429 : decode cL_acts 429 = .ok (.istore 17, 2) := by decide +kernel
theorem dL_acts_431 : decode cL_acts 431 = .ok (.iload 17, 2) := by decide +kernel
theorem dL_acts_433 : decode cL_acts 433 = .ok (.iload 14, 2) := by decide +kernel
theorem dL_acts_435 : decode cL_acts 435 = .ok (.if_icmp .ge 28, 3) := by decide +kernel
theorem dL_acts_438 : decode cL_acts 438 = .ok (.aload 4, 2) := by decide +kernel
theorem dL_acts_440 : decode cL_acts 440 = .ok (.aload 5, 2) := by decide +kernel
theorem dL_acts_442 : decode cL_acts 442 = .ok (.iload 13, 2) := by decide +kernel
theorem dL_acts_444 : decode cL_acts 444 = .ok (.iaload, 1) := by decide +kernel
theorem dL_acts_445 : decode cL_acts 445 = .ok (.bipush 63, 2) := by decide +kernel
theorem dL_acts_447 : decode cL_acts 447 = .ok (.iand, 1) := by decide +kernel
theorem dL_acts_448 : decode cL_acts 448 = .ok (.iload 17, 2) := by decide +kernel
theorem dL_acts_450 : decode cL_acts 450 = .ok (.iadd, 1) := by decide +kernel
theorem dL_acts_451 : decode cL_acts 451 = .ok (.dup2, 1) := by decide +kernel
theorem dL_acts_452 : decode cL_acts 452 = .ok (.iaload, 1) := by decide +kernel
theorem dL_acts_453 : decode cL_acts 453 = .ok (.iload 16, 2) := by decide +kernel
theorem dL_acts_455 : decode cL_acts 455 = .ok (.iadd, 1) := by decide +kernel
theorem dL_acts_456 : decode cL_acts 456 = .ok (.iastore, 1) := by decide +kernel
theorem dL_acts_457 : decode cL_acts 457 = .ok (.iinc 17 1, 3) := by decide +kernel
theorem dL_acts_460 : decode cL_acts 460 = .ok (.goto (-29), 3) := by decide +kernel
theorem dL_acts_463 : decode cL_acts 463 = .ok (.aload_n 0, 1) := by decide +kernel
theorem dL_acts_464 : decode cL_acts 464 = .ok (.iload 13, 2) := by decide +kernel
theorem dL_acts_466 : decode cL_acts 466 = .ok (.iload 14, 2) := by decide +kernel
theorem dL_acts_468 : decode cL_acts 468 = .ok (.iload 16, 2) := by decide +kernel
theorem dL_acts_470 : decode cL_acts 470 = .ok (.invokestatic 114, 3) := by decide +kernel
theorem dL_acts_473 : decode cL_acts 473 = .ok (.bipush (-73), 2) := by decide +kernel
theorem dL_acts_475 : decode cL_acts 475 = .ok (.if_icmp .ne 57, 3) := by decide +kernel
theorem dL_acts_478 : decode cL_acts 478 = .ok (.aload_n 0, 1) := by decide +kernel
theorem dL_acts_479 : decode cL_acts 479 = .ok (.iload 13, 2) := by decide +kernel
theorem dL_acts_481 : decode cL_acts 481 = .ok (.iload 15, 2) := by decide +kernel
theorem dL_acts_483 : decode cL_acts 483 = .ok (.iconst 0, 1) := by decide +kernel
theorem dL_acts_484 : decode cL_acts 484 = .ok (.invokestatic 114, 3) := by decide +kernel
theorem dL_acts_487 : decode cL_acts 487 = .ok (.bipush (-71), 2) := by decide +kernel
theorem dL_acts_489 : decode cL_acts 489 = .ok (.if_icmp .ne 43, 3) := by decide +kernel
theorem dL_acts_492 : decode cL_acts 492 = .ok (.aload_n 0, 1) := by decide +kernel
theorem dL_acts_493 : decode cL_acts 493 = .ok (.iload 13, 2) := by decide +kernel
theorem dL_acts_495 : decode cL_acts 495 = .ok (.iload 15, 2) := by decide +kernel
theorem dL_acts_497 : decode cL_acts 497 = .ok (.bipush 10, 2) := by decide +kernel
theorem dL_acts_499 : decode cL_acts 499 = .ok (.invokestatic 114, 3) := by decide +kernel
theorem dL_acts_502 : decode cL_acts 502 = .ok (.bipush (-71), 2) := by decide +kernel
theorem dL_acts_504 : decode cL_acts 504 = .ok (.if_icmp .ne 28, 3) := by decide +kernel
theorem dL_acts_507 : decode cL_acts 507 = .ok (.aload_n 0, 1) := by decide +kernel
theorem dL_acts_508 : decode cL_acts 508 = .ok (.iload 13, 2) := by decide +kernel
theorem dL_acts_510 : decode cL_acts 510 = .ok (.iload 15, 2) := by decide +kernel
theorem dL_acts_512 : decode cL_acts 512 = .ok (.iload 16, 2) := by decide +kernel
theorem dL_acts_514 : decode cL_acts 514 = .ok (.invokestatic 114, 3) := by decide +kernel
theorem dL_acts_517 : decode cL_acts 517 = .ok (.iload 16, 2) := by decide +kernel
theorem dL_acts_519 : decode cL_acts 519 = .ok (.iload 14, 2) := by decide +kernel
theorem dL_acts_521 : decode cL_acts 521 = .ok (.iload 15, 2) := by decide +kernel
theorem dL_acts_523 : decode cL_acts 523 = .ok (.isub, 1) := by decide +kernel
theorem dL_acts_524 : decode cL_acts 524 = .ok (.imul, 1) := by decide +kernel
theorem dL_acts_525 : decode cL_acts 525 = .ok (.if_icmp .ne 7, 3) := by decide +kernel
theorem dL_acts_528 : decode cL_acts 528 = .ok (.iconst 1, 1) := by decide +kernel
theorem dL_acts_529 : decode cL_acts 529 = .ok (.goto 4, 3) := by decide +kernel
theorem dL_acts_532 : decode cL_acts 532 = .ok (.iconst 0, 1) := by decide +kernel
theorem dL_acts_533 : decode cL_acts 533 = .ok (.ireturn, 1) := by decide +kernel
theorem dL_acts_534 : decode cL_acts 534 = .ok (.iload_n 1, 1) := by decide +kernel
theorem dL_acts_535 : decode cL_acts 535 = .ok (.iconst 3, 1) := by decide +kernel
theorem dL_acts_536 : decode cL_acts 536 = .ok (.if_icmp .ne 176, 3) := by decide +kernel
theorem dL_acts_539 : decode cL_acts 539 = .ok (.iload_n 2, 1) := by decide +kernel
theorem dL_acts_540 : decode cL_acts 540 = .ok (.iconst 4, 1) := by decide +kernel
theorem dL_acts_541 : decode cL_acts 541 = .ok (.invokestatic 90, 3) := by decide +kernel
theorem dL_acts_544 : decode cL_acts 544 = .ok (.istore 13, 2) := by decide +kernel
theorem dL_acts_546 : decode cL_acts 546 = .ok (.iload_n 3, 1) := by decide +kernel
theorem dL_acts_547 : decode cL_acts 547 = .ok (.iload_n 3, 1) := by decide +kernel
theorem dL_acts_548 : decode cL_acts 548 = .ok (.bipush 64, 2) := by decide +kernel
theorem dL_acts_550 : decode cL_acts 550 = .ok (.iand, 1) := by decide +kernel
theorem dL_acts_551 : decode cL_acts 551 = .ok (.ifCond .ne 8, 3) := by decide +kernel
theorem dL_acts_554 : decode cL_acts 554 = .ok (.bipush 100, 2) := by decide +kernel
theorem dL_acts_556 : decode cL_acts 556 = .ok (.goto 4, 3) := by decide +kernel
theorem dL_acts_559 : decode cL_acts 559 = .ok (.iconst 4, 1) := by decide +kernel
theorem dL_acts_560 : decode cL_acts 560 = .ok (.invokestatic 90, 3) := by decide +kernel
theorem dL_acts_563 : decode cL_acts 563 = .ok (.istore 14, 2) := by decide +kernel
theorem dL_acts_565 : decode cL_acts 565 = .ok (.iload 14, 2) := by decide +kernel
theorem dL_acts_567 : decode cL_acts 567 = .ok (.iload_n 3, 1) := by decide +kernel
theorem dL_acts_568 : decode cL_acts 568 = .ok (.bipush 8, 2) := by decide +kernel
theorem dL_acts_570 : decode cL_acts 570 = .ok (.ishr, 1) := by decide +kernel
theorem dL_acts_571 : decode cL_acts 571 = .ok (.bipush 100, 2) := by decide +kernel
theorem dL_acts_573 : decode cL_acts 573 = .ok (.iload 14, 2) := by decide +kernel
theorem dL_acts_575 : decode cL_acts 575 = .ok (.isub, 1) := by decide +kernel
theorem dL_acts_576 : decode cL_acts 576 = .ok (.invokestatic 90, 3) := by decide +kernel
theorem dL_acts_579 : decode cL_acts 579 = .ok (.iadd, 1) := by decide +kernel
theorem dL_acts_580 : decode cL_acts 580 = .ok (.istore 15, 2) := by decide +kernel
theorem dL_acts_582 : decode cL_acts 582 = .ok (.iload_n 2, 1) := by decide +kernel
theorem dL_acts_583 : decode cL_acts 583 = .ok (.iconst 3, 1) := by decide +kernel
theorem dL_acts_584 : decode cL_acts 584 = .ok (.ishr, 1) := by decide +kernel
theorem dL_acts_585 : decode cL_acts 585 = .ok (.bipush 9, 2) := by decide +kernel
theorem dL_acts_587 : decode cL_acts 587 = .ok (.invokestatic 90, 3) := by decide +kernel
theorem dL_acts_590 : decode cL_acts 590 = .ok (.iconst 1, 1) := by decide +kernel
theorem dL_acts_591 : decode cL_acts 591 = .ok (.isub, 1) := by decide +kernel
theorem dL_acts_592 : decode cL_acts 592 = .ok (.istore 16, 2) := by decide +kernel
theorem dL_acts_594 : decode cL_acts 594 = .ok (.aload 9, 2) := by decide +kernel
theorem dL_acts_596 : decode cL_acts 596 = .ok (.iload 13, 2) := by decide +kernel
theorem dL_acts_598 : decode cL_acts 598 = .ok (.iload 14, 2) := by decide +kernel
theorem dL_acts_600 : decode cL_acts 600 = .ok (.sipush 128, 3) := by decide +kernel
theorem dL_acts_603 : decode cL_acts 603 = .ok (.iload 15, 2) := by decide +kernel
theorem dL_acts_605 : decode cL_acts 605 = .ok (.imul, 1) := by decide +kernel
theorem dL_acts_606 : decode cL_acts 606 = .ok (.iadd, 1) := by decide +kernel
theorem dL_acts_607 : decode cL_acts 607 = .ok (.sipush 16384, 3) := by decide +kernel
theorem dL_acts_610 : decode cL_acts 610 = .ok (.iload 16, 2) := by decide +kernel
theorem dL_acts_612 : decode cL_acts 612 = .ok (.iconst 1, 1) := by decide +kernel
theorem dL_acts_613 : decode cL_acts 613 = .ok (.iadd, 1) := by decide +kernel
theorem dL_acts_614 : decode cL_acts 614 = .ok (.imul, 1) := by decide +kernel
theorem dL_acts_615 : decode cL_acts 615 = .ok (.iadd, 1) := by decide +kernel
theorem dL_acts_616 : decode cL_acts 616 = .ok (.iastore, 1) := by decide +kernel
theorem dL_acts_617 : decode cL_acts 617 = .ok (.aload_n 0, 1) := by decide +kernel
theorem dL_acts_618 : decode cL_acts 618 = .ok (.iconst 4, 1) := by decide +kernel
theorem dL_acts_619 : decode cL_acts 619 = .ok (.iconst 0, 1) := by decide +kernel
theorem dL_acts_620 : decode cL_acts 620 = .ok (.iconst 0, 1) := by decide +kernel
theorem dL_acts_621 : decode cL_acts 621 = .ok (.iconst 0, 1) := by decide +kernel
theorem dL_acts_622 : decode cL_acts 622 = .ok (.invokestatic 116, 3) := by decide +kernel
theorem dL_acts_625 : decode cL_acts 625 = .ok (.bipush (-71), 2) := by decide +kernel
theorem dL_acts_627 : decode cL_acts 627 = .ok (.if_icmp .ne 83, 3) := by decide +kernel
theorem dL_acts_630 : decode cL_acts 630 = .ok (.aload_n 0, 1) := by decide +kernel
theorem dL_acts_631 : decode cL_acts 631 = .ok (.iload 13, 2) := by decide +kernel
theorem dL_acts_633 : decode cL_acts 633 = .ok (.iconst 5, 1) := by decide +kernel
theorem dL_acts_634 : decode cL_acts 634 = .ok (.iconst 4, 1) := by decide +kernel
theorem dL_acts_635 : decode cL_acts 635 = .ok (.iconst 0, 1) := by decide +kernel
theorem dL_acts_636 : decode cL_acts 636 = .ok (.invokestatic 116, 3) := by decide +kernel
theorem dL_acts_639 : decode cL_acts 639 = .ok (.bipush (-71), 2) := by decide +kernel
theorem dL_acts_641 : decode cL_acts 641 = .ok (.if_icmp .ne 69, 3) := by decide +kernel
theorem dL_acts_644 : decode cL_acts 644 = .ok (.aload_n 0, 1) := by decide +kernel
theorem dL_acts_645 : decode cL_acts 645 = .ok (.iload 13, 2) := by decide +kernel
theorem dL_acts_647 : decode cL_acts 647 = .ok (.iconst 0, 1) := by decide +kernel
theorem dL_acts_648 : decode cL_acts 648 = .ok (.bipush 100, 2) := by decide +kernel
theorem dL_acts_650 : decode cL_acts 650 = .ok (.iconst 0, 1) := by decide +kernel
theorem dL_acts_651 : decode cL_acts 651 = .ok (.invokestatic 116, 3) := by decide +kernel
theorem dL_acts_654 : decode cL_acts 654 = .ok (.bipush (-71), 2) := by decide +kernel
theorem dL_acts_656 : decode cL_acts 656 = .ok (.if_icmp .ne 54, 3) := by decide +kernel
theorem dL_acts_659 : decode cL_acts 659 = .ok (.aload_n 0, 1) := by decide +kernel
theorem dL_acts_660 : decode cL_acts 660 = .ok (.iload 13, 2) := by decide +kernel
theorem dL_acts_662 : decode cL_acts 662 = .ok (.iconst 0, 1) := by decide +kernel
theorem dL_acts_663 : decode cL_acts 663 = .ok (.bipush 9, 2) := by decide +kernel
theorem dL_acts_665 : decode cL_acts 665 = .ok (.bipush 8, 2) := by decide +kernel
theorem dL_acts_667 : decode cL_acts 667 = .ok (.invokestatic 116, 3) := by decide +kernel
theorem dL_acts_670 : decode cL_acts 670 = .ok (.bipush (-71), 2) := by decide +kernel
theorem dL_acts_672 : decode cL_acts 672 = .ok (.if_icmp .ne 38, 3) := by decide +kernel
theorem dL_acts_675 : decode cL_acts 675 = .ok (.aload_n 0, 1) := by decide +kernel
theorem dL_acts_676 : decode cL_acts 676 = .ok (.iload 13, 2) := by decide +kernel
theorem dL_acts_678 : decode cL_acts 678 = .ok (.iconst 0, 1) := by decide +kernel
theorem dL_acts_679 : decode cL_acts 679 = .ok (.bipush 9, 2) := by decide +kernel
theorem dL_acts_681 : decode cL_acts 681 = .ok (.bipush (-2), 2) := by decide +kernel
theorem dL_acts_683 : decode cL_acts 683 = .ok (.invokestatic 116, 3) := by decide +kernel
theorem dL_acts_686 : decode cL_acts 686 = .ok (.bipush (-71), 2) := by decide +kernel
theorem dL_acts_688 : decode cL_acts 688 = .ok (.if_icmp .ne 22, 3) := by decide +kernel
theorem dL_acts_691 : decode cL_acts 691 = .ok (.aload_n 0, 1) := by decide +kernel
theorem dL_acts_692 : decode cL_acts 692 = .ok (.iload 13, 2) := by decide +kernel
theorem dL_acts_694 : decode cL_acts 694 = .ok (.iload 14, 2) := by decide +kernel
theorem dL_acts_696 : decode cL_acts 696 = .ok (.iload 15, 2) := by decide +kernel
theorem dL_acts_698 : decode cL_acts 698 = .ok (.iload 16, 2) := by decide +kernel
theorem dL_acts_700 : decode cL_acts 700 = .ok (.invokestatic 116, 3) := by decide +kernel
theorem dL_acts_703 : decode cL_acts 703 = .ok (.ifCond .ne 7, 3) := by decide +kernel
theorem dL_acts_706 : decode cL_acts 706 = .ok (.iconst 1, 1) := by decide +kernel
theorem dL_acts_707 : decode cL_acts 707 = .ok (.goto 4, 3) := by decide +kernel
theorem dL_acts_710 : decode cL_acts 710 = .ok (.iconst 0, 1) := by decide +kernel
theorem dL_acts_711 : decode cL_acts 711 = .ok (.ireturn, 1) := by decide +kernel
theorem dL_acts_712 : decode cL_acts 712 = .ok (.iload_n 1, 1) := by decide +kernel
theorem dL_acts_713 : decode cL_acts 713 = .ok (.iconst 4, 1) := by decide +kernel
theorem dL_acts_714 : decode cL_acts 714 = .ok (.if_icmp .ne 108, 3) := by decide +kernel
theorem dL_acts_717 : decode cL_acts 717 = .ok (.iload_n 2, 1) := by decide +kernel
theorem dL_acts_718 : decode cL_acts 718 = .ok (.iconst 4, 1) := by decide +kernel
theorem dL_acts_719 : decode cL_acts 719 = .ok (.invokestatic 90, 3) := by decide +kernel
theorem dL_acts_722 : decode cL_acts 722 = .ok (.istore 13, 2) := by decide +kernel
theorem dL_acts_724 : decode cL_acts 724 = .ok (.aload 10, 2) := by decide +kernel
theorem dL_acts_726 : decode cL_acts 726 = .ok (.iload 13, 2) := by decide +kernel
theorem dL_acts_728 : decode cL_acts 728 = .ok (.iaload, 1) := by decide +kernel
theorem dL_acts_729 : decode cL_acts 729 = .ok (.istore 14, 2) := by decide +kernel
theorem dL_acts_731 : decode cL_acts 731 = .ok (.aload 10, 2) := by decide +kernel
theorem dL_acts_733 : decode cL_acts 733 = .ok (.iload 13, 2) := by decide +kernel
theorem dL_acts_735 : decode cL_acts 735 = .ok (.iload_n 3, 1) := by decide +kernel
theorem dL_acts_736 : decode cL_acts 736 = .ok (.bipush 6, 2) := by decide +kernel
theorem dL_acts_738 : decode cL_acts 738 = .ok (.iand, 1) := by decide +kernel
theorem dL_acts_739 : decode cL_acts 739 = .ok (.ifCond .ne 15, 3) := by decide +kernel
theorem dL_acts_742 : decode cL_acts 742 = .ok (.iload_n 3, 1) := by decide +kernel
theorem dL_acts_743 : decode cL_acts 743 = .ok (.iconst 3, 1) := by decide +kernel
theorem dL_acts_744 : decode cL_acts 744 = .ok (.ishr, 1) := by decide +kernel
theorem dL_acts_745 : decode cL_acts 745 = .ok (.sipush 10000, 3) := by decide +kernel
theorem dL_acts_748 : decode cL_acts 748 = .ok (.invokestatic 90, 3) := by decide +kernel
theorem dL_acts_751 : decode cL_acts 751 = .ok (.goto 11, 3) := by decide +kernel
theorem dL_acts_754 : decode cL_acts 754 = .ok (.iload_n 3, 1) := by decide +kernel
theorem dL_acts_755 : decode cL_acts 755 = .ok (.iconst 3, 1) := by decide +kernel
theorem dL_acts_756 : decode cL_acts 756 = .ok (.ishr, 1) := by decide +kernel
theorem dL_acts_757 : decode cL_acts 757 = .ok (.bipush 120, 2) := by decide +kernel
theorem dL_acts_759 : decode cL_acts 759 = .ok (.invokestatic 90, 3) := by decide +kernel
theorem dL_acts_762 : decode cL_acts 762 = .ok (.iastore, 1) := by decide +kernel
theorem dL_acts_763 : decode cL_acts 763 = .ok (.aload_n 0, 1) := by decide +kernel
theorem dL_acts_764 : decode cL_acts 764 = .ok (.iconst 4, 1) := by decide +kernel
theorem dL_acts_765 : decode cL_acts 765 = .ok (.iconst 0, 1) := by decide +kernel
theorem dL_acts_766 : decode cL_acts 766 = .ok (.invokestatic 119, 3) := by decide +kernel
theorem dL_acts_769 : decode cL_acts 769 = .ok (.bipush (-71), 2) := by decide +kernel
theorem dL_acts_771 : decode cL_acts 771 = .ok (.if_icmp .ne 49, 3) := by decide +kernel
theorem dL_acts_774 : decode cL_acts 774 = .ok (.aload_n 0, 1) := by decide +kernel
theorem dL_acts_775 : decode cL_acts 775 = .ok (.iload 13, 2) := by decide +kernel
theorem dL_acts_777 : decode cL_acts 777 = .ok (.sipush 10000, 3) := by decide +kernel
theorem dL_acts_780 : decode cL_acts 780 = .ok (.invokestatic 119, 3) := by decide +kernel
theorem dL_acts_783 : decode cL_acts 783 = .ok (.bipush (-71), 2) := by decide +kernel
theorem dL_acts_785 : decode cL_acts 785 = .ok (.if_icmp .ne 35, 3) := by decide +kernel
theorem dL_acts_788 : decode cL_acts 788 = .ok (.aload_n 0, 1) := by decide +kernel
theorem dL_acts_789 : decode cL_acts 789 = .ok (.iload 13, 2) := by decide +kernel
theorem dL_acts_791 : decode cL_acts 791 = .ok (.iconst (-1), 1) := by decide +kernel
theorem dL_acts_792 : decode cL_acts 792 = .ok (.invokestatic 119, 3) := by decide +kernel
theorem dL_acts_795 : decode cL_acts 795 = .ok (.bipush (-71), 2) := by decide +kernel
theorem dL_acts_797 : decode cL_acts 797 = .ok (.if_icmp .ne 23, 3) := by decide +kernel
theorem dL_acts_800 : decode cL_acts 800 = .ok (.aload_n 0, 1) := by decide +kernel
theorem dL_acts_801 : decode cL_acts 801 = .ok (.iload 13, 2) := by decide +kernel
theorem dL_acts_803 : decode cL_acts 803 = .ok (.aload 10, 2) := by decide +kernel
theorem dL_acts_805 : decode cL_acts 805 = .ok (.iload 13, 2) := by decide +kernel
theorem dL_acts_807 : decode cL_acts 807 = .ok (.iaload, 1) := by decide +kernel
theorem dL_acts_808 : decode cL_acts 808 = .ok (.invokestatic 119, 3) := by decide +kernel
theorem dL_acts_811 : decode cL_acts 811 = .ok (.iload 14, 2) := by decide +kernel
theorem dL_acts_813 : decode cL_acts 813 = .ok (.if_icmp .ne 7, 3) := by decide +kernel
theorem dL_acts_816 : decode cL_acts 816 = .ok (.iconst 1, 1) := by decide +kernel
theorem dL_acts_817 : decode cL_acts 817 = .ok (.goto 4, 3) := by decide +kernel
theorem dL_acts_820 : decode cL_acts 820 = .ok (.iconst 0, 1) := by decide +kernel
theorem dL_acts_821 : decode cL_acts 821 = .ok (.ireturn, 1) := by decide +kernel
theorem dL_acts_822 : decode cL_acts 822 = .ok (.iload_n 1, 1) := by decide +kernel
theorem dL_acts_823 : decode cL_acts 823 = .ok (.iconst 5, 1) := by decide +kernel
theorem dL_acts_824 : decode cL_acts 824 = .ok (.if_icmp .ne 91, 3) := by decide +kernel
theorem dL_acts_827 : decode cL_acts 827 = .ok (.iload_n 2, 1) := by decide +kernel
theorem dL_acts_828 : decode cL_acts 828 = .ok (.bipush 6, 2) := by decide +kernel
theorem dL_acts_830 : decode cL_acts 830 = .ok (.invokestatic 90, 3) := by decide +kernel
theorem dL_acts_833 : decode cL_acts 833 = .ok (.istore 13, 2) := by decide +kernel
theorem dL_acts_835 : decode cL_acts 835 = .ok (.iload_n 3, 1) := by decide +kernel
theorem dL_acts_836 : decode cL_acts 836 = .ok (.bipush 6, 2) := by decide +kernel
theorem dL_acts_838 : decode cL_acts 838 = .ok (.iand, 1) := by decide +kernel
theorem dL_acts_839 : decode cL_acts 839 = .ok (.ifCond .le 7, 3) := by decide +kernel
theorem dL_acts_842 : decode cL_acts 842 = .ok (.iconst 1, 1) := by decide +kernel
theorem dL_acts_843 : decode cL_acts 843 = .ok (.goto 4, 3) := by decide +kernel
theorem dL_acts_846 : decode cL_acts 846 = .ok (.iconst 0, 1) := by decide +kernel
theorem dL_acts_847 : decode cL_acts 847 = .ok (.istore 14, 2) := by decide +kernel
theorem dL_acts_849 : decode cL_acts 849 = .ok (.aload 11, 2) := by decide +kernel
theorem dL_acts_851 : decode cL_acts 851 = .ok (.iload 13, 2) := by decide +kernel
theorem dL_acts_853 : decode cL_acts 853 = .ok (.iaload, 1) := by decide +kernel
theorem dL_acts_854 : decode cL_acts 854 = .ok (.istore 15, 2) := by decide +kernel
theorem dL_acts_856 : decode cL_acts 856 = .ok (.aload 11, 2) := by decide +kernel
theorem dL_acts_858 : decode cL_acts 858 = .ok (.iload 13, 2) := by decide +kernel
theorem dL_acts_860 : decode cL_acts 860 = .ok (.iload 14, 2) := by decide +kernel
theorem dL_acts_862 : decode cL_acts 862 = .ok (.ifCond .eq 7, 3) := by decide +kernel
theorem dL_acts_865 : decode cL_acts 865 = .ok (.iconst 1, 1) := by decide +kernel
theorem dL_acts_866 : decode cL_acts 866 = .ok (.goto 4, 3) := by decide +kernel
theorem dL_acts_869 : decode cL_acts 869 = .ok (.iconst 0, 1) := by decide +kernel
theorem dL_acts_870 : decode cL_acts 870 = .ok (.iastore, 1) := by decide +kernel
theorem dL_acts_871 : decode cL_acts 871 = .ok (.aload_n 0, 1) := by decide +kernel
theorem dL_acts_872 : decode cL_acts 872 = .ok (.bipush 100, 2) := by decide +kernel
theorem dL_acts_874 : decode cL_acts 874 = .ok (.iload 14, 2) := by decide +kernel
theorem dL_acts_876 : decode cL_acts 876 = .ok (.invokestatic 122, 3) := by decide +kernel
theorem dL_acts_879 : decode cL_acts 879 = .ok (.bipush (-71), 2) := by decide +kernel
theorem dL_acts_881 : decode cL_acts 881 = .ok (.if_icmp .ne 32, 3) := by decide +kernel
theorem dL_acts_884 : decode cL_acts 884 = .ok (.aload_n 0, 1) := by decide +kernel
theorem dL_acts_885 : decode cL_acts 885 = .ok (.iconst (-1), 1) := by decide +kernel
theorem dL_acts_886 : decode cL_acts 886 = .ok (.iload 14, 2) := by decide +kernel
theorem dL_acts_888 : decode cL_acts 888 = .ok (.invokestatic 122, 3) := by decide +kernel
theorem dL_acts_891 : decode cL_acts 891 = .ok (.bipush (-71), 2) := by decide +kernel
theorem dL_acts_893 : decode cL_acts 893 = .ok (.if_icmp .ne 20, 3) := by decide +kernel
theorem dL_acts_896 : decode cL_acts 896 = .ok (.aload_n 0, 1) := by decide +kernel
theorem dL_acts_897 : decode cL_acts 897 = .ok (.iload 13, 2) := by decide +kernel
theorem dL_acts_899 : decode cL_acts 899 = .ok (.iload 14, 2) := by decide +kernel
theorem dL_acts_901 : decode cL_acts 901 = .ok (.invokestatic 122, 3) := by decide +kernel
theorem dL_acts_904 : decode cL_acts 904 = .ok (.iload 15, 2) := by decide +kernel
theorem dL_acts_906 : decode cL_acts 906 = .ok (.if_icmp .ne 7, 3) := by decide +kernel
theorem dL_acts_909 : decode cL_acts 909 = .ok (.iconst 1, 1) := by decide +kernel
theorem dL_acts_910 : decode cL_acts 910 = .ok (.goto 4, 3) := by decide +kernel
theorem dL_acts_913 : decode cL_acts 913 = .ok (.iconst 0, 1) := by decide +kernel
theorem dL_acts_914 : decode cL_acts 914 = .ok (.ireturn, 1) := by decide +kernel
theorem dL_acts_915 : decode cL_acts 915 = .ok (.iconst 0, 1) := by decide +kernel
theorem dL_acts_916 : decode cL_acts 916 = .ok (.istore 13, 2) := by decide +kernel
theorem dL_acts_918 : decode cL_acts 918 = .ok (.iconst 0, 1) := by decide +kernel
theorem dL_acts_919 : decode cL_acts 919 = .ok (.istore 14, 2) := by decide +kernel
theorem dL_acts_921 : decode cL_acts 921 = .ok (.iload 14, 2) := by decide +kernel
theorem dL_acts_923 : decode cL_acts 923 = .ok (.aload 12, 2) := by decide +kernel
theorem dL_acts_925 : decode cL_acts 925 = .ok (.iconst 5, 1) := by decide +kernel
theorem dL_acts_926 : decode cL_acts 926 = .ok (.iaload, 1) := by decide +kernel
theorem dL_acts_927 : decode cL_acts 927 = .ok (.if_icmp .ge 104, 3) := by decide +kernel
theorem dL_acts_930 : decode cL_acts 930 = .ok (.aload 7, 2) := by decide +kernel
theorem dL_acts_932 : decode cL_acts 932 = .ok (.iload 14, 2) := by decide +kernel
theorem dL_acts_934 : decode cL_acts 934 = .ok (.iaload, 1) := by decide +kernel
theorem dL_acts_935 : decode cL_acts 935 = .ok (.bipush 127, 2) := by decide +kernel
theorem dL_acts_937 : decode cL_acts 937 = .ok (.iand, 1) := by decide +kernel
theorem dL_acts_938 : decode cL_acts 938 = .ok (.iconst 1, 1) := by decide +kernel
theorem dL_acts_939 : decode cL_acts 939 = .ok (.isub, 1) := by decide +kernel
theorem dL_acts_940 : decode cL_acts 940 = .ok (.istore 15, 2) := by decide +kernel
theorem dL_acts_942 : decode cL_acts 942 = .ok (.aload 8, 2) := by decide +kernel
theorem dL_acts_944 : decode cL_acts 944 = .ok (.iload 14, 2) := by decide +kernel
theorem dL_acts_946 : decode cL_acts 946 = .ok (.invokestatic 81, 3) := by decide +kernel
theorem dL_acts_949 : decode cL_acts 949 = .ok (.ifCond .eq 76, 3) := by decide +kernel
theorem dL_acts_952 : decode cL_acts 952 = .ok (.iload 15, 2) := by decide +kernel
theorem dL_acts_954 : decode cL_acts 954 = .ok (.ifCond .lt 19, 3) := by decide +kernel
theorem dL_acts_957 : decode cL_acts 957 = .ok (.iload 15, 2) := by decide +kernel
theorem dL_acts_959 : decode cL_acts 959 = .ok (.bipush 6, 2) := by decide +kernel
theorem dL_acts_961 : decode cL_acts 961 = .ok (.if_icmp .ge 12, 3) := by decide +kernel
theorem dL_acts_964 : decode cL_acts 964 = .ok (.aload 11, 2) := by decide +kernel
theorem dL_acts_966 : decode cL_acts 966 = .ok (.iload 15, 2) := by decide +kernel
theorem dL_acts_968 : decode cL_acts 968 = .ok (.iaload, 1) := by decide +kernel
theorem dL_acts_969 : decode cL_acts 969 = .ok (.iconst 1, 1) := by decide +kernel
theorem dL_acts_970 : decode cL_acts 970 = .ok (.if_icmp .eq 55, 3) := by decide +kernel
theorem dL_acts_973 : decode cL_acts 973 = .ok (.aload 12, 2) := by decide +kernel
theorem dL_acts_975 : decode cL_acts 975 = .ok (.iconst 0, 1) := by decide +kernel
theorem dL_acts_976 : decode cL_acts 976 = .ok (.iaload, 1) := by decide +kernel
theorem dL_acts_977 : decode cL_acts 977 = .ok (.aload 5, 2) := by decide +kernel
theorem dL_acts_979 : decode cL_acts 979 = .ok (.aload 7, 2) := by decide +kernel
theorem dL_acts_981 : decode cL_acts 981 = .ok (.iload 14, 2) := by decide +kernel
theorem dL_acts_983 : decode cL_acts 983 = .ok (.iaload, 1) := by decide +kernel
theorem dL_acts_984 : decode cL_acts 984 = .ok (.bipush 15, 2) := by decide +kernel
theorem dL_acts_986 : decode cL_acts 986 = .ok (.ishr, 1) := by decide +kernel
theorem dL_acts_987 : decode cL_acts 987 = .ok (.iaload, 1) := by decide +kernel
theorem dL_acts_988 : decode cL_acts 988 = .ok (.bipush 12, 2) := by decide +kernel
theorem dL_acts_990 : decode cL_acts 990 = .ok (.ishr, 1) := by decide +kernel
theorem dL_acts_991 : decode cL_acts 991 = .ok (.aload 10, 2) := by decide +kernel
theorem dL_acts_993 : decode cL_acts 993 = .ok (.aload 7, 2) := by decide +kernel
theorem dL_acts_995 : decode cL_acts 995 = .ok (.iload 14, 2) := by decide +kernel
theorem dL_acts_997 : decode cL_acts 997 = .ok (.iaload, 1) := by decide +kernel
theorem dL_acts_998 : decode cL_acts 998 = .ok (.bipush 7, 2) := by decide +kernel
theorem dL_acts_1000 : decode cL_acts 1000 = .ok (.ishr, 1) := by decide +kernel
theorem dL_acts_1001 : decode cL_acts 1001 = .ok (.iconst 3, 1) := by decide +kernel
theorem dL_acts_1002 : decode cL_acts 1002 = .ok (.iand, 1) := by decide +kernel
theorem dL_acts_1003 : decode cL_acts 1003 = .ok (.iaload, 1) := by decide +kernel
theorem dL_acts_1004 : decode cL_acts 1004 = .ok (.iadd, 1) := by decide +kernel
theorem dL_acts_1005 : decode cL_acts 1005 = .ok (.if_icmp .gt 6, 3) := by decide +kernel
theorem dL_acts_1008 : decode cL_acts 1008 = .ok (.goto 17, 3) := by decide +kernel
theorem dL_acts_1011 : decode cL_acts 1011 = .ok (.aload 8, 2) := by decide +kernel
theorem dL_acts_1013 : decode cL_acts 1013 = .ok (.iload 14, 2) := by decide +kernel
theorem dL_acts_1015 : decode cL_acts 1015 = .ok (.aload 8, 2) := by decide +kernel
theorem dL_acts_1017 : decode cL_acts 1017 = .ok (.iload 14, 2) := by decide +kernel
theorem dL_acts_1019 : decode cL_acts 1019 = .ok (.iaload, 1) := by decide +kernel
theorem dL_acts_1020 : decode cL_acts 1020 = .ok (.ineg, 1) := by decide +kernel
theorem dL_acts_1021 : decode cL_acts 1021 = .ok (.iastore, 1) := by decide +kernel
theorem dL_acts_1022 : decode cL_acts 1022 = .ok (.iinc 13 1, 3) := by decide +kernel
theorem dL_acts_1025 : decode cL_acts 1025 = .ok (.iinc 14 1, 3) := by decide +kernel
theorem dL_acts_1028 : decode cL_acts 1028 = .ok (.goto (-107), 3) := by decide +kernel
theorem dL_acts_1031 : decode cL_acts 1031 = .ok (.aload_n 0, 1) := by decide +kernel
theorem dL_acts_1032 : decode cL_acts 1032 = .ok (.invokevirtual 125, 3) := by decide +kernel
theorem dL_acts_1035 : decode cL_acts 1035 = .ok (.iload 13, 2) := by decide +kernel
theorem dL_acts_1037 : decode cL_acts 1037 = .ok (.if_icmp .ne 7, 3) := by decide +kernel
theorem dL_acts_1040 : decode cL_acts 1040 = .ok (.iconst 1, 1) := by decide +kernel
theorem dL_acts_1041 : decode cL_acts 1041 = .ok (.goto 4, 3) := by decide +kernel
theorem dL_acts_1044 : decode cL_acts 1044 = .ok (.iconst 0, 1) := by decide +kernel
theorem dL_acts_1045 : decode cL_acts 1045 = .ok (.ireturn, 1) := by decide +kernel
theorem dL_isTold_0 : decode cL_isTold 0 = .ok (.iconst 0, 1) := by decide +kernel
theorem dL_isTold_1 : decode cL_isTold 1 = .ok (.istore 10, 2) := by decide +kernel
theorem dL_isTold_3 : decode cL_isTold 3 = .ok (.iload 10, 2) := by decide +kernel
theorem dL_isTold_5 : decode cL_isTold 5 = .ok (.aload 9, 2) := by decide +kernel
theorem dL_isTold_7 : decode cL_isTold 7 = .ok (.iconst 5, 1) := by decide +kernel
theorem dL_isTold_8 : decode cL_isTold 8 = .ok (.iaload, 1) := by decide +kernel
theorem dL_isTold_9 : decode cL_isTold 9 = .ok (.if_icmp .ge 81, 3) := by decide +kernel
theorem dL_isTold_12 : decode cL_isTold 12 = .ok (.aload_n 0, 1) := by decide +kernel
theorem dL_isTold_13 : decode cL_isTold 13 = .ok (.iload 10, 2) := by decide +kernel
theorem dL_isTold_15 : decode cL_isTold 15 = .ok (.invokevirtual 128, 3) := by decide +kernel
theorem dL_isTold_18 : decode cL_isTold 18 = .ok (.aload 7, 2) := by decide +kernel
theorem dL_isTold_20 : decode cL_isTold 20 = .ok (.iload 10, 2) := by decide +kernel
theorem dL_isTold_22 : decode cL_isTold 22 = .ok (.invokestatic 81, 3) := by decide +kernel
theorem dL_isTold_25 : decode cL_isTold 25 = .ok (.if_icmp .ne 57, 3) := by decide +kernel
theorem dL_isTold_28 : decode cL_isTold 28 = .ok (.aload_n 0, 1) := by decide +kernel
theorem dL_isTold_29 : decode cL_isTold 29 = .ok (.iload 10, 2) := by decide +kernel
theorem dL_isTold_31 : decode cL_isTold 31 = .ok (.invokestatic 131, 3) := by decide +kernel
theorem dL_isTold_34 : decode cL_isTold 34 = .ok (.aload 6, 2) := by decide +kernel
theorem dL_isTold_36 : decode cL_isTold 36 = .ok (.iload 10, 2) := by decide +kernel
theorem dL_isTold_38 : decode cL_isTold 38 = .ok (.iaload, 1) := by decide +kernel
theorem dL_isTold_39 : decode cL_isTold 39 = .ok (.bipush 127, 2) := by decide +kernel
theorem dL_isTold_41 : decode cL_isTold 41 = .ok (.iand, 1) := by decide +kernel
theorem dL_isTold_42 : decode cL_isTold 42 = .ok (.iconst 1, 1) := by decide +kernel
theorem dL_isTold_43 : decode cL_isTold 43 = .ok (.isub, 1) := by decide +kernel
theorem dL_isTold_44 : decode cL_isTold 44 = .ok (.if_icmp .ne 38, 3) := by decide +kernel
theorem dL_isTold_47 : decode cL_isTold 47 = .ok (.aload_n 0, 1) := by decide +kernel
theorem dL_isTold_48 : decode cL_isTold 48 = .ok (.iload 10, 2) := by decide +kernel
theorem dL_isTold_50 : decode cL_isTold 50 = .ok (.invokevirtual 133, 3) := by decide +kernel
theorem dL_isTold_53 : decode cL_isTold 53 = .ok (.aload 6, 2) := by decide +kernel
theorem dL_isTold_55 : decode cL_isTold 55 = .ok (.iload 10, 2) := by decide +kernel
theorem dL_isTold_57 : decode cL_isTold 57 = .ok (.iaload, 1) := by decide +kernel
theorem dL_isTold_58 : decode cL_isTold 58 = .ok (.bipush 7, 2) := by decide +kernel
theorem dL_isTold_60 : decode cL_isTold 60 = .ok (.ishr, 1) := by decide +kernel
theorem dL_isTold_61 : decode cL_isTold 61 = .ok (.iconst 3, 1) := by decide +kernel
theorem dL_isTold_62 : decode cL_isTold 62 = .ok (.iand, 1) := by decide +kernel
theorem dL_isTold_63 : decode cL_isTold 63 = .ok (.if_icmp .ne 19, 3) := by decide +kernel
theorem dL_isTold_66 : decode cL_isTold 66 = .ok (.aload_n 0, 1) := by decide +kernel
theorem dL_isTold_67 : decode cL_isTold 67 = .ok (.iload 10, 2) := by decide +kernel
theorem dL_isTold_69 : decode cL_isTold 69 = .ok (.invokevirtual 136, 3) := by decide +kernel
theorem dL_isTold_72 : decode cL_isTold 72 = .ok (.aload 7, 2) := by decide +kernel
theorem dL_isTold_74 : decode cL_isTold 74 = .ok (.iload 10, 2) := by decide +kernel
theorem dL_isTold_76 : decode cL_isTold 76 = .ok (.invokestatic 139, 3) := by decide +kernel
theorem dL_isTold_79 : decode cL_isTold 79 = .ok (.if_icmp .eq 5, 3) := by decide +kernel
theorem dL_isTold_82 : decode cL_isTold 82 = .ok (.iconst 0, 1) := by decide +kernel
theorem dL_isTold_83 : decode cL_isTold 83 = .ok (.ireturn, 1) := by decide +kernel
theorem dL_isTold_84 : decode cL_isTold 84 = .ok (.iinc 10 1, 3) := by decide +kernel
theorem dL_isTold_87 : decode cL_isTold 87 = .ok (.goto (-84), 3) := by decide +kernel
theorem dL_isTold_90 : decode cL_isTold 90 = .ok (.iconst 0, 1) := by decide +kernel
theorem dL_isTold_91 : decode cL_isTold 91 = .ok (.istore 10, 2) := by decide +kernel
theorem dL_isTold_93 : decode cL_isTold 93 = .ok (.iload 10, 2) := by decide +kernel
theorem dL_isTold_95 : decode cL_isTold 95 = .ok (.aload 9, 2) := by decide +kernel
theorem dL_isTold_97 : decode cL_isTold 97 = .ok (.iconst 4, 1) := by decide +kernel
theorem dL_isTold_98 : decode cL_isTold 98 = .ok (.iaload, 1) := by decide +kernel
theorem dL_isTold_99 : decode cL_isTold 99 = .ok (.if_icmp .ge 218, 3) := by decide +kernel
theorem dL_isTold_102 : decode cL_isTold 102 = .ok (.aload 5, 2) := by decide +kernel
theorem dL_isTold_104 : decode cL_isTold 104 = .ok (.iload 10, 2) := by decide +kernel
theorem dL_isTold_106 : decode cL_isTold 106 = .ok (.iaload, 1) := by decide +kernel
theorem dL_isTold_107 : decode cL_isTold 107 = .ok (.bipush 63, 2) := by decide +kernel
theorem dL_isTold_109 : decode cL_isTold 109 = .ok (.iand, 1) := by decide +kernel
theorem dL_isTold_110 : decode cL_isTold 110 = .ok (.istore 11, 2) := by decide +kernel
theorem dL_isTold_112 : decode cL_isTold 112 = .ok (.aload 5, 2) := by decide +kernel
theorem dL_isTold_114 : decode cL_isTold 114 = .ok (.iload 10, 2) := by decide +kernel
theorem dL_isTold_116 : decode cL_isTold 116 = .ok (.iaload, 1) := by decide +kernel
theorem dL_isTold_117 : decode cL_isTold 117 = .ok (.bipush 6, 2) := by decide +kernel
theorem dL_isTold_119 : decode cL_isTold 119 = .ok (.ishr, 1) := by decide +kernel
theorem dL_isTold_120 : decode cL_isTold 120 = .ok (.bipush 63, 2) := by decide +kernel
theorem dL_isTold_122 : decode cL_isTold 122 = .ok (.iand, 1) := by decide +kernel
theorem dL_isTold_123 : decode cL_isTold 123 = .ok (.istore 12, 2) := by decide +kernel
theorem dL_isTold_125 : decode cL_isTold 125 = .ok (.iconst (-1), 1) := by decide +kernel
theorem dL_isTold_126 : decode cL_isTold 126 = .ok (.istore 13, 2) := by decide +kernel
theorem dL_isTold_128 : decode cL_isTold 128 = .ok (.iload 10, 2) := by decide +kernel
theorem dL_isTold_130 : decode cL_isTold 130 = .ok (.iconst 1, 1) := by decide +kernel
theorem dL_isTold_131 : decode cL_isTold 131 = .ok (.isub, 1) := by decide +kernel
theorem dL_isTold_132 : decode cL_isTold 132 = .ok (.istore 14, 2) := by decide +kernel
theorem dL_isTold_134 : decode cL_isTold 134 = .ok (.iload 14, 2) := by decide +kernel
theorem dL_isTold_136 : decode cL_isTold 136 = .ok (.ifCond .lt 101, 3) := by decide +kernel
theorem dL_isTold_139 : decode cL_isTold 139 = .ok (.aload 5, 2) := by decide +kernel
theorem dL_isTold_141 : decode cL_isTold 141 = .ok (.iload 14, 2) := by decide +kernel
theorem dL_isTold_143 : decode cL_isTold 143 = .ok (.iaload, 1) := by decide +kernel
theorem dL_isTold_144 : decode cL_isTold 144 = .ok (.bipush 6, 2) := by decide +kernel
theorem dL_isTold_146 : decode cL_isTold 146 = .ok (.ishr, 1) := by decide +kernel
theorem dL_isTold_147 : decode cL_isTold 147 = .ok (.aload 5, 2) := by decide +kernel
theorem dL_isTold_149 : decode cL_isTold 149 = .ok (.iload 10, 2) := by decide +kernel
theorem dL_isTold_151 : decode cL_isTold 151 = .ok (.iaload, 1) := by decide +kernel
theorem dL_isTold_152 : decode cL_isTold 152 = .ok (.bipush 6, 2) := by decide +kernel
theorem dL_isTold_154 : decode cL_isTold 154 = .ok (.ishr, 1) := by decide +kernel
theorem dL_isTold_155 : decode cL_isTold 155 = .ok (.if_icmp .ne 7, 3) := by decide +kernel
theorem dL_isTold_158 : decode cL_isTold 158 = .ok (.iconst 1, 1) := by decide +kernel
theorem dL_isTold_159 : decode cL_isTold 159 = .ok (.goto 4, 3) := by decide +kernel
theorem dL_isTold_162 : decode cL_isTold 162 = .ok (.iconst 0, 1) := by decide +kernel
theorem dL_isTold_163 : decode cL_isTold 163 = .ok (.istore 15, 2) := by decide +kernel
theorem dL_isTold_165 : decode cL_isTold 165 = .ok (.iconst 0, 1) := by decide +kernel
theorem dL_isTold_166 : decode cL_isTold 166 = .ok (.istore 16, 2) := by decide +kernel
theorem dL_isTold_168 : decode cL_isTold 168 = .ok (.iload 16, 2) := by decide +kernel
theorem dL_isTold_170 : decode cL_isTold 170 = .ok (.iload 12, 2) := by decide +kernel
theorem dL_isTold_172 : decode cL_isTold 172 = .ok (.if_icmp .ge 45, 3) := by decide +kernel
theorem dL_isTold_175 : decode cL_isTold 175 = .ok (.iload 15, 2) := by decide +kernel
theorem dL_isTold_177 : decode cL_isTold 177 = .ok (.ifCond .eq 40, 3) := by decide +kernel
theorem dL_isTold_180 : decode cL_isTold 180 = .ok (.aload_n 3, 1) := by decide +kernel
theorem dL_isTold_181 : decode cL_isTold 181 = .ok (.aload 5, 2) := by decide +kernel
theorem dL_isTold_183 : decode cL_isTold 183 = .ok (.iload 14, 2) := by decide +kernel
theorem dL_isTold_185 : decode cL_isTold 185 = .ok (.iaload, 1) := by decide +kernel
theorem dL_isTold_186 : decode cL_isTold 186 = .ok (.bipush 63, 2) := by decide +kernel
theorem dL_isTold_188 : decode cL_isTold 188 = .ok (.iand, 1) := by decide +kernel
theorem dL_isTold_189 : decode cL_isTold 189 = .ok (.iload 16, 2) := by decide +kernel
theorem dL_isTold_191 : decode cL_isTold 191 = .ok (.iadd, 1) := by decide +kernel
theorem dL_isTold_192 : decode cL_isTold 192 = .ok (.laload, 1) := by decide +kernel
theorem dL_isTold_193 : decode cL_isTold 193 = .ok (.aload_n 3, 1) := by decide +kernel
theorem dL_isTold_194 : decode cL_isTold 194 = .ok (.iload 11, 2) := by decide +kernel
theorem dL_isTold_196 : decode cL_isTold 196 = .ok (.iload 16, 2) := by decide +kernel
theorem dL_isTold_198 : decode cL_isTold 198 = .ok (.iadd, 1) := by decide +kernel
theorem dL_isTold_199 : decode cL_isTold 199 = .ok (.laload, 1) := by decide +kernel
theorem dL_isTold_200 : decode cL_isTold 200 = .ok (.lcmp, 1) := by decide +kernel
theorem dL_isTold_201 : decode cL_isTold 201 = .ok (.ifCond .ne 7, 3) := by decide +kernel
theorem dL_isTold_204 : decode cL_isTold 204 = .ok (.iconst 1, 1) := by decide +kernel
theorem dL_isTold_205 : decode cL_isTold 205 = .ok (.goto 4, 3) := by decide +kernel
theorem dL_isTold_208 : decode cL_isTold 208 = .ok (.iconst 0, 1) := by decide +kernel
theorem dL_isTold_209 : decode cL_isTold 209 = .ok (.istore 15, 2) := by decide +kernel
theorem dL_isTold_211 : decode cL_isTold 211 = .ok (.iinc 16 1, 3) := by decide +kernel
theorem dL_isTold_214 : decode cL_isTold 214 = .ok (.goto (-46), 3) := by decide +kernel
theorem dL_isTold_217 : decode cL_isTold 217 = .ok (.iload 15, 2) := by decide +kernel
theorem dL_isTold_219 : decode cL_isTold 219 = .ok (.ifCond .eq 8, 3) := by decide +kernel
theorem dL_isTold_222 : decode cL_isTold 222 = .ok (.iload 14, 2) := by decide +kernel
theorem dL_isTold_224 : decode cL_isTold 224 = .ok (.goto 5, 3) := by decide +kernel
theorem dL_isTold_227 : decode cL_isTold 227 = .ok (.iload 13, 2) := by decide +kernel
theorem dL_isTold_229 : decode cL_isTold 229 = .ok (.istore 13, 2) := by decide +kernel
theorem dL_isTold_231 : decode cL_isTold 231 = .ok (.iinc 14 (-1), 3) := by decide +kernel
theorem dL_isTold_234 : decode cL_isTold 234 = .ok (.goto (-100), 3) := by decide +kernel
theorem dL_isTold_237 : decode cL_isTold 237 = .ok (.aload_n 0, 1) := by decide +kernel
theorem dL_isTold_238 : decode cL_isTold 238 = .ok (.iload 10, 2) := by decide +kernel
theorem dL_isTold_240 : decode cL_isTold 240 = .ok (.invokestatic 142, 3) := by decide +kernel
theorem dL_isTold_243 : decode cL_isTold 243 = .ok (.iload 12, 2) := by decide +kernel
theorem dL_isTold_245 : decode cL_isTold 245 = .ok (.if_icmp .ne 27, 3) := by decide +kernel
theorem dL_isTold_248 : decode cL_isTold 248 = .ok (.aload_n 0, 1) := by decide +kernel
theorem dL_isTold_249 : decode cL_isTold 249 = .ok (.iload 10, 2) := by decide +kernel
theorem dL_isTold_251 : decode cL_isTold 251 = .ok (.invokestatic 144, 3) := by decide +kernel
theorem dL_isTold_254 : decode cL_isTold 254 = .ok (.iload 13, 2) := by decide +kernel
theorem dL_isTold_256 : decode cL_isTold 256 = .ok (.if_icmp .ne 16, 3) := by decide +kernel
theorem dL_isTold_259 : decode cL_isTold 259 = .ok (.aload_n 0, 1) := by decide +kernel
theorem dL_isTold_260 : decode cL_isTold 260 = .ok (.iload 10, 2) := by decide +kernel
theorem dL_isTold_262 : decode cL_isTold 262 = .ok (.iload 12, 2) := by decide +kernel
theorem dL_isTold_264 : decode cL_isTold 264 = .ok (.invokestatic 146, 3) := by decide +kernel
theorem dL_isTold_267 : decode cL_isTold 267 = .ok (.bipush (-73), 2) := by decide +kernel
theorem dL_isTold_269 : decode cL_isTold 269 = .ok (.if_icmp .eq 5, 3) := by decide +kernel
theorem dL_isTold_272 : decode cL_isTold 272 = .ok (.iconst 0, 1) := by decide +kernel
theorem dL_isTold_273 : decode cL_isTold 273 = .ok (.ireturn, 1) := by decide +kernel
theorem dL_isTold_274 : decode cL_isTold 274 = .ok (.iconst 0, 1) := by decide +kernel
theorem dL_isTold_275 : decode cL_isTold 275 = .ok (.istore 14, 2) := by decide +kernel
theorem dL_isTold_277 : decode cL_isTold 277 = .ok (.iload 14, 2) := by decide +kernel
theorem dL_isTold_279 : decode cL_isTold 279 = .ok (.iload 12, 2) := by decide +kernel
theorem dL_isTold_281 : decode cL_isTold 281 = .ok (.if_icmp .ge 30, 3) := by decide +kernel
theorem dL_isTold_284 : decode cL_isTold 284 = .ok (.aload_n 0, 1) := by decide +kernel
theorem dL_isTold_285 : decode cL_isTold 285 = .ok (.iload 10, 2) := by decide +kernel
theorem dL_isTold_287 : decode cL_isTold 287 = .ok (.iload 14, 2) := by decide +kernel
theorem dL_isTold_289 : decode cL_isTold 289 = .ok (.invokestatic 146, 3) := by decide +kernel
theorem dL_isTold_292 : decode cL_isTold 292 = .ok (.aload 4, 2) := by decide +kernel
theorem dL_isTold_294 : decode cL_isTold 294 = .ok (.iload 11, 2) := by decide +kernel
theorem dL_isTold_296 : decode cL_isTold 296 = .ok (.iload 14, 2) := by decide +kernel
theorem dL_isTold_298 : decode cL_isTold 298 = .ok (.iadd, 1) := by decide +kernel
theorem dL_isTold_299 : decode cL_isTold 299 = .ok (.iaload, 1) := by decide +kernel
theorem dL_isTold_300 : decode cL_isTold 300 = .ok (.if_icmp .eq 5, 3) := by decide +kernel
theorem dL_isTold_303 : decode cL_isTold 303 = .ok (.iconst 0, 1) := by decide +kernel
theorem dL_isTold_304 : decode cL_isTold 304 = .ok (.ireturn, 1) := by decide +kernel
theorem dL_isTold_305 : decode cL_isTold 305 = .ok (.iinc 14 1, 3) := by decide +kernel
theorem dL_isTold_308 : decode cL_isTold 308 = .ok (.goto (-31), 3) := by decide +kernel
theorem dL_isTold_311 : decode cL_isTold 311 = .ok (.iinc 10 1, 3) := by decide +kernel
theorem dL_isTold_314 : decode cL_isTold 314 = .ok (.goto (-221), 3) := by decide +kernel
theorem dL_isTold_317 : decode cL_isTold 317 = .ok (.iload_n 1, 1) := by decide +kernel
theorem dL_isTold_318 : decode cL_isTold 318 = .ok (.iconst 4, 1) := by decide +kernel
theorem dL_isTold_319 : decode cL_isTold 319 = .ok (.invokestatic 90, 3) := by decide +kernel
theorem dL_isTold_322 : decode cL_isTold 322 = .ok (.istore 10, 2) := by decide +kernel
theorem dL_isTold_324 : decode cL_isTold 324 = .ok (.iload_n 1, 1) := by decide +kernel
theorem dL_isTold_325 : decode cL_isTold 325 = .ok (.iconst 3, 1) := by decide +kernel
theorem dL_isTold_326 : decode cL_isTold 326 = .ok (.ishr, 1) := by decide +kernel
theorem dL_isTold_327 : decode cL_isTold 327 = .ok (.bipush 7, 2) := by decide +kernel
theorem dL_isTold_329 : decode cL_isTold 329 = .ok (.invokestatic 90, 3) := by decide +kernel
theorem dL_isTold_332 : decode cL_isTold 332 = .ok (.iconst 1, 1) := by decide +kernel
theorem dL_isTold_333 : decode cL_isTold 333 = .ok (.isub, 1) := by decide +kernel
theorem dL_isTold_334 : decode cL_isTold 334 = .ok (.istore 11, 2) := by decide +kernel
theorem dL_isTold_336 : decode cL_isTold 336 = .ok (.iload_n 1, 1) := by decide +kernel
theorem dL_isTold_337 : decode cL_isTold 337 = .ok (.bipush 6, 2) := by decide +kernel
theorem dL_isTold_339 : decode cL_isTold 339 = .ok (.ishr, 1) := by decide +kernel
theorem dL_isTold_340 : decode cL_isTold 340 = .ok (.iconst 5, 1) := by decide +kernel
theorem dL_isTold_341 : decode cL_isTold 341 = .ok (.invokestatic 90, 3) := by decide +kernel
theorem dL_isTold_344 : decode cL_isTold 344 = .ok (.iconst 1, 1) := by decide +kernel
theorem dL_isTold_345 : decode cL_isTold 345 = .ok (.isub, 1) := by decide +kernel
theorem dL_isTold_346 : decode cL_isTold 346 = .ok (.istore 12, 2) := by decide +kernel
theorem dL_isTold_348 : decode cL_isTold 348 = .ok (.iload_n 1, 1) := by decide +kernel
theorem dL_isTold_349 : decode cL_isTold 349 = .ok (.sipush 512, 3) := by decide +kernel
theorem dL_isTold_352 : decode cL_isTold 352 = .ok (.iand, 1) := by decide +kernel
theorem dL_isTold_353 : decode cL_isTold 353 = .ok (.ifCond .ne 7, 3) := by decide +kernel
theorem dL_isTold_356 : decode cL_isTold 356 = .ok (.iconst 0, 1) := by decide +kernel
theorem dL_isTold_357 : decode cL_isTold 357 = .ok (.goto 13, 3) := by decide +kernel
theorem dL_isTold_360 : decode cL_isTold 360 = .ok (.iload_n 2, 1) := by decide +kernel
theorem dL_isTold_361 : decode cL_isTold 361 = .ok (.aload 9, 2) := by decide +kernel
theorem dL_isTold_363 : decode cL_isTold 363 = .ok (.iconst 0, 1) := by decide +kernel
theorem dL_isTold_364 : decode cL_isTold 364 = .ok (.iaload, 1) := by decide +kernel
theorem dL_isTold_365 : decode cL_isTold 365 = .ok (.iconst 2, 1) := by decide +kernel
theorem dL_isTold_366 : decode cL_isTold 366 = .ok (.iadd, 1) := by decide +kernel
theorem dL_isTold_367 : decode cL_isTold 367 = .ok (.invokestatic 90, 3) := by decide +kernel
theorem dL_isTold_370 : decode cL_isTold 370 = .ok (.istore 13, 2) := by decide +kernel
theorem dL_isTold_372 : decode cL_isTold 372 = .ok (.iload 13, 2) := by decide +kernel
theorem dL_isTold_374 : decode cL_isTold 374 = .ok (.sipush 9999, 3) := by decide +kernel
theorem dL_isTold_377 : decode cL_isTold 377 = .ok (.if_icmp .le 9, 3) := by decide +kernel
theorem dL_isTold_380 : decode cL_isTold 380 = .ok (.sipush 9999, 3) := by decide +kernel
theorem dL_isTold_383 : decode cL_isTold 383 = .ok (.goto 5, 3) := by decide +kernel
theorem dL_isTold_386 : decode cL_isTold 386 = .ok (.iload 13, 2) := by decide +kernel
theorem dL_isTold_388 : decode cL_isTold 388 = .ok (.istore 13, 2) := by decide +kernel
theorem dL_isTold_390 : decode cL_isTold 390 = .ok (.iconst 0, 1) := by decide +kernel
theorem dL_isTold_391 : decode cL_isTold 391 = .ok (.istore 14, 2) := by decide +kernel
theorem dL_isTold_393 : decode cL_isTold 393 = .ok (.iconst 0, 1) := by decide +kernel
theorem dL_isTold_394 : decode cL_isTold 394 = .ok (.istore 15, 2) := by decide +kernel
theorem dL_isTold_396 : decode cL_isTold 396 = .ok (.iconst 0, 1) := by decide +kernel
theorem dL_isTold_397 : decode cL_isTold 397 = .ok (.istore 16, 2) := by decide +kernel
theorem dL_isTold_399 : decode cL_isTold 399 = .ok (.iload 16, 2) := by decide +kernel
theorem dL_isTold_401 : decode cL_isTold 401 = .ok (.aload 9, 2) := by decide +kernel
theorem dL_isTold_403 : decode cL_isTold 403 = .ok (.iconst 5, 1) := by decide +kernel
theorem dL_isTold_404 : decode cL_isTold 404 = .ok (.iaload, 1) := by decide +kernel
theorem dL_isTold_405 : decode cL_isTold 405 = .ok (.if_icmp .ge 144, 3) := by decide +kernel
theorem dL_isTold_408 : decode cL_isTold 408 = .ok (.aload 6, 2) := by decide +kernel
theorem dL_isTold_410 : decode cL_isTold 410 = .ok (.aload 7, 2) := by decide +kernel
theorem dL_isTold_412 : decode cL_isTold 412 = .ok (.aload 8, 2) := by decide +kernel
theorem dL_isTold_414 : decode cL_isTold 414 = .ok (.iload 10, 2) := by decide +kernel
theorem dL_isTold_416 : decode cL_isTold 416 = .ok (.iload 16, 2) := by decide +kernel
theorem dL_isTold_418 : decode cL_isTold 418 = .ok (.invokestatic 148, 3) := by decide +kernel
theorem dL_isTold_421 : decode cL_isTold 421 = .ok (.ifCond .ne 6, 3) := by decide +kernel
theorem dL_isTold_424 : decode cL_isTold 424 = .ok (.goto 119, 3) := by decide +kernel
theorem dL_isTold_427 : decode cL_isTold 427 = .ok (.aload 6, 2) := by decide +kernel
theorem dL_isTold_429 : decode cL_isTold 429 = .ok (.iload 16, 2) := by decide +kernel
theorem dL_isTold_431 : decode cL_isTold 431 = .ok (.iaload, 1) := by decide +kernel
theorem dL_isTold_432 : decode cL_isTold 432 = .ok (.bipush 127, 2) := by decide +kernel
theorem dL_isTold_434 : decode cL_isTold 434 = .ok (.iand, 1) := by decide +kernel
theorem dL_isTold_435 : decode cL_isTold 435 = .ok (.iconst 1, 1) := by decide +kernel
theorem dL_isTold_436 : decode cL_isTold 436 = .ok (.isub, 1) := by decide +kernel
theorem dL_isTold_437 : decode cL_isTold 437 = .ok (.istore 17, 2) := by decide +kernel
theorem dL_isTold_439 : decode cL_isTold 439 = .ok (.iload 15, 2) := by decide +kernel
theorem dL_isTold_441 : decode cL_isTold 441 = .ok (.iload 17, 2) := by decide +kernel
theorem dL_isTold_443 : decode cL_isTold 443 = .ok (.iload 11, 2) := by decide +kernel
theorem dL_isTold_445 : decode cL_isTold 445 = .ok (.if_icmp .ne 16, 3) := by decide +kernel
theorem dL_isTold_448 : decode cL_isTold 448 = .ok (.iload 11, 2) := by decide +kernel
theorem dL_isTold_450 : decode cL_isTold 450 = .ok (.ifCond .lt 11, 3) := by decide +kernel
theorem dL_isTold_453 : decode cL_isTold 453 = .ok (.aload 7, 2) := by decide +kernel
theorem dL_isTold_455 : decode cL_isTold 455 = .ok (.iload 16, 2) := by decide +kernel
theorem dL_isTold_457 : decode cL_isTold 457 = .ok (.iaload, 1) := by decide +kernel
theorem dL_isTold_458 : decode cL_isTold 458 = .ok (.goto 4, 3) := by decide +kernel
theorem dL_isTold_461 : decode cL_isTold 461 = .ok (.iconst 0, 1) := by decide +kernel
theorem dL_isTold_462 : decode cL_isTold 462 = .ok (.iadd, 1) := by decide +kernel
theorem dL_isTold_463 : decode cL_isTold 463 = .ok (.istore 15, 2) := by decide +kernel
theorem dL_isTold_465 : decode cL_isTold 465 = .ok (.iload 11, 2) := by decide +kernel
theorem dL_isTold_467 : decode cL_isTold 467 = .ok (.ifCond .lt 10, 3) := by decide +kernel
theorem dL_isTold_470 : decode cL_isTold 470 = .ok (.iload 17, 2) := by decide +kernel
theorem dL_isTold_472 : decode cL_isTold 472 = .ok (.iload 11, 2) := by decide +kernel
theorem dL_isTold_474 : decode cL_isTold 474 = .ok (.if_icmp .ne 69, 3) := by decide +kernel
theorem dL_isTold_477 : decode cL_isTold 477 = .ok (.iload 12, 2) := by decide +kernel
theorem dL_isTold_479 : decode cL_isTold 479 = .ok (.ifCond .lt 18, 3) := by decide +kernel
theorem dL_isTold_482 : decode cL_isTold 482 = .ok (.aload 6, 2) := by decide +kernel
theorem dL_isTold_484 : decode cL_isTold 484 = .ok (.iload 16, 2) := by decide +kernel
theorem dL_isTold_486 : decode cL_isTold 486 = .ok (.iaload, 1) := by decide +kernel
theorem dL_isTold_487 : decode cL_isTold 487 = .ok (.bipush 7, 2) := by decide +kernel
theorem dL_isTold_489 : decode cL_isTold 489 = .ok (.ishr, 1) := by decide +kernel
theorem dL_isTold_490 : decode cL_isTold 490 = .ok (.iconst 3, 1) := by decide +kernel
theorem dL_isTold_491 : decode cL_isTold 491 = .ok (.iand, 1) := by decide +kernel
theorem dL_isTold_492 : decode cL_isTold 492 = .ok (.iload 12, 2) := by decide +kernel
theorem dL_isTold_494 : decode cL_isTold 494 = .ok (.if_icmp .ne 49, 3) := by decide +kernel
theorem dL_isTold_497 : decode cL_isTold 497 = .ok (.aload 5, 2) := by decide +kernel
theorem dL_isTold_499 : decode cL_isTold 499 = .ok (.aload 6, 2) := by decide +kernel
theorem dL_isTold_501 : decode cL_isTold 501 = .ok (.iload 16, 2) := by decide +kernel
theorem dL_isTold_503 : decode cL_isTold 503 = .ok (.iaload, 1) := by decide +kernel
theorem dL_isTold_504 : decode cL_isTold 504 = .ok (.bipush 15, 2) := by decide +kernel
theorem dL_isTold_506 : decode cL_isTold 506 = .ok (.ishr, 1) := by decide +kernel
theorem dL_isTold_507 : decode cL_isTold 507 = .ok (.iaload, 1) := by decide +kernel
theorem dL_isTold_508 : decode cL_isTold 508 = .ok (.bipush 12, 2) := by decide +kernel
theorem dL_isTold_510 : decode cL_isTold 510 = .ok (.ishr, 1) := by decide +kernel
theorem dL_isTold_511 : decode cL_isTold 511 = .ok (.iload 13, 2) := by decide +kernel
theorem dL_isTold_513 : decode cL_isTold 513 = .ok (.if_icmp .ge 6, 3) := by decide +kernel
theorem dL_isTold_516 : decode cL_isTold 516 = .ok (.goto 27, 3) := by decide +kernel
theorem dL_isTold_519 : decode cL_isTold 519 = .ok (.aload_n 0, 1) := by decide +kernel
theorem dL_isTold_520 : decode cL_isTold 520 = .ok (.iload 10, 2) := by decide +kernel
theorem dL_isTold_522 : decode cL_isTold 522 = .ok (.iload 11, 2) := by decide +kernel
theorem dL_isTold_524 : decode cL_isTold 524 = .ok (.iload 12, 2) := by decide +kernel
theorem dL_isTold_526 : decode cL_isTold 526 = .ok (.iload 13, 2) := by decide +kernel
theorem dL_isTold_528 : decode cL_isTold 528 = .ok (.iload 14, 2) := by decide +kernel
theorem dL_isTold_530 : decode cL_isTold 530 = .ok (.invokestatic 152, 3) := by decide +kernel
theorem dL_isTold_533 : decode cL_isTold 533 = .ok (.iload 16, 2) := by decide +kernel
theorem dL_isTold_535 : decode cL_isTold 535 = .ok (.if_icmp .eq 5, 3) := by decide +kernel
theorem dL_isTold_538 : decode cL_isTold 538 = .ok (.iconst 0, 1) := by decide +kernel
theorem dL_isTold_539 : decode cL_isTold 539 = .ok (.ireturn, 1) := by decide +kernel
theorem dL_isTold_540 : decode cL_isTold 540 = .ok (.iinc 14 1, 3) := by decide +kernel
theorem dL_isTold_543 : decode cL_isTold 543 = .ok (.iinc 16 1, 3) := by decide +kernel
theorem dL_isTold_546 : decode cL_isTold 546 = .ok (.goto (-147), 3) := by decide +kernel
theorem dL_isTold_549 : decode cL_isTold 549 = .ok (.aload_n 0, 1) := by decide +kernel
theorem dL_isTold_550 : decode cL_isTold 550 = .ok (.iload 10, 2) := by decide +kernel
theorem dL_isTold_552 : decode cL_isTold 552 = .ok (.iload 11, 2) := by decide +kernel
theorem dL_isTold_554 : decode cL_isTold 554 = .ok (.iload 12, 2) := by decide +kernel
theorem dL_isTold_556 : decode cL_isTold 556 = .ok (.iload 13, 2) := by decide +kernel
theorem dL_isTold_558 : decode cL_isTold 558 = .ok (.iload 14, 2) := by decide +kernel
theorem dL_isTold_560 : decode cL_isTold 560 = .ok (.invokestatic 152, 3) := by decide +kernel
theorem dL_isTold_563 : decode cL_isTold 563 = .ok (.bipush (-73), 2) := by decide +kernel
theorem dL_isTold_565 : decode cL_isTold 565 = .ok (.if_icmp .ne 128, 3) := by decide +kernel
theorem dL_isTold_568 : decode cL_isTold 568 = .ok (.aload_n 0, 1) := by decide +kernel
theorem dL_isTold_569 : decode cL_isTold 569 = .ok (.iload 10, 2) := by decide +kernel
theorem dL_isTold_571 : decode cL_isTold 571 = .ok (.iload 11, 2) := by decide +kernel
theorem dL_isTold_573 : decode cL_isTold 573 = .ok (.iload 12, 2) := by decide +kernel
theorem dL_isTold_575 : decode cL_isTold 575 = .ok (.iload 13, 2) := by decide +kernel
theorem dL_isTold_577 : decode cL_isTold 577 = .ok (.iconst (-1), 1) := by decide +kernel
theorem dL_isTold_578 : decode cL_isTold 578 = .ok (.invokestatic 152, 3) := by decide +kernel
theorem dL_isTold_581 : decode cL_isTold 581 = .ok (.bipush (-73), 2) := by decide +kernel
theorem dL_isTold_583 : decode cL_isTold 583 = .ok (.if_icmp .ne 110, 3) := by decide +kernel
theorem dL_isTold_586 : decode cL_isTold 586 = .ok (.aload_n 0, 1) := by decide +kernel
theorem dL_isTold_587 : decode cL_isTold 587 = .ok (.iconst 4, 1) := by decide +kernel
theorem dL_isTold_588 : decode cL_isTold 588 = .ok (.iload 11, 2) := by decide +kernel
theorem dL_isTold_590 : decode cL_isTold 590 = .ok (.iload 12, 2) := by decide +kernel
theorem dL_isTold_592 : decode cL_isTold 592 = .ok (.iload 13, 2) := by decide +kernel
theorem dL_isTold_594 : decode cL_isTold 594 = .ok (.iconst (-1), 1) := by decide +kernel
theorem dL_isTold_595 : decode cL_isTold 595 = .ok (.invokestatic 152, 3) := by decide +kernel
theorem dL_isTold_598 : decode cL_isTold 598 = .ok (.bipush (-71), 2) := by decide +kernel
theorem dL_isTold_600 : decode cL_isTold 600 = .ok (.if_icmp .ne 93, 3) := by decide +kernel
theorem dL_isTold_603 : decode cL_isTold 603 = .ok (.aload_n 0, 1) := by decide +kernel
theorem dL_isTold_604 : decode cL_isTold 604 = .ok (.iload 10, 2) := by decide +kernel
theorem dL_isTold_606 : decode cL_isTold 606 = .ok (.bipush (-2), 2) := by decide +kernel
theorem dL_isTold_608 : decode cL_isTold 608 = .ok (.iload 12, 2) := by decide +kernel
theorem dL_isTold_610 : decode cL_isTold 610 = .ok (.iload 13, 2) := by decide +kernel
theorem dL_isTold_612 : decode cL_isTold 612 = .ok (.iconst 0, 1) := by decide +kernel
theorem dL_isTold_613 : decode cL_isTold 613 = .ok (.invokestatic 152, 3) := by decide +kernel
theorem dL_isTold_616 : decode cL_isTold 616 = .ok (.bipush (-71), 2) := by decide +kernel
theorem dL_isTold_618 : decode cL_isTold 618 = .ok (.if_icmp .ne 75, 3) := by decide +kernel
theorem dL_isTold_621 : decode cL_isTold 621 = .ok (.aload_n 0, 1) := by decide +kernel
theorem dL_isTold_622 : decode cL_isTold 622 = .ok (.iload 10, 2) := by decide +kernel
theorem dL_isTold_624 : decode cL_isTold 624 = .ok (.bipush 100, 2) := by decide +kernel
theorem dL_isTold_626 : decode cL_isTold 626 = .ok (.iload 12, 2) := by decide +kernel
theorem dL_isTold_628 : decode cL_isTold 628 = .ok (.iload 13, 2) := by decide +kernel
theorem dL_isTold_630 : decode cL_isTold 630 = .ok (.iconst 0, 1) := by decide +kernel
theorem dL_isTold_631 : decode cL_isTold 631 = .ok (.invokestatic 152, 3) := by decide +kernel
theorem dL_isTold_634 : decode cL_isTold 634 = .ok (.bipush (-71), 2) := by decide +kernel
theorem dL_isTold_636 : decode cL_isTold 636 = .ok (.if_icmp .ne 57, 3) := by decide +kernel
theorem dL_isTold_639 : decode cL_isTold 639 = .ok (.aload_n 0, 1) := by decide +kernel
theorem dL_isTold_640 : decode cL_isTold 640 = .ok (.iload 10, 2) := by decide +kernel
theorem dL_isTold_642 : decode cL_isTold 642 = .ok (.iload 11, 2) := by decide +kernel
theorem dL_isTold_644 : decode cL_isTold 644 = .ok (.iconst 4, 1) := by decide +kernel
theorem dL_isTold_645 : decode cL_isTold 645 = .ok (.iload 13, 2) := by decide +kernel
theorem dL_isTold_647 : decode cL_isTold 647 = .ok (.iconst 0, 1) := by decide +kernel
theorem dL_isTold_648 : decode cL_isTold 648 = .ok (.invokestatic 152, 3) := by decide +kernel
theorem dL_isTold_651 : decode cL_isTold 651 = .ok (.bipush (-71), 2) := by decide +kernel
theorem dL_isTold_653 : decode cL_isTold 653 = .ok (.if_icmp .ne 40, 3) := by decide +kernel
theorem dL_isTold_656 : decode cL_isTold 656 = .ok (.aload_n 0, 1) := by decide +kernel
theorem dL_isTold_657 : decode cL_isTold 657 = .ok (.iload 10, 2) := by decide +kernel
theorem dL_isTold_659 : decode cL_isTold 659 = .ok (.iload 11, 2) := by decide +kernel
theorem dL_isTold_661 : decode cL_isTold 661 = .ok (.iload 12, 2) := by decide +kernel
theorem dL_isTold_663 : decode cL_isTold 663 = .ok (.sipush 10000, 3) := by decide +kernel
theorem dL_isTold_666 : decode cL_isTold 666 = .ok (.iconst 0, 1) := by decide +kernel
theorem dL_isTold_667 : decode cL_isTold 667 = .ok (.invokestatic 152, 3) := by decide +kernel
theorem dL_isTold_670 : decode cL_isTold 670 = .ok (.bipush (-71), 2) := by decide +kernel
theorem dL_isTold_672 : decode cL_isTold 672 = .ok (.if_icmp .ne 21, 3) := by decide +kernel
theorem dL_isTold_675 : decode cL_isTold 675 = .ok (.iload 11, 2) := by decide +kernel
theorem dL_isTold_677 : decode cL_isTold 677 = .ok (.ifCond .lt 18, 3) := by decide +kernel
theorem dL_isTold_680 : decode cL_isTold 680 = .ok (.aload_n 0, 1) := by decide +kernel
theorem dL_isTold_681 : decode cL_isTold 681 = .ok (.iload 10, 2) := by decide +kernel
theorem dL_isTold_683 : decode cL_isTold 683 = .ok (.iload 11, 2) := by decide +kernel
theorem dL_isTold_685 : decode cL_isTold 685 = .ok (.invokestatic 155, 3) := by decide +kernel
theorem dL_isTold_688 : decode cL_isTold 688 = .ok (.iload 15, 2) := by decide +kernel
theorem dL_isTold_690 : decode cL_isTold 690 = .ok (.if_icmp .eq 5, 3) := by decide +kernel
theorem dL_isTold_693 : decode cL_isTold 693 = .ok (.iconst 0, 1) := by decide +kernel
theorem dL_isTold_694 : decode cL_isTold 694 = .ok (.ireturn, 1) := by decide +kernel
theorem dL_isTold_695 : decode cL_isTold 695 = .ok (.aload 9, 2) := by decide +kernel
theorem dL_isTold_697 : decode cL_isTold 697 = .ok (.iconst 5, 1) := by decide +kernel
theorem dL_isTold_698 : decode cL_isTold 698 = .ok (.iaload, 1) := by decide +kernel
theorem dL_isTold_699 : decode cL_isTold 699 = .ok (.ifCond .le 223, 3) := by decide +kernel
theorem dL_isTold_702 : decode cL_isTold 702 = .ok (.iload_n 2, 1) := by decide +kernel
theorem dL_isTold_703 : decode cL_isTold 703 = .ok (.iconst 4, 1) := by decide +kernel
theorem dL_isTold_704 : decode cL_isTold 704 = .ok (.ishr, 1) := by decide +kernel
theorem dL_isTold_705 : decode cL_isTold 705 = .ok (.aload 9, 2) := by decide +kernel
theorem dL_isTold_707 : decode cL_isTold 707 = .ok (.iconst 5, 1) := by decide +kernel
theorem dL_isTold_708 : decode cL_isTold 708 = .ok (.iaload, 1) := by decide +kernel
theorem dL_isTold_709 : decode cL_isTold 709 = .ok (.invokestatic 90, 3) := by decide +kernel
theorem dL_isTold_712 : decode cL_isTold 712 = .ok (.istore 16, 2) := by decide +kernel
theorem dL_isTold_714 : decode cL_isTold 714 = .ok (.iload_n 2, 1) := by decide +kernel
theorem dL_isTold_715 : decode cL_isTold 715 = .ok (.bipush 9, 2) := by decide +kernel
theorem dL_isTold_717 : decode cL_isTold 717 = .ok (.ishr, 1) := by decide +kernel
theorem dL_isTold_718 : decode cL_isTold 718 = .ok (.aload 7, 2) := by decide +kernel
theorem dL_isTold_720 : decode cL_isTold 720 = .ok (.iload 16, 2) := by decide +kernel
theorem dL_isTold_722 : decode cL_isTold 722 = .ok (.invokestatic 139, 3) := by decide +kernel
theorem dL_isTold_725 : decode cL_isTold 725 = .ok (.invokestatic 90, 3) := by decide +kernel
theorem dL_isTold_728 : decode cL_isTold 728 = .ok (.istore 17, 2) := by decide +kernel
theorem dL_isTold_730 : decode cL_isTold 730 = .ok (.aload_n 3, 1) := by decide +kernel
theorem dL_isTold_731 : decode cL_isTold 731 = .ok (.aload 6, 2) := by decide +kernel
theorem dL_isTold_733 : decode cL_isTold 733 = .ok (.iload 16, 2) := by decide +kernel
theorem dL_isTold_735 : decode cL_isTold 735 = .ok (.iaload, 1) := by decide +kernel
theorem dL_isTold_736 : decode cL_isTold 736 = .ok (.bipush 9, 2) := by decide +kernel
theorem dL_isTold_738 : decode cL_isTold 738 = .ok (.ishr, 1) := by decide +kernel
theorem dL_isTold_739 : decode cL_isTold 739 = .ok (.bipush 63, 2) := by decide +kernel
theorem dL_isTold_741 : decode cL_isTold 741 = .ok (.iand, 1) := by decide +kernel
theorem dL_isTold_742 : decode cL_isTold 742 = .ok (.iload 17, 2) := by decide +kernel
theorem dL_isTold_744 : decode cL_isTold 744 = .ok (.iadd, 1) := by decide +kernel
theorem dL_isTold_745 : decode cL_isTold 745 = .ok (.laload, 1) := by decide +kernel
theorem dL_isTold_746 : decode cL_isTold 746 = .ok (.lstore 18, 2) := by decide +kernel
theorem dL_isTold_748 : decode cL_isTold 748 = .ok (.aload 6, 2) := by decide +kernel
theorem dL_isTold_750 : decode cL_isTold 750 = .ok (.aload 7, 2) := by decide +kernel
theorem dL_isTold_752 : decode cL_isTold 752 = .ok (.aload 8, 2) := by decide +kernel
theorem dL_isTold_754 : decode cL_isTold 754 = .ok (.iload 10, 2) := by decide +kernel
theorem dL_isTold_756 : decode cL_isTold 756 = .ok (.iload 16, 2) := by decide +kernel
theorem dL_isTold_758 : decode cL_isTold 758 = .ok (.invokestatic 148, 3) := by decide +kernel
theorem dL_isTold_761 : decode cL_isTold 761 = .ok (.istore 20, 2) := by decide +kernel
theorem dL_isTold_763 : decode cL_isTold 763 = .ok (.iconst 0, 1) := by decide +kernel
theorem dL_isTold_764 : decode cL_isTold 764 = .ok (.istore 21, 2) := by decide +kernel
theorem dL_isTold_766 : decode cL_isTold 766 = .ok (.iload 21, 2) := by decide +kernel
theorem dL_isTold_768 : decode cL_isTold 768 = .ok (.lload 18, 2) := by decide +kernel
theorem dL_isTold_770 : decode cL_isTold 770 = .ok (.invokestatic 73, 3) := by decide +kernel
theorem dL_isTold_773 : decode cL_isTold 773 = .ok (.if_icmp .ge 62, 3) := by decide +kernel
theorem dL_isTold_776 : decode cL_isTold 776 = .ok (.aload_n 0, 1) := by decide +kernel
theorem dL_isTold_777 : decode cL_isTold 777 = .ok (.iload 10, 2) := by decide +kernel
theorem dL_isTold_779 : decode cL_isTold 779 = .ok (.iload 16, 2) := by decide +kernel
theorem dL_isTold_781 : decode cL_isTold 781 = .ok (.iload 17, 2) := by decide +kernel
theorem dL_isTold_783 : decode cL_isTold 783 = .ok (.iload 21, 2) := by decide +kernel
theorem dL_isTold_785 : decode cL_isTold 785 = .ok (.invokestatic 157, 3) := by decide +kernel
theorem dL_isTold_788 : decode cL_isTold 788 = .ok (.iload 20, 2) := by decide +kernel
theorem dL_isTold_790 : decode cL_isTold 790 = .ok (.ifCond .ne 8, 3) := by decide +kernel
theorem dL_isTold_793 : decode cL_isTold 793 = .ok (.bipush (-74), 2) := by decide +kernel
theorem dL_isTold_795 : decode cL_isTold 795 = .ok (.goto 29, 3) := by decide +kernel
theorem dL_isTold_798 : decode cL_isTold 798 = .ok (.aload 8, 2) := by decide +kernel
theorem dL_isTold_800 : decode cL_isTold 800 = .ok (.iload 10, 2) := by decide +kernel
theorem dL_isTold_802 : decode cL_isTold 802 = .ok (.iaload, 1) := by decide +kernel
theorem dL_isTold_803 : decode cL_isTold 803 = .ok (.bipush 14, 2) := by decide +kernel
theorem dL_isTold_805 : decode cL_isTold 805 = .ok (.ishr, 1) := by decide +kernel
theorem dL_isTold_806 : decode cL_isTold 806 = .ok (.iconst 1, 1) := by decide +kernel
theorem dL_isTold_807 : decode cL_isTold 807 = .ok (.isub, 1) := by decide +kernel
theorem dL_isTold_808 : decode cL_isTold 808 = .ok (.iload 21, 2) := by decide +kernel
theorem dL_isTold_810 : decode cL_isTold 810 = .ok (.if_icmp .ne 7, 3) := by decide +kernel
theorem dL_isTold_813 : decode cL_isTold 813 = .ok (.iconst (-1), 1) := by decide +kernel
theorem dL_isTold_814 : decode cL_isTold 814 = .ok (.goto 10, 3) := by decide +kernel
theorem dL_isTold_817 : decode cL_isTold 817 = .ok (.lload 18, 2) := by decide +kernel
theorem dL_isTold_819 : decode cL_isTold 819 = .ok (.iload 21, 2) := by decide +kernel
theorem dL_isTold_821 : decode cL_isTold 821 = .ok (.invokestatic 85, 3) := by decide +kernel
theorem dL_isTold_824 : decode cL_isTold 824 = .ok (.if_icmp .eq 5, 3) := by decide +kernel
theorem dL_isTold_827 : decode cL_isTold 827 = .ok (.iconst 0, 1) := by decide +kernel
theorem dL_isTold_828 : decode cL_isTold 828 = .ok (.ireturn, 1) := by decide +kernel
theorem dL_isTold_829 : decode cL_isTold 829 = .ok (.iinc 21 1, 3) := by decide +kernel
theorem dL_isTold_832 : decode cL_isTold 832 = .ok (.goto (-66), 3) := by decide +kernel
theorem dL_isTold_835 : decode cL_isTold 835 = .ok (.aload_n 0, 1) := by decide +kernel
theorem dL_isTold_836 : decode cL_isTold 836 = .ok (.iload 10, 2) := by decide +kernel
theorem dL_isTold_838 : decode cL_isTold 838 = .ok (.iload 16, 2) := by decide +kernel
theorem dL_isTold_840 : decode cL_isTold 840 = .ok (.iload 17, 2) := by decide +kernel
theorem dL_isTold_842 : decode cL_isTold 842 = .ok (.lload 18, 2) := by decide +kernel
theorem dL_isTold_844 : decode cL_isTold 844 = .ok (.invokestatic 73, 3) := by decide +kernel
theorem dL_isTold_847 : decode cL_isTold 847 = .ok (.invokestatic 157, 3) := by decide +kernel
theorem dL_isTold_850 : decode cL_isTold 850 = .ok (.bipush (-73), 2) := by decide +kernel
theorem dL_isTold_852 : decode cL_isTold 852 = .ok (.if_icmp .ne 68, 3) := by decide +kernel
theorem dL_isTold_855 : decode cL_isTold 855 = .ok (.aload_n 0, 1) := by decide +kernel
theorem dL_isTold_856 : decode cL_isTold 856 = .ok (.iload 10, 2) := by decide +kernel
theorem dL_isTold_858 : decode cL_isTold 858 = .ok (.iload 16, 2) := by decide +kernel
theorem dL_isTold_860 : decode cL_isTold 860 = .ok (.aload 7, 2) := by decide +kernel
theorem dL_isTold_862 : decode cL_isTold 862 = .ok (.iload 16, 2) := by decide +kernel
theorem dL_isTold_864 : decode cL_isTold 864 = .ok (.invokestatic 139, 3) := by decide +kernel
theorem dL_isTold_867 : decode cL_isTold 867 = .ok (.iconst 0, 1) := by decide +kernel
theorem dL_isTold_868 : decode cL_isTold 868 = .ok (.invokestatic 157, 3) := by decide +kernel
theorem dL_isTold_871 : decode cL_isTold 871 = .ok (.bipush (-73), 2) := by decide +kernel
theorem dL_isTold_873 : decode cL_isTold 873 = .ok (.if_icmp .ne 47, 3) := by decide +kernel
theorem dL_isTold_876 : decode cL_isTold 876 = .ok (.aload_n 0, 1) := by decide +kernel
theorem dL_isTold_877 : decode cL_isTold 877 = .ok (.iload 10, 2) := by decide +kernel
theorem dL_isTold_879 : decode cL_isTold 879 = .ok (.iload 16, 2) := by decide +kernel
theorem dL_isTold_881 : decode cL_isTold 881 = .ok (.iconst (-1), 1) := by decide +kernel
theorem dL_isTold_882 : decode cL_isTold 882 = .ok (.iconst 0, 1) := by decide +kernel
theorem dL_isTold_883 : decode cL_isTold 883 = .ok (.invokestatic 157, 3) := by decide +kernel
theorem dL_isTold_886 : decode cL_isTold 886 = .ok (.bipush (-73), 2) := by decide +kernel
theorem dL_isTold_888 : decode cL_isTold 888 = .ok (.if_icmp .ne 32, 3) := by decide +kernel
theorem dL_isTold_891 : decode cL_isTold 891 = .ok (.aload_n 0, 1) := by decide +kernel
theorem dL_isTold_892 : decode cL_isTold 892 = .ok (.iconst 4, 1) := by decide +kernel
theorem dL_isTold_893 : decode cL_isTold 893 = .ok (.iconst (-1), 1) := by decide +kernel
theorem dL_isTold_894 : decode cL_isTold 894 = .ok (.iconst 0, 1) := by decide +kernel
theorem dL_isTold_895 : decode cL_isTold 895 = .ok (.iconst 0, 1) := by decide +kernel
theorem dL_isTold_896 : decode cL_isTold 896 = .ok (.invokestatic 157, 3) := by decide +kernel
theorem dL_isTold_899 : decode cL_isTold 899 = .ok (.bipush (-71), 2) := by decide +kernel
theorem dL_isTold_901 : decode cL_isTold 901 = .ok (.if_icmp .ne 19, 3) := by decide +kernel
theorem dL_isTold_904 : decode cL_isTold 904 = .ok (.aload_n 0, 1) := by decide +kernel
theorem dL_isTold_905 : decode cL_isTold 905 = .ok (.iload 10, 2) := by decide +kernel
theorem dL_isTold_907 : decode cL_isTold 907 = .ok (.iload 16, 2) := by decide +kernel
theorem dL_isTold_909 : decode cL_isTold 909 = .ok (.iload 17, 2) := by decide +kernel
theorem dL_isTold_911 : decode cL_isTold 911 = .ok (.iconst (-1), 1) := by decide +kernel
theorem dL_isTold_912 : decode cL_isTold 912 = .ok (.invokestatic 157, 3) := by decide +kernel
theorem dL_isTold_915 : decode cL_isTold 915 = .ok (.bipush (-73), 2) := by decide +kernel
theorem dL_isTold_917 : decode cL_isTold 917 = .ok (.if_icmp .eq 5, 3) := by decide +kernel
theorem dL_isTold_920 : decode cL_isTold 920 = .ok (.iconst 0, 1) := by decide +kernel
theorem dL_isTold_921 : decode cL_isTold 921 = .ok (.ireturn, 1) := by decide +kernel
theorem dL_isTold_922 : decode cL_isTold 922 = .ok (.aload_n 0, 1) := by decide +kernel
theorem dL_isTold_923 : decode cL_isTold 923 = .ok (.invokevirtual 96, 3) := by decide +kernel
theorem dL_isTold_926 : decode cL_isTold 926 = .ok (.aload 9, 2) := by decide +kernel
theorem dL_isTold_928 : decode cL_isTold 928 = .ok (.iconst 5, 1) := by decide +kernel
theorem dL_isTold_929 : decode cL_isTold 929 = .ok (.iaload, 1) := by decide +kernel
theorem dL_isTold_930 : decode cL_isTold 930 = .ok (.if_icmp .ne 117, 3) := by decide +kernel
theorem dL_isTold_933 : decode cL_isTold 933 = .ok (.aload_n 0, 1) := by decide +kernel
theorem dL_isTold_934 : decode cL_isTold 934 = .ok (.aload 9, 2) := by decide +kernel
theorem dL_isTold_936 : decode cL_isTold 936 = .ok (.iconst 5, 1) := by decide +kernel
theorem dL_isTold_937 : decode cL_isTold 937 = .ok (.iaload, 1) := by decide +kernel
theorem dL_isTold_938 : decode cL_isTold 938 = .ok (.invokestatic 131, 3) := by decide +kernel
theorem dL_isTold_941 : decode cL_isTold 941 = .ok (.bipush (-73), 2) := by decide +kernel
theorem dL_isTold_943 : decode cL_isTold 943 = .ok (.if_icmp .ne 104, 3) := by decide +kernel
theorem dL_isTold_946 : decode cL_isTold 946 = .ok (.aload_n 0, 1) := by decide +kernel
theorem dL_isTold_947 : decode cL_isTold 947 = .ok (.iconst (-1), 1) := by decide +kernel
theorem dL_isTold_948 : decode cL_isTold 948 = .ok (.invokestatic 131, 3) := by decide +kernel
theorem dL_isTold_951 : decode cL_isTold 951 = .ok (.bipush (-73), 2) := by decide +kernel
theorem dL_isTold_953 : decode cL_isTold 953 = .ok (.if_icmp .ne 94, 3) := by decide +kernel
theorem dL_isTold_956 : decode cL_isTold 956 = .ok (.aload_n 0, 1) := by decide +kernel
theorem dL_isTold_957 : decode cL_isTold 957 = .ok (.aload 9, 2) := by decide +kernel
theorem dL_isTold_959 : decode cL_isTold 959 = .ok (.iconst 4, 1) := by decide +kernel
theorem dL_isTold_960 : decode cL_isTold 960 = .ok (.iaload, 1) := by decide +kernel
theorem dL_isTold_961 : decode cL_isTold 961 = .ok (.invokestatic 142, 3) := by decide +kernel
theorem dL_isTold_964 : decode cL_isTold 964 = .ok (.bipush (-73), 2) := by decide +kernel
theorem dL_isTold_966 : decode cL_isTold 966 = .ok (.if_icmp .ne 81, 3) := by decide +kernel
theorem dL_isTold_969 : decode cL_isTold 969 = .ok (.aload_n 0, 1) := by decide +kernel
theorem dL_isTold_970 : decode cL_isTold 970 = .ok (.iconst (-1), 1) := by decide +kernel
theorem dL_isTold_971 : decode cL_isTold 971 = .ok (.invokestatic 144, 3) := by decide +kernel
theorem dL_isTold_974 : decode cL_isTold 974 = .ok (.bipush (-73), 2) := by decide +kernel
theorem dL_isTold_976 : decode cL_isTold 976 = .ok (.if_icmp .ne 71, 3) := by decide +kernel
theorem dL_isTold_979 : decode cL_isTold 979 = .ok (.aload_n 0, 1) := by decide +kernel
theorem dL_isTold_980 : decode cL_isTold 980 = .ok (.aload 9, 2) := by decide +kernel
theorem dL_isTold_982 : decode cL_isTold 982 = .ok (.iconst 4, 1) := by decide +kernel
theorem dL_isTold_983 : decode cL_isTold 983 = .ok (.iaload, 1) := by decide +kernel
theorem dL_isTold_984 : decode cL_isTold 984 = .ok (.iconst 0, 1) := by decide +kernel
theorem dL_isTold_985 : decode cL_isTold 985 = .ok (.invokestatic 146, 3) := by decide +kernel
theorem dL_isTold_988 : decode cL_isTold 988 = .ok (.bipush (-73), 2) := by decide +kernel
theorem dL_isTold_990 : decode cL_isTold 990 = .ok (.if_icmp .ne 57, 3) := by decide +kernel
theorem dL_isTold_993 : decode cL_isTold 993 = .ok (.aload_n 0, 1) := by decide +kernel
theorem dL_isTold_994 : decode cL_isTold 994 = .ok (.iconst 0, 1) := by decide +kernel
theorem dL_isTold_995 : decode cL_isTold 995 = .ok (.aload 9, 2) := by decide +kernel
theorem dL_isTold_997 : decode cL_isTold 997 = .ok (.iconst 5, 1) := by decide +kernel
theorem dL_isTold_998 : decode cL_isTold 998 = .ok (.iaload, 1) := by decide +kernel
theorem dL_isTold_999 : decode cL_isTold 999 = .ok (.iconst 0, 1) := by decide +kernel
theorem dL_isTold_1000 : decode cL_isTold 1000 = .ok (.iconst 0, 1) := by decide +kernel
theorem dL_isTold_1001 : decode cL_isTold 1001 = .ok (.invokestatic 157, 3) := by decide +kernel
theorem dL_isTold_1004 : decode cL_isTold 1004 = .ok (.bipush (-73), 2) := by decide +kernel
theorem dL_isTold_1006 : decode cL_isTold 1006 = .ok (.if_icmp .ne 41, 3) := by decide +kernel
theorem dL_isTold_1009 : decode cL_isTold 1009 = .ok (.aload_n 0, 1) := by decide +kernel
theorem dL_isTold_1010 : decode cL_isTold 1010 = .ok (.iconst 0, 1) := by decide +kernel
theorem dL_isTold_1011 : decode cL_isTold 1011 = .ok (.bipush 100, 2) := by decide +kernel
theorem dL_isTold_1013 : decode cL_isTold 1013 = .ok (.invokestatic 155, 3) := by decide +kernel
theorem dL_isTold_1016 : decode cL_isTold 1016 = .ok (.bipush (-71), 2) := by decide +kernel
theorem dL_isTold_1018 : decode cL_isTold 1018 = .ok (.if_icmp .ne 29, 3) := by decide +kernel
theorem dL_isTold_1021 : decode cL_isTold 1021 = .ok (.aload_n 0, 1) := by decide +kernel
theorem dL_isTold_1022 : decode cL_isTold 1022 = .ok (.iconst 4, 1) := by decide +kernel
theorem dL_isTold_1023 : decode cL_isTold 1023 = .ok (.iconst 0, 1) := by decide +kernel
theorem dL_isTold_1024 : decode cL_isTold 1024 = .ok (.invokestatic 155, 3) := by decide +kernel
theorem dL_isTold_1027 : decode cL_isTold 1027 = .ok (.bipush (-71), 2) := by decide +kernel
theorem dL_isTold_1029 : decode cL_isTold 1029 = .ok (.if_icmp .ne 18, 3) := by decide +kernel
theorem dL_isTold_1032 : decode cL_isTold 1032 = .ok (.aload_n 0, 1) := by decide +kernel
theorem dL_isTold_1033 : decode cL_isTold 1033 = .ok (.iconst 0, 1) := by decide +kernel
theorem dL_isTold_1034 : decode cL_isTold 1034 = .ok (.iconst (-1), 1) := by decide +kernel
theorem dL_isTold_1035 : decode cL_isTold 1035 = .ok (.invokestatic 155, 3) := by decide +kernel
theorem dL_isTold_1038 : decode cL_isTold 1038 = .ok (.bipush (-71), 2) := by decide +kernel
theorem dL_isTold_1040 : decode cL_isTold 1040 = .ok (.if_icmp .ne 7, 3) := by decide +kernel
theorem dL_isTold_1043 : decode cL_isTold 1043 = .ok (.iconst 1, 1) := by decide +kernel
theorem dL_isTold_1044 : decode cL_isTold 1044 = .ok (.goto 4, 3) := by decide +kernel
theorem dL_isTold_1047 : decode cL_isTold 1047 = .ok (.iconst 0, 1) := by decide +kernel
theorem dL_isTold_1048 : decode cL_isTold 1048 = .ok (.ireturn, 1) := by decide +kernel
theorem dL_law_0 : decode cL_law 0 = .ok (.new 9, 3) := by decide +kernel
theorem dL_law_3 : decode cL_law 3 = .ok (.dup, 1) := by decide +kernel
theorem dL_law_4 : decode cL_law 4 = .ok (.invokespecial 159, 3) := by decide +kernel
theorem dL_law_7 : decode cL_law 7 = .ok (.astore_n 1, 1) := by decide +kernel
theorem dL_law_8 : decode cL_law 8 = .ok (.iconst 1, 1) := by decide +kernel
theorem dL_law_9 : decode cL_law 9 = .ok (.newarray .long, 2) := by decide +kernel
theorem dL_law_11 : decode cL_law 11 = .ok (.astore_n 2, 1) := by decide +kernel
theorem dL_law_12 : decode cL_law 12 = .ok (.bipush 60, 2) := by decide +kernel
theorem dL_law_14 : decode cL_law 14 = .ok (.newarray .long, 2) := by decide +kernel
theorem dL_law_16 : decode cL_law 16 = .ok (.astore_n 3, 1) := by decide +kernel
theorem dL_law_17 : decode cL_law 17 = .ok (.bipush 60, 2) := by decide +kernel
theorem dL_law_19 : decode cL_law 19 = .ok (.newarray .int, 2) := by decide +kernel
theorem dL_law_21 : decode cL_law 21 = .ok (.astore 4, 2) := by decide +kernel
theorem dL_law_23 : decode cL_law 23 = .ok (.bipush 15, 2) := by decide +kernel
theorem dL_law_25 : decode cL_law 25 = .ok (.newarray .int, 2) := by decide +kernel
theorem dL_law_27 : decode cL_law 27 = .ok (.astore 5, 2) := by decide +kernel
theorem dL_law_29 : decode cL_law 29 = .ok (.bipush 10, 2) := by decide +kernel
theorem dL_law_31 : decode cL_law 31 = .ok (.newarray .int, 2) := by decide +kernel
theorem dL_law_33 : decode cL_law 33 = .ok (.astore 6, 2) := by decide +kernel
theorem dL_law_35 : decode cL_law 35 = .ok (.bipush 60, 2) := by decide +kernel
theorem dL_law_37 : decode cL_law 37 = .ok (.newarray .int, 2) := by decide +kernel
theorem dL_law_39 : decode cL_law 39 = .ok (.astore 7, 2) := by decide +kernel
theorem dL_law_41 : decode cL_law 41 = .ok (.bipush 60, 2) := by decide +kernel
theorem dL_law_43 : decode cL_law 43 = .ok (.newarray .int, 2) := by decide +kernel
theorem dL_law_45 : decode cL_law 45 = .ok (.astore 8, 2) := by decide +kernel
theorem dL_law_47 : decode cL_law 47 = .ok (.iconst 4, 1) := by decide +kernel
theorem dL_law_48 : decode cL_law 48 = .ok (.newarray .int, 2) := by decide +kernel
theorem dL_law_50 : decode cL_law 50 = .ok (.astore 9, 2) := by decide +kernel
theorem dL_law_52 : decode cL_law 52 = .ok (.iconst 4, 1) := by decide +kernel
theorem dL_law_53 : decode cL_law 53 = .ok (.newarray .int, 2) := by decide +kernel
theorem dL_law_55 : decode cL_law 55 = .ok (.astore 10, 2) := by decide +kernel
theorem dL_law_57 : decode cL_law 57 = .ok (.bipush 6, 2) := by decide +kernel
theorem dL_law_59 : decode cL_law 59 = .ok (.newarray .int, 2) := by decide +kernel
theorem dL_law_61 : decode cL_law 61 = .ok (.astore 11, 2) := by decide +kernel
theorem dL_law_63 : decode cL_law 63 = .ok (.bipush 6, 2) := by decide +kernel
theorem dL_law_65 : decode cL_law 65 = .ok (.newarray .int, 2) := by decide +kernel
theorem dL_law_67 : decode cL_law 67 = .ok (.astore 12, 2) := by decide +kernel
theorem dL_law_69 : decode cL_law 69 = .ok (.iconst 0, 1) := by decide +kernel
theorem dL_law_70 : decode cL_law 70 = .ok (.istore 13, 2) := by decide +kernel
theorem dL_law_72 : decode cL_law 72 = .ok (.iload 13, 2) := by decide +kernel
theorem dL_law_74 : decode cL_law 74 = .ok (.iconst 4, 1) := by decide +kernel
theorem dL_law_75 : decode cL_law 75 = .ok (.if_icmp .ge 24, 3) := by decide +kernel
theorem dL_law_78 : decode cL_law 78 = .ok (.aload 9, 2) := by decide +kernel
theorem dL_law_80 : decode cL_law 80 = .ok (.iload 13, 2) := by decide +kernel
theorem dL_law_82 : decode cL_law 82 = .ok (.sipush 12672, 3) := by decide +kernel
theorem dL_law_85 : decode cL_law 85 = .ok (.iastore, 1) := by decide +kernel
theorem dL_law_86 : decode cL_law 86 = .ok (.aload 10, 2) := by decide +kernel
theorem dL_law_88 : decode cL_law 88 = .ok (.iload 13, 2) := by decide +kernel
theorem dL_law_90 : decode cL_law 90 = .ok (.bipush 100, 2) := by decide +kernel
theorem dL_law_92 : decode cL_law 92 = .ok (.iastore, 1) := by decide +kernel
theorem dL_law_93 : decode cL_law 93 = .ok (.iinc 13 1, 3) := by decide +kernel
theorem dL_law_96 : decode cL_law 96 = .ok (.goto (-24), 3) := by decide +kernel
theorem dL_law_99 : decode cL_law 99 = .ok (.aload_n 1, 1) := by decide +kernel
theorem dL_law_100 : decode cL_law 100 = .ok (.iconst 0, 1) := by decide +kernel
theorem dL_law_101 : decode cL_law 101 = .ok (.iconst 0, 1) := by decide +kernel
theorem dL_law_102 : decode cL_law 102 = .ok (.aload_n 3, 1) := by decide +kernel
theorem dL_law_103 : decode cL_law 103 = .ok (.aload 4, 2) := by decide +kernel
theorem dL_law_105 : decode cL_law 105 = .ok (.aload 5, 2) := by decide +kernel
theorem dL_law_107 : decode cL_law 107 = .ok (.aload 7, 2) := by decide +kernel
theorem dL_law_109 : decode cL_law 109 = .ok (.aload 8, 2) := by decide +kernel
theorem dL_law_111 : decode cL_law 111 = .ok (.aload 9, 2) := by decide +kernel
theorem dL_law_113 : decode cL_law 113 = .ok (.aload 12, 2) := by decide +kernel
theorem dL_law_115 : decode cL_law 115 = .ok (.invokestatic 160, 3) := by decide +kernel
theorem dL_law_118 : decode cL_law 118 = .ok (.ifCond .ne 5, 3) := by decide +kernel
theorem dL_law_121 : decode cL_law 121 = .ok (.iconst 0, 1) := by decide +kernel
theorem dL_law_122 : decode cL_law 122 = .ok (.ireturn, 1) := by decide +kernel
theorem dL_law_123 : decode cL_law 123 = .ok (.iconst 0, 1) := by decide +kernel
theorem dL_law_124 : decode cL_law 124 = .ok (.istore 13, 2) := by decide +kernel
theorem dL_law_126 : decode cL_law 126 = .ok (.iload 13, 2) := by decide +kernel
theorem dL_law_128 : decode cL_law 128 = .ok (.sipush 130, 3) := by decide +kernel
theorem dL_law_131 : decode cL_law 131 = .ok (.if_icmp .ge 173, 3) := by decide +kernel
theorem dL_law_134 : decode cL_law 134 = .ok (.aload_n 0, 1) := by decide +kernel
theorem dL_law_135 : decode cL_law 135 = .ok (.iconst 3, 1) := by decide +kernel
theorem dL_law_136 : decode cL_law 136 = .ok (.iload 13, 2) := by decide +kernel
theorem dL_law_138 : decode cL_law 138 = .ok (.imul, 1) := by decide +kernel
theorem dL_law_139 : decode cL_law 139 = .ok (.invokestatic 164, 3) := by decide +kernel
theorem dL_law_142 : decode cL_law 142 = .ok (.istore 14, 2) := by decide +kernel
theorem dL_law_144 : decode cL_law 144 = .ok (.aload_n 0, 1) := by decide +kernel
theorem dL_law_145 : decode cL_law 145 = .ok (.iconst 3, 1) := by decide +kernel
theorem dL_law_146 : decode cL_law 146 = .ok (.iload 13, 2) := by decide +kernel
theorem dL_law_148 : decode cL_law 148 = .ok (.imul, 1) := by decide +kernel
theorem dL_law_149 : decode cL_law 149 = .ok (.iconst 1, 1) := by decide +kernel
theorem dL_law_150 : decode cL_law 150 = .ok (.iadd, 1) := by decide +kernel
theorem dL_law_151 : decode cL_law 151 = .ok (.invokestatic 164, 3) := by decide +kernel
theorem dL_law_154 : decode cL_law 154 = .ok (.istore 15, 2) := by decide +kernel
theorem dL_law_156 : decode cL_law 156 = .ok (.aload_n 0, 1) := by decide +kernel
theorem dL_law_157 : decode cL_law 157 = .ok (.iconst 3, 1) := by decide +kernel
theorem dL_law_158 : decode cL_law 158 = .ok (.iload 13, 2) := by decide +kernel
theorem dL_law_160 : decode cL_law 160 = .ok (.imul, 1) := by decide +kernel
theorem dL_law_161 : decode cL_law 161 = .ok (.iconst 2, 1) := by decide +kernel
theorem dL_law_162 : decode cL_law 162 = .ok (.iadd, 1) := by decide +kernel
theorem dL_law_163 : decode cL_law 163 = .ok (.invokestatic 164, 3) := by decide +kernel
theorem dL_law_166 : decode cL_law 166 = .ok (.istore 16, 2) := by decide +kernel
theorem dL_law_168 : decode cL_law 168 = .ok (.iload 14, 2) := by decide +kernel
theorem dL_law_170 : decode cL_law 170 = .ok (.bipush 24, 2) := by decide +kernel
theorem dL_law_172 : decode cL_law 172 = .ok (.invokestatic 90, 3) := by decide +kernel
theorem dL_law_175 : decode cL_law 175 = .ok (.istore 17, 2) := by decide +kernel
theorem dL_law_177 : decode cL_law 177 = .ok (.iload 17, 2) := by decide +kernel
theorem dL_law_179 : decode cL_law 179 = .ok (.bipush 16, 2) := by decide +kernel
theorem dL_law_181 : decode cL_law 181 = .ok (.if_icmp .ge 31, 3) := by decide +kernel
theorem dL_law_184 : decode cL_law 184 = .ok (.aload_n 1, 1) := by decide +kernel
theorem dL_law_185 : decode cL_law 185 = .ok (.iload 17, 2) := by decide +kernel
theorem dL_law_187 : decode cL_law 187 = .ok (.iload 15, 2) := by decide +kernel
theorem dL_law_189 : decode cL_law 189 = .ok (.aload_n 2, 1) := by decide +kernel
theorem dL_law_190 : decode cL_law 190 = .ok (.aload_n 3, 1) := by decide +kernel
theorem dL_law_191 : decode cL_law 191 = .ok (.aload 4, 2) := by decide +kernel
theorem dL_law_193 : decode cL_law 193 = .ok (.aload 5, 2) := by decide +kernel
theorem dL_law_195 : decode cL_law 195 = .ok (.aload 6, 2) := by decide +kernel
theorem dL_law_197 : decode cL_law 197 = .ok (.aload 7, 2) := by decide +kernel
theorem dL_law_199 : decode cL_law 199 = .ok (.aload 8, 2) := by decide +kernel
theorem dL_law_201 : decode cL_law 201 = .ok (.aload 12, 2) := by decide +kernel
theorem dL_law_203 : decode cL_law 203 = .ok (.invokestatic 167, 3) := by decide +kernel
theorem dL_law_206 : decode cL_law 206 = .ok (.ifCond .eq 90, 3) := by decide +kernel
theorem dL_law_209 : decode cL_law 209 = .ok (.goto 52, 3) := by decide +kernel
theorem dL_law_212 : decode cL_law 212 = .ok (.aload_n 1, 1) := by decide +kernel
theorem dL_law_213 : decode cL_law 213 = .ok (.iload 17, 2) := by decide +kernel
theorem dL_law_215 : decode cL_law 215 = .ok (.bipush 16, 2) := by decide +kernel
theorem dL_law_217 : decode cL_law 217 = .ok (.isub, 1) := by decide +kernel
theorem dL_law_218 : decode cL_law 218 = .ok (.bipush 7, 2) := by decide +kernel
theorem dL_law_220 : decode cL_law 220 = .ok (.if_icmp .ge 11, 3) := by decide +kernel
theorem dL_law_223 : decode cL_law 223 = .ok (.iload 17, 2) := by decide +kernel
theorem dL_law_225 : decode cL_law 225 = .ok (.bipush 16, 2) := by decide +kernel
theorem dL_law_227 : decode cL_law 227 = .ok (.isub, 1) := by decide +kernel
theorem dL_law_228 : decode cL_law 228 = .ok (.goto 5, 3) := by decide +kernel
theorem dL_law_231 : decode cL_law 231 = .ok (.bipush 6, 2) := by decide +kernel
theorem dL_law_233 : decode cL_law 233 = .ok (.iload 15, 2) := by decide +kernel
theorem dL_law_235 : decode cL_law 235 = .ok (.iload 16, 2) := by decide +kernel
theorem dL_law_237 : decode cL_law 237 = .ok (.aload 4, 2) := by decide +kernel
theorem dL_law_239 : decode cL_law 239 = .ok (.aload 5, 2) := by decide +kernel
theorem dL_law_241 : decode cL_law 241 = .ok (.aload 6, 2) := by decide +kernel
theorem dL_law_243 : decode cL_law 243 = .ok (.aload 7, 2) := by decide +kernel
theorem dL_law_245 : decode cL_law 245 = .ok (.aload 8, 2) := by decide +kernel
theorem dL_law_247 : decode cL_law 247 = .ok (.aload 9, 2) := by decide +kernel
theorem dL_law_249 : decode cL_law 249 = .ok (.aload 10, 2) := by decide +kernel
theorem dL_law_251 : decode cL_law 251 = .ok (.aload 11, 2) := by decide +kernel
theorem dL_law_253 : decode cL_law 253 = .ok (.aload 12, 2) := by decide +kernel
theorem dL_law_255 : decode cL_law 255 = .ok (.invokestatic 171, 3) := by decide +kernel
theorem dL_law_258 : decode cL_law 258 = .ok (.ifCond .eq 38, 3) := by decide +kernel
theorem dL_law_261 : decode cL_law 261 = .ok (.aload_n 1, 1) := by decide +kernel
theorem dL_law_262 : decode cL_law 262 = .ok (.iload 14, 2) := by decide +kernel
theorem dL_law_264 : decode cL_law 264 = .ok (.iconst 5, 1) := by decide +kernel
theorem dL_law_265 : decode cL_law 265 = .ok (.ishr, 1) := by decide +kernel
theorem dL_law_266 : decode cL_law 266 = .ok (.iload 15, 2) := by decide +kernel
theorem dL_law_268 : decode cL_law 268 = .ok (.ixor, 1) := by decide +kernel
theorem dL_law_269 : decode cL_law 269 = .ok (.iload 16, 2) := by decide +kernel
theorem dL_law_271 : decode cL_law 271 = .ok (.iload 14, 2) := by decide +kernel
theorem dL_law_273 : decode cL_law 273 = .ok (.bipush 7, 2) := by decide +kernel
theorem dL_law_275 : decode cL_law 275 = .ok (.ishr, 1) := by decide +kernel
theorem dL_law_276 : decode cL_law 276 = .ok (.ixor, 1) := by decide +kernel
theorem dL_law_277 : decode cL_law 277 = .ok (.aload_n 3, 1) := by decide +kernel
theorem dL_law_278 : decode cL_law 278 = .ok (.aload 4, 2) := by decide +kernel
theorem dL_law_280 : decode cL_law 280 = .ok (.aload 5, 2) := by decide +kernel
theorem dL_law_282 : decode cL_law 282 = .ok (.aload 7, 2) := by decide +kernel
theorem dL_law_284 : decode cL_law 284 = .ok (.aload 8, 2) := by decide +kernel
theorem dL_law_286 : decode cL_law 286 = .ok (.aload 9, 2) := by decide +kernel
theorem dL_law_288 : decode cL_law 288 = .ok (.aload 12, 2) := by decide +kernel
theorem dL_law_290 : decode cL_law 290 = .ok (.invokestatic 160, 3) := by decide +kernel
theorem dL_law_293 : decode cL_law 293 = .ok (.ifCond .ne 5, 3) := by decide +kernel
theorem dL_law_296 : decode cL_law 296 = .ok (.iconst 0, 1) := by decide +kernel
theorem dL_law_297 : decode cL_law 297 = .ok (.ireturn, 1) := by decide +kernel
theorem dL_law_298 : decode cL_law 298 = .ok (.iinc 13 1, 3) := by decide +kernel
theorem dL_law_301 : decode cL_law 301 = .ok (.goto (-175), 3) := by decide +kernel
theorem dL_law_304 : decode cL_law 304 = .ok (.iconst 1, 1) := by decide +kernel
theorem dL_law_305 : decode cL_law 305 = .ok (.ireturn, 1) := by decide +kernel
end
section
/-! A world as a function (address to cell), and one judgement 'Go' over it: all that a method's walk needs is inside. -/
-- ===== the words that every state of the run keeps =====
def okW : Cond → Bool
  | .fieldLinkNest .. => true
  | .methodLinkNest .. => true
  | .castable .. => true
  | .declares .. => true
  | w => goodWord w
theorem okW_at {args a' : Array Value} {s U : State} (hW : s.WarmedH U.vm) {w : Cond} (hg : okW w = true) (h : w.before args s = true) : w.before a' U = true := by
  cases w with
  | fieldLinkNest a i b n d x => exact va_Nw.use rfl (va_Nw.warmF hW (va_Nw.of rfl h))
  | methodLinkNest a i x y => exact va_Nw.use rfl (va_Nw.warmM hW (va_Nw.of rfl h))
  | castable a b => exact va_Nw.use rfl (va_Nw.warmC hW (va_Nw.of rfl h))
  | declares x => exact va_Nw.use rfl (va_Nw.warmD hW (va_Nw.of rfl h))
  | _ => exact word_at hW (good_of_word hg) h
def tw : List Cond := lw_tbl.filter okW
theorem tw_in {w : Cond} (k : Nat) (h : tables_1[k]? = some w) (h2 : okW w = true) : w ∈ tw := List.mem_filter.mpr ⟨List.mem_append_right _ (List.mem_of_getElem? h), h2⟩
theorem tw_sel {w : Cond} (k : Nat) (h : (k2_sels lw_privs)[k]? = some w) (h2 : okW w = true) : w ∈ tw := List.mem_filter.mpr ⟨List.mem_append_left _ (List.mem_of_getElem? h), h2⟩
theorem tw_of {w : Cond} (h : w ∈ lw_tbl) (h2 : okW w = true) : w ∈ tw := List.mem_filter.mpr ⟨h, h2⟩
-- ===== worlds =====
abbrev Wd : Type := Nat → Option va_E
def up (w : Wd) (a : Nat) (e : va_E) : Wd := fun q => if q = a then some e else w q
theorem up_s (w : Wd) (a : Nat) (e : va_E) : up w a e a = some e := if_pos rfl
theorem up_n {w : Wd} {a b : Nat} {e : va_E} (h : b ≠ a) : up w a e b = w b := if_neg h
/-- what is fixed in one run: launch, classes and slots, the classes of int[], boolean[], long[], Object[], the heap at the law's start, the empty array, Object[]'s class object -/
abbrev Gx : Type := Launch × va_G × (ClassId × ClassId × ClassId × ClassId) × Heap × Nat × Nat
def gD (G : Gx) : va_G := G.2.1
def gI (G : Gx) : ClassId := G.2.2.1.1
def gZ (G : Gx) : ClassId := G.2.2.1.2.1
def gJ (G : Gx) : ClassId := G.2.2.1.2.2.1
def gO (G : Gx) : ClassId := G.2.2.1.2.2.2
def gH (G : Gx) : Heap := G.2.2.2.1
def gE (G : Gx) : Nat := G.2.2.2.2.1
def gM (G : Gx) : Nat := G.2.2.2.2.2
def gty (G : Gx) : List (ClassId × FieldType) := [(gI G, .int), (gZ G, .boolean), (gJ G, .long), (gO G, .object "java/lang/Object")]
def gA (G : Gx) : Nat → Prop := fun q => (gH G).size ≤ q
abbrev eO (ci : Nat) (fs : List Value) : va_E := .inr (ci, fs)
abbrev eI (G : Gx) (n : Nat) (f : Nat → Int32) : va_E := .inl (gI G, n, .inl f)
abbrev eZ (G : Gx) (n : Nat) (f : Nat → Int32) : va_E := .inl (gZ G, n, .inl f)
abbrev eJ (G : Gx) (n : Nat) (f : Nat → Int64) : va_E := .inl (gJ G, n, .inr (.inl f))
abbrev eQ (G : Gx) (n : Nat) (f : Nat → Option Nat) : va_E := .inl (gO G, n, .inr (.inr (.inr (.inr f))))
/-- an array that was there before the run: its class, its contents, an ordinary cell -/
def olA (cA : ClassId) (y : vp_A) (a : Nat) (H : Heap) : Prop := ∃ cell : Cell, H[a]? = some cell ∧ cell.cls = cA ∧ cell.slots = (vp_cell cA y).slots ∧ cell.vm.isStatics = false ∧ cell.vm ≠ .unknown
def loE (G : Gx) (a : Nat) (e : va_E) (H : Heap) : Prop := va_at (gD G) vwCl (a, e) H ∨ (a < (gH G).size ∧ ∃ (cA : ClassId) (y : vp_A), e = .inl (cA, y) ∧ olA cA y a H)
theorem loE.kept {G : Gx} {a : Nat} {e : va_E} {H H1 : Heap} (h : loE G a e H) (hq : H1[a]? = H[a]?) : loE G a e H1 := by
  rcases h with h | ⟨h1, cA, y, h2, cell, h3, h4⟩
  · exact Or.inl (h.kept hq)
  · exact Or.inr ⟨h1, cA, y, h2, cell, hq.trans h3, h4⟩
theorem loE.lt {G : Gx} {a : Nat} {e : va_E} {H : Heap} (h : loE G a e H) : a < H.size := by
  rcases h with h | ⟨h1, cA, y, h2, cell, h3, h4⟩
  · exact h.lt
  · exact (Array.getElem?_eq_some_iff.mp h3).1
def Rel (G : Gx) (w : Wd) (H : Heap) : Prop := ∀ a e, w a = some e → loE G a e H
theorem Rel.o {G : Gx} {w : Wd} {H : Heap} {a : Nat} {o : Nat × List Value} (h : Rel G w H) (hw : w a = some (.inr o)) : va_at (gD G) vwCl (a, .inr o) H := by
  rcases h _ _ hw with h | ⟨_, cA, y, h2, _⟩
  · exact h
  · cases h2
theorem Rel.s {G : Gx} {w : Wd} {H : Heap} {a : Nat} {e : va_E} (h : Rel G w H) (hw : w a = some e) (ha : (gH G).size ≤ a) : va_at (gD G) vwCl (a, e) H := by
  rcases h _ _ hw with h | ⟨h1, _⟩
  · exact h
  · exact absurd h1 (Nat.not_lt.mpr ha)
theorem Rel.c {G : Gx} {w : Wd} {H : Heap} {a : Nat} {cA : ClassId} {y : vp_A} (h : Rel G w H) (hw : w a = some (.inl (cA, y))) : olA cA y a H := by
  rcases h _ _ hw with h | ⟨_, cA', y', h2, h3⟩
  · obtain ⟨n, f | f | f | f | f⟩ := y
    · exact ⟨_, h, rfl, rfl, rfl, fun q => by cases q⟩
    · exact ⟨_, h, rfl, rfl, rfl, fun q => by cases q⟩
    · exact ⟨_, h, rfl, rfl, rfl, fun q => by cases q⟩
    · exact ⟨_, h, rfl, rfl, rfl, fun q => by cases q⟩
    · exact ⟨_, h, rfl, rfl, rfl, fun q => by cases q⟩
  · cases h2
    exact h3
theorem ol_arr {s : State} {cell : Cell} {cA : ClassId} {n : Nat} {f : Nat → Value} {ty : FieldType} (h : s.isArrayOf (arrV cA n f) ty) (hc : cell.cls = cA) (hs : cell.vm.isStatics = false) : s.isArrayOf cell ty :=
  ⟨fun k e => (by rw [e] at hs; cases hs), by rw [hc]; exact h.2⟩
theorem Rel.put {G : Gx} {w : Wd} {a : Nat} {e : va_E} {H H1 : Heap} (h : Rel G w H) (he : va_at (gD G) vwCl (a, e) H1) (oq : ∀ q : Nat, q ≠ a → H1[q]? = H[q]?) : Rel G (up w a e) H1 := by
  intro b e' hb
  by_cases hq : b = a
  · subst hq
    rw [up_s] at hb
    cases hb
    exact Or.inl he
  · rw [up_n hq] at hb
    exact (h b e' hb).kept (oq b hq)
theorem Rel.fresh {G : Gx} {w : Wd} {H : Heap} (h : Rel G w H) : w H.size = none := by
  cases hw : w H.size with
  | none => rfl
  | some e => exact absurd (h _ e hw).lt (Nat.lt_irrefl _)
theorem Rel.push {G : Gx} {w : Wd} {e : va_E} {H H1 : Heap} (h : Rel G w H) (he : va_at (gD G) vwCl (H.size, e) H1) (o1 : ∀ q : Nat, q < H.size → H1[q]? = H[q]?) : Rel G (up w H.size e) H1 := by
  intro b e' hb
  by_cases hq : b = H.size
  · subst hq
    rw [up_s] at hb
    cases hb
    exact Or.inl he
  · rw [up_n hq] at hb
    exact (h b e' hb).kept (o1 b (h b e' hb).lt)
theorem Rel.kept {G : Gx} {w : Wd} {H H1 : Heap} (h : Rel G w H) (o1 : ∀ q : Nat, q < H.size → H1[q]? = H[q]?) : Rel G w H1 := fun b e' hb => (h b e' hb).kept (o1 b (h b e' hb).lt)
-- ===== what every state of the run knows =====
def nc_all : List (String × String) := [("java/lang/IllegalStateException", "java/lang/IllegalArgumentException"), ("java/lang/IllegalArgumentException", "java/lang/IndexOutOfBoundsException"), ("java/lang/IndexOutOfBoundsException", "java/lang/IllegalArgumentException"), ("java/util/NoSuchElementException", "java/lang/IllegalArgumentException"), ("java/util/NoSuchElementException", "java/lang/IndexOutOfBoundsException")]
def GK (G : Gx) (U : State) : Prop :=
  (∀ w ∈ tw, ∀ a : Array Value, w.before a U = true) ∧ va_K (gD G) vwCl (gty G) U ∧
  (∀ (own tx : String) (k : Nat), Cond.stringRef own k tx ∈ tables_1 → ∃ sa : Nat, vk_R own k tx sa U) ∧
  (∀ q ∈ nc_all, va_Nc q.1 q.2 U) ∧
  vx_Zq Bundle.tN "UNASSIGNED_STACK" Bundle.steD (gA G) U (gH G) ∧ vx_Zq Bundle.tN "SUPPRESSED_SENTINEL" Bundle.listD (gA G) U (gH G) ∧
  va_Z "java/util/ArrayList" "DEFAULTCAPACITY_EMPTY_ELEMENTDATA" "[Ljava/lang/Object;" (.ref (gE G)) (gA G) U (gH G) ∧
  va_Mi "[Ljava/lang/Object;" (gM G) U ∧ va_AO "java/lang/Object" U ∧ va_Nw (.sameField "java/util/ArrayList" "java/util/AbstractList" "modCount" "I") U ∧ G.1.stackTraces = false
def BaseOk (G : Gx) (H : Heap) : Prop := (gH G).size ≤ H.size ∧ ∀ q : Nat, q < (gH G).size → H[q]? = (gH G)[q]?
theorem zz_fr : True := trivial
end
section
/-! The judgement Go, and a row an instruction. -/
theorem GK.warm {G : Gx} {s U : State} (hW : s.WarmedH U.vm) (h : GK G s) : GK G U := by
  obtain ⟨h1, h2, h3, h4, h5, h6, h7, h8, h9, h10, h11⟩ := h
  exact ⟨fun w hw a => okW_at hW (List.mem_filter.mp hw).2 (h1 w hw #[]), va_K.moved hW.alike h2, fun own tx k hk => (h3 own tx k hk).elim fun sa hs => ⟨sa, hs.warm hW⟩,
    fun q hq => (h4 q hq).moved hW.alike, h5.moved hW.alike, h6.moved hW.alike, h7.moved hW.alike, h8.moved hW.alike, h9.moved hW.alike, va_Nw.of rfl (word_at (args := #[]) (a' := #[]) hW (good_of_word rfl) h10), h11⟩
theorem GK.w {G : Gx} {s : State} (h : GK G s) {w : Cond} (hw : w ∈ tw) {a : Array Value} : w.before a s = true := h.1 w hw a
abbrev Cx : Type := Program × Env × State × MethodId × Array Value × List Frame × Method × Code
abbrev Yx : Type := Option FieldType × String × List (Nat × Nat × Nat × Nat)
def Okk (G : Gx) (cc : ByteArray) (own : String) (Y : Yx) (p : Program) (s : State) (m : MethodId) (meth : Method) (cd : Code) : Prop :=
  p.tables.exec = Jvm.exec ∧ cd.code = cc ∧ s.vm.findClass own = some m.cls ∧ GK G s ∧ BaseOk G s.heap ∧ meth.sig.returnType = Y.1 ∧ meth.name = Y.2.1 ∧ cd.exceptionTable.toList = tableOf Y.2.2 ∧ meth.locks = false
/-- a local's value is told of a place; of a long only where the next place is told to be empty -/
def LV (cd : Code) (ls : Array Slot) (L : List (Option Value)) : Prop :=
  ls.size = cd.maxLocals ∧ lv_wf ls ∧ L.length ≤ ls.size ∧ ∀ (i : Nat) (v : Value), L[i]? = some (some v) → (v.category = 1 ∨ L[i + 1]? = some none) → ls[i]? = some (.val v)
def Go (G : Gx) (R : Room) (cc : ByteArray) (own : String) (Y : Yx) : Cx → (State → Prop) → Nat → List (Option Value) → List Value → Wd → Nat → Nat → Prop
  | (p, e, s, m, args, below, meth, cd), Q, pc, L, st, w, c, k => Okk G cc own Y p s m meth cd → ∀ (H : Heap) (ls : Array Slot) (locs : List Loc), Rel G w H → va_S (gA G) s.heap H locs → LV cd ls L →
      W p G.1 e R s m args below meth cd H locs c k Q (F0 m pc ls st)
def lvV (L : List (Option Value)) (i : Nat) (v : Value) : Bool := v.category == 1 || (match L[i + 1]? with | some none => true | _ => false)
theorem lvV_of {L : List (Option Value)} {i : Nat} {v : Value} (h : v.category = 1 ∨ L[i + 1]? = some none) : lvV L i v = true := by
  unfold lvV
  rcases h with h | h
  · rw [h]; rfl
  · rw [h]; exact Bool.or_true _
theorem lvV_to {L : List (Option Value)} {i : Nat} {v : Value} (h : lvV L i v = true) : v.category = 1 ∨ L[i + 1]? = some none := by
  unfold lvV at h
  rcases (Bool.or_eq_true _ _).mp h with h | h
  · exact Or.inl (by simpa using h)
  · right
    cases hL : L[i + 1]? with
    | none => rw [hL] at h; cases h
    | some x =>
      rw [hL] at h
      cases x with
      | none => rfl
      | some _ => cases h
def lvL (L : List (Option Value)) : List (Nat × Value) := (List.range L.length).filterMap (fun i => (L[i]?.getD none).bind (fun v => if lvV L i v = true then some (i, v) else none))
theorem lvL_mem {L : List (Option Value)} {i : Nat} {v : Value} (h : L[i]? = some (some v)) (hc : v.category = 1 ∨ L[i + 1]? = some none) : (i, v) ∈ lvL L := by
  unfold lvL
  refine List.mem_filterMap.mpr ⟨i, List.mem_range.mpr (List.getElem?_eq_some_iff.mp h).1, ?_⟩
  rw [h]
  exact if_pos (lvV_of hc)
theorem lvL_mem' {L : List (Option Value)} {q : Nat × Value} (h : q ∈ lvL L) : L[q.1]? = some (some q.2) ∧ (q.2.category = 1 ∨ L[q.1 + 1]? = some none) := by
  unfold lvL at h
  obtain ⟨i, -, hi⟩ := List.mem_filterMap.mp h
  cases hL : L[i]? with
  | none => rw [hL] at hi; cases hi
  | some x =>
    rw [hL] at hi
    cases x with
    | none => cases hi
    | some v =>
      have hi : (if lvV L i v = true then some (i, v) else none) = some q := hi
      by_cases hv : lvV L i v = true
      · rw [if_pos hv] at hi
        cases hi
        exact ⟨hL, lvV_to hv⟩
      · rw [if_neg hv] at hi
        cases hi
theorem LV.has {cd : Code} {ls : Array Slot} {L : List (Option Value)} (h : LV cd ls L) : lv_has ls ls.size (lvL L) := ⟨rfl, h.2.1, fun q hq => h.2.2.2 q.1 q.2 (lvL_mem' hq).1 (lvL_mem' hq).2⟩
theorem LV.at {cd : Code} {ls : Array Slot} {L : List (Option Value)} (h : LV cd ls L) {i : Nat} {v : Value} (hi : L[i]? = some (some v)) (hc : v.category = 1) : ls[i]? = some (.val v) := h.2.2.2 i v hi (Or.inl hc)
theorem LV.atL {cd : Code} {ls : Array Slot} {L : List (Option Value)} (h : LV cd ls L) {i : Nat} {v : Value} (hi : L[i]? = some (some v)) (hc : L[i + 1]? = some none) : ls[i]? = some (.val v) := h.2.2.2 i v hi (Or.inr hc)
theorem LV.set {cd : Code} {ls ls' : Array Slot} {L : List (Option Value)} (h : LV cd ls L) {i : Nat} {v : Value} (hc : v.category = 1)
    (h' : lv_has ls' ls.size ((i, v) :: (lvL L).filter (fun q => !(q.1 == i) && !(q.1 + 1 == i && q.2.category == 2)))) : LV cd ls' (L.set i (some v)) := by
  obtain ⟨h1, h2, h3, h4⟩ := h
  obtain ⟨g1, g2, g3⟩ := h'
  refine ⟨g1.trans h1, g2, by rw [List.length_set]; omega, fun j u hj hu => ?_⟩
  by_cases hji : j = i
  · subst hji
    have hlt : j < L.length := by
      have := (List.getElem?_eq_some_iff.mp hj).1
      rwa [List.length_set] at this
    rw [List.getElem?_set_self hlt] at hj
    cases hj
    exact g3 (j, v) List.mem_cons_self
  · rw [List.getElem?_set_ne (Ne.symm hji)] at hj
    have hu2 : u.category = 1 ∨ (j + 1 ≠ i ∧ L[j + 1]? = some none) := by
      rcases hu with hu | hu
      · exact Or.inl hu
      · right
        by_cases z : j + 1 = i
        · subst z
          have hlt : j + 1 < L.length := by
            have := (List.getElem?_eq_some_iff.mp hu).1
            rwa [List.length_set] at this
          rw [List.getElem?_set_self hlt] at hu
          cases hu
        · rw [List.getElem?_set_ne (Ne.symm z)] at hu
          exact ⟨z, hu⟩
    refine g3 (j, u) (List.mem_cons_of_mem _ (List.mem_filter.mpr ⟨lvL_mem hj (hu2.imp id And.right), ?_⟩))
    have e1 : (j == i) = false := by simpa using hji
    rcases hu2 with hu2 | hu2
    · have e2 : (u.category == 2) = false := by rw [hu2]; rfl
      simp [e1, e2]
    · have e2 : (j + 1 == i) = false := by simpa using hu2.1
      simp [e1, e2]
/-- a long is stored -/
theorem LV.setL {cd : Code} {ls ls' : Array Slot} {L : List (Option Value)} (h : LV cd ls L) {i : Nat} {v : Value}
    (h' : lv_has ls' ls.size ((i, v) :: (lvL L).filter (fun q => !(q.1 == i) && (!(q.1 == i + 1) && !(q.1 + 1 == i && q.2.category == 2))))) : LV cd ls' ((L.set i (some v)).set (i + 1) none) := by
  obtain ⟨h1, h2, h3, h4⟩ := h
  obtain ⟨g1, g2, g3⟩ := h'
  refine ⟨g1.trans h1, g2, by rw [List.length_set, List.length_set]; omega, fun j u hj hu => ?_⟩
  by_cases hji1 : j = i + 1
  · subst hji1
    have hlt : i + 1 < (L.set i (some v)).length := by
      have := (List.getElem?_eq_some_iff.mp hj).1
      rwa [List.length_set] at this
    rw [List.getElem?_set_self hlt] at hj
    cases hj
  rw [List.getElem?_set_ne (Ne.symm hji1)] at hj
  by_cases hji : j = i
  · subst hji
    have hlt : j < L.length := by
      have := (List.getElem?_eq_some_iff.mp hj).1
      rwa [List.length_set] at this
    rw [List.getElem?_set_self hlt] at hj
    cases hj
    exact g3 (j, v) List.mem_cons_self
  · rw [List.getElem?_set_ne (Ne.symm hji)] at hj
    have hu2 : u.category = 1 ∨ (j + 1 ≠ i ∧ L[j + 1]? = some none) := by
      rcases hu with hu | hu
      · exact Or.inl hu
      · right
        rw [List.getElem?_set_ne (by omega)] at hu
        by_cases z : j + 1 = i
        · subst z
          have hlt : j + 1 < L.length := by
            have := (List.getElem?_eq_some_iff.mp hu).1
            rwa [List.length_set] at this
          rw [List.getElem?_set_self hlt] at hu
          cases hu
        · rw [List.getElem?_set_ne (Ne.symm z)] at hu
          exact ⟨z, hu⟩
    refine g3 (j, u) (List.mem_cons_of_mem _ (List.mem_filter.mpr ⟨lvL_mem hj (hu2.imp id And.right), ?_⟩))
    have e1 : (j == i) = false := by simpa using hji
    have e3 : (j == i + 1) = false := by simpa using hji1
    rcases hu2 with hu2 | hu2
    · have e2 : (u.category == 2) = false := by rw [hu2]; rfl
      simp [e1, e2, e3]
    · have e2 : (j + 1 == i) = false := by simpa using hu2.1
      simp [e1, e2, e3]
section GoRows
variable {G : Gx} {R : Room} {cc : ByteArray} {own : String} {Y : Yx} {C : Cx} {Q : State → Prop} {pc : Nat} {L : List (Option Value)} {st : List Value} {w : Wd} {c k : Nat}
theorem Go.widen {c' k' : Nat} (hc : c ≤ c') (hk : k ≤ k') (h : Go G R cc own Y C Q pc L st w c' k') : Go G R cc own Y C Q pc L st w c k := by
  obtain ⟨p, e, s, m, args, below, meth, cd⟩ := C
  intro O H ls locs hR hS hL
  exact W.widen hc hk (h O H ls locs hR hS hL)
theorem Go.atpc {pc' : Nat} (hp : pc = pc') (h : Go G R cc own Y C Q pc' L st w c k) : Go G R cc own Y C Q pc L st w c k := hp ▸ h

theorem g_iconst {n : Int} {v : Int32} (d : decode cc pc = .ok (.iconst n, 1)) (hv : Int32.ofInt n = v) (h : Go G R cc own Y C Q (pc + 1) L (.int v :: st) w c k) : Go G R cc own Y C Q pc L (st) w c k := by
  obtain ⟨p, e, s, m, args, below, meth, cd⟩ := C
  intro O H ls locs hR hS hL
  exact lv_iconst O.1 O.2.1 d hv (h O H ls locs hR hS hL)
theorem g_bipush {n : Int} {v : Int32} (d : decode cc pc = .ok (.bipush n, 2)) (hv : (Int8.ofInt n).toInt32 = v) (h : Go G R cc own Y C Q (pc + 2) L (.int v :: st) w c k) : Go G R cc own Y C Q pc L (st) w c k := by
  obtain ⟨p, e, s, m, args, below, meth, cd⟩ := C
  intro O H ls locs hR hS hL
  exact lv_bipush O.1 O.2.1 d hv (h O H ls locs hR hS hL)
theorem g_sipush {n : Int} {v : Int32} (d : decode cc pc = .ok (.sipush n, 3)) (hv : (Int16.ofInt n).toInt32 = v) (h : Go G R cc own Y C Q (pc + 3) L (.int v :: st) w c k) : Go G R cc own Y C Q pc L (st) w c k := by
  obtain ⟨p, e, s, m, args, below, meth, cd⟩ := C
  intro O H ls locs hR hS hL
  exact lv_sipush O.1 O.2.1 d hv (h O H ls locs hR hS hL)
theorem g_lconst {n : Fin 2} {v : Int64} (d : decode cc pc = .ok (.lconst n, 1)) (hv : Int64.ofNat (n : Nat) = v) (h : Go G R cc own Y C Q (pc + 1) L (.long v :: st) w c k) : Go G R cc own Y C Q pc L (st) w c k := by
  obtain ⟨p, e, s, m, args, below, meth, cd⟩ := C
  intro O H ls locs hR hS hL
  exact lv_lconst O.1 O.2.1 d hv (h O H ls locs hR hS hL)
theorem g_anull  (d : decode cc pc = .ok (.aconst_null, 1)) (h : Go G R cc own Y C Q (pc + 1) L (.null :: st) w c k) : Go G R cc own Y C Q pc L (st) w c k := by
  obtain ⟨p, e, s, m, args, below, meth, cd⟩ := C
  intro O H ls locs hR hS hL
  exact lv_null O.1 O.2.1 d (h O H ls locs hR hS hL)
theorem g_iadd {x y : Int32} (d : decode cc pc = .ok (.iadd, 1)) (h : Go G R cc own Y C Q (pc + 1) L (.int (x + y) :: st) w c k) : Go G R cc own Y C Q pc L (.int y :: .int x :: st) w c k := by
  obtain ⟨p, e, s, m, args, below, meth, cd⟩ := C
  intro O H ls locs hR hS hL
  exact lv_iadd O.1 O.2.1 d (h O H ls locs hR hS hL)
theorem g_isub {x y : Int32} (d : decode cc pc = .ok (.isub, 1)) (h : Go G R cc own Y C Q (pc + 1) L (.int (x - y) :: st) w c k) : Go G R cc own Y C Q pc L (.int y :: .int x :: st) w c k := by
  obtain ⟨p, e, s, m, args, below, meth, cd⟩ := C
  intro O H ls locs hR hS hL
  exact lv_isub O.1 O.2.1 d (h O H ls locs hR hS hL)
theorem g_imul {x y : Int32} (d : decode cc pc = .ok (.imul, 1)) (h : Go G R cc own Y C Q (pc + 1) L (.int (x * y) :: st) w c k) : Go G R cc own Y C Q pc L (.int y :: .int x :: st) w c k := by
  obtain ⟨p, e, s, m, args, below, meth, cd⟩ := C
  intro O H ls locs hR hS hL
  exact lv_imul O.1 O.2.1 d (h O H ls locs hR hS hL)
theorem g_iand {x y : Int32} (d : decode cc pc = .ok (.iand, 1)) (h : Go G R cc own Y C Q (pc + 1) L (.int (x &&& y) :: st) w c k) : Go G R cc own Y C Q pc L (.int y :: .int x :: st) w c k := by
  obtain ⟨p, e, s, m, args, below, meth, cd⟩ := C
  intro O H ls locs hR hS hL
  exact lv_iand O.1 O.2.1 d (h O H ls locs hR hS hL)
theorem g_ishr {x y : Int32} (d : decode cc pc = .ok (.ishr, 1)) (h : Go G R cc own Y C Q (pc + 1) L (.int (x >>> (y &&& 31)) :: st) w c k) : Go G R cc own Y C Q pc L (.int y :: .int x :: st) w c k := by
  obtain ⟨p, e, s, m, args, below, meth, cd⟩ := C
  intro O H ls locs hR hS hL
  exact lv_ishr O.1 O.2.1 d (h O H ls locs hR hS hL)
theorem g_iushr {x y : Int32} (d : decode cc pc = .ok (.iushr, 1)) (h : Go G R cc own Y C Q (pc + 1) L (.int (x.toUInt32 >>> (y.toUInt32 &&& Int32.toUInt32 31)).toInt32 :: st) w c k) : Go G R cc own Y C Q pc L (.int y :: .int x :: st) w c k := by
  obtain ⟨p, e, s, m, args, below, meth, cd⟩ := C
  intro O H ls locs hR hS hL
  exact lv_iushr O.1 O.2.1 d rfl (h O H ls locs hR hS hL)
theorem g_ineg {x : Int32} (d : decode cc pc = .ok (.ineg, 1)) (h : Go G R cc own Y C Q (pc + 1) L (.int (-x) :: st) w c k) : Go G R cc own Y C Q pc L (.int x :: st) w c k := by
  obtain ⟨p, e, s, m, args, below, meth, cd⟩ := C
  intro O H ls locs hR hS hL
  exact lv_ineg O.1 O.2.1 d (h O H ls locs hR hS hL)
theorem g_land {x y : Int64} (d : decode cc pc = .ok (.land, 1)) (h : Go G R cc own Y C Q (pc + 1) L (.long (x &&& y) :: st) w c k) : Go G R cc own Y C Q pc L (.long y :: .long x :: st) w c k := by
  obtain ⟨p, e, s, m, args, below, meth, cd⟩ := C
  intro O H ls locs hR hS hL
  exact lv_land O.1 O.2.1 d (h O H ls locs hR hS hL)
theorem g_ladd {x y : Int64} (d : decode cc pc = .ok (.ladd, 1)) (h : Go G R cc own Y C Q (pc + 1) L (.long (x + y) :: st) w c k) : Go G R cc own Y C Q pc L (.long y :: .long x :: st) w c k := by
  obtain ⟨p, e, s, m, args, below, meth, cd⟩ := C
  intro O H ls locs hR hS hL
  exact lv_ladd O.1 O.2.1 d (h O H ls locs hR hS hL)
theorem g_lshr {x : Int64} {y : Int32} (d : decode cc pc = .ok (.lshr, 1)) (h : Go G R cc own Y C Q (pc + 1) L (.long (x >>> (y.toInt64 &&& 63)) :: st) w c k) : Go G R cc own Y C Q pc L (.int y :: .long x :: st) w c k := by
  obtain ⟨p, e, s, m, args, below, meth, cd⟩ := C
  intro O H ls locs hR hS hL
  exact lv_lshr O.1 O.2.1 d rfl (h O H ls locs hR hS hL)
theorem g_lshl {x : Int64} {y : Int32} (d : decode cc pc = .ok (.lshl, 1)) (h : Go G R cc own Y C Q (pc + 1) L (.long (x <<< (y.toInt64 &&& 63)) :: st) w c k) : Go G R cc own Y C Q pc L (.int y :: .long x :: st) w c k := by
  obtain ⟨p, e, s, m, args, below, meth, cd⟩ := C
  intro O H ls locs hR hS hL
  exact lv_lshl O.1 O.2.1 d rfl (h O H ls locs hR hS hL)
theorem g_l2i {x : Int64} (d : decode cc pc = .ok (.l2i, 1)) (h : Go G R cc own Y C Q (pc + 1) L (.int x.toInt32 :: st) w c k) : Go G R cc own Y C Q pc L (.long x :: st) w c k := by
  obtain ⟨p, e, s, m, args, below, meth, cd⟩ := C
  intro O H ls locs hR hS hL
  exact lv_l2i O.1 O.2.1 d rfl (h O H ls locs hR hS hL)
theorem g_irem {x y : Int32} (d : decode cc pc = .ok (.irem, 1)) (hne : ¬ y = 0) (h : Go G R cc own Y C Q (pc + 1) L (.int (x - x / y * y) :: st) w c k) : Go G R cc own Y C Q pc L (.int y :: .int x :: st) w c k := by
  obtain ⟨p, e, s, m, args, below, meth, cd⟩ := C
  intro O H ls locs hR hS hL
  exact lv_irem O.1 O.2.1 d hne (h O H ls locs hR hS hL)
theorem g_i2l {x : Int32} (d : decode cc pc = .ok (.i2l, 1)) (h : Go G R cc own Y C Q (pc + 1) L (.long x.toInt64 :: st) w c k) : Go G R cc own Y C Q pc L (.int x :: st) w c k := by
  obtain ⟨p, e, s, m, args, below, meth, cd⟩ := C
  intro O H ls locs hR hS hL
  exact lv_i2l O.1 O.2.1 d rfl (h O H ls locs hR hS hL)
theorem g_dup {v : Value} (d : decode cc pc = .ok (.dup, 1)) (hv : v.category = 1) (h : Go G R cc own Y C Q (pc + 1) L (v :: v :: st) w c k) : Go G R cc own Y C Q pc L (v :: st) w c k := by
  obtain ⟨p, e, s, m, args, below, meth, cd⟩ := C
  intro O H ls locs hR hS hL
  exact lv_dup O.1 O.2.1 d hv (h O H ls locs hR hS hL)
theorem g_pop {v : Value} (d : decode cc pc = .ok (.pop, 1)) (hv : v.category = 1) (h : Go G R cc own Y C Q (pc + 1) L (st) w c k) : Go G R cc own Y C Q pc L (v :: st) w c k := by
  obtain ⟨p, e, s, m, args, below, meth, cd⟩ := C
  intro O H ls locs hR hS hL
  exact lv_pop O.1 O.2.1 d hv (h O H ls locs hR hS hL)
theorem g_dup_x1 {v u : Value} (d : decode cc pc = .ok (.dup_x1, 1)) (hv : v.category = 1) (hu : u.category = 1) (h : Go G R cc own Y C Q (pc + 1) L (v :: u :: v :: st) w c k) : Go G R cc own Y C Q pc L (v :: u :: st) w c k := by
  obtain ⟨p, e, s, m, args, below, meth, cd⟩ := C
  intro O H ls locs hR hS hL
  exact lv_dup_x1 O.1 O.2.1 d hv hu (h O H ls locs hR hS hL)
theorem g_dup2 {v u : Value} (d : decode cc pc = .ok (.dup2, 1)) (hv : v.category = 1) (hu : u.category = 1) (h : Go G R cc own Y C Q (pc + 1) L (v :: u :: v :: u :: st) w c k) : Go G R cc own Y C Q pc L (v :: u :: st) w c k := by
  obtain ⟨p, e, s, m, args, below, meth, cd⟩ := C
  intro O H ls locs hR hS hL
  exact lv_dup2_11 O.1 O.2.1 d hv hu (h O H ls locs hR hS hL)
theorem g_iload0 {v : Int32} (d : decode cc pc = .ok (.iload_n 0, 1)) (h : Go G R cc own Y C Q (pc + 1) (some (.int v) :: L) (.int v :: st) w c k) : Go G R cc own Y C Q pc (some (.int v) :: L) st w c k := by
  obtain ⟨p, e, s, m, args, below, meth, cd⟩ := C
  intro O H ls locs hR hS hL
  exact lv_iload_n O.1 O.2.1 d rfl (hL.at (i := 0) rfl rfl) (h O H ls locs hR hS hL)
theorem g_istore0 {y : Option Value} {v : Int32} (d : decode cc pc = .ok (.istore_n 0, 1)) (h : Go G R cc own Y C Q (pc + 1) (some (.int v) :: L) st w c k) : Go G R cc own Y C Q pc (y :: L) (.int v :: st) w c k := by
  obtain ⟨p, e, s, m, args, below, meth, cd⟩ := C
  intro O H ls locs hR hS hL
  exact lv_istore_n (i := 0) O.1 O.2.1 d rfl hL.has (Nat.lt_of_lt_of_le (by simp) hL.2.2.1) rfl (fun ls' hl' => h O H ls' locs hR hS (hL.set (i := 0) rfl hl'))
theorem g_aload0 {v : Nat} (d : decode cc pc = .ok (.aload_n 0, 1)) (h : Go G R cc own Y C Q (pc + 1) (some (.ref v) :: L) (.ref v :: st) w c k) : Go G R cc own Y C Q pc (some (.ref v) :: L) st w c k := by
  obtain ⟨p, e, s, m, args, below, meth, cd⟩ := C
  intro O H ls locs hR hS hL
  exact lv_aload_n O.1 O.2.1 d rfl (hL.at (i := 0) rfl rfl) (h O H ls locs hR hS hL)
theorem g_astore0 {y : Option Value} {v : Nat} (d : decode cc pc = .ok (.astore_n 0, 1)) (h : Go G R cc own Y C Q (pc + 1) (some (.ref v) :: L) st w c k) : Go G R cc own Y C Q pc (y :: L) (.ref v :: st) w c k := by
  obtain ⟨p, e, s, m, args, below, meth, cd⟩ := C
  intro O H ls locs hR hS hL
  exact lv_astore_n (i := 0) O.1 O.2.1 d rfl hL.has (Nat.lt_of_lt_of_le (by simp) hL.2.2.1) rfl (fun ls' hl' => h O H ls' locs hR hS (hL.set (i := 0) rfl hl'))
theorem g_aload0N (d : decode cc pc = .ok (.aload_n 0, 1)) (h : Go G R cc own Y C Q (pc + 1) (some .null :: L) (.null :: st) w c k) : Go G R cc own Y C Q pc (some .null :: L) st w c k := by
  obtain ⟨p, e, s, m, args, below, meth, cd⟩ := C
  intro O H ls locs hR hS hL
  exact lv_aload_nN O.1 O.2.1 d rfl (hL.at (i := 0) rfl rfl) (h O H ls locs hR hS hL)
theorem g_astore0N {y : Option Value} (d : decode cc pc = .ok (.astore_n 0, 1)) (h : Go G R cc own Y C Q (pc + 1) (some .null :: L) st w c k) : Go G R cc own Y C Q pc (y :: L) (.null :: st) w c k := by
  obtain ⟨p, e, s, m, args, below, meth, cd⟩ := C
  intro O H ls locs hR hS hL
  exact lv_astore_nN (i := 0) O.1 O.2.1 d rfl hL.has (Nat.lt_of_lt_of_le (by simp) hL.2.2.1) rfl (fun ls' hl' => h O H ls' locs hR hS (hL.set (i := 0) rfl hl'))
theorem g_iinc0 {v v' : Int32} {n : Int} (d : decode cc pc = .ok (.iinc 0 n, 3)) (hv : v + Int32.ofInt n = v') (h : Go G R cc own Y C Q (pc + 3) (some (.int v') :: L) st w c k) : Go G R cc own Y C Q pc (some (.int v) :: L) st w c k := by
  obtain ⟨p, e, s, m, args, below, meth, cd⟩ := C
  intro O H ls locs hR hS hL
  obtain ⟨j, hj⟩ := List.getElem?_of_mem (lvL_mem (L := some (.int v) :: L) (i := 0) (v := .int v) rfl (Or.inl rfl))
  exact lv_iinc O.1 O.2.1 d hL.has hj hv (Nat.lt_of_lt_of_le (by simp) hL.2.2.1) rfl (fun ls' hl' => h O H ls' locs hR hS (hL.set (i := 0) rfl hl'))
theorem g_iload1 {x0 : Option Value} {v : Int32} (d : decode cc pc = .ok (.iload_n 1, 1)) (h : Go G R cc own Y C Q (pc + 1) (x0 :: some (.int v) :: L) (.int v :: st) w c k) : Go G R cc own Y C Q pc (x0 :: some (.int v) :: L) st w c k := by
  obtain ⟨p, e, s, m, args, below, meth, cd⟩ := C
  intro O H ls locs hR hS hL
  exact lv_iload_n O.1 O.2.1 d rfl (hL.at (i := 1) rfl rfl) (h O H ls locs hR hS hL)
theorem g_istore1 {x0 : Option Value} {y : Option Value} {v : Int32} (d : decode cc pc = .ok (.istore_n 1, 1)) (h : Go G R cc own Y C Q (pc + 1) (x0 :: some (.int v) :: L) st w c k) : Go G R cc own Y C Q pc (x0 :: y :: L) (.int v :: st) w c k := by
  obtain ⟨p, e, s, m, args, below, meth, cd⟩ := C
  intro O H ls locs hR hS hL
  exact lv_istore_n (i := 1) O.1 O.2.1 d rfl hL.has (Nat.lt_of_lt_of_le (by simp) hL.2.2.1) rfl (fun ls' hl' => h O H ls' locs hR hS (hL.set (i := 1) rfl hl'))
theorem g_aload1 {x0 : Option Value} {v : Nat} (d : decode cc pc = .ok (.aload_n 1, 1)) (h : Go G R cc own Y C Q (pc + 1) (x0 :: some (.ref v) :: L) (.ref v :: st) w c k) : Go G R cc own Y C Q pc (x0 :: some (.ref v) :: L) st w c k := by
  obtain ⟨p, e, s, m, args, below, meth, cd⟩ := C
  intro O H ls locs hR hS hL
  exact lv_aload_n O.1 O.2.1 d rfl (hL.at (i := 1) rfl rfl) (h O H ls locs hR hS hL)
theorem g_astore1 {x0 : Option Value} {y : Option Value} {v : Nat} (d : decode cc pc = .ok (.astore_n 1, 1)) (h : Go G R cc own Y C Q (pc + 1) (x0 :: some (.ref v) :: L) st w c k) : Go G R cc own Y C Q pc (x0 :: y :: L) (.ref v :: st) w c k := by
  obtain ⟨p, e, s, m, args, below, meth, cd⟩ := C
  intro O H ls locs hR hS hL
  exact lv_astore_n (i := 1) O.1 O.2.1 d rfl hL.has (Nat.lt_of_lt_of_le (by simp) hL.2.2.1) rfl (fun ls' hl' => h O H ls' locs hR hS (hL.set (i := 1) rfl hl'))
theorem g_aload1N {x0 : Option Value} (d : decode cc pc = .ok (.aload_n 1, 1)) (h : Go G R cc own Y C Q (pc + 1) (x0 :: some .null :: L) (.null :: st) w c k) : Go G R cc own Y C Q pc (x0 :: some .null :: L) st w c k := by
  obtain ⟨p, e, s, m, args, below, meth, cd⟩ := C
  intro O H ls locs hR hS hL
  exact lv_aload_nN O.1 O.2.1 d rfl (hL.at (i := 1) rfl rfl) (h O H ls locs hR hS hL)
theorem g_astore1N {x0 : Option Value} {y : Option Value} (d : decode cc pc = .ok (.astore_n 1, 1)) (h : Go G R cc own Y C Q (pc + 1) (x0 :: some .null :: L) st w c k) : Go G R cc own Y C Q pc (x0 :: y :: L) (.null :: st) w c k := by
  obtain ⟨p, e, s, m, args, below, meth, cd⟩ := C
  intro O H ls locs hR hS hL
  exact lv_astore_nN (i := 1) O.1 O.2.1 d rfl hL.has (Nat.lt_of_lt_of_le (by simp) hL.2.2.1) rfl (fun ls' hl' => h O H ls' locs hR hS (hL.set (i := 1) rfl hl'))
theorem g_iinc1 {x0 : Option Value} {v v' : Int32} {n : Int} (d : decode cc pc = .ok (.iinc 1 n, 3)) (hv : v + Int32.ofInt n = v') (h : Go G R cc own Y C Q (pc + 3) (x0 :: some (.int v') :: L) st w c k) : Go G R cc own Y C Q pc (x0 :: some (.int v) :: L) st w c k := by
  obtain ⟨p, e, s, m, args, below, meth, cd⟩ := C
  intro O H ls locs hR hS hL
  obtain ⟨j, hj⟩ := List.getElem?_of_mem (lvL_mem (L := x0 :: some (.int v) :: L) (i := 1) (v := .int v) rfl (Or.inl rfl))
  exact lv_iinc O.1 O.2.1 d hL.has hj hv (Nat.lt_of_lt_of_le (by simp) hL.2.2.1) rfl (fun ls' hl' => h O H ls' locs hR hS (hL.set (i := 1) rfl hl'))
theorem g_iload2 {x0 x1 : Option Value} {v : Int32} (d : decode cc pc = .ok (.iload_n 2, 1)) (h : Go G R cc own Y C Q (pc + 1) (x0 :: x1 :: some (.int v) :: L) (.int v :: st) w c k) : Go G R cc own Y C Q pc (x0 :: x1 :: some (.int v) :: L) st w c k := by
  obtain ⟨p, e, s, m, args, below, meth, cd⟩ := C
  intro O H ls locs hR hS hL
  exact lv_iload_n O.1 O.2.1 d rfl (hL.at (i := 2) rfl rfl) (h O H ls locs hR hS hL)
theorem g_istore2 {x0 x1 : Option Value} {y : Option Value} {v : Int32} (d : decode cc pc = .ok (.istore_n 2, 1)) (h : Go G R cc own Y C Q (pc + 1) (x0 :: x1 :: some (.int v) :: L) st w c k) : Go G R cc own Y C Q pc (x0 :: x1 :: y :: L) (.int v :: st) w c k := by
  obtain ⟨p, e, s, m, args, below, meth, cd⟩ := C
  intro O H ls locs hR hS hL
  exact lv_istore_n (i := 2) O.1 O.2.1 d rfl hL.has (Nat.lt_of_lt_of_le (by simp) hL.2.2.1) rfl (fun ls' hl' => h O H ls' locs hR hS (hL.set (i := 2) rfl hl'))
theorem g_aload2 {x0 x1 : Option Value} {v : Nat} (d : decode cc pc = .ok (.aload_n 2, 1)) (h : Go G R cc own Y C Q (pc + 1) (x0 :: x1 :: some (.ref v) :: L) (.ref v :: st) w c k) : Go G R cc own Y C Q pc (x0 :: x1 :: some (.ref v) :: L) st w c k := by
  obtain ⟨p, e, s, m, args, below, meth, cd⟩ := C
  intro O H ls locs hR hS hL
  exact lv_aload_n O.1 O.2.1 d rfl (hL.at (i := 2) rfl rfl) (h O H ls locs hR hS hL)
theorem g_astore2 {x0 x1 : Option Value} {y : Option Value} {v : Nat} (d : decode cc pc = .ok (.astore_n 2, 1)) (h : Go G R cc own Y C Q (pc + 1) (x0 :: x1 :: some (.ref v) :: L) st w c k) : Go G R cc own Y C Q pc (x0 :: x1 :: y :: L) (.ref v :: st) w c k := by
  obtain ⟨p, e, s, m, args, below, meth, cd⟩ := C
  intro O H ls locs hR hS hL
  exact lv_astore_n (i := 2) O.1 O.2.1 d rfl hL.has (Nat.lt_of_lt_of_le (by simp) hL.2.2.1) rfl (fun ls' hl' => h O H ls' locs hR hS (hL.set (i := 2) rfl hl'))
theorem g_aload2N {x0 x1 : Option Value} (d : decode cc pc = .ok (.aload_n 2, 1)) (h : Go G R cc own Y C Q (pc + 1) (x0 :: x1 :: some .null :: L) (.null :: st) w c k) : Go G R cc own Y C Q pc (x0 :: x1 :: some .null :: L) st w c k := by
  obtain ⟨p, e, s, m, args, below, meth, cd⟩ := C
  intro O H ls locs hR hS hL
  exact lv_aload_nN O.1 O.2.1 d rfl (hL.at (i := 2) rfl rfl) (h O H ls locs hR hS hL)
theorem g_astore2N {x0 x1 : Option Value} {y : Option Value} (d : decode cc pc = .ok (.astore_n 2, 1)) (h : Go G R cc own Y C Q (pc + 1) (x0 :: x1 :: some .null :: L) st w c k) : Go G R cc own Y C Q pc (x0 :: x1 :: y :: L) (.null :: st) w c k := by
  obtain ⟨p, e, s, m, args, below, meth, cd⟩ := C
  intro O H ls locs hR hS hL
  exact lv_astore_nN (i := 2) O.1 O.2.1 d rfl hL.has (Nat.lt_of_lt_of_le (by simp) hL.2.2.1) rfl (fun ls' hl' => h O H ls' locs hR hS (hL.set (i := 2) rfl hl'))
theorem g_iinc2 {x0 x1 : Option Value} {v v' : Int32} {n : Int} (d : decode cc pc = .ok (.iinc 2 n, 3)) (hv : v + Int32.ofInt n = v') (h : Go G R cc own Y C Q (pc + 3) (x0 :: x1 :: some (.int v') :: L) st w c k) : Go G R cc own Y C Q pc (x0 :: x1 :: some (.int v) :: L) st w c k := by
  obtain ⟨p, e, s, m, args, below, meth, cd⟩ := C
  intro O H ls locs hR hS hL
  obtain ⟨j, hj⟩ := List.getElem?_of_mem (lvL_mem (L := x0 :: x1 :: some (.int v) :: L) (i := 2) (v := .int v) rfl (Or.inl rfl))
  exact lv_iinc O.1 O.2.1 d hL.has hj hv (Nat.lt_of_lt_of_le (by simp) hL.2.2.1) rfl (fun ls' hl' => h O H ls' locs hR hS (hL.set (i := 2) rfl hl'))
theorem g_iload3 {x0 x1 x2 : Option Value} {v : Int32} (d : decode cc pc = .ok (.iload_n 3, 1)) (h : Go G R cc own Y C Q (pc + 1) (x0 :: x1 :: x2 :: some (.int v) :: L) (.int v :: st) w c k) : Go G R cc own Y C Q pc (x0 :: x1 :: x2 :: some (.int v) :: L) st w c k := by
  obtain ⟨p, e, s, m, args, below, meth, cd⟩ := C
  intro O H ls locs hR hS hL
  exact lv_iload_n O.1 O.2.1 d rfl (hL.at (i := 3) rfl rfl) (h O H ls locs hR hS hL)
theorem g_istore3 {x0 x1 x2 : Option Value} {y : Option Value} {v : Int32} (d : decode cc pc = .ok (.istore_n 3, 1)) (h : Go G R cc own Y C Q (pc + 1) (x0 :: x1 :: x2 :: some (.int v) :: L) st w c k) : Go G R cc own Y C Q pc (x0 :: x1 :: x2 :: y :: L) (.int v :: st) w c k := by
  obtain ⟨p, e, s, m, args, below, meth, cd⟩ := C
  intro O H ls locs hR hS hL
  exact lv_istore_n (i := 3) O.1 O.2.1 d rfl hL.has (Nat.lt_of_lt_of_le (by simp) hL.2.2.1) rfl (fun ls' hl' => h O H ls' locs hR hS (hL.set (i := 3) rfl hl'))
theorem g_aload3 {x0 x1 x2 : Option Value} {v : Nat} (d : decode cc pc = .ok (.aload_n 3, 1)) (h : Go G R cc own Y C Q (pc + 1) (x0 :: x1 :: x2 :: some (.ref v) :: L) (.ref v :: st) w c k) : Go G R cc own Y C Q pc (x0 :: x1 :: x2 :: some (.ref v) :: L) st w c k := by
  obtain ⟨p, e, s, m, args, below, meth, cd⟩ := C
  intro O H ls locs hR hS hL
  exact lv_aload_n O.1 O.2.1 d rfl (hL.at (i := 3) rfl rfl) (h O H ls locs hR hS hL)
theorem g_astore3 {x0 x1 x2 : Option Value} {y : Option Value} {v : Nat} (d : decode cc pc = .ok (.astore_n 3, 1)) (h : Go G R cc own Y C Q (pc + 1) (x0 :: x1 :: x2 :: some (.ref v) :: L) st w c k) : Go G R cc own Y C Q pc (x0 :: x1 :: x2 :: y :: L) (.ref v :: st) w c k := by
  obtain ⟨p, e, s, m, args, below, meth, cd⟩ := C
  intro O H ls locs hR hS hL
  exact lv_astore_n (i := 3) O.1 O.2.1 d rfl hL.has (Nat.lt_of_lt_of_le (by simp) hL.2.2.1) rfl (fun ls' hl' => h O H ls' locs hR hS (hL.set (i := 3) rfl hl'))
theorem g_aload3N {x0 x1 x2 : Option Value} (d : decode cc pc = .ok (.aload_n 3, 1)) (h : Go G R cc own Y C Q (pc + 1) (x0 :: x1 :: x2 :: some .null :: L) (.null :: st) w c k) : Go G R cc own Y C Q pc (x0 :: x1 :: x2 :: some .null :: L) st w c k := by
  obtain ⟨p, e, s, m, args, below, meth, cd⟩ := C
  intro O H ls locs hR hS hL
  exact lv_aload_nN O.1 O.2.1 d rfl (hL.at (i := 3) rfl rfl) (h O H ls locs hR hS hL)
theorem g_astore3N {x0 x1 x2 : Option Value} {y : Option Value} (d : decode cc pc = .ok (.astore_n 3, 1)) (h : Go G R cc own Y C Q (pc + 1) (x0 :: x1 :: x2 :: some .null :: L) st w c k) : Go G R cc own Y C Q pc (x0 :: x1 :: x2 :: y :: L) (.null :: st) w c k := by
  obtain ⟨p, e, s, m, args, below, meth, cd⟩ := C
  intro O H ls locs hR hS hL
  exact lv_astore_nN (i := 3) O.1 O.2.1 d rfl hL.has (Nat.lt_of_lt_of_le (by simp) hL.2.2.1) rfl (fun ls' hl' => h O H ls' locs hR hS (hL.set (i := 3) rfl hl'))
theorem g_iinc3 {x0 x1 x2 : Option Value} {v v' : Int32} {n : Int} (d : decode cc pc = .ok (.iinc 3 n, 3)) (hv : v + Int32.ofInt n = v') (h : Go G R cc own Y C Q (pc + 3) (x0 :: x1 :: x2 :: some (.int v') :: L) st w c k) : Go G R cc own Y C Q pc (x0 :: x1 :: x2 :: some (.int v) :: L) st w c k := by
  obtain ⟨p, e, s, m, args, below, meth, cd⟩ := C
  intro O H ls locs hR hS hL
  obtain ⟨j, hj⟩ := List.getElem?_of_mem (lvL_mem (L := x0 :: x1 :: x2 :: some (.int v) :: L) (i := 3) (v := .int v) rfl (Or.inl rfl))
  exact lv_iinc O.1 O.2.1 d hL.has hj hv (Nat.lt_of_lt_of_le (by simp) hL.2.2.1) rfl (fun ls' hl' => h O H ls' locs hR hS (hL.set (i := 3) rfl hl'))
theorem g_iload4 {x0 x1 x2 x3 : Option Value} {v : Int32} (d : decode cc pc = .ok (.iload 4, 2)) (h : Go G R cc own Y C Q (pc + 2) (x0 :: x1 :: x2 :: x3 :: some (.int v) :: L) (.int v :: st) w c k) : Go G R cc own Y C Q pc (x0 :: x1 :: x2 :: x3 :: some (.int v) :: L) st w c k := by
  obtain ⟨p, e, s, m, args, below, meth, cd⟩ := C
  intro O H ls locs hR hS hL
  exact lv_iload O.1 O.2.1 d (hL.at (i := 4) rfl rfl) (h O H ls locs hR hS hL)
theorem g_istore4 {x0 x1 x2 x3 : Option Value} {y : Option Value} {v : Int32} (d : decode cc pc = .ok (.istore 4, 2)) (h : Go G R cc own Y C Q (pc + 2) (x0 :: x1 :: x2 :: x3 :: some (.int v) :: L) st w c k) : Go G R cc own Y C Q pc (x0 :: x1 :: x2 :: x3 :: y :: L) (.int v :: st) w c k := by
  obtain ⟨p, e, s, m, args, below, meth, cd⟩ := C
  intro O H ls locs hR hS hL
  exact lv_istore O.1 O.2.1 d hL.has (Nat.lt_of_lt_of_le (by simp) hL.2.2.1) rfl (fun ls' hl' => h O H ls' locs hR hS (hL.set (i := 4) rfl hl'))
theorem g_aload4 {x0 x1 x2 x3 : Option Value} {v : Nat} (d : decode cc pc = .ok (.aload 4, 2)) (h : Go G R cc own Y C Q (pc + 2) (x0 :: x1 :: x2 :: x3 :: some (.ref v) :: L) (.ref v :: st) w c k) : Go G R cc own Y C Q pc (x0 :: x1 :: x2 :: x3 :: some (.ref v) :: L) st w c k := by
  obtain ⟨p, e, s, m, args, below, meth, cd⟩ := C
  intro O H ls locs hR hS hL
  exact lv_aload O.1 O.2.1 d (hL.at (i := 4) rfl rfl) (h O H ls locs hR hS hL)
theorem g_astore4 {x0 x1 x2 x3 : Option Value} {y : Option Value} {v : Nat} (d : decode cc pc = .ok (.astore 4, 2)) (h : Go G R cc own Y C Q (pc + 2) (x0 :: x1 :: x2 :: x3 :: some (.ref v) :: L) st w c k) : Go G R cc own Y C Q pc (x0 :: x1 :: x2 :: x3 :: y :: L) (.ref v :: st) w c k := by
  obtain ⟨p, e, s, m, args, below, meth, cd⟩ := C
  intro O H ls locs hR hS hL
  exact lv_astore O.1 O.2.1 d hL.has (Nat.lt_of_lt_of_le (by simp) hL.2.2.1) rfl (fun ls' hl' => h O H ls' locs hR hS (hL.set (i := 4) rfl hl'))
theorem g_iinc4 {x0 x1 x2 x3 : Option Value} {v v' : Int32} {n : Int} (d : decode cc pc = .ok (.iinc 4 n, 3)) (hv : v + Int32.ofInt n = v') (h : Go G R cc own Y C Q (pc + 3) (x0 :: x1 :: x2 :: x3 :: some (.int v') :: L) st w c k) : Go G R cc own Y C Q pc (x0 :: x1 :: x2 :: x3 :: some (.int v) :: L) st w c k := by
  obtain ⟨p, e, s, m, args, below, meth, cd⟩ := C
  intro O H ls locs hR hS hL
  obtain ⟨j, hj⟩ := List.getElem?_of_mem (lvL_mem (L := x0 :: x1 :: x2 :: x3 :: some (.int v) :: L) (i := 4) (v := .int v) rfl (Or.inl rfl))
  exact lv_iinc O.1 O.2.1 d hL.has hj hv (Nat.lt_of_lt_of_le (by simp) hL.2.2.1) rfl (fun ls' hl' => h O H ls' locs hR hS (hL.set (i := 4) rfl hl'))
theorem g_iload5 {x0 x1 x2 x3 x4 : Option Value} {v : Int32} (d : decode cc pc = .ok (.iload 5, 2)) (h : Go G R cc own Y C Q (pc + 2) (x0 :: x1 :: x2 :: x3 :: x4 :: some (.int v) :: L) (.int v :: st) w c k) : Go G R cc own Y C Q pc (x0 :: x1 :: x2 :: x3 :: x4 :: some (.int v) :: L) st w c k := by
  obtain ⟨p, e, s, m, args, below, meth, cd⟩ := C
  intro O H ls locs hR hS hL
  exact lv_iload O.1 O.2.1 d (hL.at (i := 5) rfl rfl) (h O H ls locs hR hS hL)
theorem g_istore5 {x0 x1 x2 x3 x4 : Option Value} {y : Option Value} {v : Int32} (d : decode cc pc = .ok (.istore 5, 2)) (h : Go G R cc own Y C Q (pc + 2) (x0 :: x1 :: x2 :: x3 :: x4 :: some (.int v) :: L) st w c k) : Go G R cc own Y C Q pc (x0 :: x1 :: x2 :: x3 :: x4 :: y :: L) (.int v :: st) w c k := by
  obtain ⟨p, e, s, m, args, below, meth, cd⟩ := C
  intro O H ls locs hR hS hL
  exact lv_istore O.1 O.2.1 d hL.has (Nat.lt_of_lt_of_le (by simp) hL.2.2.1) rfl (fun ls' hl' => h O H ls' locs hR hS (hL.set (i := 5) rfl hl'))
theorem g_aload5 {x0 x1 x2 x3 x4 : Option Value} {v : Nat} (d : decode cc pc = .ok (.aload 5, 2)) (h : Go G R cc own Y C Q (pc + 2) (x0 :: x1 :: x2 :: x3 :: x4 :: some (.ref v) :: L) (.ref v :: st) w c k) : Go G R cc own Y C Q pc (x0 :: x1 :: x2 :: x3 :: x4 :: some (.ref v) :: L) st w c k := by
  obtain ⟨p, e, s, m, args, below, meth, cd⟩ := C
  intro O H ls locs hR hS hL
  exact lv_aload O.1 O.2.1 d (hL.at (i := 5) rfl rfl) (h O H ls locs hR hS hL)
theorem g_astore5 {x0 x1 x2 x3 x4 : Option Value} {y : Option Value} {v : Nat} (d : decode cc pc = .ok (.astore 5, 2)) (h : Go G R cc own Y C Q (pc + 2) (x0 :: x1 :: x2 :: x3 :: x4 :: some (.ref v) :: L) st w c k) : Go G R cc own Y C Q pc (x0 :: x1 :: x2 :: x3 :: x4 :: y :: L) (.ref v :: st) w c k := by
  obtain ⟨p, e, s, m, args, below, meth, cd⟩ := C
  intro O H ls locs hR hS hL
  exact lv_astore O.1 O.2.1 d hL.has (Nat.lt_of_lt_of_le (by simp) hL.2.2.1) rfl (fun ls' hl' => h O H ls' locs hR hS (hL.set (i := 5) rfl hl'))
theorem g_iinc5 {x0 x1 x2 x3 x4 : Option Value} {v v' : Int32} {n : Int} (d : decode cc pc = .ok (.iinc 5 n, 3)) (hv : v + Int32.ofInt n = v') (h : Go G R cc own Y C Q (pc + 3) (x0 :: x1 :: x2 :: x3 :: x4 :: some (.int v') :: L) st w c k) : Go G R cc own Y C Q pc (x0 :: x1 :: x2 :: x3 :: x4 :: some (.int v) :: L) st w c k := by
  obtain ⟨p, e, s, m, args, below, meth, cd⟩ := C
  intro O H ls locs hR hS hL
  obtain ⟨j, hj⟩ := List.getElem?_of_mem (lvL_mem (L := x0 :: x1 :: x2 :: x3 :: x4 :: some (.int v) :: L) (i := 5) (v := .int v) rfl (Or.inl rfl))
  exact lv_iinc O.1 O.2.1 d hL.has hj hv (Nat.lt_of_lt_of_le (by simp) hL.2.2.1) rfl (fun ls' hl' => h O H ls' locs hR hS (hL.set (i := 5) rfl hl'))
theorem g_iload6 {x0 x1 x2 x3 x4 x5 : Option Value} {v : Int32} (d : decode cc pc = .ok (.iload 6, 2)) (h : Go G R cc own Y C Q (pc + 2) (x0 :: x1 :: x2 :: x3 :: x4 :: x5 :: some (.int v) :: L) (.int v :: st) w c k) : Go G R cc own Y C Q pc (x0 :: x1 :: x2 :: x3 :: x4 :: x5 :: some (.int v) :: L) st w c k := by
  obtain ⟨p, e, s, m, args, below, meth, cd⟩ := C
  intro O H ls locs hR hS hL
  exact lv_iload O.1 O.2.1 d (hL.at (i := 6) rfl rfl) (h O H ls locs hR hS hL)
theorem g_istore6 {x0 x1 x2 x3 x4 x5 : Option Value} {y : Option Value} {v : Int32} (d : decode cc pc = .ok (.istore 6, 2)) (h : Go G R cc own Y C Q (pc + 2) (x0 :: x1 :: x2 :: x3 :: x4 :: x5 :: some (.int v) :: L) st w c k) : Go G R cc own Y C Q pc (x0 :: x1 :: x2 :: x3 :: x4 :: x5 :: y :: L) (.int v :: st) w c k := by
  obtain ⟨p, e, s, m, args, below, meth, cd⟩ := C
  intro O H ls locs hR hS hL
  exact lv_istore O.1 O.2.1 d hL.has (Nat.lt_of_lt_of_le (by simp) hL.2.2.1) rfl (fun ls' hl' => h O H ls' locs hR hS (hL.set (i := 6) rfl hl'))
theorem g_aload6 {x0 x1 x2 x3 x4 x5 : Option Value} {v : Nat} (d : decode cc pc = .ok (.aload 6, 2)) (h : Go G R cc own Y C Q (pc + 2) (x0 :: x1 :: x2 :: x3 :: x4 :: x5 :: some (.ref v) :: L) (.ref v :: st) w c k) : Go G R cc own Y C Q pc (x0 :: x1 :: x2 :: x3 :: x4 :: x5 :: some (.ref v) :: L) st w c k := by
  obtain ⟨p, e, s, m, args, below, meth, cd⟩ := C
  intro O H ls locs hR hS hL
  exact lv_aload O.1 O.2.1 d (hL.at (i := 6) rfl rfl) (h O H ls locs hR hS hL)
theorem g_astore6 {x0 x1 x2 x3 x4 x5 : Option Value} {y : Option Value} {v : Nat} (d : decode cc pc = .ok (.astore 6, 2)) (h : Go G R cc own Y C Q (pc + 2) (x0 :: x1 :: x2 :: x3 :: x4 :: x5 :: some (.ref v) :: L) st w c k) : Go G R cc own Y C Q pc (x0 :: x1 :: x2 :: x3 :: x4 :: x5 :: y :: L) (.ref v :: st) w c k := by
  obtain ⟨p, e, s, m, args, below, meth, cd⟩ := C
  intro O H ls locs hR hS hL
  exact lv_astore O.1 O.2.1 d hL.has (Nat.lt_of_lt_of_le (by simp) hL.2.2.1) rfl (fun ls' hl' => h O H ls' locs hR hS (hL.set (i := 6) rfl hl'))
theorem g_iinc6 {x0 x1 x2 x3 x4 x5 : Option Value} {v v' : Int32} {n : Int} (d : decode cc pc = .ok (.iinc 6 n, 3)) (hv : v + Int32.ofInt n = v') (h : Go G R cc own Y C Q (pc + 3) (x0 :: x1 :: x2 :: x3 :: x4 :: x5 :: some (.int v') :: L) st w c k) : Go G R cc own Y C Q pc (x0 :: x1 :: x2 :: x3 :: x4 :: x5 :: some (.int v) :: L) st w c k := by
  obtain ⟨p, e, s, m, args, below, meth, cd⟩ := C
  intro O H ls locs hR hS hL
  obtain ⟨j, hj⟩ := List.getElem?_of_mem (lvL_mem (L := x0 :: x1 :: x2 :: x3 :: x4 :: x5 :: some (.int v) :: L) (i := 6) (v := .int v) rfl (Or.inl rfl))
  exact lv_iinc O.1 O.2.1 d hL.has hj hv (Nat.lt_of_lt_of_le (by simp) hL.2.2.1) rfl (fun ls' hl' => h O H ls' locs hR hS (hL.set (i := 6) rfl hl'))
theorem g_iload7 {x0 x1 x2 x3 x4 x5 x6 : Option Value} {v : Int32} (d : decode cc pc = .ok (.iload 7, 2)) (h : Go G R cc own Y C Q (pc + 2) (x0 :: x1 :: x2 :: x3 :: x4 :: x5 :: x6 :: some (.int v) :: L) (.int v :: st) w c k) : Go G R cc own Y C Q pc (x0 :: x1 :: x2 :: x3 :: x4 :: x5 :: x6 :: some (.int v) :: L) st w c k := by
  obtain ⟨p, e, s, m, args, below, meth, cd⟩ := C
  intro O H ls locs hR hS hL
  exact lv_iload O.1 O.2.1 d (hL.at (i := 7) rfl rfl) (h O H ls locs hR hS hL)
theorem g_istore7 {x0 x1 x2 x3 x4 x5 x6 : Option Value} {y : Option Value} {v : Int32} (d : decode cc pc = .ok (.istore 7, 2)) (h : Go G R cc own Y C Q (pc + 2) (x0 :: x1 :: x2 :: x3 :: x4 :: x5 :: x6 :: some (.int v) :: L) st w c k) : Go G R cc own Y C Q pc (x0 :: x1 :: x2 :: x3 :: x4 :: x5 :: x6 :: y :: L) (.int v :: st) w c k := by
  obtain ⟨p, e, s, m, args, below, meth, cd⟩ := C
  intro O H ls locs hR hS hL
  exact lv_istore O.1 O.2.1 d hL.has (Nat.lt_of_lt_of_le (by simp) hL.2.2.1) rfl (fun ls' hl' => h O H ls' locs hR hS (hL.set (i := 7) rfl hl'))
theorem g_aload7 {x0 x1 x2 x3 x4 x5 x6 : Option Value} {v : Nat} (d : decode cc pc = .ok (.aload 7, 2)) (h : Go G R cc own Y C Q (pc + 2) (x0 :: x1 :: x2 :: x3 :: x4 :: x5 :: x6 :: some (.ref v) :: L) (.ref v :: st) w c k) : Go G R cc own Y C Q pc (x0 :: x1 :: x2 :: x3 :: x4 :: x5 :: x6 :: some (.ref v) :: L) st w c k := by
  obtain ⟨p, e, s, m, args, below, meth, cd⟩ := C
  intro O H ls locs hR hS hL
  exact lv_aload O.1 O.2.1 d (hL.at (i := 7) rfl rfl) (h O H ls locs hR hS hL)
theorem g_astore7 {x0 x1 x2 x3 x4 x5 x6 : Option Value} {y : Option Value} {v : Nat} (d : decode cc pc = .ok (.astore 7, 2)) (h : Go G R cc own Y C Q (pc + 2) (x0 :: x1 :: x2 :: x3 :: x4 :: x5 :: x6 :: some (.ref v) :: L) st w c k) : Go G R cc own Y C Q pc (x0 :: x1 :: x2 :: x3 :: x4 :: x5 :: x6 :: y :: L) (.ref v :: st) w c k := by
  obtain ⟨p, e, s, m, args, below, meth, cd⟩ := C
  intro O H ls locs hR hS hL
  exact lv_astore O.1 O.2.1 d hL.has (Nat.lt_of_lt_of_le (by simp) hL.2.2.1) rfl (fun ls' hl' => h O H ls' locs hR hS (hL.set (i := 7) rfl hl'))
theorem g_iinc7 {x0 x1 x2 x3 x4 x5 x6 : Option Value} {v v' : Int32} {n : Int} (d : decode cc pc = .ok (.iinc 7 n, 3)) (hv : v + Int32.ofInt n = v') (h : Go G R cc own Y C Q (pc + 3) (x0 :: x1 :: x2 :: x3 :: x4 :: x5 :: x6 :: some (.int v') :: L) st w c k) : Go G R cc own Y C Q pc (x0 :: x1 :: x2 :: x3 :: x4 :: x5 :: x6 :: some (.int v) :: L) st w c k := by
  obtain ⟨p, e, s, m, args, below, meth, cd⟩ := C
  intro O H ls locs hR hS hL
  obtain ⟨j, hj⟩ := List.getElem?_of_mem (lvL_mem (L := x0 :: x1 :: x2 :: x3 :: x4 :: x5 :: x6 :: some (.int v) :: L) (i := 7) (v := .int v) rfl (Or.inl rfl))
  exact lv_iinc O.1 O.2.1 d hL.has hj hv (Nat.lt_of_lt_of_le (by simp) hL.2.2.1) rfl (fun ls' hl' => h O H ls' locs hR hS (hL.set (i := 7) rfl hl'))
theorem g_iload8 {x0 x1 x2 x3 x4 x5 x6 x7 : Option Value} {v : Int32} (d : decode cc pc = .ok (.iload 8, 2)) (h : Go G R cc own Y C Q (pc + 2) (x0 :: x1 :: x2 :: x3 :: x4 :: x5 :: x6 :: x7 :: some (.int v) :: L) (.int v :: st) w c k) : Go G R cc own Y C Q pc (x0 :: x1 :: x2 :: x3 :: x4 :: x5 :: x6 :: x7 :: some (.int v) :: L) st w c k := by
  obtain ⟨p, e, s, m, args, below, meth, cd⟩ := C
  intro O H ls locs hR hS hL
  exact lv_iload O.1 O.2.1 d (hL.at (i := 8) rfl rfl) (h O H ls locs hR hS hL)
theorem g_istore8 {x0 x1 x2 x3 x4 x5 x6 x7 : Option Value} {y : Option Value} {v : Int32} (d : decode cc pc = .ok (.istore 8, 2)) (h : Go G R cc own Y C Q (pc + 2) (x0 :: x1 :: x2 :: x3 :: x4 :: x5 :: x6 :: x7 :: some (.int v) :: L) st w c k) : Go G R cc own Y C Q pc (x0 :: x1 :: x2 :: x3 :: x4 :: x5 :: x6 :: x7 :: y :: L) (.int v :: st) w c k := by
  obtain ⟨p, e, s, m, args, below, meth, cd⟩ := C
  intro O H ls locs hR hS hL
  exact lv_istore O.1 O.2.1 d hL.has (Nat.lt_of_lt_of_le (by simp) hL.2.2.1) rfl (fun ls' hl' => h O H ls' locs hR hS (hL.set (i := 8) rfl hl'))
theorem g_aload8 {x0 x1 x2 x3 x4 x5 x6 x7 : Option Value} {v : Nat} (d : decode cc pc = .ok (.aload 8, 2)) (h : Go G R cc own Y C Q (pc + 2) (x0 :: x1 :: x2 :: x3 :: x4 :: x5 :: x6 :: x7 :: some (.ref v) :: L) (.ref v :: st) w c k) : Go G R cc own Y C Q pc (x0 :: x1 :: x2 :: x3 :: x4 :: x5 :: x6 :: x7 :: some (.ref v) :: L) st w c k := by
  obtain ⟨p, e, s, m, args, below, meth, cd⟩ := C
  intro O H ls locs hR hS hL
  exact lv_aload O.1 O.2.1 d (hL.at (i := 8) rfl rfl) (h O H ls locs hR hS hL)
theorem g_astore8 {x0 x1 x2 x3 x4 x5 x6 x7 : Option Value} {y : Option Value} {v : Nat} (d : decode cc pc = .ok (.astore 8, 2)) (h : Go G R cc own Y C Q (pc + 2) (x0 :: x1 :: x2 :: x3 :: x4 :: x5 :: x6 :: x7 :: some (.ref v) :: L) st w c k) : Go G R cc own Y C Q pc (x0 :: x1 :: x2 :: x3 :: x4 :: x5 :: x6 :: x7 :: y :: L) (.ref v :: st) w c k := by
  obtain ⟨p, e, s, m, args, below, meth, cd⟩ := C
  intro O H ls locs hR hS hL
  exact lv_astore O.1 O.2.1 d hL.has (Nat.lt_of_lt_of_le (by simp) hL.2.2.1) rfl (fun ls' hl' => h O H ls' locs hR hS (hL.set (i := 8) rfl hl'))
theorem g_iinc8 {x0 x1 x2 x3 x4 x5 x6 x7 : Option Value} {v v' : Int32} {n : Int} (d : decode cc pc = .ok (.iinc 8 n, 3)) (hv : v + Int32.ofInt n = v') (h : Go G R cc own Y C Q (pc + 3) (x0 :: x1 :: x2 :: x3 :: x4 :: x5 :: x6 :: x7 :: some (.int v') :: L) st w c k) : Go G R cc own Y C Q pc (x0 :: x1 :: x2 :: x3 :: x4 :: x5 :: x6 :: x7 :: some (.int v) :: L) st w c k := by
  obtain ⟨p, e, s, m, args, below, meth, cd⟩ := C
  intro O H ls locs hR hS hL
  obtain ⟨j, hj⟩ := List.getElem?_of_mem (lvL_mem (L := x0 :: x1 :: x2 :: x3 :: x4 :: x5 :: x6 :: x7 :: some (.int v) :: L) (i := 8) (v := .int v) rfl (Or.inl rfl))
  exact lv_iinc O.1 O.2.1 d hL.has hj hv (Nat.lt_of_lt_of_le (by simp) hL.2.2.1) rfl (fun ls' hl' => h O H ls' locs hR hS (hL.set (i := 8) rfl hl'))
theorem g_iload9 {x0 x1 x2 x3 x4 x5 x6 x7 x8 : Option Value} {v : Int32} (d : decode cc pc = .ok (.iload 9, 2)) (h : Go G R cc own Y C Q (pc + 2) (x0 :: x1 :: x2 :: x3 :: x4 :: x5 :: x6 :: x7 :: x8 :: some (.int v) :: L) (.int v :: st) w c k) : Go G R cc own Y C Q pc (x0 :: x1 :: x2 :: x3 :: x4 :: x5 :: x6 :: x7 :: x8 :: some (.int v) :: L) st w c k := by
  obtain ⟨p, e, s, m, args, below, meth, cd⟩ := C
  intro O H ls locs hR hS hL
  exact lv_iload O.1 O.2.1 d (hL.at (i := 9) rfl rfl) (h O H ls locs hR hS hL)
theorem g_istore9 {x0 x1 x2 x3 x4 x5 x6 x7 x8 : Option Value} {y : Option Value} {v : Int32} (d : decode cc pc = .ok (.istore 9, 2)) (h : Go G R cc own Y C Q (pc + 2) (x0 :: x1 :: x2 :: x3 :: x4 :: x5 :: x6 :: x7 :: x8 :: some (.int v) :: L) st w c k) : Go G R cc own Y C Q pc (x0 :: x1 :: x2 :: x3 :: x4 :: x5 :: x6 :: x7 :: x8 :: y :: L) (.int v :: st) w c k := by
  obtain ⟨p, e, s, m, args, below, meth, cd⟩ := C
  intro O H ls locs hR hS hL
  exact lv_istore O.1 O.2.1 d hL.has (Nat.lt_of_lt_of_le (by simp) hL.2.2.1) rfl (fun ls' hl' => h O H ls' locs hR hS (hL.set (i := 9) rfl hl'))
theorem g_aload9 {x0 x1 x2 x3 x4 x5 x6 x7 x8 : Option Value} {v : Nat} (d : decode cc pc = .ok (.aload 9, 2)) (h : Go G R cc own Y C Q (pc + 2) (x0 :: x1 :: x2 :: x3 :: x4 :: x5 :: x6 :: x7 :: x8 :: some (.ref v) :: L) (.ref v :: st) w c k) : Go G R cc own Y C Q pc (x0 :: x1 :: x2 :: x3 :: x4 :: x5 :: x6 :: x7 :: x8 :: some (.ref v) :: L) st w c k := by
  obtain ⟨p, e, s, m, args, below, meth, cd⟩ := C
  intro O H ls locs hR hS hL
  exact lv_aload O.1 O.2.1 d (hL.at (i := 9) rfl rfl) (h O H ls locs hR hS hL)
theorem g_astore9 {x0 x1 x2 x3 x4 x5 x6 x7 x8 : Option Value} {y : Option Value} {v : Nat} (d : decode cc pc = .ok (.astore 9, 2)) (h : Go G R cc own Y C Q (pc + 2) (x0 :: x1 :: x2 :: x3 :: x4 :: x5 :: x6 :: x7 :: x8 :: some (.ref v) :: L) st w c k) : Go G R cc own Y C Q pc (x0 :: x1 :: x2 :: x3 :: x4 :: x5 :: x6 :: x7 :: x8 :: y :: L) (.ref v :: st) w c k := by
  obtain ⟨p, e, s, m, args, below, meth, cd⟩ := C
  intro O H ls locs hR hS hL
  exact lv_astore O.1 O.2.1 d hL.has (Nat.lt_of_lt_of_le (by simp) hL.2.2.1) rfl (fun ls' hl' => h O H ls' locs hR hS (hL.set (i := 9) rfl hl'))
theorem g_iinc9 {x0 x1 x2 x3 x4 x5 x6 x7 x8 : Option Value} {v v' : Int32} {n : Int} (d : decode cc pc = .ok (.iinc 9 n, 3)) (hv : v + Int32.ofInt n = v') (h : Go G R cc own Y C Q (pc + 3) (x0 :: x1 :: x2 :: x3 :: x4 :: x5 :: x6 :: x7 :: x8 :: some (.int v') :: L) st w c k) : Go G R cc own Y C Q pc (x0 :: x1 :: x2 :: x3 :: x4 :: x5 :: x6 :: x7 :: x8 :: some (.int v) :: L) st w c k := by
  obtain ⟨p, e, s, m, args, below, meth, cd⟩ := C
  intro O H ls locs hR hS hL
  obtain ⟨j, hj⟩ := List.getElem?_of_mem (lvL_mem (L := x0 :: x1 :: x2 :: x3 :: x4 :: x5 :: x6 :: x7 :: x8 :: some (.int v) :: L) (i := 9) (v := .int v) rfl (Or.inl rfl))
  exact lv_iinc O.1 O.2.1 d hL.has hj hv (Nat.lt_of_lt_of_le (by simp) hL.2.2.1) rfl (fun ls' hl' => h O H ls' locs hR hS (hL.set (i := 9) rfl hl'))
theorem g_iload10 {x0 x1 x2 x3 x4 x5 x6 x7 x8 x9 : Option Value} {v : Int32} (d : decode cc pc = .ok (.iload 10, 2)) (h : Go G R cc own Y C Q (pc + 2) (x0 :: x1 :: x2 :: x3 :: x4 :: x5 :: x6 :: x7 :: x8 :: x9 :: some (.int v) :: L) (.int v :: st) w c k) : Go G R cc own Y C Q pc (x0 :: x1 :: x2 :: x3 :: x4 :: x5 :: x6 :: x7 :: x8 :: x9 :: some (.int v) :: L) st w c k := by
  obtain ⟨p, e, s, m, args, below, meth, cd⟩ := C
  intro O H ls locs hR hS hL
  exact lv_iload O.1 O.2.1 d (hL.at (i := 10) rfl rfl) (h O H ls locs hR hS hL)
theorem g_istore10 {x0 x1 x2 x3 x4 x5 x6 x7 x8 x9 : Option Value} {y : Option Value} {v : Int32} (d : decode cc pc = .ok (.istore 10, 2)) (h : Go G R cc own Y C Q (pc + 2) (x0 :: x1 :: x2 :: x3 :: x4 :: x5 :: x6 :: x7 :: x8 :: x9 :: some (.int v) :: L) st w c k) : Go G R cc own Y C Q pc (x0 :: x1 :: x2 :: x3 :: x4 :: x5 :: x6 :: x7 :: x8 :: x9 :: y :: L) (.int v :: st) w c k := by
  obtain ⟨p, e, s, m, args, below, meth, cd⟩ := C
  intro O H ls locs hR hS hL
  exact lv_istore O.1 O.2.1 d hL.has (Nat.lt_of_lt_of_le (by simp) hL.2.2.1) rfl (fun ls' hl' => h O H ls' locs hR hS (hL.set (i := 10) rfl hl'))
theorem g_aload10 {x0 x1 x2 x3 x4 x5 x6 x7 x8 x9 : Option Value} {v : Nat} (d : decode cc pc = .ok (.aload 10, 2)) (h : Go G R cc own Y C Q (pc + 2) (x0 :: x1 :: x2 :: x3 :: x4 :: x5 :: x6 :: x7 :: x8 :: x9 :: some (.ref v) :: L) (.ref v :: st) w c k) : Go G R cc own Y C Q pc (x0 :: x1 :: x2 :: x3 :: x4 :: x5 :: x6 :: x7 :: x8 :: x9 :: some (.ref v) :: L) st w c k := by
  obtain ⟨p, e, s, m, args, below, meth, cd⟩ := C
  intro O H ls locs hR hS hL
  exact lv_aload O.1 O.2.1 d (hL.at (i := 10) rfl rfl) (h O H ls locs hR hS hL)
theorem g_astore10 {x0 x1 x2 x3 x4 x5 x6 x7 x8 x9 : Option Value} {y : Option Value} {v : Nat} (d : decode cc pc = .ok (.astore 10, 2)) (h : Go G R cc own Y C Q (pc + 2) (x0 :: x1 :: x2 :: x3 :: x4 :: x5 :: x6 :: x7 :: x8 :: x9 :: some (.ref v) :: L) st w c k) : Go G R cc own Y C Q pc (x0 :: x1 :: x2 :: x3 :: x4 :: x5 :: x6 :: x7 :: x8 :: x9 :: y :: L) (.ref v :: st) w c k := by
  obtain ⟨p, e, s, m, args, below, meth, cd⟩ := C
  intro O H ls locs hR hS hL
  exact lv_astore O.1 O.2.1 d hL.has (Nat.lt_of_lt_of_le (by simp) hL.2.2.1) rfl (fun ls' hl' => h O H ls' locs hR hS (hL.set (i := 10) rfl hl'))
theorem g_iinc10 {x0 x1 x2 x3 x4 x5 x6 x7 x8 x9 : Option Value} {v v' : Int32} {n : Int} (d : decode cc pc = .ok (.iinc 10 n, 3)) (hv : v + Int32.ofInt n = v') (h : Go G R cc own Y C Q (pc + 3) (x0 :: x1 :: x2 :: x3 :: x4 :: x5 :: x6 :: x7 :: x8 :: x9 :: some (.int v') :: L) st w c k) : Go G R cc own Y C Q pc (x0 :: x1 :: x2 :: x3 :: x4 :: x5 :: x6 :: x7 :: x8 :: x9 :: some (.int v) :: L) st w c k := by
  obtain ⟨p, e, s, m, args, below, meth, cd⟩ := C
  intro O H ls locs hR hS hL
  obtain ⟨j, hj⟩ := List.getElem?_of_mem (lvL_mem (L := x0 :: x1 :: x2 :: x3 :: x4 :: x5 :: x6 :: x7 :: x8 :: x9 :: some (.int v) :: L) (i := 10) (v := .int v) rfl (Or.inl rfl))
  exact lv_iinc O.1 O.2.1 d hL.has hj hv (Nat.lt_of_lt_of_le (by simp) hL.2.2.1) rfl (fun ls' hl' => h O H ls' locs hR hS (hL.set (i := 10) rfl hl'))
theorem g_iload11 {x0 x1 x2 x3 x4 x5 x6 x7 x8 x9 x10 : Option Value} {v : Int32} (d : decode cc pc = .ok (.iload 11, 2)) (h : Go G R cc own Y C Q (pc + 2) (x0 :: x1 :: x2 :: x3 :: x4 :: x5 :: x6 :: x7 :: x8 :: x9 :: x10 :: some (.int v) :: L) (.int v :: st) w c k) : Go G R cc own Y C Q pc (x0 :: x1 :: x2 :: x3 :: x4 :: x5 :: x6 :: x7 :: x8 :: x9 :: x10 :: some (.int v) :: L) st w c k := by
  obtain ⟨p, e, s, m, args, below, meth, cd⟩ := C
  intro O H ls locs hR hS hL
  exact lv_iload O.1 O.2.1 d (hL.at (i := 11) rfl rfl) (h O H ls locs hR hS hL)
theorem g_istore11 {x0 x1 x2 x3 x4 x5 x6 x7 x8 x9 x10 : Option Value} {y : Option Value} {v : Int32} (d : decode cc pc = .ok (.istore 11, 2)) (h : Go G R cc own Y C Q (pc + 2) (x0 :: x1 :: x2 :: x3 :: x4 :: x5 :: x6 :: x7 :: x8 :: x9 :: x10 :: some (.int v) :: L) st w c k) : Go G R cc own Y C Q pc (x0 :: x1 :: x2 :: x3 :: x4 :: x5 :: x6 :: x7 :: x8 :: x9 :: x10 :: y :: L) (.int v :: st) w c k := by
  obtain ⟨p, e, s, m, args, below, meth, cd⟩ := C
  intro O H ls locs hR hS hL
  exact lv_istore O.1 O.2.1 d hL.has (Nat.lt_of_lt_of_le (by simp) hL.2.2.1) rfl (fun ls' hl' => h O H ls' locs hR hS (hL.set (i := 11) rfl hl'))
theorem g_aload11 {x0 x1 x2 x3 x4 x5 x6 x7 x8 x9 x10 : Option Value} {v : Nat} (d : decode cc pc = .ok (.aload 11, 2)) (h : Go G R cc own Y C Q (pc + 2) (x0 :: x1 :: x2 :: x3 :: x4 :: x5 :: x6 :: x7 :: x8 :: x9 :: x10 :: some (.ref v) :: L) (.ref v :: st) w c k) : Go G R cc own Y C Q pc (x0 :: x1 :: x2 :: x3 :: x4 :: x5 :: x6 :: x7 :: x8 :: x9 :: x10 :: some (.ref v) :: L) st w c k := by
  obtain ⟨p, e, s, m, args, below, meth, cd⟩ := C
  intro O H ls locs hR hS hL
  exact lv_aload O.1 O.2.1 d (hL.at (i := 11) rfl rfl) (h O H ls locs hR hS hL)
theorem g_astore11 {x0 x1 x2 x3 x4 x5 x6 x7 x8 x9 x10 : Option Value} {y : Option Value} {v : Nat} (d : decode cc pc = .ok (.astore 11, 2)) (h : Go G R cc own Y C Q (pc + 2) (x0 :: x1 :: x2 :: x3 :: x4 :: x5 :: x6 :: x7 :: x8 :: x9 :: x10 :: some (.ref v) :: L) st w c k) : Go G R cc own Y C Q pc (x0 :: x1 :: x2 :: x3 :: x4 :: x5 :: x6 :: x7 :: x8 :: x9 :: x10 :: y :: L) (.ref v :: st) w c k := by
  obtain ⟨p, e, s, m, args, below, meth, cd⟩ := C
  intro O H ls locs hR hS hL
  exact lv_astore O.1 O.2.1 d hL.has (Nat.lt_of_lt_of_le (by simp) hL.2.2.1) rfl (fun ls' hl' => h O H ls' locs hR hS (hL.set (i := 11) rfl hl'))
theorem g_iinc11 {x0 x1 x2 x3 x4 x5 x6 x7 x8 x9 x10 : Option Value} {v v' : Int32} {n : Int} (d : decode cc pc = .ok (.iinc 11 n, 3)) (hv : v + Int32.ofInt n = v') (h : Go G R cc own Y C Q (pc + 3) (x0 :: x1 :: x2 :: x3 :: x4 :: x5 :: x6 :: x7 :: x8 :: x9 :: x10 :: some (.int v') :: L) st w c k) : Go G R cc own Y C Q pc (x0 :: x1 :: x2 :: x3 :: x4 :: x5 :: x6 :: x7 :: x8 :: x9 :: x10 :: some (.int v) :: L) st w c k := by
  obtain ⟨p, e, s, m, args, below, meth, cd⟩ := C
  intro O H ls locs hR hS hL
  obtain ⟨j, hj⟩ := List.getElem?_of_mem (lvL_mem (L := x0 :: x1 :: x2 :: x3 :: x4 :: x5 :: x6 :: x7 :: x8 :: x9 :: x10 :: some (.int v) :: L) (i := 11) (v := .int v) rfl (Or.inl rfl))
  exact lv_iinc O.1 O.2.1 d hL.has hj hv (Nat.lt_of_lt_of_le (by simp) hL.2.2.1) rfl (fun ls' hl' => h O H ls' locs hR hS (hL.set (i := 11) rfl hl'))
theorem g_iload12 {x0 x1 x2 x3 x4 x5 x6 x7 x8 x9 x10 x11 : Option Value} {v : Int32} (d : decode cc pc = .ok (.iload 12, 2)) (h : Go G R cc own Y C Q (pc + 2) (x0 :: x1 :: x2 :: x3 :: x4 :: x5 :: x6 :: x7 :: x8 :: x9 :: x10 :: x11 :: some (.int v) :: L) (.int v :: st) w c k) : Go G R cc own Y C Q pc (x0 :: x1 :: x2 :: x3 :: x4 :: x5 :: x6 :: x7 :: x8 :: x9 :: x10 :: x11 :: some (.int v) :: L) st w c k := by
  obtain ⟨p, e, s, m, args, below, meth, cd⟩ := C
  intro O H ls locs hR hS hL
  exact lv_iload O.1 O.2.1 d (hL.at (i := 12) rfl rfl) (h O H ls locs hR hS hL)
theorem g_istore12 {x0 x1 x2 x3 x4 x5 x6 x7 x8 x9 x10 x11 : Option Value} {y : Option Value} {v : Int32} (d : decode cc pc = .ok (.istore 12, 2)) (h : Go G R cc own Y C Q (pc + 2) (x0 :: x1 :: x2 :: x3 :: x4 :: x5 :: x6 :: x7 :: x8 :: x9 :: x10 :: x11 :: some (.int v) :: L) st w c k) : Go G R cc own Y C Q pc (x0 :: x1 :: x2 :: x3 :: x4 :: x5 :: x6 :: x7 :: x8 :: x9 :: x10 :: x11 :: y :: L) (.int v :: st) w c k := by
  obtain ⟨p, e, s, m, args, below, meth, cd⟩ := C
  intro O H ls locs hR hS hL
  exact lv_istore O.1 O.2.1 d hL.has (Nat.lt_of_lt_of_le (by simp) hL.2.2.1) rfl (fun ls' hl' => h O H ls' locs hR hS (hL.set (i := 12) rfl hl'))
theorem g_aload12 {x0 x1 x2 x3 x4 x5 x6 x7 x8 x9 x10 x11 : Option Value} {v : Nat} (d : decode cc pc = .ok (.aload 12, 2)) (h : Go G R cc own Y C Q (pc + 2) (x0 :: x1 :: x2 :: x3 :: x4 :: x5 :: x6 :: x7 :: x8 :: x9 :: x10 :: x11 :: some (.ref v) :: L) (.ref v :: st) w c k) : Go G R cc own Y C Q pc (x0 :: x1 :: x2 :: x3 :: x4 :: x5 :: x6 :: x7 :: x8 :: x9 :: x10 :: x11 :: some (.ref v) :: L) st w c k := by
  obtain ⟨p, e, s, m, args, below, meth, cd⟩ := C
  intro O H ls locs hR hS hL
  exact lv_aload O.1 O.2.1 d (hL.at (i := 12) rfl rfl) (h O H ls locs hR hS hL)
theorem g_astore12 {x0 x1 x2 x3 x4 x5 x6 x7 x8 x9 x10 x11 : Option Value} {y : Option Value} {v : Nat} (d : decode cc pc = .ok (.astore 12, 2)) (h : Go G R cc own Y C Q (pc + 2) (x0 :: x1 :: x2 :: x3 :: x4 :: x5 :: x6 :: x7 :: x8 :: x9 :: x10 :: x11 :: some (.ref v) :: L) st w c k) : Go G R cc own Y C Q pc (x0 :: x1 :: x2 :: x3 :: x4 :: x5 :: x6 :: x7 :: x8 :: x9 :: x10 :: x11 :: y :: L) (.ref v :: st) w c k := by
  obtain ⟨p, e, s, m, args, below, meth, cd⟩ := C
  intro O H ls locs hR hS hL
  exact lv_astore O.1 O.2.1 d hL.has (Nat.lt_of_lt_of_le (by simp) hL.2.2.1) rfl (fun ls' hl' => h O H ls' locs hR hS (hL.set (i := 12) rfl hl'))
theorem g_iinc12 {x0 x1 x2 x3 x4 x5 x6 x7 x8 x9 x10 x11 : Option Value} {v v' : Int32} {n : Int} (d : decode cc pc = .ok (.iinc 12 n, 3)) (hv : v + Int32.ofInt n = v') (h : Go G R cc own Y C Q (pc + 3) (x0 :: x1 :: x2 :: x3 :: x4 :: x5 :: x6 :: x7 :: x8 :: x9 :: x10 :: x11 :: some (.int v') :: L) st w c k) : Go G R cc own Y C Q pc (x0 :: x1 :: x2 :: x3 :: x4 :: x5 :: x6 :: x7 :: x8 :: x9 :: x10 :: x11 :: some (.int v) :: L) st w c k := by
  obtain ⟨p, e, s, m, args, below, meth, cd⟩ := C
  intro O H ls locs hR hS hL
  obtain ⟨j, hj⟩ := List.getElem?_of_mem (lvL_mem (L := x0 :: x1 :: x2 :: x3 :: x4 :: x5 :: x6 :: x7 :: x8 :: x9 :: x10 :: x11 :: some (.int v) :: L) (i := 12) (v := .int v) rfl (Or.inl rfl))
  exact lv_iinc O.1 O.2.1 d hL.has hj hv (Nat.lt_of_lt_of_le (by simp) hL.2.2.1) rfl (fun ls' hl' => h O H ls' locs hR hS (hL.set (i := 12) rfl hl'))
theorem g_iload13 {x0 x1 x2 x3 x4 x5 x6 x7 x8 x9 x10 x11 x12 : Option Value} {v : Int32} (d : decode cc pc = .ok (.iload 13, 2)) (h : Go G R cc own Y C Q (pc + 2) (x0 :: x1 :: x2 :: x3 :: x4 :: x5 :: x6 :: x7 :: x8 :: x9 :: x10 :: x11 :: x12 :: some (.int v) :: L) (.int v :: st) w c k) : Go G R cc own Y C Q pc (x0 :: x1 :: x2 :: x3 :: x4 :: x5 :: x6 :: x7 :: x8 :: x9 :: x10 :: x11 :: x12 :: some (.int v) :: L) st w c k := by
  obtain ⟨p, e, s, m, args, below, meth, cd⟩ := C
  intro O H ls locs hR hS hL
  exact lv_iload O.1 O.2.1 d (hL.at (i := 13) rfl rfl) (h O H ls locs hR hS hL)
theorem g_istore13 {x0 x1 x2 x3 x4 x5 x6 x7 x8 x9 x10 x11 x12 : Option Value} {y : Option Value} {v : Int32} (d : decode cc pc = .ok (.istore 13, 2)) (h : Go G R cc own Y C Q (pc + 2) (x0 :: x1 :: x2 :: x3 :: x4 :: x5 :: x6 :: x7 :: x8 :: x9 :: x10 :: x11 :: x12 :: some (.int v) :: L) st w c k) : Go G R cc own Y C Q pc (x0 :: x1 :: x2 :: x3 :: x4 :: x5 :: x6 :: x7 :: x8 :: x9 :: x10 :: x11 :: x12 :: y :: L) (.int v :: st) w c k := by
  obtain ⟨p, e, s, m, args, below, meth, cd⟩ := C
  intro O H ls locs hR hS hL
  exact lv_istore O.1 O.2.1 d hL.has (Nat.lt_of_lt_of_le (by simp) hL.2.2.1) rfl (fun ls' hl' => h O H ls' locs hR hS (hL.set (i := 13) rfl hl'))
theorem g_aload13 {x0 x1 x2 x3 x4 x5 x6 x7 x8 x9 x10 x11 x12 : Option Value} {v : Nat} (d : decode cc pc = .ok (.aload 13, 2)) (h : Go G R cc own Y C Q (pc + 2) (x0 :: x1 :: x2 :: x3 :: x4 :: x5 :: x6 :: x7 :: x8 :: x9 :: x10 :: x11 :: x12 :: some (.ref v) :: L) (.ref v :: st) w c k) : Go G R cc own Y C Q pc (x0 :: x1 :: x2 :: x3 :: x4 :: x5 :: x6 :: x7 :: x8 :: x9 :: x10 :: x11 :: x12 :: some (.ref v) :: L) st w c k := by
  obtain ⟨p, e, s, m, args, below, meth, cd⟩ := C
  intro O H ls locs hR hS hL
  exact lv_aload O.1 O.2.1 d (hL.at (i := 13) rfl rfl) (h O H ls locs hR hS hL)
theorem g_astore13 {x0 x1 x2 x3 x4 x5 x6 x7 x8 x9 x10 x11 x12 : Option Value} {y : Option Value} {v : Nat} (d : decode cc pc = .ok (.astore 13, 2)) (h : Go G R cc own Y C Q (pc + 2) (x0 :: x1 :: x2 :: x3 :: x4 :: x5 :: x6 :: x7 :: x8 :: x9 :: x10 :: x11 :: x12 :: some (.ref v) :: L) st w c k) : Go G R cc own Y C Q pc (x0 :: x1 :: x2 :: x3 :: x4 :: x5 :: x6 :: x7 :: x8 :: x9 :: x10 :: x11 :: x12 :: y :: L) (.ref v :: st) w c k := by
  obtain ⟨p, e, s, m, args, below, meth, cd⟩ := C
  intro O H ls locs hR hS hL
  exact lv_astore O.1 O.2.1 d hL.has (Nat.lt_of_lt_of_le (by simp) hL.2.2.1) rfl (fun ls' hl' => h O H ls' locs hR hS (hL.set (i := 13) rfl hl'))
theorem g_iinc13 {x0 x1 x2 x3 x4 x5 x6 x7 x8 x9 x10 x11 x12 : Option Value} {v v' : Int32} {n : Int} (d : decode cc pc = .ok (.iinc 13 n, 3)) (hv : v + Int32.ofInt n = v') (h : Go G R cc own Y C Q (pc + 3) (x0 :: x1 :: x2 :: x3 :: x4 :: x5 :: x6 :: x7 :: x8 :: x9 :: x10 :: x11 :: x12 :: some (.int v') :: L) st w c k) : Go G R cc own Y C Q pc (x0 :: x1 :: x2 :: x3 :: x4 :: x5 :: x6 :: x7 :: x8 :: x9 :: x10 :: x11 :: x12 :: some (.int v) :: L) st w c k := by
  obtain ⟨p, e, s, m, args, below, meth, cd⟩ := C
  intro O H ls locs hR hS hL
  obtain ⟨j, hj⟩ := List.getElem?_of_mem (lvL_mem (L := x0 :: x1 :: x2 :: x3 :: x4 :: x5 :: x6 :: x7 :: x8 :: x9 :: x10 :: x11 :: x12 :: some (.int v) :: L) (i := 13) (v := .int v) rfl (Or.inl rfl))
  exact lv_iinc O.1 O.2.1 d hL.has hj hv (Nat.lt_of_lt_of_le (by simp) hL.2.2.1) rfl (fun ls' hl' => h O H ls' locs hR hS (hL.set (i := 13) rfl hl'))
theorem g_iload14 {x0 x1 x2 x3 x4 x5 x6 x7 x8 x9 x10 x11 x12 x13 : Option Value} {v : Int32} (d : decode cc pc = .ok (.iload 14, 2)) (h : Go G R cc own Y C Q (pc + 2) (x0 :: x1 :: x2 :: x3 :: x4 :: x5 :: x6 :: x7 :: x8 :: x9 :: x10 :: x11 :: x12 :: x13 :: some (.int v) :: L) (.int v :: st) w c k) : Go G R cc own Y C Q pc (x0 :: x1 :: x2 :: x3 :: x4 :: x5 :: x6 :: x7 :: x8 :: x9 :: x10 :: x11 :: x12 :: x13 :: some (.int v) :: L) st w c k := by
  obtain ⟨p, e, s, m, args, below, meth, cd⟩ := C
  intro O H ls locs hR hS hL
  exact lv_iload O.1 O.2.1 d (hL.at (i := 14) rfl rfl) (h O H ls locs hR hS hL)
theorem g_istore14 {x0 x1 x2 x3 x4 x5 x6 x7 x8 x9 x10 x11 x12 x13 : Option Value} {y : Option Value} {v : Int32} (d : decode cc pc = .ok (.istore 14, 2)) (h : Go G R cc own Y C Q (pc + 2) (x0 :: x1 :: x2 :: x3 :: x4 :: x5 :: x6 :: x7 :: x8 :: x9 :: x10 :: x11 :: x12 :: x13 :: some (.int v) :: L) st w c k) : Go G R cc own Y C Q pc (x0 :: x1 :: x2 :: x3 :: x4 :: x5 :: x6 :: x7 :: x8 :: x9 :: x10 :: x11 :: x12 :: x13 :: y :: L) (.int v :: st) w c k := by
  obtain ⟨p, e, s, m, args, below, meth, cd⟩ := C
  intro O H ls locs hR hS hL
  exact lv_istore O.1 O.2.1 d hL.has (Nat.lt_of_lt_of_le (by simp) hL.2.2.1) rfl (fun ls' hl' => h O H ls' locs hR hS (hL.set (i := 14) rfl hl'))
theorem g_aload14 {x0 x1 x2 x3 x4 x5 x6 x7 x8 x9 x10 x11 x12 x13 : Option Value} {v : Nat} (d : decode cc pc = .ok (.aload 14, 2)) (h : Go G R cc own Y C Q (pc + 2) (x0 :: x1 :: x2 :: x3 :: x4 :: x5 :: x6 :: x7 :: x8 :: x9 :: x10 :: x11 :: x12 :: x13 :: some (.ref v) :: L) (.ref v :: st) w c k) : Go G R cc own Y C Q pc (x0 :: x1 :: x2 :: x3 :: x4 :: x5 :: x6 :: x7 :: x8 :: x9 :: x10 :: x11 :: x12 :: x13 :: some (.ref v) :: L) st w c k := by
  obtain ⟨p, e, s, m, args, below, meth, cd⟩ := C
  intro O H ls locs hR hS hL
  exact lv_aload O.1 O.2.1 d (hL.at (i := 14) rfl rfl) (h O H ls locs hR hS hL)
theorem g_astore14 {x0 x1 x2 x3 x4 x5 x6 x7 x8 x9 x10 x11 x12 x13 : Option Value} {y : Option Value} {v : Nat} (d : decode cc pc = .ok (.astore 14, 2)) (h : Go G R cc own Y C Q (pc + 2) (x0 :: x1 :: x2 :: x3 :: x4 :: x5 :: x6 :: x7 :: x8 :: x9 :: x10 :: x11 :: x12 :: x13 :: some (.ref v) :: L) st w c k) : Go G R cc own Y C Q pc (x0 :: x1 :: x2 :: x3 :: x4 :: x5 :: x6 :: x7 :: x8 :: x9 :: x10 :: x11 :: x12 :: x13 :: y :: L) (.ref v :: st) w c k := by
  obtain ⟨p, e, s, m, args, below, meth, cd⟩ := C
  intro O H ls locs hR hS hL
  exact lv_astore O.1 O.2.1 d hL.has (Nat.lt_of_lt_of_le (by simp) hL.2.2.1) rfl (fun ls' hl' => h O H ls' locs hR hS (hL.set (i := 14) rfl hl'))
theorem g_iinc14 {x0 x1 x2 x3 x4 x5 x6 x7 x8 x9 x10 x11 x12 x13 : Option Value} {v v' : Int32} {n : Int} (d : decode cc pc = .ok (.iinc 14 n, 3)) (hv : v + Int32.ofInt n = v') (h : Go G R cc own Y C Q (pc + 3) (x0 :: x1 :: x2 :: x3 :: x4 :: x5 :: x6 :: x7 :: x8 :: x9 :: x10 :: x11 :: x12 :: x13 :: some (.int v') :: L) st w c k) : Go G R cc own Y C Q pc (x0 :: x1 :: x2 :: x3 :: x4 :: x5 :: x6 :: x7 :: x8 :: x9 :: x10 :: x11 :: x12 :: x13 :: some (.int v) :: L) st w c k := by
  obtain ⟨p, e, s, m, args, below, meth, cd⟩ := C
  intro O H ls locs hR hS hL
  obtain ⟨j, hj⟩ := List.getElem?_of_mem (lvL_mem (L := x0 :: x1 :: x2 :: x3 :: x4 :: x5 :: x6 :: x7 :: x8 :: x9 :: x10 :: x11 :: x12 :: x13 :: some (.int v) :: L) (i := 14) (v := .int v) rfl (Or.inl rfl))
  exact lv_iinc O.1 O.2.1 d hL.has hj hv (Nat.lt_of_lt_of_le (by simp) hL.2.2.1) rfl (fun ls' hl' => h O H ls' locs hR hS (hL.set (i := 14) rfl hl'))
theorem g_iload15 {x0 x1 x2 x3 x4 x5 x6 x7 x8 x9 x10 x11 x12 x13 x14 : Option Value} {v : Int32} (d : decode cc pc = .ok (.iload 15, 2)) (h : Go G R cc own Y C Q (pc + 2) (x0 :: x1 :: x2 :: x3 :: x4 :: x5 :: x6 :: x7 :: x8 :: x9 :: x10 :: x11 :: x12 :: x13 :: x14 :: some (.int v) :: L) (.int v :: st) w c k) : Go G R cc own Y C Q pc (x0 :: x1 :: x2 :: x3 :: x4 :: x5 :: x6 :: x7 :: x8 :: x9 :: x10 :: x11 :: x12 :: x13 :: x14 :: some (.int v) :: L) st w c k := by
  obtain ⟨p, e, s, m, args, below, meth, cd⟩ := C
  intro O H ls locs hR hS hL
  exact lv_iload O.1 O.2.1 d (hL.at (i := 15) rfl rfl) (h O H ls locs hR hS hL)
theorem g_istore15 {x0 x1 x2 x3 x4 x5 x6 x7 x8 x9 x10 x11 x12 x13 x14 : Option Value} {y : Option Value} {v : Int32} (d : decode cc pc = .ok (.istore 15, 2)) (h : Go G R cc own Y C Q (pc + 2) (x0 :: x1 :: x2 :: x3 :: x4 :: x5 :: x6 :: x7 :: x8 :: x9 :: x10 :: x11 :: x12 :: x13 :: x14 :: some (.int v) :: L) st w c k) : Go G R cc own Y C Q pc (x0 :: x1 :: x2 :: x3 :: x4 :: x5 :: x6 :: x7 :: x8 :: x9 :: x10 :: x11 :: x12 :: x13 :: x14 :: y :: L) (.int v :: st) w c k := by
  obtain ⟨p, e, s, m, args, below, meth, cd⟩ := C
  intro O H ls locs hR hS hL
  exact lv_istore O.1 O.2.1 d hL.has (Nat.lt_of_lt_of_le (by simp) hL.2.2.1) rfl (fun ls' hl' => h O H ls' locs hR hS (hL.set (i := 15) rfl hl'))
theorem g_aload15 {x0 x1 x2 x3 x4 x5 x6 x7 x8 x9 x10 x11 x12 x13 x14 : Option Value} {v : Nat} (d : decode cc pc = .ok (.aload 15, 2)) (h : Go G R cc own Y C Q (pc + 2) (x0 :: x1 :: x2 :: x3 :: x4 :: x5 :: x6 :: x7 :: x8 :: x9 :: x10 :: x11 :: x12 :: x13 :: x14 :: some (.ref v) :: L) (.ref v :: st) w c k) : Go G R cc own Y C Q pc (x0 :: x1 :: x2 :: x3 :: x4 :: x5 :: x6 :: x7 :: x8 :: x9 :: x10 :: x11 :: x12 :: x13 :: x14 :: some (.ref v) :: L) st w c k := by
  obtain ⟨p, e, s, m, args, below, meth, cd⟩ := C
  intro O H ls locs hR hS hL
  exact lv_aload O.1 O.2.1 d (hL.at (i := 15) rfl rfl) (h O H ls locs hR hS hL)
theorem g_astore15 {x0 x1 x2 x3 x4 x5 x6 x7 x8 x9 x10 x11 x12 x13 x14 : Option Value} {y : Option Value} {v : Nat} (d : decode cc pc = .ok (.astore 15, 2)) (h : Go G R cc own Y C Q (pc + 2) (x0 :: x1 :: x2 :: x3 :: x4 :: x5 :: x6 :: x7 :: x8 :: x9 :: x10 :: x11 :: x12 :: x13 :: x14 :: some (.ref v) :: L) st w c k) : Go G R cc own Y C Q pc (x0 :: x1 :: x2 :: x3 :: x4 :: x5 :: x6 :: x7 :: x8 :: x9 :: x10 :: x11 :: x12 :: x13 :: x14 :: y :: L) (.ref v :: st) w c k := by
  obtain ⟨p, e, s, m, args, below, meth, cd⟩ := C
  intro O H ls locs hR hS hL
  exact lv_astore O.1 O.2.1 d hL.has (Nat.lt_of_lt_of_le (by simp) hL.2.2.1) rfl (fun ls' hl' => h O H ls' locs hR hS (hL.set (i := 15) rfl hl'))
theorem g_iinc15 {x0 x1 x2 x3 x4 x5 x6 x7 x8 x9 x10 x11 x12 x13 x14 : Option Value} {v v' : Int32} {n : Int} (d : decode cc pc = .ok (.iinc 15 n, 3)) (hv : v + Int32.ofInt n = v') (h : Go G R cc own Y C Q (pc + 3) (x0 :: x1 :: x2 :: x3 :: x4 :: x5 :: x6 :: x7 :: x8 :: x9 :: x10 :: x11 :: x12 :: x13 :: x14 :: some (.int v') :: L) st w c k) : Go G R cc own Y C Q pc (x0 :: x1 :: x2 :: x3 :: x4 :: x5 :: x6 :: x7 :: x8 :: x9 :: x10 :: x11 :: x12 :: x13 :: x14 :: some (.int v) :: L) st w c k := by
  obtain ⟨p, e, s, m, args, below, meth, cd⟩ := C
  intro O H ls locs hR hS hL
  obtain ⟨j, hj⟩ := List.getElem?_of_mem (lvL_mem (L := x0 :: x1 :: x2 :: x3 :: x4 :: x5 :: x6 :: x7 :: x8 :: x9 :: x10 :: x11 :: x12 :: x13 :: x14 :: some (.int v) :: L) (i := 15) (v := .int v) rfl (Or.inl rfl))
  exact lv_iinc O.1 O.2.1 d hL.has hj hv (Nat.lt_of_lt_of_le (by simp) hL.2.2.1) rfl (fun ls' hl' => h O H ls' locs hR hS (hL.set (i := 15) rfl hl'))
theorem g_iload16 {x0 x1 x2 x3 x4 x5 x6 x7 x8 x9 x10 x11 x12 x13 x14 x15 : Option Value} {v : Int32} (d : decode cc pc = .ok (.iload 16, 2)) (h : Go G R cc own Y C Q (pc + 2) (x0 :: x1 :: x2 :: x3 :: x4 :: x5 :: x6 :: x7 :: x8 :: x9 :: x10 :: x11 :: x12 :: x13 :: x14 :: x15 :: some (.int v) :: L) (.int v :: st) w c k) : Go G R cc own Y C Q pc (x0 :: x1 :: x2 :: x3 :: x4 :: x5 :: x6 :: x7 :: x8 :: x9 :: x10 :: x11 :: x12 :: x13 :: x14 :: x15 :: some (.int v) :: L) st w c k := by
  obtain ⟨p, e, s, m, args, below, meth, cd⟩ := C
  intro O H ls locs hR hS hL
  exact lv_iload O.1 O.2.1 d (hL.at (i := 16) rfl rfl) (h O H ls locs hR hS hL)
theorem g_istore16 {x0 x1 x2 x3 x4 x5 x6 x7 x8 x9 x10 x11 x12 x13 x14 x15 : Option Value} {y : Option Value} {v : Int32} (d : decode cc pc = .ok (.istore 16, 2)) (h : Go G R cc own Y C Q (pc + 2) (x0 :: x1 :: x2 :: x3 :: x4 :: x5 :: x6 :: x7 :: x8 :: x9 :: x10 :: x11 :: x12 :: x13 :: x14 :: x15 :: some (.int v) :: L) st w c k) : Go G R cc own Y C Q pc (x0 :: x1 :: x2 :: x3 :: x4 :: x5 :: x6 :: x7 :: x8 :: x9 :: x10 :: x11 :: x12 :: x13 :: x14 :: x15 :: y :: L) (.int v :: st) w c k := by
  obtain ⟨p, e, s, m, args, below, meth, cd⟩ := C
  intro O H ls locs hR hS hL
  exact lv_istore O.1 O.2.1 d hL.has (Nat.lt_of_lt_of_le (by simp) hL.2.2.1) rfl (fun ls' hl' => h O H ls' locs hR hS (hL.set (i := 16) rfl hl'))
theorem g_aload16 {x0 x1 x2 x3 x4 x5 x6 x7 x8 x9 x10 x11 x12 x13 x14 x15 : Option Value} {v : Nat} (d : decode cc pc = .ok (.aload 16, 2)) (h : Go G R cc own Y C Q (pc + 2) (x0 :: x1 :: x2 :: x3 :: x4 :: x5 :: x6 :: x7 :: x8 :: x9 :: x10 :: x11 :: x12 :: x13 :: x14 :: x15 :: some (.ref v) :: L) (.ref v :: st) w c k) : Go G R cc own Y C Q pc (x0 :: x1 :: x2 :: x3 :: x4 :: x5 :: x6 :: x7 :: x8 :: x9 :: x10 :: x11 :: x12 :: x13 :: x14 :: x15 :: some (.ref v) :: L) st w c k := by
  obtain ⟨p, e, s, m, args, below, meth, cd⟩ := C
  intro O H ls locs hR hS hL
  exact lv_aload O.1 O.2.1 d (hL.at (i := 16) rfl rfl) (h O H ls locs hR hS hL)
theorem g_astore16 {x0 x1 x2 x3 x4 x5 x6 x7 x8 x9 x10 x11 x12 x13 x14 x15 : Option Value} {y : Option Value} {v : Nat} (d : decode cc pc = .ok (.astore 16, 2)) (h : Go G R cc own Y C Q (pc + 2) (x0 :: x1 :: x2 :: x3 :: x4 :: x5 :: x6 :: x7 :: x8 :: x9 :: x10 :: x11 :: x12 :: x13 :: x14 :: x15 :: some (.ref v) :: L) st w c k) : Go G R cc own Y C Q pc (x0 :: x1 :: x2 :: x3 :: x4 :: x5 :: x6 :: x7 :: x8 :: x9 :: x10 :: x11 :: x12 :: x13 :: x14 :: x15 :: y :: L) (.ref v :: st) w c k := by
  obtain ⟨p, e, s, m, args, below, meth, cd⟩ := C
  intro O H ls locs hR hS hL
  exact lv_astore O.1 O.2.1 d hL.has (Nat.lt_of_lt_of_le (by simp) hL.2.2.1) rfl (fun ls' hl' => h O H ls' locs hR hS (hL.set (i := 16) rfl hl'))
theorem g_iinc16 {x0 x1 x2 x3 x4 x5 x6 x7 x8 x9 x10 x11 x12 x13 x14 x15 : Option Value} {v v' : Int32} {n : Int} (d : decode cc pc = .ok (.iinc 16 n, 3)) (hv : v + Int32.ofInt n = v') (h : Go G R cc own Y C Q (pc + 3) (x0 :: x1 :: x2 :: x3 :: x4 :: x5 :: x6 :: x7 :: x8 :: x9 :: x10 :: x11 :: x12 :: x13 :: x14 :: x15 :: some (.int v') :: L) st w c k) : Go G R cc own Y C Q pc (x0 :: x1 :: x2 :: x3 :: x4 :: x5 :: x6 :: x7 :: x8 :: x9 :: x10 :: x11 :: x12 :: x13 :: x14 :: x15 :: some (.int v) :: L) st w c k := by
  obtain ⟨p, e, s, m, args, below, meth, cd⟩ := C
  intro O H ls locs hR hS hL
  obtain ⟨j, hj⟩ := List.getElem?_of_mem (lvL_mem (L := x0 :: x1 :: x2 :: x3 :: x4 :: x5 :: x6 :: x7 :: x8 :: x9 :: x10 :: x11 :: x12 :: x13 :: x14 :: x15 :: some (.int v) :: L) (i := 16) (v := .int v) rfl (Or.inl rfl))
  exact lv_iinc O.1 O.2.1 d hL.has hj hv (Nat.lt_of_lt_of_le (by simp) hL.2.2.1) rfl (fun ls' hl' => h O H ls' locs hR hS (hL.set (i := 16) rfl hl'))
theorem g_iload17 {x0 x1 x2 x3 x4 x5 x6 x7 x8 x9 x10 x11 x12 x13 x14 x15 x16 : Option Value} {v : Int32} (d : decode cc pc = .ok (.iload 17, 2)) (h : Go G R cc own Y C Q (pc + 2) (x0 :: x1 :: x2 :: x3 :: x4 :: x5 :: x6 :: x7 :: x8 :: x9 :: x10 :: x11 :: x12 :: x13 :: x14 :: x15 :: x16 :: some (.int v) :: L) (.int v :: st) w c k) : Go G R cc own Y C Q pc (x0 :: x1 :: x2 :: x3 :: x4 :: x5 :: x6 :: x7 :: x8 :: x9 :: x10 :: x11 :: x12 :: x13 :: x14 :: x15 :: x16 :: some (.int v) :: L) st w c k := by
  obtain ⟨p, e, s, m, args, below, meth, cd⟩ := C
  intro O H ls locs hR hS hL
  exact lv_iload O.1 O.2.1 d (hL.at (i := 17) rfl rfl) (h O H ls locs hR hS hL)
theorem g_istore17 {x0 x1 x2 x3 x4 x5 x6 x7 x8 x9 x10 x11 x12 x13 x14 x15 x16 : Option Value} {y : Option Value} {v : Int32} (d : decode cc pc = .ok (.istore 17, 2)) (h : Go G R cc own Y C Q (pc + 2) (x0 :: x1 :: x2 :: x3 :: x4 :: x5 :: x6 :: x7 :: x8 :: x9 :: x10 :: x11 :: x12 :: x13 :: x14 :: x15 :: x16 :: some (.int v) :: L) st w c k) : Go G R cc own Y C Q pc (x0 :: x1 :: x2 :: x3 :: x4 :: x5 :: x6 :: x7 :: x8 :: x9 :: x10 :: x11 :: x12 :: x13 :: x14 :: x15 :: x16 :: y :: L) (.int v :: st) w c k := by
  obtain ⟨p, e, s, m, args, below, meth, cd⟩ := C
  intro O H ls locs hR hS hL
  exact lv_istore O.1 O.2.1 d hL.has (Nat.lt_of_lt_of_le (by simp) hL.2.2.1) rfl (fun ls' hl' => h O H ls' locs hR hS (hL.set (i := 17) rfl hl'))
theorem g_aload17 {x0 x1 x2 x3 x4 x5 x6 x7 x8 x9 x10 x11 x12 x13 x14 x15 x16 : Option Value} {v : Nat} (d : decode cc pc = .ok (.aload 17, 2)) (h : Go G R cc own Y C Q (pc + 2) (x0 :: x1 :: x2 :: x3 :: x4 :: x5 :: x6 :: x7 :: x8 :: x9 :: x10 :: x11 :: x12 :: x13 :: x14 :: x15 :: x16 :: some (.ref v) :: L) (.ref v :: st) w c k) : Go G R cc own Y C Q pc (x0 :: x1 :: x2 :: x3 :: x4 :: x5 :: x6 :: x7 :: x8 :: x9 :: x10 :: x11 :: x12 :: x13 :: x14 :: x15 :: x16 :: some (.ref v) :: L) st w c k := by
  obtain ⟨p, e, s, m, args, below, meth, cd⟩ := C
  intro O H ls locs hR hS hL
  exact lv_aload O.1 O.2.1 d (hL.at (i := 17) rfl rfl) (h O H ls locs hR hS hL)
theorem g_astore17 {x0 x1 x2 x3 x4 x5 x6 x7 x8 x9 x10 x11 x12 x13 x14 x15 x16 : Option Value} {y : Option Value} {v : Nat} (d : decode cc pc = .ok (.astore 17, 2)) (h : Go G R cc own Y C Q (pc + 2) (x0 :: x1 :: x2 :: x3 :: x4 :: x5 :: x6 :: x7 :: x8 :: x9 :: x10 :: x11 :: x12 :: x13 :: x14 :: x15 :: x16 :: some (.ref v) :: L) st w c k) : Go G R cc own Y C Q pc (x0 :: x1 :: x2 :: x3 :: x4 :: x5 :: x6 :: x7 :: x8 :: x9 :: x10 :: x11 :: x12 :: x13 :: x14 :: x15 :: x16 :: y :: L) (.ref v :: st) w c k := by
  obtain ⟨p, e, s, m, args, below, meth, cd⟩ := C
  intro O H ls locs hR hS hL
  exact lv_astore O.1 O.2.1 d hL.has (Nat.lt_of_lt_of_le (by simp) hL.2.2.1) rfl (fun ls' hl' => h O H ls' locs hR hS (hL.set (i := 17) rfl hl'))
theorem g_iinc17 {x0 x1 x2 x3 x4 x5 x6 x7 x8 x9 x10 x11 x12 x13 x14 x15 x16 : Option Value} {v v' : Int32} {n : Int} (d : decode cc pc = .ok (.iinc 17 n, 3)) (hv : v + Int32.ofInt n = v') (h : Go G R cc own Y C Q (pc + 3) (x0 :: x1 :: x2 :: x3 :: x4 :: x5 :: x6 :: x7 :: x8 :: x9 :: x10 :: x11 :: x12 :: x13 :: x14 :: x15 :: x16 :: some (.int v') :: L) st w c k) : Go G R cc own Y C Q pc (x0 :: x1 :: x2 :: x3 :: x4 :: x5 :: x6 :: x7 :: x8 :: x9 :: x10 :: x11 :: x12 :: x13 :: x14 :: x15 :: x16 :: some (.int v) :: L) st w c k := by
  obtain ⟨p, e, s, m, args, below, meth, cd⟩ := C
  intro O H ls locs hR hS hL
  obtain ⟨j, hj⟩ := List.getElem?_of_mem (lvL_mem (L := x0 :: x1 :: x2 :: x3 :: x4 :: x5 :: x6 :: x7 :: x8 :: x9 :: x10 :: x11 :: x12 :: x13 :: x14 :: x15 :: x16 :: some (.int v) :: L) (i := 17) (v := .int v) rfl (Or.inl rfl))
  exact lv_iinc O.1 O.2.1 d hL.has hj hv (Nat.lt_of_lt_of_le (by simp) hL.2.2.1) rfl (fun ls' hl' => h O H ls' locs hR hS (hL.set (i := 17) rfl hl'))
theorem g_iload18 {x0 x1 x2 x3 x4 x5 x6 x7 x8 x9 x10 x11 x12 x13 x14 x15 x16 x17 : Option Value} {v : Int32} (d : decode cc pc = .ok (.iload 18, 2)) (h : Go G R cc own Y C Q (pc + 2) (x0 :: x1 :: x2 :: x3 :: x4 :: x5 :: x6 :: x7 :: x8 :: x9 :: x10 :: x11 :: x12 :: x13 :: x14 :: x15 :: x16 :: x17 :: some (.int v) :: L) (.int v :: st) w c k) : Go G R cc own Y C Q pc (x0 :: x1 :: x2 :: x3 :: x4 :: x5 :: x6 :: x7 :: x8 :: x9 :: x10 :: x11 :: x12 :: x13 :: x14 :: x15 :: x16 :: x17 :: some (.int v) :: L) st w c k := by
  obtain ⟨p, e, s, m, args, below, meth, cd⟩ := C
  intro O H ls locs hR hS hL
  exact lv_iload O.1 O.2.1 d (hL.at (i := 18) rfl rfl) (h O H ls locs hR hS hL)
theorem g_istore18 {x0 x1 x2 x3 x4 x5 x6 x7 x8 x9 x10 x11 x12 x13 x14 x15 x16 x17 : Option Value} {y : Option Value} {v : Int32} (d : decode cc pc = .ok (.istore 18, 2)) (h : Go G R cc own Y C Q (pc + 2) (x0 :: x1 :: x2 :: x3 :: x4 :: x5 :: x6 :: x7 :: x8 :: x9 :: x10 :: x11 :: x12 :: x13 :: x14 :: x15 :: x16 :: x17 :: some (.int v) :: L) st w c k) : Go G R cc own Y C Q pc (x0 :: x1 :: x2 :: x3 :: x4 :: x5 :: x6 :: x7 :: x8 :: x9 :: x10 :: x11 :: x12 :: x13 :: x14 :: x15 :: x16 :: x17 :: y :: L) (.int v :: st) w c k := by
  obtain ⟨p, e, s, m, args, below, meth, cd⟩ := C
  intro O H ls locs hR hS hL
  exact lv_istore O.1 O.2.1 d hL.has (Nat.lt_of_lt_of_le (by simp) hL.2.2.1) rfl (fun ls' hl' => h O H ls' locs hR hS (hL.set (i := 18) rfl hl'))
theorem g_aload18 {x0 x1 x2 x3 x4 x5 x6 x7 x8 x9 x10 x11 x12 x13 x14 x15 x16 x17 : Option Value} {v : Nat} (d : decode cc pc = .ok (.aload 18, 2)) (h : Go G R cc own Y C Q (pc + 2) (x0 :: x1 :: x2 :: x3 :: x4 :: x5 :: x6 :: x7 :: x8 :: x9 :: x10 :: x11 :: x12 :: x13 :: x14 :: x15 :: x16 :: x17 :: some (.ref v) :: L) (.ref v :: st) w c k) : Go G R cc own Y C Q pc (x0 :: x1 :: x2 :: x3 :: x4 :: x5 :: x6 :: x7 :: x8 :: x9 :: x10 :: x11 :: x12 :: x13 :: x14 :: x15 :: x16 :: x17 :: some (.ref v) :: L) st w c k := by
  obtain ⟨p, e, s, m, args, below, meth, cd⟩ := C
  intro O H ls locs hR hS hL
  exact lv_aload O.1 O.2.1 d (hL.at (i := 18) rfl rfl) (h O H ls locs hR hS hL)
theorem g_astore18 {x0 x1 x2 x3 x4 x5 x6 x7 x8 x9 x10 x11 x12 x13 x14 x15 x16 x17 : Option Value} {y : Option Value} {v : Nat} (d : decode cc pc = .ok (.astore 18, 2)) (h : Go G R cc own Y C Q (pc + 2) (x0 :: x1 :: x2 :: x3 :: x4 :: x5 :: x6 :: x7 :: x8 :: x9 :: x10 :: x11 :: x12 :: x13 :: x14 :: x15 :: x16 :: x17 :: some (.ref v) :: L) st w c k) : Go G R cc own Y C Q pc (x0 :: x1 :: x2 :: x3 :: x4 :: x5 :: x6 :: x7 :: x8 :: x9 :: x10 :: x11 :: x12 :: x13 :: x14 :: x15 :: x16 :: x17 :: y :: L) (.ref v :: st) w c k := by
  obtain ⟨p, e, s, m, args, below, meth, cd⟩ := C
  intro O H ls locs hR hS hL
  exact lv_astore O.1 O.2.1 d hL.has (Nat.lt_of_lt_of_le (by simp) hL.2.2.1) rfl (fun ls' hl' => h O H ls' locs hR hS (hL.set (i := 18) rfl hl'))
theorem g_iinc18 {x0 x1 x2 x3 x4 x5 x6 x7 x8 x9 x10 x11 x12 x13 x14 x15 x16 x17 : Option Value} {v v' : Int32} {n : Int} (d : decode cc pc = .ok (.iinc 18 n, 3)) (hv : v + Int32.ofInt n = v') (h : Go G R cc own Y C Q (pc + 3) (x0 :: x1 :: x2 :: x3 :: x4 :: x5 :: x6 :: x7 :: x8 :: x9 :: x10 :: x11 :: x12 :: x13 :: x14 :: x15 :: x16 :: x17 :: some (.int v') :: L) st w c k) : Go G R cc own Y C Q pc (x0 :: x1 :: x2 :: x3 :: x4 :: x5 :: x6 :: x7 :: x8 :: x9 :: x10 :: x11 :: x12 :: x13 :: x14 :: x15 :: x16 :: x17 :: some (.int v) :: L) st w c k := by
  obtain ⟨p, e, s, m, args, below, meth, cd⟩ := C
  intro O H ls locs hR hS hL
  obtain ⟨j, hj⟩ := List.getElem?_of_mem (lvL_mem (L := x0 :: x1 :: x2 :: x3 :: x4 :: x5 :: x6 :: x7 :: x8 :: x9 :: x10 :: x11 :: x12 :: x13 :: x14 :: x15 :: x16 :: x17 :: some (.int v) :: L) (i := 18) (v := .int v) rfl (Or.inl rfl))
  exact lv_iinc O.1 O.2.1 d hL.has hj hv (Nat.lt_of_lt_of_le (by simp) hL.2.2.1) rfl (fun ls' hl' => h O H ls' locs hR hS (hL.set (i := 18) rfl hl'))
theorem g_iload19 {x0 x1 x2 x3 x4 x5 x6 x7 x8 x9 x10 x11 x12 x13 x14 x15 x16 x17 x18 : Option Value} {v : Int32} (d : decode cc pc = .ok (.iload 19, 2)) (h : Go G R cc own Y C Q (pc + 2) (x0 :: x1 :: x2 :: x3 :: x4 :: x5 :: x6 :: x7 :: x8 :: x9 :: x10 :: x11 :: x12 :: x13 :: x14 :: x15 :: x16 :: x17 :: x18 :: some (.int v) :: L) (.int v :: st) w c k) : Go G R cc own Y C Q pc (x0 :: x1 :: x2 :: x3 :: x4 :: x5 :: x6 :: x7 :: x8 :: x9 :: x10 :: x11 :: x12 :: x13 :: x14 :: x15 :: x16 :: x17 :: x18 :: some (.int v) :: L) st w c k := by
  obtain ⟨p, e, s, m, args, below, meth, cd⟩ := C
  intro O H ls locs hR hS hL
  exact lv_iload O.1 O.2.1 d (hL.at (i := 19) rfl rfl) (h O H ls locs hR hS hL)
theorem g_istore19 {x0 x1 x2 x3 x4 x5 x6 x7 x8 x9 x10 x11 x12 x13 x14 x15 x16 x17 x18 : Option Value} {y : Option Value} {v : Int32} (d : decode cc pc = .ok (.istore 19, 2)) (h : Go G R cc own Y C Q (pc + 2) (x0 :: x1 :: x2 :: x3 :: x4 :: x5 :: x6 :: x7 :: x8 :: x9 :: x10 :: x11 :: x12 :: x13 :: x14 :: x15 :: x16 :: x17 :: x18 :: some (.int v) :: L) st w c k) : Go G R cc own Y C Q pc (x0 :: x1 :: x2 :: x3 :: x4 :: x5 :: x6 :: x7 :: x8 :: x9 :: x10 :: x11 :: x12 :: x13 :: x14 :: x15 :: x16 :: x17 :: x18 :: y :: L) (.int v :: st) w c k := by
  obtain ⟨p, e, s, m, args, below, meth, cd⟩ := C
  intro O H ls locs hR hS hL
  exact lv_istore O.1 O.2.1 d hL.has (Nat.lt_of_lt_of_le (by simp) hL.2.2.1) rfl (fun ls' hl' => h O H ls' locs hR hS (hL.set (i := 19) rfl hl'))
theorem g_aload19 {x0 x1 x2 x3 x4 x5 x6 x7 x8 x9 x10 x11 x12 x13 x14 x15 x16 x17 x18 : Option Value} {v : Nat} (d : decode cc pc = .ok (.aload 19, 2)) (h : Go G R cc own Y C Q (pc + 2) (x0 :: x1 :: x2 :: x3 :: x4 :: x5 :: x6 :: x7 :: x8 :: x9 :: x10 :: x11 :: x12 :: x13 :: x14 :: x15 :: x16 :: x17 :: x18 :: some (.ref v) :: L) (.ref v :: st) w c k) : Go G R cc own Y C Q pc (x0 :: x1 :: x2 :: x3 :: x4 :: x5 :: x6 :: x7 :: x8 :: x9 :: x10 :: x11 :: x12 :: x13 :: x14 :: x15 :: x16 :: x17 :: x18 :: some (.ref v) :: L) st w c k := by
  obtain ⟨p, e, s, m, args, below, meth, cd⟩ := C
  intro O H ls locs hR hS hL
  exact lv_aload O.1 O.2.1 d (hL.at (i := 19) rfl rfl) (h O H ls locs hR hS hL)
theorem g_astore19 {x0 x1 x2 x3 x4 x5 x6 x7 x8 x9 x10 x11 x12 x13 x14 x15 x16 x17 x18 : Option Value} {y : Option Value} {v : Nat} (d : decode cc pc = .ok (.astore 19, 2)) (h : Go G R cc own Y C Q (pc + 2) (x0 :: x1 :: x2 :: x3 :: x4 :: x5 :: x6 :: x7 :: x8 :: x9 :: x10 :: x11 :: x12 :: x13 :: x14 :: x15 :: x16 :: x17 :: x18 :: some (.ref v) :: L) st w c k) : Go G R cc own Y C Q pc (x0 :: x1 :: x2 :: x3 :: x4 :: x5 :: x6 :: x7 :: x8 :: x9 :: x10 :: x11 :: x12 :: x13 :: x14 :: x15 :: x16 :: x17 :: x18 :: y :: L) (.ref v :: st) w c k := by
  obtain ⟨p, e, s, m, args, below, meth, cd⟩ := C
  intro O H ls locs hR hS hL
  exact lv_astore O.1 O.2.1 d hL.has (Nat.lt_of_lt_of_le (by simp) hL.2.2.1) rfl (fun ls' hl' => h O H ls' locs hR hS (hL.set (i := 19) rfl hl'))
theorem g_iinc19 {x0 x1 x2 x3 x4 x5 x6 x7 x8 x9 x10 x11 x12 x13 x14 x15 x16 x17 x18 : Option Value} {v v' : Int32} {n : Int} (d : decode cc pc = .ok (.iinc 19 n, 3)) (hv : v + Int32.ofInt n = v') (h : Go G R cc own Y C Q (pc + 3) (x0 :: x1 :: x2 :: x3 :: x4 :: x5 :: x6 :: x7 :: x8 :: x9 :: x10 :: x11 :: x12 :: x13 :: x14 :: x15 :: x16 :: x17 :: x18 :: some (.int v') :: L) st w c k) : Go G R cc own Y C Q pc (x0 :: x1 :: x2 :: x3 :: x4 :: x5 :: x6 :: x7 :: x8 :: x9 :: x10 :: x11 :: x12 :: x13 :: x14 :: x15 :: x16 :: x17 :: x18 :: some (.int v) :: L) st w c k := by
  obtain ⟨p, e, s, m, args, below, meth, cd⟩ := C
  intro O H ls locs hR hS hL
  obtain ⟨j, hj⟩ := List.getElem?_of_mem (lvL_mem (L := x0 :: x1 :: x2 :: x3 :: x4 :: x5 :: x6 :: x7 :: x8 :: x9 :: x10 :: x11 :: x12 :: x13 :: x14 :: x15 :: x16 :: x17 :: x18 :: some (.int v) :: L) (i := 19) (v := .int v) rfl (Or.inl rfl))
  exact lv_iinc O.1 O.2.1 d hL.has hj hv (Nat.lt_of_lt_of_le (by simp) hL.2.2.1) rfl (fun ls' hl' => h O H ls' locs hR hS (hL.set (i := 19) rfl hl'))
theorem g_iload20 {x0 x1 x2 x3 x4 x5 x6 x7 x8 x9 x10 x11 x12 x13 x14 x15 x16 x17 x18 x19 : Option Value} {v : Int32} (d : decode cc pc = .ok (.iload 20, 2)) (h : Go G R cc own Y C Q (pc + 2) (x0 :: x1 :: x2 :: x3 :: x4 :: x5 :: x6 :: x7 :: x8 :: x9 :: x10 :: x11 :: x12 :: x13 :: x14 :: x15 :: x16 :: x17 :: x18 :: x19 :: some (.int v) :: L) (.int v :: st) w c k) : Go G R cc own Y C Q pc (x0 :: x1 :: x2 :: x3 :: x4 :: x5 :: x6 :: x7 :: x8 :: x9 :: x10 :: x11 :: x12 :: x13 :: x14 :: x15 :: x16 :: x17 :: x18 :: x19 :: some (.int v) :: L) st w c k := by
  obtain ⟨p, e, s, m, args, below, meth, cd⟩ := C
  intro O H ls locs hR hS hL
  exact lv_iload O.1 O.2.1 d (hL.at (i := 20) rfl rfl) (h O H ls locs hR hS hL)
theorem g_istore20 {x0 x1 x2 x3 x4 x5 x6 x7 x8 x9 x10 x11 x12 x13 x14 x15 x16 x17 x18 x19 : Option Value} {y : Option Value} {v : Int32} (d : decode cc pc = .ok (.istore 20, 2)) (h : Go G R cc own Y C Q (pc + 2) (x0 :: x1 :: x2 :: x3 :: x4 :: x5 :: x6 :: x7 :: x8 :: x9 :: x10 :: x11 :: x12 :: x13 :: x14 :: x15 :: x16 :: x17 :: x18 :: x19 :: some (.int v) :: L) st w c k) : Go G R cc own Y C Q pc (x0 :: x1 :: x2 :: x3 :: x4 :: x5 :: x6 :: x7 :: x8 :: x9 :: x10 :: x11 :: x12 :: x13 :: x14 :: x15 :: x16 :: x17 :: x18 :: x19 :: y :: L) (.int v :: st) w c k := by
  obtain ⟨p, e, s, m, args, below, meth, cd⟩ := C
  intro O H ls locs hR hS hL
  exact lv_istore O.1 O.2.1 d hL.has (Nat.lt_of_lt_of_le (by simp) hL.2.2.1) rfl (fun ls' hl' => h O H ls' locs hR hS (hL.set (i := 20) rfl hl'))
theorem g_aload20 {x0 x1 x2 x3 x4 x5 x6 x7 x8 x9 x10 x11 x12 x13 x14 x15 x16 x17 x18 x19 : Option Value} {v : Nat} (d : decode cc pc = .ok (.aload 20, 2)) (h : Go G R cc own Y C Q (pc + 2) (x0 :: x1 :: x2 :: x3 :: x4 :: x5 :: x6 :: x7 :: x8 :: x9 :: x10 :: x11 :: x12 :: x13 :: x14 :: x15 :: x16 :: x17 :: x18 :: x19 :: some (.ref v) :: L) (.ref v :: st) w c k) : Go G R cc own Y C Q pc (x0 :: x1 :: x2 :: x3 :: x4 :: x5 :: x6 :: x7 :: x8 :: x9 :: x10 :: x11 :: x12 :: x13 :: x14 :: x15 :: x16 :: x17 :: x18 :: x19 :: some (.ref v) :: L) st w c k := by
  obtain ⟨p, e, s, m, args, below, meth, cd⟩ := C
  intro O H ls locs hR hS hL
  exact lv_aload O.1 O.2.1 d (hL.at (i := 20) rfl rfl) (h O H ls locs hR hS hL)
theorem g_astore20 {x0 x1 x2 x3 x4 x5 x6 x7 x8 x9 x10 x11 x12 x13 x14 x15 x16 x17 x18 x19 : Option Value} {y : Option Value} {v : Nat} (d : decode cc pc = .ok (.astore 20, 2)) (h : Go G R cc own Y C Q (pc + 2) (x0 :: x1 :: x2 :: x3 :: x4 :: x5 :: x6 :: x7 :: x8 :: x9 :: x10 :: x11 :: x12 :: x13 :: x14 :: x15 :: x16 :: x17 :: x18 :: x19 :: some (.ref v) :: L) st w c k) : Go G R cc own Y C Q pc (x0 :: x1 :: x2 :: x3 :: x4 :: x5 :: x6 :: x7 :: x8 :: x9 :: x10 :: x11 :: x12 :: x13 :: x14 :: x15 :: x16 :: x17 :: x18 :: x19 :: y :: L) (.ref v :: st) w c k := by
  obtain ⟨p, e, s, m, args, below, meth, cd⟩ := C
  intro O H ls locs hR hS hL
  exact lv_astore O.1 O.2.1 d hL.has (Nat.lt_of_lt_of_le (by simp) hL.2.2.1) rfl (fun ls' hl' => h O H ls' locs hR hS (hL.set (i := 20) rfl hl'))
theorem g_iinc20 {x0 x1 x2 x3 x4 x5 x6 x7 x8 x9 x10 x11 x12 x13 x14 x15 x16 x17 x18 x19 : Option Value} {v v' : Int32} {n : Int} (d : decode cc pc = .ok (.iinc 20 n, 3)) (hv : v + Int32.ofInt n = v') (h : Go G R cc own Y C Q (pc + 3) (x0 :: x1 :: x2 :: x3 :: x4 :: x5 :: x6 :: x7 :: x8 :: x9 :: x10 :: x11 :: x12 :: x13 :: x14 :: x15 :: x16 :: x17 :: x18 :: x19 :: some (.int v') :: L) st w c k) : Go G R cc own Y C Q pc (x0 :: x1 :: x2 :: x3 :: x4 :: x5 :: x6 :: x7 :: x8 :: x9 :: x10 :: x11 :: x12 :: x13 :: x14 :: x15 :: x16 :: x17 :: x18 :: x19 :: some (.int v) :: L) st w c k := by
  obtain ⟨p, e, s, m, args, below, meth, cd⟩ := C
  intro O H ls locs hR hS hL
  obtain ⟨j, hj⟩ := List.getElem?_of_mem (lvL_mem (L := x0 :: x1 :: x2 :: x3 :: x4 :: x5 :: x6 :: x7 :: x8 :: x9 :: x10 :: x11 :: x12 :: x13 :: x14 :: x15 :: x16 :: x17 :: x18 :: x19 :: some (.int v) :: L) (i := 20) (v := .int v) rfl (Or.inl rfl))
  exact lv_iinc O.1 O.2.1 d hL.has hj hv (Nat.lt_of_lt_of_le (by simp) hL.2.2.1) rfl (fun ls' hl' => h O H ls' locs hR hS (hL.set (i := 20) rfl hl'))
theorem g_iload21 {x0 x1 x2 x3 x4 x5 x6 x7 x8 x9 x10 x11 x12 x13 x14 x15 x16 x17 x18 x19 x20 : Option Value} {v : Int32} (d : decode cc pc = .ok (.iload 21, 2)) (h : Go G R cc own Y C Q (pc + 2) (x0 :: x1 :: x2 :: x3 :: x4 :: x5 :: x6 :: x7 :: x8 :: x9 :: x10 :: x11 :: x12 :: x13 :: x14 :: x15 :: x16 :: x17 :: x18 :: x19 :: x20 :: some (.int v) :: L) (.int v :: st) w c k) : Go G R cc own Y C Q pc (x0 :: x1 :: x2 :: x3 :: x4 :: x5 :: x6 :: x7 :: x8 :: x9 :: x10 :: x11 :: x12 :: x13 :: x14 :: x15 :: x16 :: x17 :: x18 :: x19 :: x20 :: some (.int v) :: L) st w c k := by
  obtain ⟨p, e, s, m, args, below, meth, cd⟩ := C
  intro O H ls locs hR hS hL
  exact lv_iload O.1 O.2.1 d (hL.at (i := 21) rfl rfl) (h O H ls locs hR hS hL)
theorem g_istore21 {x0 x1 x2 x3 x4 x5 x6 x7 x8 x9 x10 x11 x12 x13 x14 x15 x16 x17 x18 x19 x20 : Option Value} {y : Option Value} {v : Int32} (d : decode cc pc = .ok (.istore 21, 2)) (h : Go G R cc own Y C Q (pc + 2) (x0 :: x1 :: x2 :: x3 :: x4 :: x5 :: x6 :: x7 :: x8 :: x9 :: x10 :: x11 :: x12 :: x13 :: x14 :: x15 :: x16 :: x17 :: x18 :: x19 :: x20 :: some (.int v) :: L) st w c k) : Go G R cc own Y C Q pc (x0 :: x1 :: x2 :: x3 :: x4 :: x5 :: x6 :: x7 :: x8 :: x9 :: x10 :: x11 :: x12 :: x13 :: x14 :: x15 :: x16 :: x17 :: x18 :: x19 :: x20 :: y :: L) (.int v :: st) w c k := by
  obtain ⟨p, e, s, m, args, below, meth, cd⟩ := C
  intro O H ls locs hR hS hL
  exact lv_istore O.1 O.2.1 d hL.has (Nat.lt_of_lt_of_le (by simp) hL.2.2.1) rfl (fun ls' hl' => h O H ls' locs hR hS (hL.set (i := 21) rfl hl'))
theorem g_aload21 {x0 x1 x2 x3 x4 x5 x6 x7 x8 x9 x10 x11 x12 x13 x14 x15 x16 x17 x18 x19 x20 : Option Value} {v : Nat} (d : decode cc pc = .ok (.aload 21, 2)) (h : Go G R cc own Y C Q (pc + 2) (x0 :: x1 :: x2 :: x3 :: x4 :: x5 :: x6 :: x7 :: x8 :: x9 :: x10 :: x11 :: x12 :: x13 :: x14 :: x15 :: x16 :: x17 :: x18 :: x19 :: x20 :: some (.ref v) :: L) (.ref v :: st) w c k) : Go G R cc own Y C Q pc (x0 :: x1 :: x2 :: x3 :: x4 :: x5 :: x6 :: x7 :: x8 :: x9 :: x10 :: x11 :: x12 :: x13 :: x14 :: x15 :: x16 :: x17 :: x18 :: x19 :: x20 :: some (.ref v) :: L) st w c k := by
  obtain ⟨p, e, s, m, args, below, meth, cd⟩ := C
  intro O H ls locs hR hS hL
  exact lv_aload O.1 O.2.1 d (hL.at (i := 21) rfl rfl) (h O H ls locs hR hS hL)
theorem g_astore21 {x0 x1 x2 x3 x4 x5 x6 x7 x8 x9 x10 x11 x12 x13 x14 x15 x16 x17 x18 x19 x20 : Option Value} {y : Option Value} {v : Nat} (d : decode cc pc = .ok (.astore 21, 2)) (h : Go G R cc own Y C Q (pc + 2) (x0 :: x1 :: x2 :: x3 :: x4 :: x5 :: x6 :: x7 :: x8 :: x9 :: x10 :: x11 :: x12 :: x13 :: x14 :: x15 :: x16 :: x17 :: x18 :: x19 :: x20 :: some (.ref v) :: L) st w c k) : Go G R cc own Y C Q pc (x0 :: x1 :: x2 :: x3 :: x4 :: x5 :: x6 :: x7 :: x8 :: x9 :: x10 :: x11 :: x12 :: x13 :: x14 :: x15 :: x16 :: x17 :: x18 :: x19 :: x20 :: y :: L) (.ref v :: st) w c k := by
  obtain ⟨p, e, s, m, args, below, meth, cd⟩ := C
  intro O H ls locs hR hS hL
  exact lv_astore O.1 O.2.1 d hL.has (Nat.lt_of_lt_of_le (by simp) hL.2.2.1) rfl (fun ls' hl' => h O H ls' locs hR hS (hL.set (i := 21) rfl hl'))
theorem g_iinc21 {x0 x1 x2 x3 x4 x5 x6 x7 x8 x9 x10 x11 x12 x13 x14 x15 x16 x17 x18 x19 x20 : Option Value} {v v' : Int32} {n : Int} (d : decode cc pc = .ok (.iinc 21 n, 3)) (hv : v + Int32.ofInt n = v') (h : Go G R cc own Y C Q (pc + 3) (x0 :: x1 :: x2 :: x3 :: x4 :: x5 :: x6 :: x7 :: x8 :: x9 :: x10 :: x11 :: x12 :: x13 :: x14 :: x15 :: x16 :: x17 :: x18 :: x19 :: x20 :: some (.int v') :: L) st w c k) : Go G R cc own Y C Q pc (x0 :: x1 :: x2 :: x3 :: x4 :: x5 :: x6 :: x7 :: x8 :: x9 :: x10 :: x11 :: x12 :: x13 :: x14 :: x15 :: x16 :: x17 :: x18 :: x19 :: x20 :: some (.int v) :: L) st w c k := by
  obtain ⟨p, e, s, m, args, below, meth, cd⟩ := C
  intro O H ls locs hR hS hL
  obtain ⟨j, hj⟩ := List.getElem?_of_mem (lvL_mem (L := x0 :: x1 :: x2 :: x3 :: x4 :: x5 :: x6 :: x7 :: x8 :: x9 :: x10 :: x11 :: x12 :: x13 :: x14 :: x15 :: x16 :: x17 :: x18 :: x19 :: x20 :: some (.int v) :: L) (i := 21) (v := .int v) rfl (Or.inl rfl))
  exact lv_iinc O.1 O.2.1 d hL.has hj hv (Nat.lt_of_lt_of_le (by simp) hL.2.2.1) rfl (fun ls' hl' => h O H ls' locs hR hS (hL.set (i := 21) rfl hl'))
theorem g_lload0 {v : Int64} (d : decode cc pc = .ok (.lload_n 0, 1)) (h : Go G R cc own Y C Q (pc + 1) (some (.long v) :: none :: L) (.long v :: st) w c k) : Go G R cc own Y C Q pc (some (.long v) :: none :: L) st w c k := by
  obtain ⟨p, e, s, m, args, below, meth, cd⟩ := C
  intro O H ls locs hR hS hL
  exact lv_lload_n O.1 O.2.1 d rfl (hL.atL (i := 0) rfl rfl) (h O H ls locs hR hS hL)
theorem g_lstore0 {y z : Option Value} {v : Int64} (d : decode cc pc = .ok (.lstore_n 0, 1)) (h : Go G R cc own Y C Q (pc + 1) (some (.long v) :: none :: L) st w c k) : Go G R cc own Y C Q pc (y :: z :: L) (.long v :: st) w c k := by
  obtain ⟨p, e, s, m, args, below, meth, cd⟩ := C
  intro O H ls locs hR hS hL
  exact lv_lstore_n (i := 0) O.1 O.2.1 d rfl hL.has (Nat.lt_of_lt_of_le (by simp) hL.2.2.1) rfl (fun ls' hl' => h O H ls' locs hR hS (hL.setL (i := 0) hl'))
theorem g_lload1 {x0 : Option Value} {v : Int64} (d : decode cc pc = .ok (.lload_n 1, 1)) (h : Go G R cc own Y C Q (pc + 1) (x0 :: some (.long v) :: none :: L) (.long v :: st) w c k) : Go G R cc own Y C Q pc (x0 :: some (.long v) :: none :: L) st w c k := by
  obtain ⟨p, e, s, m, args, below, meth, cd⟩ := C
  intro O H ls locs hR hS hL
  exact lv_lload_n O.1 O.2.1 d rfl (hL.atL (i := 1) rfl rfl) (h O H ls locs hR hS hL)
theorem g_lstore1 {x0 : Option Value} {y z : Option Value} {v : Int64} (d : decode cc pc = .ok (.lstore_n 1, 1)) (h : Go G R cc own Y C Q (pc + 1) (x0 :: some (.long v) :: none :: L) st w c k) : Go G R cc own Y C Q pc (x0 :: y :: z :: L) (.long v :: st) w c k := by
  obtain ⟨p, e, s, m, args, below, meth, cd⟩ := C
  intro O H ls locs hR hS hL
  exact lv_lstore_n (i := 1) O.1 O.2.1 d rfl hL.has (Nat.lt_of_lt_of_le (by simp) hL.2.2.1) rfl (fun ls' hl' => h O H ls' locs hR hS (hL.setL (i := 1) hl'))
theorem g_lload2 {x0 x1 : Option Value} {v : Int64} (d : decode cc pc = .ok (.lload_n 2, 1)) (h : Go G R cc own Y C Q (pc + 1) (x0 :: x1 :: some (.long v) :: none :: L) (.long v :: st) w c k) : Go G R cc own Y C Q pc (x0 :: x1 :: some (.long v) :: none :: L) st w c k := by
  obtain ⟨p, e, s, m, args, below, meth, cd⟩ := C
  intro O H ls locs hR hS hL
  exact lv_lload_n O.1 O.2.1 d rfl (hL.atL (i := 2) rfl rfl) (h O H ls locs hR hS hL)
theorem g_lstore2 {x0 x1 : Option Value} {y z : Option Value} {v : Int64} (d : decode cc pc = .ok (.lstore_n 2, 1)) (h : Go G R cc own Y C Q (pc + 1) (x0 :: x1 :: some (.long v) :: none :: L) st w c k) : Go G R cc own Y C Q pc (x0 :: x1 :: y :: z :: L) (.long v :: st) w c k := by
  obtain ⟨p, e, s, m, args, below, meth, cd⟩ := C
  intro O H ls locs hR hS hL
  exact lv_lstore_n (i := 2) O.1 O.2.1 d rfl hL.has (Nat.lt_of_lt_of_le (by simp) hL.2.2.1) rfl (fun ls' hl' => h O H ls' locs hR hS (hL.setL (i := 2) hl'))
theorem g_lload3 {x0 x1 x2 : Option Value} {v : Int64} (d : decode cc pc = .ok (.lload_n 3, 1)) (h : Go G R cc own Y C Q (pc + 1) (x0 :: x1 :: x2 :: some (.long v) :: none :: L) (.long v :: st) w c k) : Go G R cc own Y C Q pc (x0 :: x1 :: x2 :: some (.long v) :: none :: L) st w c k := by
  obtain ⟨p, e, s, m, args, below, meth, cd⟩ := C
  intro O H ls locs hR hS hL
  exact lv_lload_n O.1 O.2.1 d rfl (hL.atL (i := 3) rfl rfl) (h O H ls locs hR hS hL)
theorem g_lstore3 {x0 x1 x2 : Option Value} {y z : Option Value} {v : Int64} (d : decode cc pc = .ok (.lstore_n 3, 1)) (h : Go G R cc own Y C Q (pc + 1) (x0 :: x1 :: x2 :: some (.long v) :: none :: L) st w c k) : Go G R cc own Y C Q pc (x0 :: x1 :: x2 :: y :: z :: L) (.long v :: st) w c k := by
  obtain ⟨p, e, s, m, args, below, meth, cd⟩ := C
  intro O H ls locs hR hS hL
  exact lv_lstore_n (i := 3) O.1 O.2.1 d rfl hL.has (Nat.lt_of_lt_of_le (by simp) hL.2.2.1) rfl (fun ls' hl' => h O H ls' locs hR hS (hL.setL (i := 3) hl'))
theorem g_lload4 {x0 x1 x2 x3 : Option Value} {v : Int64} (d : decode cc pc = .ok (.lload 4, 2)) (h : Go G R cc own Y C Q (pc + 2) (x0 :: x1 :: x2 :: x3 :: some (.long v) :: none :: L) (.long v :: st) w c k) : Go G R cc own Y C Q pc (x0 :: x1 :: x2 :: x3 :: some (.long v) :: none :: L) st w c k := by
  obtain ⟨p, e, s, m, args, below, meth, cd⟩ := C
  intro O H ls locs hR hS hL
  exact lv_lload O.1 O.2.1 d (hL.atL (i := 4) rfl rfl) (h O H ls locs hR hS hL)
theorem g_lstore4 {x0 x1 x2 x3 : Option Value} {y z : Option Value} {v : Int64} (d : decode cc pc = .ok (.lstore 4, 2)) (h : Go G R cc own Y C Q (pc + 2) (x0 :: x1 :: x2 :: x3 :: some (.long v) :: none :: L) st w c k) : Go G R cc own Y C Q pc (x0 :: x1 :: x2 :: x3 :: y :: z :: L) (.long v :: st) w c k := by
  obtain ⟨p, e, s, m, args, below, meth, cd⟩ := C
  intro O H ls locs hR hS hL
  exact lv_lstore O.1 O.2.1 d hL.has (Nat.lt_of_lt_of_le (by simp) hL.2.2.1) rfl (fun ls' hl' => h O H ls' locs hR hS (hL.setL (i := 4) hl'))
theorem g_lload5 {x0 x1 x2 x3 x4 : Option Value} {v : Int64} (d : decode cc pc = .ok (.lload 5, 2)) (h : Go G R cc own Y C Q (pc + 2) (x0 :: x1 :: x2 :: x3 :: x4 :: some (.long v) :: none :: L) (.long v :: st) w c k) : Go G R cc own Y C Q pc (x0 :: x1 :: x2 :: x3 :: x4 :: some (.long v) :: none :: L) st w c k := by
  obtain ⟨p, e, s, m, args, below, meth, cd⟩ := C
  intro O H ls locs hR hS hL
  exact lv_lload O.1 O.2.1 d (hL.atL (i := 5) rfl rfl) (h O H ls locs hR hS hL)
theorem g_lstore5 {x0 x1 x2 x3 x4 : Option Value} {y z : Option Value} {v : Int64} (d : decode cc pc = .ok (.lstore 5, 2)) (h : Go G R cc own Y C Q (pc + 2) (x0 :: x1 :: x2 :: x3 :: x4 :: some (.long v) :: none :: L) st w c k) : Go G R cc own Y C Q pc (x0 :: x1 :: x2 :: x3 :: x4 :: y :: z :: L) (.long v :: st) w c k := by
  obtain ⟨p, e, s, m, args, below, meth, cd⟩ := C
  intro O H ls locs hR hS hL
  exact lv_lstore O.1 O.2.1 d hL.has (Nat.lt_of_lt_of_le (by simp) hL.2.2.1) rfl (fun ls' hl' => h O H ls' locs hR hS (hL.setL (i := 5) hl'))
theorem g_lload6 {x0 x1 x2 x3 x4 x5 : Option Value} {v : Int64} (d : decode cc pc = .ok (.lload 6, 2)) (h : Go G R cc own Y C Q (pc + 2) (x0 :: x1 :: x2 :: x3 :: x4 :: x5 :: some (.long v) :: none :: L) (.long v :: st) w c k) : Go G R cc own Y C Q pc (x0 :: x1 :: x2 :: x3 :: x4 :: x5 :: some (.long v) :: none :: L) st w c k := by
  obtain ⟨p, e, s, m, args, below, meth, cd⟩ := C
  intro O H ls locs hR hS hL
  exact lv_lload O.1 O.2.1 d (hL.atL (i := 6) rfl rfl) (h O H ls locs hR hS hL)
theorem g_lstore6 {x0 x1 x2 x3 x4 x5 : Option Value} {y z : Option Value} {v : Int64} (d : decode cc pc = .ok (.lstore 6, 2)) (h : Go G R cc own Y C Q (pc + 2) (x0 :: x1 :: x2 :: x3 :: x4 :: x5 :: some (.long v) :: none :: L) st w c k) : Go G R cc own Y C Q pc (x0 :: x1 :: x2 :: x3 :: x4 :: x5 :: y :: z :: L) (.long v :: st) w c k := by
  obtain ⟨p, e, s, m, args, below, meth, cd⟩ := C
  intro O H ls locs hR hS hL
  exact lv_lstore O.1 O.2.1 d hL.has (Nat.lt_of_lt_of_le (by simp) hL.2.2.1) rfl (fun ls' hl' => h O H ls' locs hR hS (hL.setL (i := 6) hl'))
theorem g_lload7 {x0 x1 x2 x3 x4 x5 x6 : Option Value} {v : Int64} (d : decode cc pc = .ok (.lload 7, 2)) (h : Go G R cc own Y C Q (pc + 2) (x0 :: x1 :: x2 :: x3 :: x4 :: x5 :: x6 :: some (.long v) :: none :: L) (.long v :: st) w c k) : Go G R cc own Y C Q pc (x0 :: x1 :: x2 :: x3 :: x4 :: x5 :: x6 :: some (.long v) :: none :: L) st w c k := by
  obtain ⟨p, e, s, m, args, below, meth, cd⟩ := C
  intro O H ls locs hR hS hL
  exact lv_lload O.1 O.2.1 d (hL.atL (i := 7) rfl rfl) (h O H ls locs hR hS hL)
theorem g_lstore7 {x0 x1 x2 x3 x4 x5 x6 : Option Value} {y z : Option Value} {v : Int64} (d : decode cc pc = .ok (.lstore 7, 2)) (h : Go G R cc own Y C Q (pc + 2) (x0 :: x1 :: x2 :: x3 :: x4 :: x5 :: x6 :: some (.long v) :: none :: L) st w c k) : Go G R cc own Y C Q pc (x0 :: x1 :: x2 :: x3 :: x4 :: x5 :: x6 :: y :: z :: L) (.long v :: st) w c k := by
  obtain ⟨p, e, s, m, args, below, meth, cd⟩ := C
  intro O H ls locs hR hS hL
  exact lv_lstore O.1 O.2.1 d hL.has (Nat.lt_of_lt_of_le (by simp) hL.2.2.1) rfl (fun ls' hl' => h O H ls' locs hR hS (hL.setL (i := 7) hl'))
theorem g_lload8 {x0 x1 x2 x3 x4 x5 x6 x7 : Option Value} {v : Int64} (d : decode cc pc = .ok (.lload 8, 2)) (h : Go G R cc own Y C Q (pc + 2) (x0 :: x1 :: x2 :: x3 :: x4 :: x5 :: x6 :: x7 :: some (.long v) :: none :: L) (.long v :: st) w c k) : Go G R cc own Y C Q pc (x0 :: x1 :: x2 :: x3 :: x4 :: x5 :: x6 :: x7 :: some (.long v) :: none :: L) st w c k := by
  obtain ⟨p, e, s, m, args, below, meth, cd⟩ := C
  intro O H ls locs hR hS hL
  exact lv_lload O.1 O.2.1 d (hL.atL (i := 8) rfl rfl) (h O H ls locs hR hS hL)
theorem g_lstore8 {x0 x1 x2 x3 x4 x5 x6 x7 : Option Value} {y z : Option Value} {v : Int64} (d : decode cc pc = .ok (.lstore 8, 2)) (h : Go G R cc own Y C Q (pc + 2) (x0 :: x1 :: x2 :: x3 :: x4 :: x5 :: x6 :: x7 :: some (.long v) :: none :: L) st w c k) : Go G R cc own Y C Q pc (x0 :: x1 :: x2 :: x3 :: x4 :: x5 :: x6 :: x7 :: y :: z :: L) (.long v :: st) w c k := by
  obtain ⟨p, e, s, m, args, below, meth, cd⟩ := C
  intro O H ls locs hR hS hL
  exact lv_lstore O.1 O.2.1 d hL.has (Nat.lt_of_lt_of_le (by simp) hL.2.2.1) rfl (fun ls' hl' => h O H ls' locs hR hS (hL.setL (i := 8) hl'))
theorem g_lload9 {x0 x1 x2 x3 x4 x5 x6 x7 x8 : Option Value} {v : Int64} (d : decode cc pc = .ok (.lload 9, 2)) (h : Go G R cc own Y C Q (pc + 2) (x0 :: x1 :: x2 :: x3 :: x4 :: x5 :: x6 :: x7 :: x8 :: some (.long v) :: none :: L) (.long v :: st) w c k) : Go G R cc own Y C Q pc (x0 :: x1 :: x2 :: x3 :: x4 :: x5 :: x6 :: x7 :: x8 :: some (.long v) :: none :: L) st w c k := by
  obtain ⟨p, e, s, m, args, below, meth, cd⟩ := C
  intro O H ls locs hR hS hL
  exact lv_lload O.1 O.2.1 d (hL.atL (i := 9) rfl rfl) (h O H ls locs hR hS hL)
theorem g_lstore9 {x0 x1 x2 x3 x4 x5 x6 x7 x8 : Option Value} {y z : Option Value} {v : Int64} (d : decode cc pc = .ok (.lstore 9, 2)) (h : Go G R cc own Y C Q (pc + 2) (x0 :: x1 :: x2 :: x3 :: x4 :: x5 :: x6 :: x7 :: x8 :: some (.long v) :: none :: L) st w c k) : Go G R cc own Y C Q pc (x0 :: x1 :: x2 :: x3 :: x4 :: x5 :: x6 :: x7 :: x8 :: y :: z :: L) (.long v :: st) w c k := by
  obtain ⟨p, e, s, m, args, below, meth, cd⟩ := C
  intro O H ls locs hR hS hL
  exact lv_lstore O.1 O.2.1 d hL.has (Nat.lt_of_lt_of_le (by simp) hL.2.2.1) rfl (fun ls' hl' => h O H ls' locs hR hS (hL.setL (i := 9) hl'))
theorem g_lload10 {x0 x1 x2 x3 x4 x5 x6 x7 x8 x9 : Option Value} {v : Int64} (d : decode cc pc = .ok (.lload 10, 2)) (h : Go G R cc own Y C Q (pc + 2) (x0 :: x1 :: x2 :: x3 :: x4 :: x5 :: x6 :: x7 :: x8 :: x9 :: some (.long v) :: none :: L) (.long v :: st) w c k) : Go G R cc own Y C Q pc (x0 :: x1 :: x2 :: x3 :: x4 :: x5 :: x6 :: x7 :: x8 :: x9 :: some (.long v) :: none :: L) st w c k := by
  obtain ⟨p, e, s, m, args, below, meth, cd⟩ := C
  intro O H ls locs hR hS hL
  exact lv_lload O.1 O.2.1 d (hL.atL (i := 10) rfl rfl) (h O H ls locs hR hS hL)
theorem g_lstore10 {x0 x1 x2 x3 x4 x5 x6 x7 x8 x9 : Option Value} {y z : Option Value} {v : Int64} (d : decode cc pc = .ok (.lstore 10, 2)) (h : Go G R cc own Y C Q (pc + 2) (x0 :: x1 :: x2 :: x3 :: x4 :: x5 :: x6 :: x7 :: x8 :: x9 :: some (.long v) :: none :: L) st w c k) : Go G R cc own Y C Q pc (x0 :: x1 :: x2 :: x3 :: x4 :: x5 :: x6 :: x7 :: x8 :: x9 :: y :: z :: L) (.long v :: st) w c k := by
  obtain ⟨p, e, s, m, args, below, meth, cd⟩ := C
  intro O H ls locs hR hS hL
  exact lv_lstore O.1 O.2.1 d hL.has (Nat.lt_of_lt_of_le (by simp) hL.2.2.1) rfl (fun ls' hl' => h O H ls' locs hR hS (hL.setL (i := 10) hl'))
theorem g_lload11 {x0 x1 x2 x3 x4 x5 x6 x7 x8 x9 x10 : Option Value} {v : Int64} (d : decode cc pc = .ok (.lload 11, 2)) (h : Go G R cc own Y C Q (pc + 2) (x0 :: x1 :: x2 :: x3 :: x4 :: x5 :: x6 :: x7 :: x8 :: x9 :: x10 :: some (.long v) :: none :: L) (.long v :: st) w c k) : Go G R cc own Y C Q pc (x0 :: x1 :: x2 :: x3 :: x4 :: x5 :: x6 :: x7 :: x8 :: x9 :: x10 :: some (.long v) :: none :: L) st w c k := by
  obtain ⟨p, e, s, m, args, below, meth, cd⟩ := C
  intro O H ls locs hR hS hL
  exact lv_lload O.1 O.2.1 d (hL.atL (i := 11) rfl rfl) (h O H ls locs hR hS hL)
theorem g_lstore11 {x0 x1 x2 x3 x4 x5 x6 x7 x8 x9 x10 : Option Value} {y z : Option Value} {v : Int64} (d : decode cc pc = .ok (.lstore 11, 2)) (h : Go G R cc own Y C Q (pc + 2) (x0 :: x1 :: x2 :: x3 :: x4 :: x5 :: x6 :: x7 :: x8 :: x9 :: x10 :: some (.long v) :: none :: L) st w c k) : Go G R cc own Y C Q pc (x0 :: x1 :: x2 :: x3 :: x4 :: x5 :: x6 :: x7 :: x8 :: x9 :: x10 :: y :: z :: L) (.long v :: st) w c k := by
  obtain ⟨p, e, s, m, args, below, meth, cd⟩ := C
  intro O H ls locs hR hS hL
  exact lv_lstore O.1 O.2.1 d hL.has (Nat.lt_of_lt_of_le (by simp) hL.2.2.1) rfl (fun ls' hl' => h O H ls' locs hR hS (hL.setL (i := 11) hl'))
theorem g_lload12 {x0 x1 x2 x3 x4 x5 x6 x7 x8 x9 x10 x11 : Option Value} {v : Int64} (d : decode cc pc = .ok (.lload 12, 2)) (h : Go G R cc own Y C Q (pc + 2) (x0 :: x1 :: x2 :: x3 :: x4 :: x5 :: x6 :: x7 :: x8 :: x9 :: x10 :: x11 :: some (.long v) :: none :: L) (.long v :: st) w c k) : Go G R cc own Y C Q pc (x0 :: x1 :: x2 :: x3 :: x4 :: x5 :: x6 :: x7 :: x8 :: x9 :: x10 :: x11 :: some (.long v) :: none :: L) st w c k := by
  obtain ⟨p, e, s, m, args, below, meth, cd⟩ := C
  intro O H ls locs hR hS hL
  exact lv_lload O.1 O.2.1 d (hL.atL (i := 12) rfl rfl) (h O H ls locs hR hS hL)
theorem g_lstore12 {x0 x1 x2 x3 x4 x5 x6 x7 x8 x9 x10 x11 : Option Value} {y z : Option Value} {v : Int64} (d : decode cc pc = .ok (.lstore 12, 2)) (h : Go G R cc own Y C Q (pc + 2) (x0 :: x1 :: x2 :: x3 :: x4 :: x5 :: x6 :: x7 :: x8 :: x9 :: x10 :: x11 :: some (.long v) :: none :: L) st w c k) : Go G R cc own Y C Q pc (x0 :: x1 :: x2 :: x3 :: x4 :: x5 :: x6 :: x7 :: x8 :: x9 :: x10 :: x11 :: y :: z :: L) (.long v :: st) w c k := by
  obtain ⟨p, e, s, m, args, below, meth, cd⟩ := C
  intro O H ls locs hR hS hL
  exact lv_lstore O.1 O.2.1 d hL.has (Nat.lt_of_lt_of_le (by simp) hL.2.2.1) rfl (fun ls' hl' => h O H ls' locs hR hS (hL.setL (i := 12) hl'))
theorem g_lload13 {x0 x1 x2 x3 x4 x5 x6 x7 x8 x9 x10 x11 x12 : Option Value} {v : Int64} (d : decode cc pc = .ok (.lload 13, 2)) (h : Go G R cc own Y C Q (pc + 2) (x0 :: x1 :: x2 :: x3 :: x4 :: x5 :: x6 :: x7 :: x8 :: x9 :: x10 :: x11 :: x12 :: some (.long v) :: none :: L) (.long v :: st) w c k) : Go G R cc own Y C Q pc (x0 :: x1 :: x2 :: x3 :: x4 :: x5 :: x6 :: x7 :: x8 :: x9 :: x10 :: x11 :: x12 :: some (.long v) :: none :: L) st w c k := by
  obtain ⟨p, e, s, m, args, below, meth, cd⟩ := C
  intro O H ls locs hR hS hL
  exact lv_lload O.1 O.2.1 d (hL.atL (i := 13) rfl rfl) (h O H ls locs hR hS hL)
theorem g_lstore13 {x0 x1 x2 x3 x4 x5 x6 x7 x8 x9 x10 x11 x12 : Option Value} {y z : Option Value} {v : Int64} (d : decode cc pc = .ok (.lstore 13, 2)) (h : Go G R cc own Y C Q (pc + 2) (x0 :: x1 :: x2 :: x3 :: x4 :: x5 :: x6 :: x7 :: x8 :: x9 :: x10 :: x11 :: x12 :: some (.long v) :: none :: L) st w c k) : Go G R cc own Y C Q pc (x0 :: x1 :: x2 :: x3 :: x4 :: x5 :: x6 :: x7 :: x8 :: x9 :: x10 :: x11 :: x12 :: y :: z :: L) (.long v :: st) w c k := by
  obtain ⟨p, e, s, m, args, below, meth, cd⟩ := C
  intro O H ls locs hR hS hL
  exact lv_lstore O.1 O.2.1 d hL.has (Nat.lt_of_lt_of_le (by simp) hL.2.2.1) rfl (fun ls' hl' => h O H ls' locs hR hS (hL.setL (i := 13) hl'))
theorem g_lload14 {x0 x1 x2 x3 x4 x5 x6 x7 x8 x9 x10 x11 x12 x13 : Option Value} {v : Int64} (d : decode cc pc = .ok (.lload 14, 2)) (h : Go G R cc own Y C Q (pc + 2) (x0 :: x1 :: x2 :: x3 :: x4 :: x5 :: x6 :: x7 :: x8 :: x9 :: x10 :: x11 :: x12 :: x13 :: some (.long v) :: none :: L) (.long v :: st) w c k) : Go G R cc own Y C Q pc (x0 :: x1 :: x2 :: x3 :: x4 :: x5 :: x6 :: x7 :: x8 :: x9 :: x10 :: x11 :: x12 :: x13 :: some (.long v) :: none :: L) st w c k := by
  obtain ⟨p, e, s, m, args, below, meth, cd⟩ := C
  intro O H ls locs hR hS hL
  exact lv_lload O.1 O.2.1 d (hL.atL (i := 14) rfl rfl) (h O H ls locs hR hS hL)
theorem g_lstore14 {x0 x1 x2 x3 x4 x5 x6 x7 x8 x9 x10 x11 x12 x13 : Option Value} {y z : Option Value} {v : Int64} (d : decode cc pc = .ok (.lstore 14, 2)) (h : Go G R cc own Y C Q (pc + 2) (x0 :: x1 :: x2 :: x3 :: x4 :: x5 :: x6 :: x7 :: x8 :: x9 :: x10 :: x11 :: x12 :: x13 :: some (.long v) :: none :: L) st w c k) : Go G R cc own Y C Q pc (x0 :: x1 :: x2 :: x3 :: x4 :: x5 :: x6 :: x7 :: x8 :: x9 :: x10 :: x11 :: x12 :: x13 :: y :: z :: L) (.long v :: st) w c k := by
  obtain ⟨p, e, s, m, args, below, meth, cd⟩ := C
  intro O H ls locs hR hS hL
  exact lv_lstore O.1 O.2.1 d hL.has (Nat.lt_of_lt_of_le (by simp) hL.2.2.1) rfl (fun ls' hl' => h O H ls' locs hR hS (hL.setL (i := 14) hl'))
theorem g_lload15 {x0 x1 x2 x3 x4 x5 x6 x7 x8 x9 x10 x11 x12 x13 x14 : Option Value} {v : Int64} (d : decode cc pc = .ok (.lload 15, 2)) (h : Go G R cc own Y C Q (pc + 2) (x0 :: x1 :: x2 :: x3 :: x4 :: x5 :: x6 :: x7 :: x8 :: x9 :: x10 :: x11 :: x12 :: x13 :: x14 :: some (.long v) :: none :: L) (.long v :: st) w c k) : Go G R cc own Y C Q pc (x0 :: x1 :: x2 :: x3 :: x4 :: x5 :: x6 :: x7 :: x8 :: x9 :: x10 :: x11 :: x12 :: x13 :: x14 :: some (.long v) :: none :: L) st w c k := by
  obtain ⟨p, e, s, m, args, below, meth, cd⟩ := C
  intro O H ls locs hR hS hL
  exact lv_lload O.1 O.2.1 d (hL.atL (i := 15) rfl rfl) (h O H ls locs hR hS hL)
theorem g_lstore15 {x0 x1 x2 x3 x4 x5 x6 x7 x8 x9 x10 x11 x12 x13 x14 : Option Value} {y z : Option Value} {v : Int64} (d : decode cc pc = .ok (.lstore 15, 2)) (h : Go G R cc own Y C Q (pc + 2) (x0 :: x1 :: x2 :: x3 :: x4 :: x5 :: x6 :: x7 :: x8 :: x9 :: x10 :: x11 :: x12 :: x13 :: x14 :: some (.long v) :: none :: L) st w c k) : Go G R cc own Y C Q pc (x0 :: x1 :: x2 :: x3 :: x4 :: x5 :: x6 :: x7 :: x8 :: x9 :: x10 :: x11 :: x12 :: x13 :: x14 :: y :: z :: L) (.long v :: st) w c k := by
  obtain ⟨p, e, s, m, args, below, meth, cd⟩ := C
  intro O H ls locs hR hS hL
  exact lv_lstore O.1 O.2.1 d hL.has (Nat.lt_of_lt_of_le (by simp) hL.2.2.1) rfl (fun ls' hl' => h O H ls' locs hR hS (hL.setL (i := 15) hl'))
theorem g_lload16 {x0 x1 x2 x3 x4 x5 x6 x7 x8 x9 x10 x11 x12 x13 x14 x15 : Option Value} {v : Int64} (d : decode cc pc = .ok (.lload 16, 2)) (h : Go G R cc own Y C Q (pc + 2) (x0 :: x1 :: x2 :: x3 :: x4 :: x5 :: x6 :: x7 :: x8 :: x9 :: x10 :: x11 :: x12 :: x13 :: x14 :: x15 :: some (.long v) :: none :: L) (.long v :: st) w c k) : Go G R cc own Y C Q pc (x0 :: x1 :: x2 :: x3 :: x4 :: x5 :: x6 :: x7 :: x8 :: x9 :: x10 :: x11 :: x12 :: x13 :: x14 :: x15 :: some (.long v) :: none :: L) st w c k := by
  obtain ⟨p, e, s, m, args, below, meth, cd⟩ := C
  intro O H ls locs hR hS hL
  exact lv_lload O.1 O.2.1 d (hL.atL (i := 16) rfl rfl) (h O H ls locs hR hS hL)
theorem g_lstore16 {x0 x1 x2 x3 x4 x5 x6 x7 x8 x9 x10 x11 x12 x13 x14 x15 : Option Value} {y z : Option Value} {v : Int64} (d : decode cc pc = .ok (.lstore 16, 2)) (h : Go G R cc own Y C Q (pc + 2) (x0 :: x1 :: x2 :: x3 :: x4 :: x5 :: x6 :: x7 :: x8 :: x9 :: x10 :: x11 :: x12 :: x13 :: x14 :: x15 :: some (.long v) :: none :: L) st w c k) : Go G R cc own Y C Q pc (x0 :: x1 :: x2 :: x3 :: x4 :: x5 :: x6 :: x7 :: x8 :: x9 :: x10 :: x11 :: x12 :: x13 :: x14 :: x15 :: y :: z :: L) (.long v :: st) w c k := by
  obtain ⟨p, e, s, m, args, below, meth, cd⟩ := C
  intro O H ls locs hR hS hL
  exact lv_lstore O.1 O.2.1 d hL.has (Nat.lt_of_lt_of_le (by simp) hL.2.2.1) rfl (fun ls' hl' => h O H ls' locs hR hS (hL.setL (i := 16) hl'))
theorem g_lload17 {x0 x1 x2 x3 x4 x5 x6 x7 x8 x9 x10 x11 x12 x13 x14 x15 x16 : Option Value} {v : Int64} (d : decode cc pc = .ok (.lload 17, 2)) (h : Go G R cc own Y C Q (pc + 2) (x0 :: x1 :: x2 :: x3 :: x4 :: x5 :: x6 :: x7 :: x8 :: x9 :: x10 :: x11 :: x12 :: x13 :: x14 :: x15 :: x16 :: some (.long v) :: none :: L) (.long v :: st) w c k) : Go G R cc own Y C Q pc (x0 :: x1 :: x2 :: x3 :: x4 :: x5 :: x6 :: x7 :: x8 :: x9 :: x10 :: x11 :: x12 :: x13 :: x14 :: x15 :: x16 :: some (.long v) :: none :: L) st w c k := by
  obtain ⟨p, e, s, m, args, below, meth, cd⟩ := C
  intro O H ls locs hR hS hL
  exact lv_lload O.1 O.2.1 d (hL.atL (i := 17) rfl rfl) (h O H ls locs hR hS hL)
theorem g_lstore17 {x0 x1 x2 x3 x4 x5 x6 x7 x8 x9 x10 x11 x12 x13 x14 x15 x16 : Option Value} {y z : Option Value} {v : Int64} (d : decode cc pc = .ok (.lstore 17, 2)) (h : Go G R cc own Y C Q (pc + 2) (x0 :: x1 :: x2 :: x3 :: x4 :: x5 :: x6 :: x7 :: x8 :: x9 :: x10 :: x11 :: x12 :: x13 :: x14 :: x15 :: x16 :: some (.long v) :: none :: L) st w c k) : Go G R cc own Y C Q pc (x0 :: x1 :: x2 :: x3 :: x4 :: x5 :: x6 :: x7 :: x8 :: x9 :: x10 :: x11 :: x12 :: x13 :: x14 :: x15 :: x16 :: y :: z :: L) (.long v :: st) w c k := by
  obtain ⟨p, e, s, m, args, below, meth, cd⟩ := C
  intro O H ls locs hR hS hL
  exact lv_lstore O.1 O.2.1 d hL.has (Nat.lt_of_lt_of_le (by simp) hL.2.2.1) rfl (fun ls' hl' => h O H ls' locs hR hS (hL.setL (i := 17) hl'))
theorem g_lload18 {x0 x1 x2 x3 x4 x5 x6 x7 x8 x9 x10 x11 x12 x13 x14 x15 x16 x17 : Option Value} {v : Int64} (d : decode cc pc = .ok (.lload 18, 2)) (h : Go G R cc own Y C Q (pc + 2) (x0 :: x1 :: x2 :: x3 :: x4 :: x5 :: x6 :: x7 :: x8 :: x9 :: x10 :: x11 :: x12 :: x13 :: x14 :: x15 :: x16 :: x17 :: some (.long v) :: none :: L) (.long v :: st) w c k) : Go G R cc own Y C Q pc (x0 :: x1 :: x2 :: x3 :: x4 :: x5 :: x6 :: x7 :: x8 :: x9 :: x10 :: x11 :: x12 :: x13 :: x14 :: x15 :: x16 :: x17 :: some (.long v) :: none :: L) st w c k := by
  obtain ⟨p, e, s, m, args, below, meth, cd⟩ := C
  intro O H ls locs hR hS hL
  exact lv_lload O.1 O.2.1 d (hL.atL (i := 18) rfl rfl) (h O H ls locs hR hS hL)
theorem g_lstore18 {x0 x1 x2 x3 x4 x5 x6 x7 x8 x9 x10 x11 x12 x13 x14 x15 x16 x17 : Option Value} {y z : Option Value} {v : Int64} (d : decode cc pc = .ok (.lstore 18, 2)) (h : Go G R cc own Y C Q (pc + 2) (x0 :: x1 :: x2 :: x3 :: x4 :: x5 :: x6 :: x7 :: x8 :: x9 :: x10 :: x11 :: x12 :: x13 :: x14 :: x15 :: x16 :: x17 :: some (.long v) :: none :: L) st w c k) : Go G R cc own Y C Q pc (x0 :: x1 :: x2 :: x3 :: x4 :: x5 :: x6 :: x7 :: x8 :: x9 :: x10 :: x11 :: x12 :: x13 :: x14 :: x15 :: x16 :: x17 :: y :: z :: L) (.long v :: st) w c k := by
  obtain ⟨p, e, s, m, args, below, meth, cd⟩ := C
  intro O H ls locs hR hS hL
  exact lv_lstore O.1 O.2.1 d hL.has (Nat.lt_of_lt_of_le (by simp) hL.2.2.1) rfl (fun ls' hl' => h O H ls' locs hR hS (hL.setL (i := 18) hl'))
theorem g_lload19 {x0 x1 x2 x3 x4 x5 x6 x7 x8 x9 x10 x11 x12 x13 x14 x15 x16 x17 x18 : Option Value} {v : Int64} (d : decode cc pc = .ok (.lload 19, 2)) (h : Go G R cc own Y C Q (pc + 2) (x0 :: x1 :: x2 :: x3 :: x4 :: x5 :: x6 :: x7 :: x8 :: x9 :: x10 :: x11 :: x12 :: x13 :: x14 :: x15 :: x16 :: x17 :: x18 :: some (.long v) :: none :: L) (.long v :: st) w c k) : Go G R cc own Y C Q pc (x0 :: x1 :: x2 :: x3 :: x4 :: x5 :: x6 :: x7 :: x8 :: x9 :: x10 :: x11 :: x12 :: x13 :: x14 :: x15 :: x16 :: x17 :: x18 :: some (.long v) :: none :: L) st w c k := by
  obtain ⟨p, e, s, m, args, below, meth, cd⟩ := C
  intro O H ls locs hR hS hL
  exact lv_lload O.1 O.2.1 d (hL.atL (i := 19) rfl rfl) (h O H ls locs hR hS hL)
theorem g_lstore19 {x0 x1 x2 x3 x4 x5 x6 x7 x8 x9 x10 x11 x12 x13 x14 x15 x16 x17 x18 : Option Value} {y z : Option Value} {v : Int64} (d : decode cc pc = .ok (.lstore 19, 2)) (h : Go G R cc own Y C Q (pc + 2) (x0 :: x1 :: x2 :: x3 :: x4 :: x5 :: x6 :: x7 :: x8 :: x9 :: x10 :: x11 :: x12 :: x13 :: x14 :: x15 :: x16 :: x17 :: x18 :: some (.long v) :: none :: L) st w c k) : Go G R cc own Y C Q pc (x0 :: x1 :: x2 :: x3 :: x4 :: x5 :: x6 :: x7 :: x8 :: x9 :: x10 :: x11 :: x12 :: x13 :: x14 :: x15 :: x16 :: x17 :: x18 :: y :: z :: L) (.long v :: st) w c k := by
  obtain ⟨p, e, s, m, args, below, meth, cd⟩ := C
  intro O H ls locs hR hS hL
  exact lv_lstore O.1 O.2.1 d hL.has (Nat.lt_of_lt_of_le (by simp) hL.2.2.1) rfl (fun ls' hl' => h O H ls' locs hR hS (hL.setL (i := 19) hl'))
theorem g_lload20 {x0 x1 x2 x3 x4 x5 x6 x7 x8 x9 x10 x11 x12 x13 x14 x15 x16 x17 x18 x19 : Option Value} {v : Int64} (d : decode cc pc = .ok (.lload 20, 2)) (h : Go G R cc own Y C Q (pc + 2) (x0 :: x1 :: x2 :: x3 :: x4 :: x5 :: x6 :: x7 :: x8 :: x9 :: x10 :: x11 :: x12 :: x13 :: x14 :: x15 :: x16 :: x17 :: x18 :: x19 :: some (.long v) :: none :: L) (.long v :: st) w c k) : Go G R cc own Y C Q pc (x0 :: x1 :: x2 :: x3 :: x4 :: x5 :: x6 :: x7 :: x8 :: x9 :: x10 :: x11 :: x12 :: x13 :: x14 :: x15 :: x16 :: x17 :: x18 :: x19 :: some (.long v) :: none :: L) st w c k := by
  obtain ⟨p, e, s, m, args, below, meth, cd⟩ := C
  intro O H ls locs hR hS hL
  exact lv_lload O.1 O.2.1 d (hL.atL (i := 20) rfl rfl) (h O H ls locs hR hS hL)
theorem g_lstore20 {x0 x1 x2 x3 x4 x5 x6 x7 x8 x9 x10 x11 x12 x13 x14 x15 x16 x17 x18 x19 : Option Value} {y z : Option Value} {v : Int64} (d : decode cc pc = .ok (.lstore 20, 2)) (h : Go G R cc own Y C Q (pc + 2) (x0 :: x1 :: x2 :: x3 :: x4 :: x5 :: x6 :: x7 :: x8 :: x9 :: x10 :: x11 :: x12 :: x13 :: x14 :: x15 :: x16 :: x17 :: x18 :: x19 :: some (.long v) :: none :: L) st w c k) : Go G R cc own Y C Q pc (x0 :: x1 :: x2 :: x3 :: x4 :: x5 :: x6 :: x7 :: x8 :: x9 :: x10 :: x11 :: x12 :: x13 :: x14 :: x15 :: x16 :: x17 :: x18 :: x19 :: y :: z :: L) (.long v :: st) w c k := by
  obtain ⟨p, e, s, m, args, below, meth, cd⟩ := C
  intro O H ls locs hR hS hL
  exact lv_lstore O.1 O.2.1 d hL.has (Nat.lt_of_lt_of_le (by simp) hL.2.2.1) rfl (fun ls' hl' => h O H ls' locs hR hS (hL.setL (i := 20) hl'))
theorem g_if_eq {x : Int32} {off : Int} {tgt : Nat} (d : decode cc pc = .ok (.ifCond .eq off, 3)) (ht : (pc : Int) + off = (tgt : Int)) (kt : x = 0 → Go G R cc own Y C Q tgt L st w c k) (kf : ¬ x = 0 → Go G R cc own Y C Q (pc + 3) L st w c k) : Go G R cc own Y C Q pc L (.int x :: st) w c k := by
  obtain ⟨p, e, s, m, args, below, meth, cd⟩ := C
  intro O H ls locs hR hS hL
  exact lv_if_eq O.1 O.2.1 d ht (fun z => kt z O H ls locs hR hS hL) (fun z => kf z O H ls locs hR hS hL)
theorem g_icmp_eq {x y : Int32} {off : Int} {tgt : Nat} (d : decode cc pc = .ok (.if_icmp .eq off, 3)) (ht : (pc : Int) + off = (tgt : Int)) (kt : x = y → Go G R cc own Y C Q tgt L st w c k) (kf : ¬ x = y → Go G R cc own Y C Q (pc + 3) L st w c k) : Go G R cc own Y C Q pc L (.int y :: .int x :: st) w c k := by
  obtain ⟨p, e, s, m, args, below, meth, cd⟩ := C
  intro O H ls locs hR hS hL
  exact lv_icmp_eq O.1 O.2.1 d ht (fun z => kt z O H ls locs hR hS hL) (fun z => kf z O H ls locs hR hS hL)
theorem g_if_ne {x : Int32} {off : Int} {tgt : Nat} (d : decode cc pc = .ok (.ifCond .ne off, 3)) (ht : (pc : Int) + off = (tgt : Int)) (kt : ¬ x = 0 → Go G R cc own Y C Q tgt L st w c k) (kf : x = 0 → Go G R cc own Y C Q (pc + 3) L st w c k) : Go G R cc own Y C Q pc L (.int x :: st) w c k := by
  obtain ⟨p, e, s, m, args, below, meth, cd⟩ := C
  intro O H ls locs hR hS hL
  exact lv_if_ne O.1 O.2.1 d ht (fun z => kt z O H ls locs hR hS hL) (fun z => kf z O H ls locs hR hS hL)
theorem g_icmp_ne {x y : Int32} {off : Int} {tgt : Nat} (d : decode cc pc = .ok (.if_icmp .ne off, 3)) (ht : (pc : Int) + off = (tgt : Int)) (kt : ¬ x = y → Go G R cc own Y C Q tgt L st w c k) (kf : x = y → Go G R cc own Y C Q (pc + 3) L st w c k) : Go G R cc own Y C Q pc L (.int y :: .int x :: st) w c k := by
  obtain ⟨p, e, s, m, args, below, meth, cd⟩ := C
  intro O H ls locs hR hS hL
  exact lv_icmp_ne O.1 O.2.1 d ht (fun z => kt z O H ls locs hR hS hL) (fun z => kf z O H ls locs hR hS hL)
theorem g_if_lt {x : Int32} {off : Int} {tgt : Nat} (d : decode cc pc = .ok (.ifCond .lt off, 3)) (ht : (pc : Int) + off = (tgt : Int)) (kt : x < 0 → Go G R cc own Y C Q tgt L st w c k) (kf : ¬ x < 0 → Go G R cc own Y C Q (pc + 3) L st w c k) : Go G R cc own Y C Q pc L (.int x :: st) w c k := by
  obtain ⟨p, e, s, m, args, below, meth, cd⟩ := C
  intro O H ls locs hR hS hL
  exact lv_if_lt O.1 O.2.1 d ht (fun z => kt z O H ls locs hR hS hL) (fun z => kf z O H ls locs hR hS hL)
theorem g_icmp_lt {x y : Int32} {off : Int} {tgt : Nat} (d : decode cc pc = .ok (.if_icmp .lt off, 3)) (ht : (pc : Int) + off = (tgt : Int)) (kt : x < y → Go G R cc own Y C Q tgt L st w c k) (kf : ¬ x < y → Go G R cc own Y C Q (pc + 3) L st w c k) : Go G R cc own Y C Q pc L (.int y :: .int x :: st) w c k := by
  obtain ⟨p, e, s, m, args, below, meth, cd⟩ := C
  intro O H ls locs hR hS hL
  exact lv_icmp_lt O.1 O.2.1 d ht (fun z => kt z O H ls locs hR hS hL) (fun z => kf z O H ls locs hR hS hL)
theorem g_if_ge {x : Int32} {off : Int} {tgt : Nat} (d : decode cc pc = .ok (.ifCond .ge off, 3)) (ht : (pc : Int) + off = (tgt : Int)) (kt : 0 ≤ x → Go G R cc own Y C Q tgt L st w c k) (kf : ¬ 0 ≤ x → Go G R cc own Y C Q (pc + 3) L st w c k) : Go G R cc own Y C Q pc L (.int x :: st) w c k := by
  obtain ⟨p, e, s, m, args, below, meth, cd⟩ := C
  intro O H ls locs hR hS hL
  exact lv_if_ge O.1 O.2.1 d ht (fun z => kt z O H ls locs hR hS hL) (fun z => kf z O H ls locs hR hS hL)
theorem g_icmp_ge {x y : Int32} {off : Int} {tgt : Nat} (d : decode cc pc = .ok (.if_icmp .ge off, 3)) (ht : (pc : Int) + off = (tgt : Int)) (kt : y ≤ x → Go G R cc own Y C Q tgt L st w c k) (kf : ¬ y ≤ x → Go G R cc own Y C Q (pc + 3) L st w c k) : Go G R cc own Y C Q pc L (.int y :: .int x :: st) w c k := by
  obtain ⟨p, e, s, m, args, below, meth, cd⟩ := C
  intro O H ls locs hR hS hL
  exact lv_icmp_ge O.1 O.2.1 d ht (fun z => kt z O H ls locs hR hS hL) (fun z => kf z O H ls locs hR hS hL)
theorem g_if_gt {x : Int32} {off : Int} {tgt : Nat} (d : decode cc pc = .ok (.ifCond .gt off, 3)) (ht : (pc : Int) + off = (tgt : Int)) (kt : 0 < x → Go G R cc own Y C Q tgt L st w c k) (kf : ¬ 0 < x → Go G R cc own Y C Q (pc + 3) L st w c k) : Go G R cc own Y C Q pc L (.int x :: st) w c k := by
  obtain ⟨p, e, s, m, args, below, meth, cd⟩ := C
  intro O H ls locs hR hS hL
  exact lv_if_gt O.1 O.2.1 d ht (fun z => kt z O H ls locs hR hS hL) (fun z => kf z O H ls locs hR hS hL)
theorem g_icmp_gt {x y : Int32} {off : Int} {tgt : Nat} (d : decode cc pc = .ok (.if_icmp .gt off, 3)) (ht : (pc : Int) + off = (tgt : Int)) (kt : y < x → Go G R cc own Y C Q tgt L st w c k) (kf : ¬ y < x → Go G R cc own Y C Q (pc + 3) L st w c k) : Go G R cc own Y C Q pc L (.int y :: .int x :: st) w c k := by
  obtain ⟨p, e, s, m, args, below, meth, cd⟩ := C
  intro O H ls locs hR hS hL
  exact lv_icmp_gt O.1 O.2.1 d ht (fun z => kt z O H ls locs hR hS hL) (fun z => kf z O H ls locs hR hS hL)
theorem g_if_le {x : Int32} {off : Int} {tgt : Nat} (d : decode cc pc = .ok (.ifCond .le off, 3)) (ht : (pc : Int) + off = (tgt : Int)) (kt : x ≤ 0 → Go G R cc own Y C Q tgt L st w c k) (kf : ¬ x ≤ 0 → Go G R cc own Y C Q (pc + 3) L st w c k) : Go G R cc own Y C Q pc L (.int x :: st) w c k := by
  obtain ⟨p, e, s, m, args, below, meth, cd⟩ := C
  intro O H ls locs hR hS hL
  exact lv_if_le O.1 O.2.1 d ht (fun z => kt z O H ls locs hR hS hL) (fun z => kf z O H ls locs hR hS hL)
theorem g_icmp_le {x y : Int32} {off : Int} {tgt : Nat} (d : decode cc pc = .ok (.if_icmp .le off, 3)) (ht : (pc : Int) + off = (tgt : Int)) (kt : x ≤ y → Go G R cc own Y C Q tgt L st w c k) (kf : ¬ x ≤ y → Go G R cc own Y C Q (pc + 3) L st w c k) : Go G R cc own Y C Q pc L (.int y :: .int x :: st) w c k := by
  obtain ⟨p, e, s, m, args, below, meth, cd⟩ := C
  intro O H ls locs hR hS hL
  exact lv_icmp_le O.1 O.2.1 d ht (fun z => kt z O H ls locs hR hS hL) (fun z => kf z O H ls locs hR hS hL)
theorem g_goto {off : Int} {tgt : Nat} (d : decode cc pc = .ok (.goto off, 3)) (ht : (pc : Int) + off = (tgt : Int)) (h : Go G R cc own Y C Q tgt L st w c k) : Go G R cc own Y C Q pc L st w c k := by
  obtain ⟨p, e, s, m, args, below, meth, cd⟩ := C
  intro O H ls locs hR hS hL
  exact lv_goto O.1 O.2.1 d ht (h O H ls locs hR hS hL)
theorem g_ifnull {x : Nat} {off : Int} (d : decode cc pc = .ok (.ifnull off, 3)) (h : Go G R cc own Y C Q (pc + 3) L st w c k) : Go G R cc own Y C Q pc L (.ref x :: st) w c k := by
  obtain ⟨p, e, s, m, args, below, meth, cd⟩ := C
  intro O H ls locs hR hS hL
  exact lv_ifnull O.1 O.2.1 d (h O H ls locs hR hS hL)
theorem g_ifnullN {off : Int} {tgt : Nat} (d : decode cc pc = .ok (.ifnull off, 3)) (ht : (pc : Int) + off = (tgt : Int)) (h : Go G R cc own Y C Q tgt L st w c k) : Go G R cc own Y C Q pc L (.null :: st) w c k := by
  obtain ⟨p, e, s, m, args, below, meth, cd⟩ := C
  intro O H ls locs hR hS hL
  exact lv_ifnullN O.1 O.2.1 d ht (h O H ls locs hR hS hL)
theorem g_acmp_eq {x y : Nat} {off : Int} {tgt : Nat} (d : decode cc pc = .ok (.if_acmp .eq off, 3)) (ht : (pc : Int) + off = (tgt : Int)) (kt : x = y → Go G R cc own Y C Q tgt L st w c k) (kf : ¬ x = y → Go G R cc own Y C Q (pc + 3) L st w c k) : Go G R cc own Y C Q pc L (.ref y :: .ref x :: st) w c k := by
  obtain ⟨p, e, s, m, args, below, meth, cd⟩ := C
  intro O H ls locs hR hS hL
  exact lv_acmp_eq (rx := some x) (ry := some y) O.1 O.2.1 d ht (fun z => kt (Option.some.inj z) O H ls locs hR hS hL) (fun z => kf (fun q => z (by rw [q])) O H ls locs hR hS hL)
theorem g_acmp_ne {x y : Nat} {off : Int} {tgt : Nat} (d : decode cc pc = .ok (.if_acmp .ne off, 3)) (ht : (pc : Int) + off = (tgt : Int)) (kt : ¬ x = y → Go G R cc own Y C Q tgt L st w c k) (kf : x = y → Go G R cc own Y C Q (pc + 3) L st w c k) : Go G R cc own Y C Q pc L (.ref y :: .ref x :: st) w c k := by
  obtain ⟨p, e, s, m, args, below, meth, cd⟩ := C
  intro O H ls locs hR hS hL
  exact lv_acmp_ne (rx := some x) (ry := some y) O.1 O.2.1 d ht (fun z => kt (fun q => z (by rw [q])) O H ls locs hR hS hL) (fun z => kf (Option.some.inj z) O H ls locs hR hS hL)
theorem g_tabIn {dflt lo hi : Int} {offs : Array Int} {len : Nat} {x : Int32} {off : Int} {tgt : Nat} (d : decode cc pc = .ok (.tableswitch dflt lo hi offs, len)) (h1 : ¬ x.toInt < lo) (h2 : ¬ hi < x.toInt) (ho : offs[(x.toInt - lo).toNat]? = some off) (ht : (pc : Int) + off = (tgt : Int)) (h : Go G R cc own Y C Q tgt L st w c k) : Go G R cc own Y C Q pc L (.int x :: st) w c k := by
  obtain ⟨p, e, s, m, args, below, meth, cd⟩ := C
  intro O H ls locs hR hS hL
  exact lv_tableIn O.1 O.2.1 d h1 h2 ho ht (h O H ls locs hR hS hL)
theorem g_tabOut {dflt lo hi : Int} {offs : Array Int} {len : Nat} {x : Int32} {tgt : Nat} (d : decode cc pc = .ok (.tableswitch dflt lo hi offs, len)) (h1 : x.toInt < lo ∨ hi < x.toInt) (ht : (pc : Int) + dflt = (tgt : Int)) (h : Go G R cc own Y C Q tgt L st w c k) : Go G R cc own Y C Q pc L (.int x :: st) w c k := by
  obtain ⟨p, e, s, m, args, below, meth, cd⟩ := C
  intro O H ls locs hR hS hL
  exact lv_tableOut O.1 O.2.1 d h1 ht (h O H ls locs hR hS hL)
theorem g_lcmp {x y : Int64} (d : decode cc pc = .ok (.lcmp, 1)) (h : Go G R cc own Y C Q (pc + 1) L (.int (lg_cmp x y) :: st) w c k) : Go G R cc own Y C Q pc L (.long y :: .long x :: st) w c k := by
  obtain ⟨p, e, s, m, args, below, meth, cd⟩ := C
  intro O H ls locs hR hS hL
  exact W.lcmp O.1 O.2.1 d (h O H ls locs hR hS hL)
end GoRows
end
section
/-! Rows that read and write the heap. -/
/-- a class of the table: its number, name, fields, types -/
def KC (ci : Nat) (Cn : String) (T : u_T) (N : Nat) (ty : Nat → FieldType) : Prop :=
  vwCl[ci]? = some (Cn, T, N) ∧ (∀ w ∈ u_ws Cn T N, w ∈ tw) ∧ (∀ k, k < N → parseFieldDescriptor (T k).2.2.1 = some (ty k)) ∧ (∀ a, a < N → ∀ b, b < N → a ≠ b → (T a).2.1 ≠ (T b).2.1)
/-- the entry 'idx' of own's pool is the field k of the class -/
def FL (own : String) (idx : Nat) (T : u_T) (k : Nat) : Prop :=
  Cond.fieldLink own idx (T k).1 (T k).2.1 (T k).2.2.1 ∈ tw ∨ (∃ host : String, Cond.fieldLinkNest own idx (T k).1 (T k).2.1 (T k).2.2.1 host ∈ tw) ∨
  ∃ ref : String, Cond.fieldLink own idx ref (T k).2.1 (T k).2.2.1 ∈ tw ∧ Cond.sameField ref (T k).1 (T k).2.1 (T k).2.2.1 ∈ tw
theorem FL.w {own : String} {idx : Nat} {T : u_T} {k : Nat} (h : Cond.fieldLink own idx (T k).1 (T k).2.1 (T k).2.2.1 ∈ tw) : FL own idx T k := Or.inl h
theorem FL.n {own host : String} {idx : Nat} {T : u_T} {k : Nat} (h : Cond.fieldLinkNest own idx (T k).1 (T k).2.1 (T k).2.2.1 host ∈ tw) : FL own idx T k := Or.inr (Or.inl ⟨host, h⟩)
theorem FL.s {own ref : String} {idx : Nat} {T : u_T} {k : Nat} (h : Cond.fieldLink own idx ref (T k).2.1 (T k).2.2.1 ∈ tw) (h2 : Cond.sameField ref (T k).1 (T k).2.1 (T k).2.2.1 ∈ tw) : FL own idx T k := Or.inr (Or.inr ⟨ref, h, h2⟩)
theorem va_S.new {A : Nat → Prop} {H0 H H1 : Heap} {locs : List Loc} (h : va_S A H0 H locs) (z : H.size ≤ H1.size) (o1 : ∀ q : Nat, q < H.size → H1[q]? = H[q]?) : va_S A H0 H1 locs :=
  ⟨Nat.le_trans h.1 z, fun x h1 h2 => (o1 x (Nat.lt_of_lt_of_le h1 h.1)).trans (h.2.1 x h1 h2), h.2.2⟩
theorem ra_cls {s : State} {cA cB : ClassId} {ty : FieldType} (h1 : va_RA s cA ty) (h2 : s.vm.findClass ("[" ++ ty.toString) = some cB) : cA = cB := by
  cases ty with
  | object C => obtain ⟨-, -, -, -, -, h4⟩ := h1; exact Option.some.inj (h4.symm.trans h2)
  | _ => exact Option.some.inj (Eq.trans (Eq.symm h1) h2)
section HeapRows
variable {G : Gx} {R : Room} {cc : ByteArray} {own : String} {Y : Yx} {C : Cx} {Q : State → Prop} {pc : Nat} {L : List (Option Value)} {st : List Value} {w : Wd} {c k : Nat}
theorem g_getf {ci N idx kf a : Nat} {Cn : String} {T : u_T} {ty : Nat → FieldType} {fs : List Value} {v : Value} (hk : KC ci Cn T N ty) (d : decode cc pc = .ok (.getfield idx, 3)) (hl : FL own idx T kf) (hlt : kf < N) (hw : w a = some (eO ci fs)) (hv : fs[kf]? = some v)
    (h : Go G R cc own Y C Q (pc + 3) L (v :: st) w c k) : Go G R cc own Y C Q pc L (.ref a :: st) w c k := by
  obtain ⟨p, e, s, m, args, below, meth, cd⟩ := C
  intro O H ls locs hR hS hL
  have hP : va_P (gD G) vwCl [(a, eO ci fs)] H := fun i q hq => by
    have hi : i < 1 := (List.getElem?_eq_some_iff.mp hq).1
    rw [show i = 0 by omega] at hq
    cases hq
    exact hR.o hw
  have hts : ∀ x ∈ tw, x.before args s = true := fun x hx => O.2.2.2.1.w hx
  rcases hl with hl | ⟨host, hl⟩ | ⟨ref, hl, hl2⟩
  · exact va_get O.1 O.2.1 hts hk.2.1 O.2.2.1 O.2.2.2.1.2.1 hP 0 rfl hk.1 kf hlt (hts _ hl) (fun _ z => z) hv d (h O H ls locs hR hS hL)
  · exact va_getN O.1 O.2.1 hts hk.2.1 O.2.2.1 O.2.2.2.1.2.1 hP 0 rfl hk.1 kf hlt (hts _ hl) (fun _ z => z) hv d (h O H ls locs hR hS hL)
  · exact va_get O.1 O.2.1 hts hk.2.1 O.2.2.1 O.2.2.2.1.2.1 hP 0 rfl hk.1 kf hlt (hts _ hl) (fun x z => u_same (hts _ hl2) x z) hv d (h O H ls locs hR hS hL)
theorem g_putf {ci N idx kf a : Nat} {Cn : String} {T : u_T} {ty : Nat → FieldType} {fs fs' : List Value} {v : Value} (hk : KC ci Cn T N ty) (d : decode cc pc = .ok (.putfield idx, 3)) (hl : FL own idx T kf) (hlt : kf < N) (hfin : (T kf).2.2.2 = false) (hw : w a = some (eO ci fs)) (ha : (gH G).size ≤ a) (hn : narrow (ty kf) v = v) (hf : fits (ty kf) v = true) (hlen : kf < fs.length) (hfs : fs.set kf v = fs')
    (h : Go G R cc own Y C Q (pc + 3) L st (up w a (eO ci fs')) c k) : Go G R cc own Y C Q pc L (v :: .ref a :: st) w c k := by
  obtain ⟨p, e, s, m, args, below, meth, cd⟩ := C
  intro O H ls locs hR hS hL
  subst hfs
  have hts : ∀ x ∈ tw, x.before args s = true := fun x hx => O.2.2.2.1.w hx
  have hK := O.2.2.2.1.2.1
  have hap := va_apart (own := own) hts hk.2.1 ty hk.2.2.1 hk.2.2.2 hK hk.1
  obtain ⟨r, h1, cell, q1, q2, q3, q4⟩ := hR.o hw
  have hr : r = (Cn, T, N) := Option.some.inj (h1.symm.trans hk.1)
  subst hr
  obtain ⟨hSl, hfc, kC, hkC, hkind⟩ := hK.1 ci _ hk.1
  obtain ⟨cf, kfc, fi, f, hi, hsl⟩ := hSl kf hlt
  have hlay := hts _ (hk.2.1 _ (u_in_lay hlt))
  unfold u_lay at hlay
  rw [if_neg (by rw [hfin]; decide)] at hlay
  have hst := (u_facts hfc hkC (u_lays hts hk.2.1 hlt) hi).1
  have h6 := u_store hfc hkC hkind hlay hi (hk.2.2.1 kf hlt) hn hf
  have go : ∀ (H' : Heap) (locs' : List Loc), H'[a]? = some (cell.setSlot f.slot v) → H'.size = H.size → (∀ q : Nat, q ≠ a → H'[q]? = H[q]?) → locs' = locs ++ [⟨a, f.slot⟩] → W p G.1 e R s m args below meth cd H' locs' c k Q (F0 m (pc + 3) ls st) := by
    intro H' locs' e1 e2 e3 e4
    subst e4
    rw [hsl] at e1
    exact h O H' ls _ (hR.put ⟨_, hk.1, t_OB.to (V := updV (vp_V fs) kf v) ⟨_, e1, q2, q3, t_set q4 hap hlt v⟩ (fun j _ => vp_updV_set hlen v j)⟩ e3) (hS.put e2 e3 ha) hL
  rcases hl with hl | ⟨host, hl⟩ | ⟨ref, hl, hl2⟩
  · exact W.putK O.1 O.2.1 (f := f) ⟨O.2.2.1, hts _ hl, ⟨_, _, _, hi⟩, hst⟩ (by rw [q2]; exact h6) q1 q3 (by rw [hsl]; exact k2_hasslot (q4 kf hlt)) rfl rfl d fun H' e1 e2 e3 => go H' _ e1 e2 e3 rfl
  · exact va_WputK O.1 O.2.1 (f := f) O.2.2.1 (hts _ hl) hi hst (by rw [q2]; exact h6) q1 q3 (by rw [hsl]; exact k2_hasslot (q4 kf hlt)) rfl rfl d fun H' e1 e2 e3 => go H' _ e1 e2 e3 rfl
  · exact W.putK O.1 O.2.1 (f := f) ⟨O.2.2.1, hts _ hl, ⟨_, _, _, u_same (hts _ hl2) _ hi⟩, hst⟩ (by rw [q2]; exact h6) q1 q3 (by rw [hsl]; exact k2_hasslot (q4 kf hlt)) rfl rfl d fun H' e1 e2 e3 => go H' _ e1 e2 e3 rfl
theorem g_putF {ci N idx kf a : Nat} {Cn : String} {T : u_T} {ty : Nat → FieldType} {fs fs' : List Value} {v : Value} {rt : Option FieldType} {hh : List (Nat × Nat × Nat × Nat)} (hk : KC ci Cn T N ty) (d : decode cc pc = .ok (.putfield idx, 3)) (hl : Cond.fieldLink own idx (T kf).1 (T kf).2.1 (T kf).2.2.1 ∈ tw) (hlt : kf < N) (hfin : (T kf).2.2.2 = true) (hdecl : (T kf).1 = own) (hw : w a = some (eO ci fs)) (ha : (gH G).size ≤ a) (hn : narrow (ty kf) v = v) (hf : fits (ty kf) v = true) (hlen : kf < fs.length) (hfs : fs.set kf v = fs')
    (h : Go G R cc own (rt, "<init>", hh) C Q (pc + 3) L st (up w a (eO ci fs')) c k) : Go G R cc own (rt, "<init>", hh) C Q pc L (v :: .ref a :: st) w c k := by
  obtain ⟨p, e, s, m, args, below, meth, cd⟩ := C
  intro O H ls locs hR hS hL
  subst hfs
  have hts : ∀ x ∈ tw, x.before args s = true := fun x hx => O.2.2.2.1.w hx
  have hK := O.2.2.2.1.2.1
  have hap := va_apart (own := own) hts hk.2.1 ty hk.2.2.1 hk.2.2.2 hK hk.1
  obtain ⟨r, h1, cell, q1, q2, q3, q4⟩ := hR.o hw
  have hr : r = (Cn, T, N) := Option.some.inj (h1.symm.trans hk.1)
  subst hr
  obtain ⟨hSl, hfc, kC, hkC, hkind⟩ := hK.1 ci _ hk.1
  obtain ⟨cf, kfc, fi, f, hi, hsl⟩ := hSl kf hlt
  have hlay := hts _ (hk.2.1 _ (u_in_lay hlt))
  unfold u_lay at hlay
  rw [if_pos hfin] at hlay
  have hst := (u_facts hfc hkC (u_lays hts hk.2.1 hlt) hi).1
  have hown := O.2.2.1
  have hcf : m.cls = cf := by
    obtain ⟨_, _, c', _, _, _, -, -, hf', -, -, -, hown2, -⟩ := Cond.laysFinal_spec hlay
    have e1 : c' = cf := by have := hi.symm.trans hf'; simp at this; exact this.1.symm
    rw [hdecl] at hown2
    rw [← e1]; exact Option.some.inj (hown.symm.trans hown2)
  have h6 := u_fits hfc hkC hkind (Or.inr hlay) hi (hk.2.2.1 kf hlt) hn hf
  refine W.putFinK O.1 O.2.1 hown (hts _ hl) hi hst hcf O.2.2.2.2.2.2.1 (by rw [q2]; exact h6) q1 q3 (by rw [hsl]; exact k2_hasslot (q4 kf hlt)) rfl rfl d fun H' e1 e2 e3 => ?_
  rw [hsl] at e1 ⊢
  exact h O H' ls _ (hR.put ⟨_, hk.1, t_OB.to (V := updV (vp_V fs) kf v) ⟨_, e1, q2, q3, t_set q4 hap hlt v⟩ (fun j _ => vp_updV_set hlen v j)⟩ e3) (hS.put e2 e3 ha) hL
theorem one_P {a : Nat} {x : Nat × List Value} {H : Heap} (hR : Rel G w H) (hw : w a = some (.inr x)) : va_P (gD G) vwCl [(a, .inr x)] H := fun i q hq => by
  have hi : i < 1 := (List.getElem?_eq_some_iff.mp hq).1
  rw [show i = 0 by omega] at hq
  cases hq
  exact hR.o hw
theorem g_iald {a n : Nat} {f : Nat → Int32} {i : Int32} (d : decode cc pc = .ok (.iaload, 1)) (hw : w a = some (eI G n f)) (hi : vp_in i n) (h : Go G R cc own Y C Q (pc + 1) L (.int (f i.toNatClampNeg) :: st) w c k) : Go G R cc own Y C Q pc L (.int i :: .ref a :: st) w c k := by
  obtain ⟨p, e, s, m, args, below, meth, cd⟩ := C
  intro O H ls locs hR hS hL
  obtain ⟨cell, q1, q2, q3, q4, q5⟩ := hR.c hw
  have hlt : i.toNatClampNeg < n := Nat.not_le.mp fun q => hi (Or.inr q)
  exact W.iald (v := .int (f i.toNatClampNeg)) O.1 O.2.1 q1 (ol_arr ((O.2.2.2.1.2.1.2 0 _ rfl).1 n (fun j => .int (f j))) q2 q4) q5 (by rw [q3]; show ¬ (i < 0 ∨ (arrV _ _ _).slots.size ≤ _); rw [arrV_size]; exact hi) (by rw [q3]; show (arrV _ _ _).slots[_]? = _; rw [arrV_read _ _ hlt]) rfl rfl d (h O H ls locs hR hS hL)
theorem g_zald {a n : Nat} {f : Nat → Int32} {i : Int32} (d : decode cc pc = .ok (.baload, 1)) (hw : w a = some (eZ G n f)) (hi : vp_in i n) (h : Go G R cc own Y C Q (pc + 1) L (.int (f i.toNatClampNeg) :: st) w c k) : Go G R cc own Y C Q pc L (.int i :: .ref a :: st) w c k := by
  obtain ⟨p, e, s, m, args, below, meth, cd⟩ := C
  intro O H ls locs hR hS hL
  obtain ⟨cell, q1, q2, q3, q4, q5⟩ := hR.c hw
  have hlt : i.toNatClampNeg < n := Nat.not_le.mp fun q => hi (Or.inr q)
  exact W.zald (v := .int (f i.toNatClampNeg)) O.1 O.2.1 q1 (ol_arr ((O.2.2.2.1.2.1.2 1 _ rfl).1 n (fun j => .int (f j))) q2 q4) q5 (by rw [q3]; show ¬ (i < 0 ∨ (arrV _ _ _).slots.size ≤ _); rw [arrV_size]; exact hi) (by rw [q3]; show (arrV _ _ _).slots[_]? = _; rw [arrV_read _ _ hlt]) rfl rfl d (h O H ls locs hR hS hL)
theorem g_lald {a n : Nat} {f : Nat → Int64} {i : Int32} (d : decode cc pc = .ok (.laload, 1)) (hw : w a = some (eJ G n f)) (hi : vp_in i n) (h : Go G R cc own Y C Q (pc + 1) L (.long (f i.toNatClampNeg) :: st) w c k) : Go G R cc own Y C Q pc L (.int i :: .ref a :: st) w c k := by
  obtain ⟨p, e, s, m, args, below, meth, cd⟩ := C
  intro O H ls locs hR hS hL
  obtain ⟨cell, q1, q2, q3, q4, q5⟩ := hR.c hw
  have hlt : i.toNatClampNeg < n := Nat.not_le.mp fun q => hi (Or.inr q)
  exact W.lald (v := .long (f i.toNatClampNeg)) O.1 O.2.1 q1 (ol_arr ((O.2.2.2.1.2.1.2 2 _ rfl).1 n (fun j => .long (f j))) q2 q4) q5 (by rw [q3]; show ¬ (i < 0 ∨ (arrV _ _ _).slots.size ≤ _); rw [arrV_size]; exact hi) (by rw [q3]; show (arrV _ _ _).slots[_]? = _; rw [arrV_read _ _ hlt]) rfl rfl d (h O H ls locs hR hS hL)
theorem g_qald {a n : Nat} {f : Nat → Option Nat} {i : Int32} {v : Value} (d : decode cc pc = .ok (.aaload, 1)) (hw : w a = some (eQ G n f)) (hi : vp_in i n) (hv : va_rf (f i.toNatClampNeg) = v) (h : Go G R cc own Y C Q (pc + 1) L (v :: st) w c k) : Go G R cc own Y C Q pc L (.int i :: .ref a :: st) w c k := by
  obtain ⟨p, e, s, m, args, below, meth, cd⟩ := C
  intro O H ls locs hR hS hL
  subst hv
  obtain ⟨cell, q1, q2, q3, q4, q5⟩ := hR.c hw
  have hlt : i.toNatClampNeg < n := Nat.not_le.mp fun q => hi (Or.inr q)
  exact W.aald (v := va_rf (f i.toNatClampNeg)) (ty := .object "java/lang/Object") O.1 O.2.1 q1 (ol_arr ((O.2.2.2.1.2.1.2 3 _ rfl).1 n (fun j => va_rf (f j))) q2 q4) rfl q5 (by rw [q3]; show ¬ (i < 0 ∨ (arrV _ _ _).slots.size ≤ _); rw [arrV_size]; exact hi) (by rw [q3]; show (arrV _ _ _).slots[_]? = _; rw [arrV_read _ _ hlt]) rfl rfl d (h O H ls locs hR hS hL)
theorem g_alenI {a n : Nat} {f : Nat → Int32} (d : decode cc pc = .ok (.arraylength, 1)) (hw : w a = some (eI G n f)) (h : Go G R cc own Y C Q (pc + 1) L (.int (nI n) :: st) w c k) : Go G R cc own Y C Q pc L (.ref a :: st) w c k := by
  obtain ⟨p, e, s, m, args, below, meth, cd⟩ := C
  intro O H ls locs hR hS hL
  obtain ⟨cell, q1, q2, q3, q4, q5⟩ := hR.c hw
  exact W.alen (n := nI n) O.1 O.2.1 q1 (ol_arr ((O.2.2.2.1.2.1.2 0 _ rfl).1 n (fun j => .int (f j))) q2 q4) (by rw [q3, vp_cell_i, arrV_size] <;> rfl) rfl rfl d (h O H ls locs hR hS hL)
theorem g_alenZ {a n : Nat} {f : Nat → Int32} (d : decode cc pc = .ok (.arraylength, 1)) (hw : w a = some (eZ G n f)) (h : Go G R cc own Y C Q (pc + 1) L (.int (nI n) :: st) w c k) : Go G R cc own Y C Q pc L (.ref a :: st) w c k := by
  obtain ⟨p, e, s, m, args, below, meth, cd⟩ := C
  intro O H ls locs hR hS hL
  obtain ⟨cell, q1, q2, q3, q4, q5⟩ := hR.c hw
  exact W.alen (n := nI n) O.1 O.2.1 q1 (ol_arr ((O.2.2.2.1.2.1.2 1 _ rfl).1 n (fun j => .int (f j))) q2 q4) (by rw [q3, vp_cell_i, arrV_size] <;> rfl) rfl rfl d (h O H ls locs hR hS hL)
theorem g_alenQ {a n : Nat} {f : Nat → Option Nat} (d : decode cc pc = .ok (.arraylength, 1)) (hw : w a = some (eQ G n f)) (h : Go G R cc own Y C Q (pc + 1) L (.int (nI n) :: st) w c k) : Go G R cc own Y C Q pc L (.ref a :: st) w c k := by
  obtain ⟨p, e, s, m, args, below, meth, cd⟩ := C
  intro O H ls locs hR hS hL
  obtain ⟨cell, q1, q2, q3, q4, q5⟩ := hR.c hw
  exact W.alen (n := nI n) O.1 O.2.1 q1 (ol_arr ((O.2.2.2.1.2.1.2 3 _ rfl).1 n (fun j => va_rf (f j))) q2 q4) (by rw [q3, vp_cell_q, arrV_size] <;> rfl) rfl rfl d (h O H ls locs hR hS hL)
theorem g_iast {a n : Nat} {f : Nat → Int32} {i x : Int32} (d : decode cc pc = .ok (.iastore, 1)) (hw : w a = some (eI G n f)) (ha : (gH G).size ≤ a) (hi : vp_in i n) (h : Go G R cc own Y C Q (pc + 1) L st (up w a (eI G n (upd f i.toNatClampNeg x))) c k) : Go G R cc own Y C Q pc L (.int x :: .int i :: .ref a :: st) w c k := by
  obtain ⟨p, e, s, m, args, below, meth, cd⟩ := C
  intro O H ls locs hR hS hL
  refine W.iast O.1 O.2.1 (hR.s hw ha) ((O.2.2.2.1.2.1.2 0 _ rfl).1 n (fun j => .int (f j))) (fun q => by cases q) (by show ¬ (i < 0 ∨ (arrV _ _ _).slots.size ≤ _); rw [arrV_size]; exact hi) rfl rfl d fun H1 e1 z oq => ?_
  refine h O H1 ls _ (hR.put ?_ oq) (hS.put z oq ha) hL
  show H1[a]? = some (vp_cell _ _)
  rw [e1, vp_cell_i, vp_cell_i, arrV_store]
  congr 2
  funext q
  by_cases hq : q = i.toNatClampNeg
  · subst hq
    simp [updV, upd]
  · simp [updV, upd, hq]
theorem g_zast {a n : Nat} {f : Nat → Int32} {i x : Int32} (d : decode cc pc = .ok (.bastore, 1)) (hw : w a = some (eZ G n f)) (ha : (gH G).size ≤ a) (hi : vp_in i n) (hx : narrow .boolean (.int x) = .int x) (h : Go G R cc own Y C Q (pc + 1) L st (up w a (eZ G n (upd f i.toNatClampNeg x))) c k) : Go G R cc own Y C Q pc L (.int x :: .int i :: .ref a :: st) w c k := by
  obtain ⟨p, e, s, m, args, below, meth, cd⟩ := C
  intro O H ls locs hR hS hL
  refine W.zast O.1 O.2.1 (hR.s hw ha) ((O.2.2.2.1.2.1.2 1 _ rfl).1 n (fun j => .int (f j))) (fun q => by cases q) (by show ¬ (i < 0 ∨ (arrV _ _ _).slots.size ≤ _); rw [arrV_size]; exact hi) rfl rfl d fun H1 e1 z oq => ?_
  refine h O H1 ls _ (hR.put ?_ oq) (hS.put z oq ha) hL
  show H1[a]? = some (vp_cell _ _)
  rw [e1, vp_cell_i, vp_cell_i, arrV_store]
  congr 2
  funext q
  by_cases hq : q = i.toNatClampNeg
  · subst hq
    simp [updV, upd, hx]
  · simp [updV, upd, hq]
theorem g_last {a n : Nat} {f : Nat → Int64} {i : Int32} {x : Int64} (d : decode cc pc = .ok (.lastore, 1)) (hw : w a = some (eJ G n f)) (ha : (gH G).size ≤ a) (hi : vp_in i n) (h : Go G R cc own Y C Q (pc + 1) L st (up w a (eJ G n (vp_updL f i.toNatClampNeg x))) c k) : Go G R cc own Y C Q pc L (.long x :: .int i :: .ref a :: st) w c k := by
  obtain ⟨p, e, s, m, args, below, meth, cd⟩ := C
  intro O H ls locs hR hS hL
  refine W.last O.1 O.2.1 (hR.s hw ha) ((O.2.2.2.1.2.1.2 2 _ rfl).1 n (fun j => .long (f j))) (fun q => by cases q) (by show ¬ (i < 0 ∨ (arrV _ _ _).slots.size ≤ _); rw [arrV_size]; exact hi) rfl rfl d fun H1 e1 z oq => ?_
  refine h O H1 ls _ (hR.put ?_ oq) (hS.put z oq ha) hL
  show H1[a]? = some (vp_cell _ _)
  rw [e1, vp_cell_l, vp_cell_l, arrV_store]
  congr 2
  funext q
  by_cases hq : q = i.toNatClampNeg
  · subst hq
    simp [updV, vp_updL]
  · simp [updV, vp_updL, hq]
theorem g_qast {a n v ci : Nat} {f : Nat → Option Nat} {i : Int32} {vs : List Value} {Cn : String} {T : u_T} {N : Nat} {ty : Nat → FieldType} (hk : KC ci Cn T N ty) (hca : Cond.castable Cn "java/lang/Object" ∈ tw) (d : decode cc pc = .ok (.aastore, 1)) (hw : w a = some (eQ G n f)) (hv : w v = some (eO ci vs)) (ha : (gH G).size ≤ a) (hi : vp_in i n) (h : Go G R cc own Y C Q (pc + 1) L st (up w a (eQ G n (va_up f i.toNatClampNeg (some v)))) c k) : Go G R cc own Y C Q pc L (.ref v :: .int i :: .ref a :: st) w c k := by
  obtain ⟨p, e, s, m, args, below, meth, cd⟩ := C
  intro O H ls locs hR hS hL
  have hlt : i.toNatClampNeg < n := Nat.not_le.mp fun q => hi (Or.inr q)
  have h0 : ¬ i < 0 := fun q => hi (Or.inl q)
  have hK := O.2.2.2.1.2.1
  obtain ⟨r', hr', cellV, g1, g2, g3, -⟩ := hR.o hv
  have hcls := (hK.1 ci _ hk.1).2
  obtain ⟨kA, comp, k1, k2, k3, -⟩ := (hK.2 3 _ rfl).2
  obtain ⟨kE, hkE, -⟩ := Vm.findClass_spec k3
  obtain ⟨c0, t1, f1, f2, f3⟩ := Cond.castable_spec (O.2.2.2.1.w (a := args) hca)
  cases hcls.1.symm.trans f1
  cases k3.symm.trans f2
  obtain ⟨kC, hkC, -⟩ := hcls.2
  refine W.aast O.1 O.2.1 (hR.s hw ha) (fun q h => by cases h) (fun h => by cases h) k1 k2 rfl hkE ⟨h0, by show _ < (arrV _ _ _).slots.size; rw [arrV_size]; exact hlt⟩ g1 (fun q h => by rw [g3] at h; cases h) (by rw [g2]; exact hkC) (by rw [g2]; exact f3) rfl rfl d fun H1 e1 z oq => ?_
  refine h O H1 ls _ (hR.put ?_ oq) (hS.put z oq ha) hL
  show H1[a]? = some (vp_cell _ _)
  rw [e1, vp_cell_q, vp_cell_q, arrV_store]
  congr 2
  funext q
  by_cases hq : q = i.toNatClampNeg
  · subst hq
    simp [updV, va_up, va_rf]
  · simp [updV, va_up, hq]
theorem g_new {ci N idx : Nat} {Cn : String} {T : u_T} {ty : Nat → FieldType} {fs : List Value} (hk : KC ci Cn T N ty) (d : decode cc pc = .ok (.new idx, 3)) (h1 : Cond.classLink own idx Cn ∈ tw) (h2 : Cond.instantiable Cn N ∈ tw) (h3 : Cond.initialized Cn ∈ tw) (hfs : ∀ j, j < N → defaultValue (ty j) = vp_V fs j) (hc : c + 1 ≤ R.cells) (hs : k + N ≤ R.slots)
    (h : ∀ q : Nat, w q = none → (gH G).size ≤ q → Go G R cc own Y C Q (pc + 3) L (.ref q :: st) (up w q (eO ci fs)) (c + 1) (k + N)) : Go G R cc own Y C Q pc L st w c k := by
  obtain ⟨p, e, s, m, args, below, meth, cd⟩ := C
  intro O H ls locs hR hS hL
  have hts : ∀ x ∈ tw, x.before args s = true := fun x hx => O.2.2.2.1.w hx
  have hKn := O.2.2.2.1.2.1.1 ci _ hk.1
  refine W.newcK O.1 O.2.1 O.2.2.1 (hts _ h1) (hts _ h2) (hts _ h3) rfl d hc hs hKn.2.1 rfl fun H1 kC hkC e1 z1 o1 => ?_
  exact h H.size hR.fresh (Nat.le_trans O.2.2.2.2.1.1 hS.1) O H1 ls locs (hR.push ⟨_, hk.1, (u_born ty hts hk.2.1 hKn hkC e1 hk.2.2.1).to hfs⟩ o1) (hS.new (by omega) o1) hL
theorem g_newI {n : Int32} {N : Nat} (d : decode cc pc = .ok (.newarray .int, 2)) (h1 : Cond.arrayClass .int ∈ tw) (hn : ¬ n < 0) (hN : n.toNatClampNeg = N) (hb : N * 4 ≤ 536870912) (hc : c + 1 ≤ R.cells) (hs : k + N ≤ R.slots)
    (h : ∀ q : Nat, w q = none → (gH G).size ≤ q → Go G R cc own Y C Q (pc + 2) L (.ref q :: st) (up w q (eI G N (fun _ => 0))) (c + 1) (k + N)) : Go G R cc own Y C Q pc L (.int n :: st) w c k := by
  obtain ⟨p, e, s, m, args, below, meth, cd⟩ := C
  intro O H ls locs hR hS hL
  refine va_newaK (atype := .int) O.1 O.2.1 (O.2.2.2.1.w h1) rfl d rfl hn hN hb hc hs rfl fun H1 cA e1 z1 o1 hAr hNm => ?_
  have ec : gI G = cA := ra_cls (ty := .int) (O.2.2.2.1.2.1.2 0 _ rfl).2 hNm
  subst ec
  exact h H.size hR.fresh (Nat.le_trans O.2.2.2.2.1.1 hS.1) O H1 ls locs (hR.push e1 o1) (hS.new (by omega) o1) hL
theorem g_newZ {n : Int32} {N : Nat} (d : decode cc pc = .ok (.newarray .boolean, 2)) (h1 : Cond.arrayClass .boolean ∈ tw) (hn : ¬ n < 0) (hN : n.toNatClampNeg = N) (hb : N * 1 ≤ 536870912) (hc : c + 1 ≤ R.cells) (hs : k + N ≤ R.slots)
    (h : ∀ q : Nat, w q = none → (gH G).size ≤ q → Go G R cc own Y C Q (pc + 2) L (.ref q :: st) (up w q (eZ G N (fun _ => 0))) (c + 1) (k + N)) : Go G R cc own Y C Q pc L (.int n :: st) w c k := by
  obtain ⟨p, e, s, m, args, below, meth, cd⟩ := C
  intro O H ls locs hR hS hL
  refine va_newaK (atype := .boolean) O.1 O.2.1 (O.2.2.2.1.w h1) rfl d rfl hn hN hb hc hs rfl fun H1 cA e1 z1 o1 hAr hNm => ?_
  have ec : gZ G = cA := ra_cls (ty := .boolean) (O.2.2.2.1.2.1.2 1 _ rfl).2 hNm
  subst ec
  exact h H.size hR.fresh (Nat.le_trans O.2.2.2.2.1.1 hS.1) O H1 ls locs (hR.push e1 o1) (hS.new (by omega) o1) hL
theorem g_newJ {n : Int32} {N : Nat} (d : decode cc pc = .ok (.newarray .long, 2)) (h1 : Cond.arrayClass .long ∈ tw) (hn : ¬ n < 0) (hN : n.toNatClampNeg = N) (hb : N * 8 ≤ 536870912) (hc : c + 1 ≤ R.cells) (hs : k + N ≤ R.slots)
    (h : ∀ q : Nat, w q = none → (gH G).size ≤ q → Go G R cc own Y C Q (pc + 2) L (.ref q :: st) (up w q (eJ G N (fun _ => 0))) (c + 1) (k + N)) : Go G R cc own Y C Q pc L (.int n :: st) w c k := by
  obtain ⟨p, e, s, m, args, below, meth, cd⟩ := C
  intro O H ls locs hR hS hL
  refine va_newaK (atype := .long) O.1 O.2.1 (O.2.2.2.1.w h1) rfl d rfl hn hN hb hc hs rfl fun H1 cA e1 z1 o1 hAr hNm => ?_
  have ec : gJ G = cA := ra_cls (ty := .long) (O.2.2.2.1.2.1.2 2 _ rfl).2 hNm
  subst ec
  exact h H.size hR.fresh (Nat.le_trans O.2.2.2.2.1.1 hS.1) O H1 ls locs (hR.push e1 o1) (hS.new (by omega) o1) hL
theorem g_newQ {n : Int32} {N idx : Nat} (d : decode cc pc = .ok (.anewarray idx, 3)) (h1 : Cond.classLink own idx "java/lang/Object" ∈ tw) (hn : ¬ n < 0) (hN : n.toNatClampNeg = N) (hb : N * 4 ≤ 536870912) (hc : c + 1 ≤ R.cells) (hs : k + N ≤ R.slots)
    (h : ∀ q : Nat, w q = none → (gH G).size ≤ q → Go G R cc own Y C Q (pc + 3) L (.ref q :: st) (up w q (eQ G N (fun _ => none))) (c + 1) (k + N)) : Go G R cc own Y C Q pc L (.int n :: st) w c k := by
  obtain ⟨p, e, s, m, args, below, meth, cd⟩ := C
  intro O H ls locs hR hS hL
  subst hN
  refine W.anew O.1 O.2.1 O.2.2.1 (O.2.2.2.1.w h1) (va_AO.use O.2.2.2.1.2.2.2.2.2.2.2.2.1) rfl d rfl hn hb hc hs fun cA kA comp f1 f2 f3 f4 => ?_
  have ec : gO G = cA := ra_cls (ty := .object "java/lang/Object") (O.2.2.2.1.2.1.2 3 _ rfl).2 f1
  subst ec
  generalize hH1 : H.push ({ cls := gO G, slots := Array.replicate n.toNatClampNeg .null, vm := .none } : Cell) = H1
  have z1 : H1.size = H.size + 1 := by rw [← hH1, Array.size_push]
  have e1 : H1[H.size]? = some (arrV (gO G) n.toNatClampNeg (fun _ => .null)) := by rw [← hH1, Array.getElem?_push_size, ← arrV_new]
  have o1 : ∀ q : Nat, q < H.size → H1[q]? = H[q]? := fun q hq => by rw [← hH1, Array.getElem?_push, if_neg (Nat.ne_of_lt hq)]
  exact h H.size hR.fresh (Nat.le_trans O.2.2.2.2.1.1 hS.1) O H1 ls locs (hR.push (by show H1[H.size]? = some (vp_cell _ _); rw [vp_cell_q]; exact e1) o1) (hS.new (by omega) o1) hL
theorem g_cast {ci N idx a : Nat} {Cn : String} {T : u_T} {ty : Nat → FieldType} {fs : List Value} (hk : KC ci Cn T N ty) (d : decode cc pc = .ok (.checkcast idx, 3)) (h1 : Cond.classLink own idx Cn ∈ tw) (hw : w a = some (eO ci fs)) (h : Go G R cc own Y C Q (pc + 3) L (.ref a :: st) w c k) : Go G R cc own Y C Q pc L (.ref a :: st) w c k := by
  obtain ⟨p, e, s, m, args, below, meth, cd⟩ := C
  intro O H ls locs hR hS hL
  have hr := va_recv (q0 := 0) O.2.2.2.1.2.1 (one_P hR hw) hk.1 rfl
  exact va_castS O.1 O.2.1 O.2.2.1 (O.2.2.2.1.w h1) (O.2.2.2.1.2.1.1 ci _ hk.1).2 hr d (h O H ls locs hR hS hL)
theorem g_objInit {idx : Nat} {a : Nat} (d : decode cc pc = .ok (.invokespecial idx, 3)) (h1 : Cond.methodLink own idx Lib.objectInit ∈ tw) (h2 : Cond.instanceMethod Lib.objectInit ∈ tw) (h3 : Cond.code Lib.objectInit ⟨#[0xb1]⟩ 1 none ∈ tw) (hf : 1 ≤ R.frames) (hl : (st.map fun v => v.category).sum + 12 ≤ R.locals) (h : Go G R cc own Y C Q (pc + 3) L st w c k) : Go G R cc own Y C Q pc L (.ref a :: st) w c k := by
  obtain ⟨p, e, s, m, args, below, meth, cd⟩ := C
  intro O H ls locs hR hS hL
  exact W.objInit O.1 O.2.1 O.2.2.1 (O.2.2.2.1.w h1) (O.2.2.2.1.w h2) (O.2.2.2.1.w h3) rfl hL.1 rfl d hf (by show 2 * 0 + _ + 12 ≤ _; omega) (h O H ls locs hR hS hL)
end HeapRows
end
section
/-! Contracts over a world; calls, returns, throws, handlers. -/
/-- what a method gives back: a value (or none), or the class of what it throws -/
abbrev RV : Type := Option Value ⊕ String
def Pc0 (G : Gx) (As : List Value) (w : Wd) : Array Value → State → Prop := fun v U => v = As.toArray ∧ GK G U ∧ BaseOk G U.heap ∧ Rel G w U.heap
def Qc0 (G : Gx) (P : RV → Wd → Prop) : Array Value → State → Outcome → State → Prop := fun _ st o t => ∃ (v : Option Value) (w' : Wd), o = .returned v ∧ P (.inl v) w' ∧ Rel G w' t.heap ∧ va_F (gA G) st t
def Xc0 (G : Gx) (P : RV → Wd → Prop) : String → State → State → Prop := fun E st t => ∃ w' : Wd, P (.inr E) w' ∧ Rel G w' t.heap ∧ va_F (gA G) st t
def Ct (G : Gx) (y : MethodName) (cw : Cond) (rm : Room) (As : List Value) (w : Wd) (P : RV → Wd → Prop) : Prop := vx_Met G.1 y [cw] rm (Pc0 G As w) (Qc0 G P) (Xc0 G P) rm.cells rm.slots (gA G)
theorem Ct.mono {G : Gx} {y : MethodName} {cw : Cond} {rm : Room} {As : List Value} {w : Wd} {P P' : RV → Wd → Prop} (h : Ct G y cw rm As w P) (hp : ∀ r w', P r w' → P' r w') : Ct G y cw rm As w P' := by
  intro p e ha hc hk s m args below hf happ hP hK
  obtain ⟨n, o, h1, h2, h3, h4⟩ := h p e ha hc hk s m args below hf happ hP hK
  refine ⟨n, o, h1, h2, h3, ?_⟩
  rcases h4 with ⟨⟨v, w', g1, g2, g3⟩, g4⟩ | ⟨q, g1, E, ce, Lc, ⟨w', g2, g3⟩, g4⟩
  · exact Or.inl ⟨⟨v, w', g1, hp _ _ g2, g3⟩, g4⟩
  · exact Or.inr ⟨q, g1, E, ce, Lc, ⟨w', hp _ _ g2, g3⟩, g4⟩
theorem Pc0.blind {G : Gx} {As : List Value} {w : Wd} : FrameBlind (Pc0 G As w) := fun a U g mk h => ⟨h.1, GK.warm (s := U) (State.WarmedH.refl U) h.2.1, h.2.2.1, h.2.2.2⟩
theorem Ct.met {G : Gx} {y : MethodName} {cw : Cond} {rm : Room} {As : List Value} {w : Wd} {P : RV → Wd → Prop} (h : Ct G y cw rm As w P) (hx : ∀ E w', ¬ P (.inr E) w') : Met G.1 y [cw] rm (Pc0 G As w) (Qc0 G P) rm.cells rm.slots (gA G) := by
  intro p e ha hc hk s m args below hf happ hP hK
  obtain ⟨n, o, h1, h2, h3, h4⟩ := h p e ha hc hk s m args below hf happ hP hK
  refine ⟨n, o, h1, h2, h3, ?_⟩
  rcases h4 with h4 | ⟨q, g1, E, ce, Lc, ⟨w', g2, g3⟩, g4⟩
  · exact h4
  · exact absurd g2 (hx _ _)
def QP (G : Gx) (rm : Room) (P : RV → Wd → Prop) : Cx → State → Prop
  | (_, _, s, _, args, below, _, _) => vx_MQ below (Qc0 G P) (Xc0 G P) args s rm.cells rm.slots (gA G)
theorem lv_args1 {As : List Value} (hc : ∀ v ∈ As, v.category = 1) : ∀ (n i : Nat) (v : Value), As[i]? = some v → (n + i, v) ∈ lv_args n As := by
  induction As with
  | nil => intro n i v h; cases h
  | cons a As ih =>
    intro n i v h
    have ha : ¬ a.category = 2 := by rw [hc a List.mem_cons_self]; decide
    cases i with
    | zero => cases h; exact List.mem_cons_self
    | succ i =>
      have h2 := ih (fun v hv => hc v (List.mem_cons_of_mem _ hv)) (n + 1) i v h
      show (n + (i + 1), v) ∈ (n, a) :: lv_args (if a.category = 2 then n + 2 else n + 1) As
      rw [if_neg ha]
      refine List.mem_cons_of_mem _ ?_
      rw [show n + (i + 1) = n + 1 + i by omega]
      exact h2
theorem lg_sl1 {As : List Value} (hc : ∀ v ∈ As, v.category = 1) : (lg_sl As).length = As.length := by
  induction As with
  | nil => rfl
  | cons a As ih =>
    have ha := hc a List.mem_cons_self
    have h2 := ih (fun v hv => hc v (List.mem_cons_of_mem _ hv))
    unfold lg_sl at h2 ⊢
    rw [List.flatMap_cons, List.length_append, h2]
    cases a <;> simp_all [Value.category] <;> omega
theorem entry_LV {cd : Code} {m : MethodId} {As : List Value} {maxL : Nat} {L0 : List (Option Value)} (hml : cd.maxLocals = maxL) (hcat : ∀ v ∈ As, v.category = 1) (hle : As.length ≤ maxL) (hL0 : L0 = As.map some ++ List.replicate (maxL - As.length) none) :
    ∃ ls : Array Slot, entryFrame m As.toArray maxL = F0 m 0 ls [] ∧ LV cd ls L0 := by
  have h := lv_entry As (n := maxL) (by rw [lg_sl1 hcat]; exact hle)
  refine ⟨_, lg_entry_eq m As maxL, h.1.trans hml.symm, h.2.1, ?_, ?_⟩
  · rw [h.1, hL0, List.length_append, List.length_map, List.length_replicate]; omega
  · intro i v hi _
    rw [hL0] at hi
    have hi2 : As[i]? = some v := by
      by_cases hlt : i < As.length
      · rw [List.getElem?_append_left (by rw [List.length_map]; exact hlt), List.getElem?_map] at hi
        cases hA : As[i]? with
        | none => rw [hA] at hi; cases hi
        | some u => rw [hA] at hi; cases hi; rfl
      · rw [List.getElem?_append_right (by rw [List.length_map]; omega)] at hi
        have := List.eq_of_mem_replicate (List.mem_of_getElem? hi)
        cases this
    refine h.2.2 (i, v) ?_
    have := lv_args1 hcat 0 i v hi2
    rwa [Nat.zero_add] at this
theorem entry_LVL {cd : Code} {m : MethodId} {As : List Value} {maxL : Nat} {L0 : List (Option Value)} (hml : cd.maxLocals = maxL) (hle : (lg_sl As).length ≤ maxL) (hlen : L0.length ≤ maxL) (hq : ∀ i v, L0[i]? = some (some v) → (i, v) ∈ lv_args 0 As) :
    ∃ ls : Array Slot, entryFrame m As.toArray maxL = F0 m 0 ls [] ∧ LV cd ls L0 := by
  have h := lv_entry As (n := maxL) hle
  exact ⟨_, lg_entry_eq m As maxL, h.1.trans hml.symm, h.2.1, by rw [h.1]; exact hlen, fun i v hi _ => h.2.2 (i, v) (hq i v hi)⟩
/-- a contract out of a walk: a method without a table of handlers -/
theorem ct_intro {G : Gx} {y : MethodName} {cc : ByteArray} {maxL : Nat} {ret : Option FieldType} {rm : Room} {As : List Value} {w : Wd} {P : RV → Wd → Prop} (own nm : String) (hy : plainName y.cls = true) (ho : y.cls = own) (hn : y.name = nm) (hcat : As.all (fun v => v.category == 1) = true) (hle : As.length ≤ maxL)
    (L0 : List (Option Value)) (hL0 : L0 = As.map some ++ List.replicate (maxL - As.length) none) (body : ∀ C : Cx, Go G rm cc own (ret, nm, []) C (QP G rm P C) 0 L0 [] w 0 0) : Ct G y (.code y cc maxL ret) rm As w P := by
  refine vx_ofW (cc := cc) (maxL := maxL) (ret := ret) hy rfl ?_
  intro p e s m args below meth c s₁ B hml htb hP
  obtain ⟨rfl, hGK, hBO, hR⟩ := hP
  obtain ⟨ls, e1, hL⟩ := entry_LV (cd := c) (m := m) hml (fun v hv => by simpa using List.all_eq_true.mp hcat v hv) hle hL0
  rw [e1]
  have htab : c.exceptionTable.toList = tableOf [] := by
    cases hx : c.exceptionTable.toList with
    | nil => rfl
    | cons x xs => exact absurd (htb x (by rw [hx]; exact List.mem_cons_self)) id
  exact body (p, e, s, m, As.toArray, below, meth, c) ⟨B.exec, B.bytes, ho ▸ findClass_of_methodNamed B.named, hGK, hBO, B.returns, ((name_of_methodNamed B.named B.method).1).trans hn, htab, B.notSynchronized⟩ s.heap ls [] hR va_S.rf hL
/-- .. with long arguments -/
theorem ct_introL {G : Gx} {y : MethodName} {cc : ByteArray} {maxL : Nat} {ret : Option FieldType} {rm : Room} {As : List Value} {w : Wd} {P : RV → Wd → Prop} (own nm : String) (hy : plainName y.cls = true) (ho : y.cls = own) (hn : y.name = nm) (hle : (lg_sl As).length ≤ maxL)
    (L0 : List (Option Value)) (hlen : L0.length ≤ maxL) (hq : ∀ i v, L0[i]? = some (some v) → (i, v) ∈ lv_args 0 As) (body : ∀ C : Cx, Go G rm cc own (ret, nm, []) C (QP G rm P C) 0 L0 [] w 0 0) : Ct G y (.code y cc maxL ret) rm As w P := by
  refine vx_ofW (cc := cc) (maxL := maxL) (ret := ret) hy rfl ?_
  intro p e s m args below meth c s₁ B hml htb hP
  obtain ⟨rfl, hGK, hBO, hR⟩ := hP
  obtain ⟨ls, e1, hL⟩ := entry_LVL (cd := c) (m := m) hml hle hlen hq
  rw [e1]
  have htab : c.exceptionTable.toList = tableOf [] := by
    cases hx : c.exceptionTable.toList with
    | nil => rfl
    | cons x xs => exact absurd (htb x (by rw [hx]; exact List.mem_cons_self)) id
  exact body (p, e, s, m, As.toArray, below, meth, c) ⟨B.exec, B.bytes, ho ▸ findClass_of_methodNamed B.named, hGK, hBO, B.returns, ((name_of_methodNamed B.named B.method).1).trans hn, htab, B.notSynchronized⟩ s.heap ls [] hR va_S.rf hL
/-- .. with a table of handlers -/
theorem ct_introW {G : Gx} {y : MethodName} {cc : ByteArray} {maxL : Nat} {ret : Option FieldType} {hh : List (Nat × Nat × Nat × Nat)} {rm : Room} {As : List Value} {w : Wd} {P : RV → Wd → Prop} (own nm : String) (hy : plainName y.cls = true) (ho : y.cls = own) (hn : y.name = nm) (hcat : As.all (fun v => v.category == 1) = true) (hle : As.length ≤ maxL)
    (L0 : List (Option Value)) (hL0 : L0 = As.map some ++ List.replicate (maxL - As.length) none) (body : ∀ C : Cx, Go G rm cc own (ret, nm, hh) C (QP G rm P C) 0 L0 [] w 0 0) : Ct G y (.codeWith y cc maxL ret hh) rm As w P := by
  refine vx_ofWH (cc := cc) (maxL := maxL) (ret := ret) hy rfl ?_
  intro p e s m args below meth c s₁ B hml hP
  obtain ⟨rfl, hGK, hBO, hR⟩ := hP
  obtain ⟨ls, e1, hL⟩ := entry_LV (cd := c) (m := m) hml (fun v hv => by simpa using List.all_eq_true.mp hcat v hv) hle hL0
  rw [e1]
  have hts := atoms_spec (ws := [Cond.codeWith y cc maxL ret hh]) B.pre
  have htab : c.exceptionTable.toList = tableOf hh := vx_table (x := y) B (hts _ List.mem_cons_self)
  exact body (p, e, s, m, As.toArray, below, meth, c) ⟨B.exec, B.bytes, ho ▸ findClass_of_methodNamed B.named, hGK, hBO, B.returns, ((name_of_methodNamed B.named B.method).1).trans hn, htab, B.notSynchronized⟩ s.heap ls [] hR va_S.rf hL
/-- an exception of class E over the method's frame at pc -/
def GoX (G : Gx) (R : Room) (cc : ByteArray) (own : String) (Y : Yx) : Cx → (State → Prop) → Nat → List (Option Value) → Wd → Nat → Nat → String → Prop
  | (p, e, s, m, args, below, meth, cd), Q, pc, L, w, c, k, E => Okk G cc own Y p s m meth cd → ∀ (H : Heap) (ls : Array Slot) (locs : List Loc) (q : Addr) (ce : Cell) (st : List Value), Rel G w H → va_S (gA G) s.heap H locs → LV cd ls L →
      H[q]? = some ce → ce.vm = .none → s.vm.findClass E = some ce.cls → vx_W p G.1 e R s m args below meth cd H locs c k Q (F0 m pc ls st) q
/-- a method that can be called: its code, and what its name says -/
def MD (y : MethodName) (cw : Cond) (n : Nat) : Prop := cw ∈ tw ∧ Cond.initialized y.cls ∈ tw ∧ (y.cls ≠ "java/lang/invoke/MethodHandle" ∧ y.cls ≠ "java/lang/invoke/VarHandle") ∧ (parseMethodDescriptor y.desc).map (fun d => d.parameters.length) = some n
section CallRows
variable {G : Gx} {R : Room} {cc : ByteArray} {own : String} {Y : Yx} {C : Cx} {Q : State → Prop} {pc : Nat} {L : List (Option Value)} {st : List Value} {w : Wd} {c k : Nat}
theorem run_go {p : Program} {e : Env} {s : State} {m : MethodId} {args : Array Value} {below : List Frame} {meth : Method} {cd : Code} {H : Heap} {locs : List Loc} {ls : Array Slot} {rm : Room} {P : RV → Wd → Prop} {S : List Value} {a : Array Value}
    (O : Okk G cc own Y p s m meth cd) (hS : va_S (gA G) s.heap H locs) (hL : LV cd ls L)
    (hr : vx_Run p G.1 e R s m args below meth cd H locs c k rm.cells rm.slots (F0 m pc ls S) st (Qc0 G P a) (Xc0 G P) (gA G))
    (kr : ∀ v w', P (.inl v) w' → Go G R cc own Y (p, e, s, m, args, below, meth, cd) Q (pc + 3) L (v.toList ++ st) w' (c + rm.cells) (k + rm.slots))
    (kx : ∀ E w', P (.inr E) w' → GoX G R cc own Y (p, e, s, m, args, below, meth, cd) Q pc L w' (c + rm.cells) (k + rm.slots) E) : W p G.1 e R s m args below meth cd H locs c k Q (F0 m pc ls S) := by
  intro T hT X
  rcases hr T hT X with ⟨v, st₀, t, T', Lc, h0, X', hL', e1, e2, ⟨v', w', hv, hp, hR', hF⟩, stp⟩ | ⟨q, st₀, t, T', Lc, E, ce, h0, X', hL', e1, e2, ⟨w', hp, hR', hF⟩, hce, hcv, hcl, stp⟩
  · cases hv
    obtain ⟨k1, k2, k3⟩ := vx_keep h0 e1 hS (fun _ _ z => z) (fun _ z => z) hL' hF
    obtain ⟨t2, a1, b1⟩ := kr v w' hp O T'.heap ls (locs ++ Lc) (by rw [e1]; exact hR') k3 hL T' rfl X'
    exact ⟨t2, stp t2 a1, b1⟩
  · obtain ⟨k1, k2, k3⟩ := vx_keep h0 e1 hS (fun _ _ z => z) (fun _ z => z) hL' hF
    obtain ⟨t2, a1, b1⟩ := kx E w' hp O T'.heap ls (locs ++ Lc) q ce st (by rw [e1]; exact hR') k3 hL (by rw [e1]; exact hce) hcv hcl T' rfl X'
    exact ⟨t2, stp.trans a1, b1⟩
theorem run_goN {p : Program} {e : Env} {s : State} {m : MethodId} {args : Array Value} {below : List Frame} {meth : Method} {cd : Code} {H : Heap} {locs : List Loc} {ls : Array Slot} {rm : Room} {P : RV → Wd → Prop} {S : List Value} {a : Array Value}
    (O : Okk G cc own Y p s m meth cd) (hS : va_S (gA G) s.heap H locs) (hL : LV cd ls L)
    (hr : va_Run p G.1 e R s m args below meth cd H locs c k rm.cells rm.slots (F0 m pc ls S) st (Qc0 G P a) (gA G))
    (kr : ∀ v w', P (.inl v) w' → Go G R cc own Y (p, e, s, m, args, below, meth, cd) Q (pc + 3) L (v.toList ++ st) w' (c + rm.cells) (k + rm.slots)) : W p G.1 e R s m args below meth cd H locs c k Q (F0 m pc ls S) := by
  intro T hT X
  obtain ⟨v, st₀, t, T', Lc, h0, X', hL', e1, e2, ⟨v', w', hv, hp, hR', hF⟩, stp⟩ := hr T hT X
  cases hv
  obtain ⟨k1, k2, k3⟩ := vx_keep h0 e1 hS (fun _ _ z => z) (fun _ z => z) hL' hF
  obtain ⟨t2, a1, b1⟩ := kr v w' hp O T'.heap ls (locs ++ Lc) (by rw [e1]; exact hR') k3 hL T' rfl X'
  exact ⟨t2, stp t2 a1, b1⟩
theorem pc0_at {p : Program} {s U : State} {m : MethodId} {meth : Method} {cd : Code} {H : Heap} {locs : List Loc} {As : List Value} (O : Okk G cc own Y p s m meth cd) (hR : Rel G w H) (hS : va_S (gA G) s.heap H locs) (hU : U.heap = H) (hW : s.WarmedH U.vm) : Pc0 G As w As.toArray U := by
  refine ⟨rfl, O.2.2.2.1.warm hW, ⟨?_, fun q hq => ?_⟩, by rw [hU]; exact hR⟩
  · rw [hU]; exact Nat.le_trans O.2.2.2.2.1.1 hS.1
  · rw [hU, hS.2.1 q (Nat.lt_of_lt_of_le hq O.2.2.2.2.1.1) (by show ¬ (gH G).size ≤ q; omega)]
    exact O.2.2.2.2.1.2 q hq
theorem ws_at {p : Program} {s : State} {m : MethodId} {meth : Method} {cd : Code} {cw : Cond} (O : Okk G cc own Y p s m meth cd) (hc : cw ∈ tw) : ∀ x ∈ [cw], ∀ (a' : Array Value) (U : State), s.WarmedH U.vm → x.before a' U = true := by
  intro x hx a' U hW
  rw [List.mem_singleton.mp hx]
  exact okW_at hW (List.mem_filter.mp hc).2 (O.2.2.2.1.w (a := #[]) hc)
theorem len_of {y : MethodName} {n : Nat} (h2 : (parseMethodDescriptor y.desc).map (fun d => d.parameters.length) = some n) : ∀ sig, parseMethodDescriptor y.desc = some sig → n = sig.parameters.length := by
  intro sig h
  rw [h] at h2
  exact (Option.some.inj h2).symm
theorem recv_at {p : Program} {s : State} {m : MethodId} {meth : Method} {cd : Code} {H : Heap} {ci N b : Nat} {Cn : String} {T : u_T} {ty : Nat → FieldType} {fs : List Value} (O : Okk G cc own Y p s m meth cd) (hk : KC ci Cn T N ty) (hR : Rel G w H) (hw : w b = some (eO ci fs)) : ∃ cellB : Cell, H[b]? = some cellB ∧ cellB.vm.isStatics = false ∧ s.vm.findClass Cn = some cellB.cls :=
  va_recv (q0 := 0) O.2.2.2.1.2.1 (one_P hR hw) hk.1 rfl
abbrev RmOk (R rm : Room) (maxL : Nat) (st : List Value) (c k : Nat) : Prop := (rm.frames + 1 ≤ R.frames ∧ 8 + (maxL + 11) + rm.locals ≤ R.locals ∧ (st.map fun v => v.category).sum ≤ 8) ∧ c + rm.cells ≤ R.cells ∧ k + rm.slots ≤ R.slots
theorem RmOk.of {R rm : Room} {maxL : Nat} {st : List Value} {c k : Nat} (h1 : rm.frames + 1 ≤ R.frames) (h2 : 8 + (maxL + 11) + rm.locals ≤ R.locals) (h3 : (st.map fun v => v.category).sum ≤ 8) (h4 : c + rm.cells ≤ R.cells) (h5 : k + rm.slots ≤ R.slots) : RmOk R rm maxL st c k := ⟨⟨h1, h2, h3⟩, h4, h5⟩
theorem mr_of {m : MethodId} {ls : Array Slot} {S st : List Value} (h : (st.map fun v => v.category).sum ≤ 8) : 2 * (F0 m pc ls S).monitorRoom + (st.map fun v => v.category).sum ≤ 8 := by
  show 2 * 0 + _ ≤ _
  omega

theorem g_callS0 {y : MethodName} {bytes : ByteArray} {maxL idx : Nat} {ret : Option FieldType} {rm : Room} {P : RV → Wd → Prop} (ct : Ct G y (.code y bytes maxL ret) rm [] w P) (md : MD y (.code y bytes maxL ret) 0) (d : decode cc pc = .ok (.invokestatic idx, 3)) (h1 : Cond.methodLink own idx y ∈ tw) (h2 : Cond.static y ∈ tw) (hr : RmOk R rm maxL st c k)
    (kr : ∀ v w', P (.inl v) w' → Go G R cc own Y C Q (pc + 3) L (v.toList ++ st) w' (c + rm.cells) (k + rm.slots))
    (kx : ∀ E w', P (.inr E) w' → GoX G R cc own Y C Q pc L w' (c + rm.cells) (k + rm.slots) E) : Go G R cc own Y C Q pc L (st) w c k := by
  obtain ⟨p, e, s, m, args, below, meth, cd⟩ := C
  intro O H ls locs hR hS hL
  have hw := fun {x : Cond} (hx : x ∈ tw) => O.2.2.2.1.w (a := args) hx
  exact run_go O hS hL (vx_runS (Ts := []) (maxL := maxL) (ret := ret) (As := []) (n := 0) ⟨O.1, O.2.1, hL.1.symm, O.2.2.1, fun _ z => nomatch z⟩ ct ⟨⟨rfl, rfl, hr.1.1, hr.1.2.1, ws_at O md.1, List.mem_cons_self, hw md.1, hw md.2.1, md.2.2.1, len_of md.2.2.2, hw h1⟩, hw h2⟩ ⟨Pc0.blind, fun U hU hW => pc0_at O hR hS hU hW⟩ rfl rfl rfl rfl (mr_of hr.1.2.2) d hr.2) kr kx
theorem g_callSW0 {y : MethodName} {bytes : ByteArray} {maxL idx : Nat} {ret : Option FieldType} {hh : List (Nat × Nat × Nat × Nat)} {rm : Room} {P : RV → Wd → Prop} (ct : Ct G y (.codeWith y bytes maxL ret hh) rm [] w P) (md : MD y (.codeWith y bytes maxL ret hh) 0) (d : decode cc pc = .ok (.invokestatic idx, 3)) (h1 : Cond.methodLink own idx y ∈ tw) (h2 : Cond.static y ∈ tw) (hr : RmOk R rm maxL st c k)
    (kr : ∀ v w', P (.inl v) w' → Go G R cc own Y C Q (pc + 3) L (v.toList ++ st) w' (c + rm.cells) (k + rm.slots))
    (kx : ∀ E w', P (.inr E) w' → GoX G R cc own Y C Q pc L w' (c + rm.cells) (k + rm.slots) E) : Go G R cc own Y C Q pc L (st) w c k := by
  obtain ⟨p, e, s, m, args, below, meth, cd⟩ := C
  intro O H ls locs hR hS hL
  have hw := fun {x : Cond} (hx : x ∈ tw) => O.2.2.2.1.w (a := args) hx
  exact run_go O hS hL (vx_runSX (Ts := []) (maxL := maxL) (ret := ret) (hh := hh) (As := []) (n := 0) ⟨O.1, O.2.1, hL.1.symm, O.2.2.1, fun _ z => nomatch z⟩ ct ⟨⟨rfl, rfl, hr.1.1, hr.1.2.1, ws_at O md.1, List.mem_cons_self⟩, hw md.1, hw md.2.1, md.2.2.1, len_of md.2.2.2, hw h1, hw h2⟩ ⟨Pc0.blind, fun U hU hW => pc0_at O hR hS hU hW⟩ rfl rfl rfl rfl (mr_of hr.1.2.2) d hr.2) kr kx
theorem g_callV0 {ci N b : Nat} {Cn : String} {T : u_T} {ty : Nat → FieldType} {fs : List Value} {y : MethodName} {bytes : ByteArray} {maxL idx : Nat} {ret : Option FieldType} {rm : Room} {P : RV → Wd → Prop} (hk : KC ci Cn T N ty) (ct : Ct G y (.code y bytes maxL ret) rm (Value.ref b :: []) w P) (md : MD y (.code y bytes maxL ret) 0) (d : decode cc pc = .ok (.invokevirtual idx, 3)) (h1 : Cond.methodLink own idx y ∈ tw) (h2 : Cond.instanceMethod y ∈ tw) (h3 : Cond.selects Cn y y ∈ tw) (hb : w b = some (eO ci fs)) (hr : RmOk R rm maxL st c k)
    (kr : ∀ v w', P (.inl v) w' → Go G R cc own Y C Q (pc + 3) L (v.toList ++ st) w' (c + rm.cells) (k + rm.slots))
    (kx : ∀ E w', P (.inr E) w' → GoX G R cc own Y C Q pc L w' (c + rm.cells) (k + rm.slots) E) : Go G R cc own Y C Q pc L (.ref b :: st) w c k := by
  obtain ⟨p, e, s, m, args, below, meth, cd⟩ := C
  intro O H ls locs hR hS hL
  have hw := fun {x : Cond} (hx : x ∈ tw) => O.2.2.2.1.w (a := args) hx
  exact run_go O hS hL (vx_runV (Ts := []) (maxL := maxL) (ret := ret) (As := []) (n := 0) ⟨O.1, O.2.1, hL.1.symm, O.2.2.1, fun _ z => nomatch z⟩ ct ⟨⟨rfl, rfl, hr.1.1, hr.1.2.1, ws_at O md.1, List.mem_cons_self, hw md.1, hw md.2.1, md.2.2.1, len_of md.2.2.2, hw h1⟩, hw h2, hw h3⟩ ⟨Pc0.blind, recv_at O hk hR hb, fun U hU hW => pc0_at O hR hS hU hW⟩ rfl rfl rfl rfl (mr_of hr.1.2.2) d hr.2) kr kx
theorem g_callVN0 {ci N b : Nat} {Cn host : String} {T : u_T} {ty : Nat → FieldType} {fs : List Value} {y : MethodName} {bytes : ByteArray} {maxL idx : Nat} {ret : Option FieldType} {rm : Room} {P : RV → Wd → Prop} (hk : KC ci Cn T N ty) (ct : Ct G y (.code y bytes maxL ret) rm (Value.ref b :: []) w P) (md : MD y (.code y bytes maxL ret) 0) (d : decode cc pc = .ok (.invokevirtual idx, 3)) (h1 : Cond.methodLinkNest own idx y host ∈ tw) (h2 : Cond.instanceMethod y ∈ tw) (h3 : Cond.selects Cn y y ∈ tw) (hb : w b = some (eO ci fs)) (hr : RmOk R rm maxL st c k)
    (kr : ∀ v w', P (.inl v) w' → Go G R cc own Y C Q (pc + 3) L (v.toList ++ st) w' (c + rm.cells) (k + rm.slots))
    (kx : ∀ E w', ¬ P (.inr E) w') : Go G R cc own Y C Q pc L (.ref b :: st) w c k := by
  obtain ⟨p, e, s, m, args, below, meth, cd⟩ := C
  intro O H ls locs hR hS hL
  have hw := fun {x : Cond} (hx : x ∈ tw) => O.2.2.2.1.w (a := args) hx
  exact run_goN O hS hL (va_runVN (Ts := []) (maxL := maxL) (ret := ret) (As := []) (n := 0) ⟨O.1, O.2.1, hL.1.symm, O.2.2.1, fun _ z => nomatch z⟩ (ct.met kx) ⟨⟨⟨rfl, rfl, hr.1.1, hr.1.2.1, ws_at O md.1, List.mem_cons_self⟩, hw md.1, hw md.2.1, md.2.2.1, len_of md.2.2.2, hw h1⟩, hw h2, hw h3⟩ ⟨Pc0.blind, recv_at O hk hR hb, fun U hU hW => pc0_at O hR hS hU hW⟩ rfl rfl rfl rfl (mr_of hr.1.2.2) d hr.2) kr
theorem g_callI0 {b : Nat} {y : MethodName} {bytes : ByteArray} {maxL idx : Nat} {rm : Room} {P : RV → Wd → Prop} (ct : Ct G y (.code y bytes maxL none) rm (Value.ref b :: []) w P) (md : MD y (.code y bytes maxL none) 0) (d : decode cc pc = .ok (.invokespecial idx, 3)) (h1 : Cond.methodLink own idx y ∈ tw) (h2 : y.name = "<init>") (h3 : Cond.instanceMethod y ∈ tw) (hr : RmOk R rm maxL st c k)
    (kr : ∀ v w', P (.inl v) w' → Go G R cc own Y C Q (pc + 3) L (v.toList ++ st) w' (c + rm.cells) (k + rm.slots))
    (kx : ∀ E w', ¬ P (.inr E) w') : Go G R cc own Y C Q pc L (.ref b :: st) w c k := by
  obtain ⟨p, e, s, m, args, below, meth, cd⟩ := C
  intro O H ls locs hR hS hL
  have hw := fun {x : Cond} (hx : x ∈ tw) => O.2.2.2.1.w (a := args) hx
  exact run_goN O hS hL (va_runI (Ts := []) (maxL := maxL) (b := b) (As := []) (n := 0) ⟨O.1, O.2.1, hL.1.symm, O.2.2.1, fun _ z => nomatch z⟩ (ct.met kx) ⟨⟨rfl, rfl, hr.1.1, hr.1.2.1, ws_at O md.1, List.mem_cons_self, hw md.1, hw md.2.1, md.2.2.1, len_of md.2.2.2, hw h1⟩, h2, hw h3⟩ ⟨Pc0.blind, fun U hU hW => pc0_at O hR hS hU hW⟩ rfl rfl rfl rfl (mr_of hr.1.2.2) d hr.2) kr
theorem g_callIN0 {b : Nat} {host : String} {y : MethodName} {bytes : ByteArray} {maxL idx : Nat} {rm : Room} {P : RV → Wd → Prop} (ct : Ct G y (.code y bytes maxL none) rm (Value.ref b :: []) w P) (md : MD y (.code y bytes maxL none) 0) (d : decode cc pc = .ok (.invokespecial idx, 3)) (h1 : Cond.methodLinkNest own idx y host ∈ tw) (h2 : y.name = "<init>") (h3 : Cond.instanceMethod y ∈ tw) (hr : RmOk R rm maxL st c k)
    (kr : ∀ v w', P (.inl v) w' → Go G R cc own Y C Q (pc + 3) L (v.toList ++ st) w' (c + rm.cells) (k + rm.slots))
    (kx : ∀ E w', ¬ P (.inr E) w') : Go G R cc own Y C Q pc L (.ref b :: st) w c k := by
  obtain ⟨p, e, s, m, args, below, meth, cd⟩ := C
  intro O H ls locs hR hS hL
  have hw := fun {x : Cond} (hx : x ∈ tw) => O.2.2.2.1.w (a := args) hx
  exact run_goN O hS hL (va_runIN (Ts := []) (maxL := maxL) (b := b) (As := []) (n := 0) ⟨O.1, O.2.1, hL.1.symm, O.2.2.1, fun _ z => nomatch z⟩ (ct.met kx) ⟨⟨⟨rfl, rfl, hr.1.1, hr.1.2.1, ws_at O md.1, List.mem_cons_self⟩, hw md.1, hw md.2.1, md.2.2.1, len_of md.2.2.2, hw h1⟩, h2, hw h3⟩ ⟨Pc0.blind, fun U hU hW => pc0_at O hR hS hU hW⟩ rfl rfl rfl rfl (mr_of hr.1.2.2) d hr.2) kr
theorem g_callS1 {y : MethodName} {bytes : ByteArray} {maxL idx : Nat} {ret : Option FieldType} {rm : Room} {a1 : Value} {P : RV → Wd → Prop} (ct : Ct G y (.code y bytes maxL ret) rm [a1] w P) (md : MD y (.code y bytes maxL ret) 1) (d : decode cc pc = .ok (.invokestatic idx, 3)) (h1 : Cond.methodLink own idx y ∈ tw) (h2 : Cond.static y ∈ tw) (hr : RmOk R rm maxL st c k)
    (kr : ∀ v w', P (.inl v) w' → Go G R cc own Y C Q (pc + 3) L (v.toList ++ st) w' (c + rm.cells) (k + rm.slots))
    (kx : ∀ E w', P (.inr E) w' → GoX G R cc own Y C Q pc L w' (c + rm.cells) (k + rm.slots) E) : Go G R cc own Y C Q pc L (a1 :: st) w c k := by
  obtain ⟨p, e, s, m, args, below, meth, cd⟩ := C
  intro O H ls locs hR hS hL
  have hw := fun {x : Cond} (hx : x ∈ tw) => O.2.2.2.1.w (a := args) hx
  exact run_go O hS hL (vx_runS (Ts := []) (maxL := maxL) (ret := ret) (As := [a1]) (n := 1) ⟨O.1, O.2.1, hL.1.symm, O.2.2.1, fun _ z => nomatch z⟩ ct ⟨⟨rfl, rfl, hr.1.1, hr.1.2.1, ws_at O md.1, List.mem_cons_self, hw md.1, hw md.2.1, md.2.2.1, len_of md.2.2.2, hw h1⟩, hw h2⟩ ⟨Pc0.blind, fun U hU hW => pc0_at O hR hS hU hW⟩ rfl rfl rfl rfl (mr_of hr.1.2.2) d hr.2) kr kx
theorem g_callSW1 {y : MethodName} {bytes : ByteArray} {maxL idx : Nat} {ret : Option FieldType} {hh : List (Nat × Nat × Nat × Nat)} {rm : Room} {a1 : Value} {P : RV → Wd → Prop} (ct : Ct G y (.codeWith y bytes maxL ret hh) rm [a1] w P) (md : MD y (.codeWith y bytes maxL ret hh) 1) (d : decode cc pc = .ok (.invokestatic idx, 3)) (h1 : Cond.methodLink own idx y ∈ tw) (h2 : Cond.static y ∈ tw) (hr : RmOk R rm maxL st c k)
    (kr : ∀ v w', P (.inl v) w' → Go G R cc own Y C Q (pc + 3) L (v.toList ++ st) w' (c + rm.cells) (k + rm.slots))
    (kx : ∀ E w', P (.inr E) w' → GoX G R cc own Y C Q pc L w' (c + rm.cells) (k + rm.slots) E) : Go G R cc own Y C Q pc L (a1 :: st) w c k := by
  obtain ⟨p, e, s, m, args, below, meth, cd⟩ := C
  intro O H ls locs hR hS hL
  have hw := fun {x : Cond} (hx : x ∈ tw) => O.2.2.2.1.w (a := args) hx
  exact run_go O hS hL (vx_runSX (Ts := []) (maxL := maxL) (ret := ret) (hh := hh) (As := [a1]) (n := 1) ⟨O.1, O.2.1, hL.1.symm, O.2.2.1, fun _ z => nomatch z⟩ ct ⟨⟨rfl, rfl, hr.1.1, hr.1.2.1, ws_at O md.1, List.mem_cons_self⟩, hw md.1, hw md.2.1, md.2.2.1, len_of md.2.2.2, hw h1, hw h2⟩ ⟨Pc0.blind, fun U hU hW => pc0_at O hR hS hU hW⟩ rfl rfl rfl rfl (mr_of hr.1.2.2) d hr.2) kr kx
theorem g_callV1 {ci N b : Nat} {Cn : String} {T : u_T} {ty : Nat → FieldType} {fs : List Value} {y : MethodName} {bytes : ByteArray} {maxL idx : Nat} {ret : Option FieldType} {rm : Room} {a1 : Value} {P : RV → Wd → Prop} (hk : KC ci Cn T N ty) (ct : Ct G y (.code y bytes maxL ret) rm (Value.ref b :: [a1]) w P) (md : MD y (.code y bytes maxL ret) 1) (d : decode cc pc = .ok (.invokevirtual idx, 3)) (h1 : Cond.methodLink own idx y ∈ tw) (h2 : Cond.instanceMethod y ∈ tw) (h3 : Cond.selects Cn y y ∈ tw) (hb : w b = some (eO ci fs)) (hr : RmOk R rm maxL st c k)
    (kr : ∀ v w', P (.inl v) w' → Go G R cc own Y C Q (pc + 3) L (v.toList ++ st) w' (c + rm.cells) (k + rm.slots))
    (kx : ∀ E w', P (.inr E) w' → GoX G R cc own Y C Q pc L w' (c + rm.cells) (k + rm.slots) E) : Go G R cc own Y C Q pc L (a1 :: .ref b :: st) w c k := by
  obtain ⟨p, e, s, m, args, below, meth, cd⟩ := C
  intro O H ls locs hR hS hL
  have hw := fun {x : Cond} (hx : x ∈ tw) => O.2.2.2.1.w (a := args) hx
  exact run_go O hS hL (vx_runV (Ts := []) (maxL := maxL) (ret := ret) (As := [a1]) (n := 1) ⟨O.1, O.2.1, hL.1.symm, O.2.2.1, fun _ z => nomatch z⟩ ct ⟨⟨rfl, rfl, hr.1.1, hr.1.2.1, ws_at O md.1, List.mem_cons_self, hw md.1, hw md.2.1, md.2.2.1, len_of md.2.2.2, hw h1⟩, hw h2, hw h3⟩ ⟨Pc0.blind, recv_at O hk hR hb, fun U hU hW => pc0_at O hR hS hU hW⟩ rfl rfl rfl rfl (mr_of hr.1.2.2) d hr.2) kr kx
theorem g_callVN1 {ci N b : Nat} {Cn host : String} {T : u_T} {ty : Nat → FieldType} {fs : List Value} {y : MethodName} {bytes : ByteArray} {maxL idx : Nat} {ret : Option FieldType} {rm : Room} {a1 : Value} {P : RV → Wd → Prop} (hk : KC ci Cn T N ty) (ct : Ct G y (.code y bytes maxL ret) rm (Value.ref b :: [a1]) w P) (md : MD y (.code y bytes maxL ret) 1) (d : decode cc pc = .ok (.invokevirtual idx, 3)) (h1 : Cond.methodLinkNest own idx y host ∈ tw) (h2 : Cond.instanceMethod y ∈ tw) (h3 : Cond.selects Cn y y ∈ tw) (hb : w b = some (eO ci fs)) (hr : RmOk R rm maxL st c k)
    (kr : ∀ v w', P (.inl v) w' → Go G R cc own Y C Q (pc + 3) L (v.toList ++ st) w' (c + rm.cells) (k + rm.slots))
    (kx : ∀ E w', ¬ P (.inr E) w') : Go G R cc own Y C Q pc L (a1 :: .ref b :: st) w c k := by
  obtain ⟨p, e, s, m, args, below, meth, cd⟩ := C
  intro O H ls locs hR hS hL
  have hw := fun {x : Cond} (hx : x ∈ tw) => O.2.2.2.1.w (a := args) hx
  exact run_goN O hS hL (va_runVN (Ts := []) (maxL := maxL) (ret := ret) (As := [a1]) (n := 1) ⟨O.1, O.2.1, hL.1.symm, O.2.2.1, fun _ z => nomatch z⟩ (ct.met kx) ⟨⟨⟨rfl, rfl, hr.1.1, hr.1.2.1, ws_at O md.1, List.mem_cons_self⟩, hw md.1, hw md.2.1, md.2.2.1, len_of md.2.2.2, hw h1⟩, hw h2, hw h3⟩ ⟨Pc0.blind, recv_at O hk hR hb, fun U hU hW => pc0_at O hR hS hU hW⟩ rfl rfl rfl rfl (mr_of hr.1.2.2) d hr.2) kr
theorem g_callI1 {b : Nat} {y : MethodName} {bytes : ByteArray} {maxL idx : Nat} {rm : Room} {a1 : Value} {P : RV → Wd → Prop} (ct : Ct G y (.code y bytes maxL none) rm (Value.ref b :: [a1]) w P) (md : MD y (.code y bytes maxL none) 1) (d : decode cc pc = .ok (.invokespecial idx, 3)) (h1 : Cond.methodLink own idx y ∈ tw) (h2 : y.name = "<init>") (h3 : Cond.instanceMethod y ∈ tw) (hr : RmOk R rm maxL st c k)
    (kr : ∀ v w', P (.inl v) w' → Go G R cc own Y C Q (pc + 3) L (v.toList ++ st) w' (c + rm.cells) (k + rm.slots))
    (kx : ∀ E w', ¬ P (.inr E) w') : Go G R cc own Y C Q pc L (a1 :: .ref b :: st) w c k := by
  obtain ⟨p, e, s, m, args, below, meth, cd⟩ := C
  intro O H ls locs hR hS hL
  have hw := fun {x : Cond} (hx : x ∈ tw) => O.2.2.2.1.w (a := args) hx
  exact run_goN O hS hL (va_runI (Ts := []) (maxL := maxL) (b := b) (As := [a1]) (n := 1) ⟨O.1, O.2.1, hL.1.symm, O.2.2.1, fun _ z => nomatch z⟩ (ct.met kx) ⟨⟨rfl, rfl, hr.1.1, hr.1.2.1, ws_at O md.1, List.mem_cons_self, hw md.1, hw md.2.1, md.2.2.1, len_of md.2.2.2, hw h1⟩, h2, hw h3⟩ ⟨Pc0.blind, fun U hU hW => pc0_at O hR hS hU hW⟩ rfl rfl rfl rfl (mr_of hr.1.2.2) d hr.2) kr
theorem g_callIN1 {b : Nat} {host : String} {y : MethodName} {bytes : ByteArray} {maxL idx : Nat} {rm : Room} {a1 : Value} {P : RV → Wd → Prop} (ct : Ct G y (.code y bytes maxL none) rm (Value.ref b :: [a1]) w P) (md : MD y (.code y bytes maxL none) 1) (d : decode cc pc = .ok (.invokespecial idx, 3)) (h1 : Cond.methodLinkNest own idx y host ∈ tw) (h2 : y.name = "<init>") (h3 : Cond.instanceMethod y ∈ tw) (hr : RmOk R rm maxL st c k)
    (kr : ∀ v w', P (.inl v) w' → Go G R cc own Y C Q (pc + 3) L (v.toList ++ st) w' (c + rm.cells) (k + rm.slots))
    (kx : ∀ E w', ¬ P (.inr E) w') : Go G R cc own Y C Q pc L (a1 :: .ref b :: st) w c k := by
  obtain ⟨p, e, s, m, args, below, meth, cd⟩ := C
  intro O H ls locs hR hS hL
  have hw := fun {x : Cond} (hx : x ∈ tw) => O.2.2.2.1.w (a := args) hx
  exact run_goN O hS hL (va_runIN (Ts := []) (maxL := maxL) (b := b) (As := [a1]) (n := 1) ⟨O.1, O.2.1, hL.1.symm, O.2.2.1, fun _ z => nomatch z⟩ (ct.met kx) ⟨⟨⟨rfl, rfl, hr.1.1, hr.1.2.1, ws_at O md.1, List.mem_cons_self⟩, hw md.1, hw md.2.1, md.2.2.1, len_of md.2.2.2, hw h1⟩, h2, hw h3⟩ ⟨Pc0.blind, fun U hU hW => pc0_at O hR hS hU hW⟩ rfl rfl rfl rfl (mr_of hr.1.2.2) d hr.2) kr
theorem g_callS2 {y : MethodName} {bytes : ByteArray} {maxL idx : Nat} {ret : Option FieldType} {rm : Room} {a1 a2 : Value} {P : RV → Wd → Prop} (ct : Ct G y (.code y bytes maxL ret) rm [a1, a2] w P) (md : MD y (.code y bytes maxL ret) 2) (d : decode cc pc = .ok (.invokestatic idx, 3)) (h1 : Cond.methodLink own idx y ∈ tw) (h2 : Cond.static y ∈ tw) (hr : RmOk R rm maxL st c k)
    (kr : ∀ v w', P (.inl v) w' → Go G R cc own Y C Q (pc + 3) L (v.toList ++ st) w' (c + rm.cells) (k + rm.slots))
    (kx : ∀ E w', P (.inr E) w' → GoX G R cc own Y C Q pc L w' (c + rm.cells) (k + rm.slots) E) : Go G R cc own Y C Q pc L (a2 :: a1 :: st) w c k := by
  obtain ⟨p, e, s, m, args, below, meth, cd⟩ := C
  intro O H ls locs hR hS hL
  have hw := fun {x : Cond} (hx : x ∈ tw) => O.2.2.2.1.w (a := args) hx
  exact run_go O hS hL (vx_runS (Ts := []) (maxL := maxL) (ret := ret) (As := [a1, a2]) (n := 2) ⟨O.1, O.2.1, hL.1.symm, O.2.2.1, fun _ z => nomatch z⟩ ct ⟨⟨rfl, rfl, hr.1.1, hr.1.2.1, ws_at O md.1, List.mem_cons_self, hw md.1, hw md.2.1, md.2.2.1, len_of md.2.2.2, hw h1⟩, hw h2⟩ ⟨Pc0.blind, fun U hU hW => pc0_at O hR hS hU hW⟩ rfl rfl rfl rfl (mr_of hr.1.2.2) d hr.2) kr kx
theorem g_callSW2 {y : MethodName} {bytes : ByteArray} {maxL idx : Nat} {ret : Option FieldType} {hh : List (Nat × Nat × Nat × Nat)} {rm : Room} {a1 a2 : Value} {P : RV → Wd → Prop} (ct : Ct G y (.codeWith y bytes maxL ret hh) rm [a1, a2] w P) (md : MD y (.codeWith y bytes maxL ret hh) 2) (d : decode cc pc = .ok (.invokestatic idx, 3)) (h1 : Cond.methodLink own idx y ∈ tw) (h2 : Cond.static y ∈ tw) (hr : RmOk R rm maxL st c k)
    (kr : ∀ v w', P (.inl v) w' → Go G R cc own Y C Q (pc + 3) L (v.toList ++ st) w' (c + rm.cells) (k + rm.slots))
    (kx : ∀ E w', P (.inr E) w' → GoX G R cc own Y C Q pc L w' (c + rm.cells) (k + rm.slots) E) : Go G R cc own Y C Q pc L (a2 :: a1 :: st) w c k := by
  obtain ⟨p, e, s, m, args, below, meth, cd⟩ := C
  intro O H ls locs hR hS hL
  have hw := fun {x : Cond} (hx : x ∈ tw) => O.2.2.2.1.w (a := args) hx
  exact run_go O hS hL (vx_runSX (Ts := []) (maxL := maxL) (ret := ret) (hh := hh) (As := [a1, a2]) (n := 2) ⟨O.1, O.2.1, hL.1.symm, O.2.2.1, fun _ z => nomatch z⟩ ct ⟨⟨rfl, rfl, hr.1.1, hr.1.2.1, ws_at O md.1, List.mem_cons_self⟩, hw md.1, hw md.2.1, md.2.2.1, len_of md.2.2.2, hw h1, hw h2⟩ ⟨Pc0.blind, fun U hU hW => pc0_at O hR hS hU hW⟩ rfl rfl rfl rfl (mr_of hr.1.2.2) d hr.2) kr kx
theorem g_callV2 {ci N b : Nat} {Cn : String} {T : u_T} {ty : Nat → FieldType} {fs : List Value} {y : MethodName} {bytes : ByteArray} {maxL idx : Nat} {ret : Option FieldType} {rm : Room} {a1 a2 : Value} {P : RV → Wd → Prop} (hk : KC ci Cn T N ty) (ct : Ct G y (.code y bytes maxL ret) rm (Value.ref b :: [a1, a2]) w P) (md : MD y (.code y bytes maxL ret) 2) (d : decode cc pc = .ok (.invokevirtual idx, 3)) (h1 : Cond.methodLink own idx y ∈ tw) (h2 : Cond.instanceMethod y ∈ tw) (h3 : Cond.selects Cn y y ∈ tw) (hb : w b = some (eO ci fs)) (hr : RmOk R rm maxL st c k)
    (kr : ∀ v w', P (.inl v) w' → Go G R cc own Y C Q (pc + 3) L (v.toList ++ st) w' (c + rm.cells) (k + rm.slots))
    (kx : ∀ E w', P (.inr E) w' → GoX G R cc own Y C Q pc L w' (c + rm.cells) (k + rm.slots) E) : Go G R cc own Y C Q pc L (a2 :: a1 :: .ref b :: st) w c k := by
  obtain ⟨p, e, s, m, args, below, meth, cd⟩ := C
  intro O H ls locs hR hS hL
  have hw := fun {x : Cond} (hx : x ∈ tw) => O.2.2.2.1.w (a := args) hx
  exact run_go O hS hL (vx_runV (Ts := []) (maxL := maxL) (ret := ret) (As := [a1, a2]) (n := 2) ⟨O.1, O.2.1, hL.1.symm, O.2.2.1, fun _ z => nomatch z⟩ ct ⟨⟨rfl, rfl, hr.1.1, hr.1.2.1, ws_at O md.1, List.mem_cons_self, hw md.1, hw md.2.1, md.2.2.1, len_of md.2.2.2, hw h1⟩, hw h2, hw h3⟩ ⟨Pc0.blind, recv_at O hk hR hb, fun U hU hW => pc0_at O hR hS hU hW⟩ rfl rfl rfl rfl (mr_of hr.1.2.2) d hr.2) kr kx
theorem g_callVN2 {ci N b : Nat} {Cn host : String} {T : u_T} {ty : Nat → FieldType} {fs : List Value} {y : MethodName} {bytes : ByteArray} {maxL idx : Nat} {ret : Option FieldType} {rm : Room} {a1 a2 : Value} {P : RV → Wd → Prop} (hk : KC ci Cn T N ty) (ct : Ct G y (.code y bytes maxL ret) rm (Value.ref b :: [a1, a2]) w P) (md : MD y (.code y bytes maxL ret) 2) (d : decode cc pc = .ok (.invokevirtual idx, 3)) (h1 : Cond.methodLinkNest own idx y host ∈ tw) (h2 : Cond.instanceMethod y ∈ tw) (h3 : Cond.selects Cn y y ∈ tw) (hb : w b = some (eO ci fs)) (hr : RmOk R rm maxL st c k)
    (kr : ∀ v w', P (.inl v) w' → Go G R cc own Y C Q (pc + 3) L (v.toList ++ st) w' (c + rm.cells) (k + rm.slots))
    (kx : ∀ E w', ¬ P (.inr E) w') : Go G R cc own Y C Q pc L (a2 :: a1 :: .ref b :: st) w c k := by
  obtain ⟨p, e, s, m, args, below, meth, cd⟩ := C
  intro O H ls locs hR hS hL
  have hw := fun {x : Cond} (hx : x ∈ tw) => O.2.2.2.1.w (a := args) hx
  exact run_goN O hS hL (va_runVN (Ts := []) (maxL := maxL) (ret := ret) (As := [a1, a2]) (n := 2) ⟨O.1, O.2.1, hL.1.symm, O.2.2.1, fun _ z => nomatch z⟩ (ct.met kx) ⟨⟨⟨rfl, rfl, hr.1.1, hr.1.2.1, ws_at O md.1, List.mem_cons_self⟩, hw md.1, hw md.2.1, md.2.2.1, len_of md.2.2.2, hw h1⟩, hw h2, hw h3⟩ ⟨Pc0.blind, recv_at O hk hR hb, fun U hU hW => pc0_at O hR hS hU hW⟩ rfl rfl rfl rfl (mr_of hr.1.2.2) d hr.2) kr
theorem g_callI2 {b : Nat} {y : MethodName} {bytes : ByteArray} {maxL idx : Nat} {rm : Room} {a1 a2 : Value} {P : RV → Wd → Prop} (ct : Ct G y (.code y bytes maxL none) rm (Value.ref b :: [a1, a2]) w P) (md : MD y (.code y bytes maxL none) 2) (d : decode cc pc = .ok (.invokespecial idx, 3)) (h1 : Cond.methodLink own idx y ∈ tw) (h2 : y.name = "<init>") (h3 : Cond.instanceMethod y ∈ tw) (hr : RmOk R rm maxL st c k)
    (kr : ∀ v w', P (.inl v) w' → Go G R cc own Y C Q (pc + 3) L (v.toList ++ st) w' (c + rm.cells) (k + rm.slots))
    (kx : ∀ E w', ¬ P (.inr E) w') : Go G R cc own Y C Q pc L (a2 :: a1 :: .ref b :: st) w c k := by
  obtain ⟨p, e, s, m, args, below, meth, cd⟩ := C
  intro O H ls locs hR hS hL
  have hw := fun {x : Cond} (hx : x ∈ tw) => O.2.2.2.1.w (a := args) hx
  exact run_goN O hS hL (va_runI (Ts := []) (maxL := maxL) (b := b) (As := [a1, a2]) (n := 2) ⟨O.1, O.2.1, hL.1.symm, O.2.2.1, fun _ z => nomatch z⟩ (ct.met kx) ⟨⟨rfl, rfl, hr.1.1, hr.1.2.1, ws_at O md.1, List.mem_cons_self, hw md.1, hw md.2.1, md.2.2.1, len_of md.2.2.2, hw h1⟩, h2, hw h3⟩ ⟨Pc0.blind, fun U hU hW => pc0_at O hR hS hU hW⟩ rfl rfl rfl rfl (mr_of hr.1.2.2) d hr.2) kr
theorem g_callIN2 {b : Nat} {host : String} {y : MethodName} {bytes : ByteArray} {maxL idx : Nat} {rm : Room} {a1 a2 : Value} {P : RV → Wd → Prop} (ct : Ct G y (.code y bytes maxL none) rm (Value.ref b :: [a1, a2]) w P) (md : MD y (.code y bytes maxL none) 2) (d : decode cc pc = .ok (.invokespecial idx, 3)) (h1 : Cond.methodLinkNest own idx y host ∈ tw) (h2 : y.name = "<init>") (h3 : Cond.instanceMethod y ∈ tw) (hr : RmOk R rm maxL st c k)
    (kr : ∀ v w', P (.inl v) w' → Go G R cc own Y C Q (pc + 3) L (v.toList ++ st) w' (c + rm.cells) (k + rm.slots))
    (kx : ∀ E w', ¬ P (.inr E) w') : Go G R cc own Y C Q pc L (a2 :: a1 :: .ref b :: st) w c k := by
  obtain ⟨p, e, s, m, args, below, meth, cd⟩ := C
  intro O H ls locs hR hS hL
  have hw := fun {x : Cond} (hx : x ∈ tw) => O.2.2.2.1.w (a := args) hx
  exact run_goN O hS hL (va_runIN (Ts := []) (maxL := maxL) (b := b) (As := [a1, a2]) (n := 2) ⟨O.1, O.2.1, hL.1.symm, O.2.2.1, fun _ z => nomatch z⟩ (ct.met kx) ⟨⟨⟨rfl, rfl, hr.1.1, hr.1.2.1, ws_at O md.1, List.mem_cons_self⟩, hw md.1, hw md.2.1, md.2.2.1, len_of md.2.2.2, hw h1⟩, h2, hw h3⟩ ⟨Pc0.blind, fun U hU hW => pc0_at O hR hS hU hW⟩ rfl rfl rfl rfl (mr_of hr.1.2.2) d hr.2) kr
theorem g_callS3 {y : MethodName} {bytes : ByteArray} {maxL idx : Nat} {ret : Option FieldType} {rm : Room} {a1 a2 a3 : Value} {P : RV → Wd → Prop} (ct : Ct G y (.code y bytes maxL ret) rm [a1, a2, a3] w P) (md : MD y (.code y bytes maxL ret) 3) (d : decode cc pc = .ok (.invokestatic idx, 3)) (h1 : Cond.methodLink own idx y ∈ tw) (h2 : Cond.static y ∈ tw) (hr : RmOk R rm maxL st c k)
    (kr : ∀ v w', P (.inl v) w' → Go G R cc own Y C Q (pc + 3) L (v.toList ++ st) w' (c + rm.cells) (k + rm.slots))
    (kx : ∀ E w', P (.inr E) w' → GoX G R cc own Y C Q pc L w' (c + rm.cells) (k + rm.slots) E) : Go G R cc own Y C Q pc L (a3 :: a2 :: a1 :: st) w c k := by
  obtain ⟨p, e, s, m, args, below, meth, cd⟩ := C
  intro O H ls locs hR hS hL
  have hw := fun {x : Cond} (hx : x ∈ tw) => O.2.2.2.1.w (a := args) hx
  exact run_go O hS hL (vx_runS (Ts := []) (maxL := maxL) (ret := ret) (As := [a1, a2, a3]) (n := 3) ⟨O.1, O.2.1, hL.1.symm, O.2.2.1, fun _ z => nomatch z⟩ ct ⟨⟨rfl, rfl, hr.1.1, hr.1.2.1, ws_at O md.1, List.mem_cons_self, hw md.1, hw md.2.1, md.2.2.1, len_of md.2.2.2, hw h1⟩, hw h2⟩ ⟨Pc0.blind, fun U hU hW => pc0_at O hR hS hU hW⟩ rfl rfl rfl rfl (mr_of hr.1.2.2) d hr.2) kr kx
theorem g_callSW3 {y : MethodName} {bytes : ByteArray} {maxL idx : Nat} {ret : Option FieldType} {hh : List (Nat × Nat × Nat × Nat)} {rm : Room} {a1 a2 a3 : Value} {P : RV → Wd → Prop} (ct : Ct G y (.codeWith y bytes maxL ret hh) rm [a1, a2, a3] w P) (md : MD y (.codeWith y bytes maxL ret hh) 3) (d : decode cc pc = .ok (.invokestatic idx, 3)) (h1 : Cond.methodLink own idx y ∈ tw) (h2 : Cond.static y ∈ tw) (hr : RmOk R rm maxL st c k)
    (kr : ∀ v w', P (.inl v) w' → Go G R cc own Y C Q (pc + 3) L (v.toList ++ st) w' (c + rm.cells) (k + rm.slots))
    (kx : ∀ E w', P (.inr E) w' → GoX G R cc own Y C Q pc L w' (c + rm.cells) (k + rm.slots) E) : Go G R cc own Y C Q pc L (a3 :: a2 :: a1 :: st) w c k := by
  obtain ⟨p, e, s, m, args, below, meth, cd⟩ := C
  intro O H ls locs hR hS hL
  have hw := fun {x : Cond} (hx : x ∈ tw) => O.2.2.2.1.w (a := args) hx
  exact run_go O hS hL (vx_runSX (Ts := []) (maxL := maxL) (ret := ret) (hh := hh) (As := [a1, a2, a3]) (n := 3) ⟨O.1, O.2.1, hL.1.symm, O.2.2.1, fun _ z => nomatch z⟩ ct ⟨⟨rfl, rfl, hr.1.1, hr.1.2.1, ws_at O md.1, List.mem_cons_self⟩, hw md.1, hw md.2.1, md.2.2.1, len_of md.2.2.2, hw h1, hw h2⟩ ⟨Pc0.blind, fun U hU hW => pc0_at O hR hS hU hW⟩ rfl rfl rfl rfl (mr_of hr.1.2.2) d hr.2) kr kx
theorem g_callV3 {ci N b : Nat} {Cn : String} {T : u_T} {ty : Nat → FieldType} {fs : List Value} {y : MethodName} {bytes : ByteArray} {maxL idx : Nat} {ret : Option FieldType} {rm : Room} {a1 a2 a3 : Value} {P : RV → Wd → Prop} (hk : KC ci Cn T N ty) (ct : Ct G y (.code y bytes maxL ret) rm (Value.ref b :: [a1, a2, a3]) w P) (md : MD y (.code y bytes maxL ret) 3) (d : decode cc pc = .ok (.invokevirtual idx, 3)) (h1 : Cond.methodLink own idx y ∈ tw) (h2 : Cond.instanceMethod y ∈ tw) (h3 : Cond.selects Cn y y ∈ tw) (hb : w b = some (eO ci fs)) (hr : RmOk R rm maxL st c k)
    (kr : ∀ v w', P (.inl v) w' → Go G R cc own Y C Q (pc + 3) L (v.toList ++ st) w' (c + rm.cells) (k + rm.slots))
    (kx : ∀ E w', P (.inr E) w' → GoX G R cc own Y C Q pc L w' (c + rm.cells) (k + rm.slots) E) : Go G R cc own Y C Q pc L (a3 :: a2 :: a1 :: .ref b :: st) w c k := by
  obtain ⟨p, e, s, m, args, below, meth, cd⟩ := C
  intro O H ls locs hR hS hL
  have hw := fun {x : Cond} (hx : x ∈ tw) => O.2.2.2.1.w (a := args) hx
  exact run_go O hS hL (vx_runV (Ts := []) (maxL := maxL) (ret := ret) (As := [a1, a2, a3]) (n := 3) ⟨O.1, O.2.1, hL.1.symm, O.2.2.1, fun _ z => nomatch z⟩ ct ⟨⟨rfl, rfl, hr.1.1, hr.1.2.1, ws_at O md.1, List.mem_cons_self, hw md.1, hw md.2.1, md.2.2.1, len_of md.2.2.2, hw h1⟩, hw h2, hw h3⟩ ⟨Pc0.blind, recv_at O hk hR hb, fun U hU hW => pc0_at O hR hS hU hW⟩ rfl rfl rfl rfl (mr_of hr.1.2.2) d hr.2) kr kx
theorem g_callVN3 {ci N b : Nat} {Cn host : String} {T : u_T} {ty : Nat → FieldType} {fs : List Value} {y : MethodName} {bytes : ByteArray} {maxL idx : Nat} {ret : Option FieldType} {rm : Room} {a1 a2 a3 : Value} {P : RV → Wd → Prop} (hk : KC ci Cn T N ty) (ct : Ct G y (.code y bytes maxL ret) rm (Value.ref b :: [a1, a2, a3]) w P) (md : MD y (.code y bytes maxL ret) 3) (d : decode cc pc = .ok (.invokevirtual idx, 3)) (h1 : Cond.methodLinkNest own idx y host ∈ tw) (h2 : Cond.instanceMethod y ∈ tw) (h3 : Cond.selects Cn y y ∈ tw) (hb : w b = some (eO ci fs)) (hr : RmOk R rm maxL st c k)
    (kr : ∀ v w', P (.inl v) w' → Go G R cc own Y C Q (pc + 3) L (v.toList ++ st) w' (c + rm.cells) (k + rm.slots))
    (kx : ∀ E w', ¬ P (.inr E) w') : Go G R cc own Y C Q pc L (a3 :: a2 :: a1 :: .ref b :: st) w c k := by
  obtain ⟨p, e, s, m, args, below, meth, cd⟩ := C
  intro O H ls locs hR hS hL
  have hw := fun {x : Cond} (hx : x ∈ tw) => O.2.2.2.1.w (a := args) hx
  exact run_goN O hS hL (va_runVN (Ts := []) (maxL := maxL) (ret := ret) (As := [a1, a2, a3]) (n := 3) ⟨O.1, O.2.1, hL.1.symm, O.2.2.1, fun _ z => nomatch z⟩ (ct.met kx) ⟨⟨⟨rfl, rfl, hr.1.1, hr.1.2.1, ws_at O md.1, List.mem_cons_self⟩, hw md.1, hw md.2.1, md.2.2.1, len_of md.2.2.2, hw h1⟩, hw h2, hw h3⟩ ⟨Pc0.blind, recv_at O hk hR hb, fun U hU hW => pc0_at O hR hS hU hW⟩ rfl rfl rfl rfl (mr_of hr.1.2.2) d hr.2) kr
theorem g_callI3 {b : Nat} {y : MethodName} {bytes : ByteArray} {maxL idx : Nat} {rm : Room} {a1 a2 a3 : Value} {P : RV → Wd → Prop} (ct : Ct G y (.code y bytes maxL none) rm (Value.ref b :: [a1, a2, a3]) w P) (md : MD y (.code y bytes maxL none) 3) (d : decode cc pc = .ok (.invokespecial idx, 3)) (h1 : Cond.methodLink own idx y ∈ tw) (h2 : y.name = "<init>") (h3 : Cond.instanceMethod y ∈ tw) (hr : RmOk R rm maxL st c k)
    (kr : ∀ v w', P (.inl v) w' → Go G R cc own Y C Q (pc + 3) L (v.toList ++ st) w' (c + rm.cells) (k + rm.slots))
    (kx : ∀ E w', ¬ P (.inr E) w') : Go G R cc own Y C Q pc L (a3 :: a2 :: a1 :: .ref b :: st) w c k := by
  obtain ⟨p, e, s, m, args, below, meth, cd⟩ := C
  intro O H ls locs hR hS hL
  have hw := fun {x : Cond} (hx : x ∈ tw) => O.2.2.2.1.w (a := args) hx
  exact run_goN O hS hL (va_runI (Ts := []) (maxL := maxL) (b := b) (As := [a1, a2, a3]) (n := 3) ⟨O.1, O.2.1, hL.1.symm, O.2.2.1, fun _ z => nomatch z⟩ (ct.met kx) ⟨⟨rfl, rfl, hr.1.1, hr.1.2.1, ws_at O md.1, List.mem_cons_self, hw md.1, hw md.2.1, md.2.2.1, len_of md.2.2.2, hw h1⟩, h2, hw h3⟩ ⟨Pc0.blind, fun U hU hW => pc0_at O hR hS hU hW⟩ rfl rfl rfl rfl (mr_of hr.1.2.2) d hr.2) kr
theorem g_callIN3 {b : Nat} {host : String} {y : MethodName} {bytes : ByteArray} {maxL idx : Nat} {rm : Room} {a1 a2 a3 : Value} {P : RV → Wd → Prop} (ct : Ct G y (.code y bytes maxL none) rm (Value.ref b :: [a1, a2, a3]) w P) (md : MD y (.code y bytes maxL none) 3) (d : decode cc pc = .ok (.invokespecial idx, 3)) (h1 : Cond.methodLinkNest own idx y host ∈ tw) (h2 : y.name = "<init>") (h3 : Cond.instanceMethod y ∈ tw) (hr : RmOk R rm maxL st c k)
    (kr : ∀ v w', P (.inl v) w' → Go G R cc own Y C Q (pc + 3) L (v.toList ++ st) w' (c + rm.cells) (k + rm.slots))
    (kx : ∀ E w', ¬ P (.inr E) w') : Go G R cc own Y C Q pc L (a3 :: a2 :: a1 :: .ref b :: st) w c k := by
  obtain ⟨p, e, s, m, args, below, meth, cd⟩ := C
  intro O H ls locs hR hS hL
  have hw := fun {x : Cond} (hx : x ∈ tw) => O.2.2.2.1.w (a := args) hx
  exact run_goN O hS hL (va_runIN (Ts := []) (maxL := maxL) (b := b) (As := [a1, a2, a3]) (n := 3) ⟨O.1, O.2.1, hL.1.symm, O.2.2.1, fun _ z => nomatch z⟩ (ct.met kx) ⟨⟨⟨rfl, rfl, hr.1.1, hr.1.2.1, ws_at O md.1, List.mem_cons_self⟩, hw md.1, hw md.2.1, md.2.2.1, len_of md.2.2.2, hw h1⟩, h2, hw h3⟩ ⟨Pc0.blind, fun U hU hW => pc0_at O hR hS hU hW⟩ rfl rfl rfl rfl (mr_of hr.1.2.2) d hr.2) kr
theorem g_callS4 {y : MethodName} {bytes : ByteArray} {maxL idx : Nat} {ret : Option FieldType} {rm : Room} {a1 a2 a3 a4 : Value} {P : RV → Wd → Prop} (ct : Ct G y (.code y bytes maxL ret) rm [a1, a2, a3, a4] w P) (md : MD y (.code y bytes maxL ret) 4) (d : decode cc pc = .ok (.invokestatic idx, 3)) (h1 : Cond.methodLink own idx y ∈ tw) (h2 : Cond.static y ∈ tw) (hr : RmOk R rm maxL st c k)
    (kr : ∀ v w', P (.inl v) w' → Go G R cc own Y C Q (pc + 3) L (v.toList ++ st) w' (c + rm.cells) (k + rm.slots))
    (kx : ∀ E w', P (.inr E) w' → GoX G R cc own Y C Q pc L w' (c + rm.cells) (k + rm.slots) E) : Go G R cc own Y C Q pc L (a4 :: a3 :: a2 :: a1 :: st) w c k := by
  obtain ⟨p, e, s, m, args, below, meth, cd⟩ := C
  intro O H ls locs hR hS hL
  have hw := fun {x : Cond} (hx : x ∈ tw) => O.2.2.2.1.w (a := args) hx
  exact run_go O hS hL (vx_runS (Ts := []) (maxL := maxL) (ret := ret) (As := [a1, a2, a3, a4]) (n := 4) ⟨O.1, O.2.1, hL.1.symm, O.2.2.1, fun _ z => nomatch z⟩ ct ⟨⟨rfl, rfl, hr.1.1, hr.1.2.1, ws_at O md.1, List.mem_cons_self, hw md.1, hw md.2.1, md.2.2.1, len_of md.2.2.2, hw h1⟩, hw h2⟩ ⟨Pc0.blind, fun U hU hW => pc0_at O hR hS hU hW⟩ rfl rfl rfl rfl (mr_of hr.1.2.2) d hr.2) kr kx
theorem g_callSW4 {y : MethodName} {bytes : ByteArray} {maxL idx : Nat} {ret : Option FieldType} {hh : List (Nat × Nat × Nat × Nat)} {rm : Room} {a1 a2 a3 a4 : Value} {P : RV → Wd → Prop} (ct : Ct G y (.codeWith y bytes maxL ret hh) rm [a1, a2, a3, a4] w P) (md : MD y (.codeWith y bytes maxL ret hh) 4) (d : decode cc pc = .ok (.invokestatic idx, 3)) (h1 : Cond.methodLink own idx y ∈ tw) (h2 : Cond.static y ∈ tw) (hr : RmOk R rm maxL st c k)
    (kr : ∀ v w', P (.inl v) w' → Go G R cc own Y C Q (pc + 3) L (v.toList ++ st) w' (c + rm.cells) (k + rm.slots))
    (kx : ∀ E w', P (.inr E) w' → GoX G R cc own Y C Q pc L w' (c + rm.cells) (k + rm.slots) E) : Go G R cc own Y C Q pc L (a4 :: a3 :: a2 :: a1 :: st) w c k := by
  obtain ⟨p, e, s, m, args, below, meth, cd⟩ := C
  intro O H ls locs hR hS hL
  have hw := fun {x : Cond} (hx : x ∈ tw) => O.2.2.2.1.w (a := args) hx
  exact run_go O hS hL (vx_runSX (Ts := []) (maxL := maxL) (ret := ret) (hh := hh) (As := [a1, a2, a3, a4]) (n := 4) ⟨O.1, O.2.1, hL.1.symm, O.2.2.1, fun _ z => nomatch z⟩ ct ⟨⟨rfl, rfl, hr.1.1, hr.1.2.1, ws_at O md.1, List.mem_cons_self⟩, hw md.1, hw md.2.1, md.2.2.1, len_of md.2.2.2, hw h1, hw h2⟩ ⟨Pc0.blind, fun U hU hW => pc0_at O hR hS hU hW⟩ rfl rfl rfl rfl (mr_of hr.1.2.2) d hr.2) kr kx
theorem g_callV4 {ci N b : Nat} {Cn : String} {T : u_T} {ty : Nat → FieldType} {fs : List Value} {y : MethodName} {bytes : ByteArray} {maxL idx : Nat} {ret : Option FieldType} {rm : Room} {a1 a2 a3 a4 : Value} {P : RV → Wd → Prop} (hk : KC ci Cn T N ty) (ct : Ct G y (.code y bytes maxL ret) rm (Value.ref b :: [a1, a2, a3, a4]) w P) (md : MD y (.code y bytes maxL ret) 4) (d : decode cc pc = .ok (.invokevirtual idx, 3)) (h1 : Cond.methodLink own idx y ∈ tw) (h2 : Cond.instanceMethod y ∈ tw) (h3 : Cond.selects Cn y y ∈ tw) (hb : w b = some (eO ci fs)) (hr : RmOk R rm maxL st c k)
    (kr : ∀ v w', P (.inl v) w' → Go G R cc own Y C Q (pc + 3) L (v.toList ++ st) w' (c + rm.cells) (k + rm.slots))
    (kx : ∀ E w', P (.inr E) w' → GoX G R cc own Y C Q pc L w' (c + rm.cells) (k + rm.slots) E) : Go G R cc own Y C Q pc L (a4 :: a3 :: a2 :: a1 :: .ref b :: st) w c k := by
  obtain ⟨p, e, s, m, args, below, meth, cd⟩ := C
  intro O H ls locs hR hS hL
  have hw := fun {x : Cond} (hx : x ∈ tw) => O.2.2.2.1.w (a := args) hx
  exact run_go O hS hL (vx_runV (Ts := []) (maxL := maxL) (ret := ret) (As := [a1, a2, a3, a4]) (n := 4) ⟨O.1, O.2.1, hL.1.symm, O.2.2.1, fun _ z => nomatch z⟩ ct ⟨⟨rfl, rfl, hr.1.1, hr.1.2.1, ws_at O md.1, List.mem_cons_self, hw md.1, hw md.2.1, md.2.2.1, len_of md.2.2.2, hw h1⟩, hw h2, hw h3⟩ ⟨Pc0.blind, recv_at O hk hR hb, fun U hU hW => pc0_at O hR hS hU hW⟩ rfl rfl rfl rfl (mr_of hr.1.2.2) d hr.2) kr kx
theorem g_callVN4 {ci N b : Nat} {Cn host : String} {T : u_T} {ty : Nat → FieldType} {fs : List Value} {y : MethodName} {bytes : ByteArray} {maxL idx : Nat} {ret : Option FieldType} {rm : Room} {a1 a2 a3 a4 : Value} {P : RV → Wd → Prop} (hk : KC ci Cn T N ty) (ct : Ct G y (.code y bytes maxL ret) rm (Value.ref b :: [a1, a2, a3, a4]) w P) (md : MD y (.code y bytes maxL ret) 4) (d : decode cc pc = .ok (.invokevirtual idx, 3)) (h1 : Cond.methodLinkNest own idx y host ∈ tw) (h2 : Cond.instanceMethod y ∈ tw) (h3 : Cond.selects Cn y y ∈ tw) (hb : w b = some (eO ci fs)) (hr : RmOk R rm maxL st c k)
    (kr : ∀ v w', P (.inl v) w' → Go G R cc own Y C Q (pc + 3) L (v.toList ++ st) w' (c + rm.cells) (k + rm.slots))
    (kx : ∀ E w', ¬ P (.inr E) w') : Go G R cc own Y C Q pc L (a4 :: a3 :: a2 :: a1 :: .ref b :: st) w c k := by
  obtain ⟨p, e, s, m, args, below, meth, cd⟩ := C
  intro O H ls locs hR hS hL
  have hw := fun {x : Cond} (hx : x ∈ tw) => O.2.2.2.1.w (a := args) hx
  exact run_goN O hS hL (va_runVN (Ts := []) (maxL := maxL) (ret := ret) (As := [a1, a2, a3, a4]) (n := 4) ⟨O.1, O.2.1, hL.1.symm, O.2.2.1, fun _ z => nomatch z⟩ (ct.met kx) ⟨⟨⟨rfl, rfl, hr.1.1, hr.1.2.1, ws_at O md.1, List.mem_cons_self⟩, hw md.1, hw md.2.1, md.2.2.1, len_of md.2.2.2, hw h1⟩, hw h2, hw h3⟩ ⟨Pc0.blind, recv_at O hk hR hb, fun U hU hW => pc0_at O hR hS hU hW⟩ rfl rfl rfl rfl (mr_of hr.1.2.2) d hr.2) kr
theorem g_callI4 {b : Nat} {y : MethodName} {bytes : ByteArray} {maxL idx : Nat} {rm : Room} {a1 a2 a3 a4 : Value} {P : RV → Wd → Prop} (ct : Ct G y (.code y bytes maxL none) rm (Value.ref b :: [a1, a2, a3, a4]) w P) (md : MD y (.code y bytes maxL none) 4) (d : decode cc pc = .ok (.invokespecial idx, 3)) (h1 : Cond.methodLink own idx y ∈ tw) (h2 : y.name = "<init>") (h3 : Cond.instanceMethod y ∈ tw) (hr : RmOk R rm maxL st c k)
    (kr : ∀ v w', P (.inl v) w' → Go G R cc own Y C Q (pc + 3) L (v.toList ++ st) w' (c + rm.cells) (k + rm.slots))
    (kx : ∀ E w', ¬ P (.inr E) w') : Go G R cc own Y C Q pc L (a4 :: a3 :: a2 :: a1 :: .ref b :: st) w c k := by
  obtain ⟨p, e, s, m, args, below, meth, cd⟩ := C
  intro O H ls locs hR hS hL
  have hw := fun {x : Cond} (hx : x ∈ tw) => O.2.2.2.1.w (a := args) hx
  exact run_goN O hS hL (va_runI (Ts := []) (maxL := maxL) (b := b) (As := [a1, a2, a3, a4]) (n := 4) ⟨O.1, O.2.1, hL.1.symm, O.2.2.1, fun _ z => nomatch z⟩ (ct.met kx) ⟨⟨rfl, rfl, hr.1.1, hr.1.2.1, ws_at O md.1, List.mem_cons_self, hw md.1, hw md.2.1, md.2.2.1, len_of md.2.2.2, hw h1⟩, h2, hw h3⟩ ⟨Pc0.blind, fun U hU hW => pc0_at O hR hS hU hW⟩ rfl rfl rfl rfl (mr_of hr.1.2.2) d hr.2) kr
theorem g_callIN4 {b : Nat} {host : String} {y : MethodName} {bytes : ByteArray} {maxL idx : Nat} {rm : Room} {a1 a2 a3 a4 : Value} {P : RV → Wd → Prop} (ct : Ct G y (.code y bytes maxL none) rm (Value.ref b :: [a1, a2, a3, a4]) w P) (md : MD y (.code y bytes maxL none) 4) (d : decode cc pc = .ok (.invokespecial idx, 3)) (h1 : Cond.methodLinkNest own idx y host ∈ tw) (h2 : y.name = "<init>") (h3 : Cond.instanceMethod y ∈ tw) (hr : RmOk R rm maxL st c k)
    (kr : ∀ v w', P (.inl v) w' → Go G R cc own Y C Q (pc + 3) L (v.toList ++ st) w' (c + rm.cells) (k + rm.slots))
    (kx : ∀ E w', ¬ P (.inr E) w') : Go G R cc own Y C Q pc L (a4 :: a3 :: a2 :: a1 :: .ref b :: st) w c k := by
  obtain ⟨p, e, s, m, args, below, meth, cd⟩ := C
  intro O H ls locs hR hS hL
  have hw := fun {x : Cond} (hx : x ∈ tw) => O.2.2.2.1.w (a := args) hx
  exact run_goN O hS hL (va_runIN (Ts := []) (maxL := maxL) (b := b) (As := [a1, a2, a3, a4]) (n := 4) ⟨O.1, O.2.1, hL.1.symm, O.2.2.1, fun _ z => nomatch z⟩ (ct.met kx) ⟨⟨⟨rfl, rfl, hr.1.1, hr.1.2.1, ws_at O md.1, List.mem_cons_self⟩, hw md.1, hw md.2.1, md.2.2.1, len_of md.2.2.2, hw h1⟩, h2, hw h3⟩ ⟨Pc0.blind, fun U hU hW => pc0_at O hR hS hU hW⟩ rfl rfl rfl rfl (mr_of hr.1.2.2) d hr.2) kr
theorem g_callS5 {y : MethodName} {bytes : ByteArray} {maxL idx : Nat} {ret : Option FieldType} {rm : Room} {a1 a2 a3 a4 a5 : Value} {P : RV → Wd → Prop} (ct : Ct G y (.code y bytes maxL ret) rm [a1, a2, a3, a4, a5] w P) (md : MD y (.code y bytes maxL ret) 5) (d : decode cc pc = .ok (.invokestatic idx, 3)) (h1 : Cond.methodLink own idx y ∈ tw) (h2 : Cond.static y ∈ tw) (hr : RmOk R rm maxL st c k)
    (kr : ∀ v w', P (.inl v) w' → Go G R cc own Y C Q (pc + 3) L (v.toList ++ st) w' (c + rm.cells) (k + rm.slots))
    (kx : ∀ E w', P (.inr E) w' → GoX G R cc own Y C Q pc L w' (c + rm.cells) (k + rm.slots) E) : Go G R cc own Y C Q pc L (a5 :: a4 :: a3 :: a2 :: a1 :: st) w c k := by
  obtain ⟨p, e, s, m, args, below, meth, cd⟩ := C
  intro O H ls locs hR hS hL
  have hw := fun {x : Cond} (hx : x ∈ tw) => O.2.2.2.1.w (a := args) hx
  exact run_go O hS hL (vx_runS (Ts := []) (maxL := maxL) (ret := ret) (As := [a1, a2, a3, a4, a5]) (n := 5) ⟨O.1, O.2.1, hL.1.symm, O.2.2.1, fun _ z => nomatch z⟩ ct ⟨⟨rfl, rfl, hr.1.1, hr.1.2.1, ws_at O md.1, List.mem_cons_self, hw md.1, hw md.2.1, md.2.2.1, len_of md.2.2.2, hw h1⟩, hw h2⟩ ⟨Pc0.blind, fun U hU hW => pc0_at O hR hS hU hW⟩ rfl rfl rfl rfl (mr_of hr.1.2.2) d hr.2) kr kx
theorem g_callSW5 {y : MethodName} {bytes : ByteArray} {maxL idx : Nat} {ret : Option FieldType} {hh : List (Nat × Nat × Nat × Nat)} {rm : Room} {a1 a2 a3 a4 a5 : Value} {P : RV → Wd → Prop} (ct : Ct G y (.codeWith y bytes maxL ret hh) rm [a1, a2, a3, a4, a5] w P) (md : MD y (.codeWith y bytes maxL ret hh) 5) (d : decode cc pc = .ok (.invokestatic idx, 3)) (h1 : Cond.methodLink own idx y ∈ tw) (h2 : Cond.static y ∈ tw) (hr : RmOk R rm maxL st c k)
    (kr : ∀ v w', P (.inl v) w' → Go G R cc own Y C Q (pc + 3) L (v.toList ++ st) w' (c + rm.cells) (k + rm.slots))
    (kx : ∀ E w', P (.inr E) w' → GoX G R cc own Y C Q pc L w' (c + rm.cells) (k + rm.slots) E) : Go G R cc own Y C Q pc L (a5 :: a4 :: a3 :: a2 :: a1 :: st) w c k := by
  obtain ⟨p, e, s, m, args, below, meth, cd⟩ := C
  intro O H ls locs hR hS hL
  have hw := fun {x : Cond} (hx : x ∈ tw) => O.2.2.2.1.w (a := args) hx
  exact run_go O hS hL (vx_runSX (Ts := []) (maxL := maxL) (ret := ret) (hh := hh) (As := [a1, a2, a3, a4, a5]) (n := 5) ⟨O.1, O.2.1, hL.1.symm, O.2.2.1, fun _ z => nomatch z⟩ ct ⟨⟨rfl, rfl, hr.1.1, hr.1.2.1, ws_at O md.1, List.mem_cons_self⟩, hw md.1, hw md.2.1, md.2.2.1, len_of md.2.2.2, hw h1, hw h2⟩ ⟨Pc0.blind, fun U hU hW => pc0_at O hR hS hU hW⟩ rfl rfl rfl rfl (mr_of hr.1.2.2) d hr.2) kr kx
theorem g_callV5 {ci N b : Nat} {Cn : String} {T : u_T} {ty : Nat → FieldType} {fs : List Value} {y : MethodName} {bytes : ByteArray} {maxL idx : Nat} {ret : Option FieldType} {rm : Room} {a1 a2 a3 a4 a5 : Value} {P : RV → Wd → Prop} (hk : KC ci Cn T N ty) (ct : Ct G y (.code y bytes maxL ret) rm (Value.ref b :: [a1, a2, a3, a4, a5]) w P) (md : MD y (.code y bytes maxL ret) 5) (d : decode cc pc = .ok (.invokevirtual idx, 3)) (h1 : Cond.methodLink own idx y ∈ tw) (h2 : Cond.instanceMethod y ∈ tw) (h3 : Cond.selects Cn y y ∈ tw) (hb : w b = some (eO ci fs)) (hr : RmOk R rm maxL st c k)
    (kr : ∀ v w', P (.inl v) w' → Go G R cc own Y C Q (pc + 3) L (v.toList ++ st) w' (c + rm.cells) (k + rm.slots))
    (kx : ∀ E w', P (.inr E) w' → GoX G R cc own Y C Q pc L w' (c + rm.cells) (k + rm.slots) E) : Go G R cc own Y C Q pc L (a5 :: a4 :: a3 :: a2 :: a1 :: .ref b :: st) w c k := by
  obtain ⟨p, e, s, m, args, below, meth, cd⟩ := C
  intro O H ls locs hR hS hL
  have hw := fun {x : Cond} (hx : x ∈ tw) => O.2.2.2.1.w (a := args) hx
  exact run_go O hS hL (vx_runV (Ts := []) (maxL := maxL) (ret := ret) (As := [a1, a2, a3, a4, a5]) (n := 5) ⟨O.1, O.2.1, hL.1.symm, O.2.2.1, fun _ z => nomatch z⟩ ct ⟨⟨rfl, rfl, hr.1.1, hr.1.2.1, ws_at O md.1, List.mem_cons_self, hw md.1, hw md.2.1, md.2.2.1, len_of md.2.2.2, hw h1⟩, hw h2, hw h3⟩ ⟨Pc0.blind, recv_at O hk hR hb, fun U hU hW => pc0_at O hR hS hU hW⟩ rfl rfl rfl rfl (mr_of hr.1.2.2) d hr.2) kr kx
theorem g_callVN5 {ci N b : Nat} {Cn host : String} {T : u_T} {ty : Nat → FieldType} {fs : List Value} {y : MethodName} {bytes : ByteArray} {maxL idx : Nat} {ret : Option FieldType} {rm : Room} {a1 a2 a3 a4 a5 : Value} {P : RV → Wd → Prop} (hk : KC ci Cn T N ty) (ct : Ct G y (.code y bytes maxL ret) rm (Value.ref b :: [a1, a2, a3, a4, a5]) w P) (md : MD y (.code y bytes maxL ret) 5) (d : decode cc pc = .ok (.invokevirtual idx, 3)) (h1 : Cond.methodLinkNest own idx y host ∈ tw) (h2 : Cond.instanceMethod y ∈ tw) (h3 : Cond.selects Cn y y ∈ tw) (hb : w b = some (eO ci fs)) (hr : RmOk R rm maxL st c k)
    (kr : ∀ v w', P (.inl v) w' → Go G R cc own Y C Q (pc + 3) L (v.toList ++ st) w' (c + rm.cells) (k + rm.slots))
    (kx : ∀ E w', ¬ P (.inr E) w') : Go G R cc own Y C Q pc L (a5 :: a4 :: a3 :: a2 :: a1 :: .ref b :: st) w c k := by
  obtain ⟨p, e, s, m, args, below, meth, cd⟩ := C
  intro O H ls locs hR hS hL
  have hw := fun {x : Cond} (hx : x ∈ tw) => O.2.2.2.1.w (a := args) hx
  exact run_goN O hS hL (va_runVN (Ts := []) (maxL := maxL) (ret := ret) (As := [a1, a2, a3, a4, a5]) (n := 5) ⟨O.1, O.2.1, hL.1.symm, O.2.2.1, fun _ z => nomatch z⟩ (ct.met kx) ⟨⟨⟨rfl, rfl, hr.1.1, hr.1.2.1, ws_at O md.1, List.mem_cons_self⟩, hw md.1, hw md.2.1, md.2.2.1, len_of md.2.2.2, hw h1⟩, hw h2, hw h3⟩ ⟨Pc0.blind, recv_at O hk hR hb, fun U hU hW => pc0_at O hR hS hU hW⟩ rfl rfl rfl rfl (mr_of hr.1.2.2) d hr.2) kr
theorem g_callI5 {b : Nat} {y : MethodName} {bytes : ByteArray} {maxL idx : Nat} {rm : Room} {a1 a2 a3 a4 a5 : Value} {P : RV → Wd → Prop} (ct : Ct G y (.code y bytes maxL none) rm (Value.ref b :: [a1, a2, a3, a4, a5]) w P) (md : MD y (.code y bytes maxL none) 5) (d : decode cc pc = .ok (.invokespecial idx, 3)) (h1 : Cond.methodLink own idx y ∈ tw) (h2 : y.name = "<init>") (h3 : Cond.instanceMethod y ∈ tw) (hr : RmOk R rm maxL st c k)
    (kr : ∀ v w', P (.inl v) w' → Go G R cc own Y C Q (pc + 3) L (v.toList ++ st) w' (c + rm.cells) (k + rm.slots))
    (kx : ∀ E w', ¬ P (.inr E) w') : Go G R cc own Y C Q pc L (a5 :: a4 :: a3 :: a2 :: a1 :: .ref b :: st) w c k := by
  obtain ⟨p, e, s, m, args, below, meth, cd⟩ := C
  intro O H ls locs hR hS hL
  have hw := fun {x : Cond} (hx : x ∈ tw) => O.2.2.2.1.w (a := args) hx
  exact run_goN O hS hL (va_runI (Ts := []) (maxL := maxL) (b := b) (As := [a1, a2, a3, a4, a5]) (n := 5) ⟨O.1, O.2.1, hL.1.symm, O.2.2.1, fun _ z => nomatch z⟩ (ct.met kx) ⟨⟨rfl, rfl, hr.1.1, hr.1.2.1, ws_at O md.1, List.mem_cons_self, hw md.1, hw md.2.1, md.2.2.1, len_of md.2.2.2, hw h1⟩, h2, hw h3⟩ ⟨Pc0.blind, fun U hU hW => pc0_at O hR hS hU hW⟩ rfl rfl rfl rfl (mr_of hr.1.2.2) d hr.2) kr
theorem g_callIN5 {b : Nat} {host : String} {y : MethodName} {bytes : ByteArray} {maxL idx : Nat} {rm : Room} {a1 a2 a3 a4 a5 : Value} {P : RV → Wd → Prop} (ct : Ct G y (.code y bytes maxL none) rm (Value.ref b :: [a1, a2, a3, a4, a5]) w P) (md : MD y (.code y bytes maxL none) 5) (d : decode cc pc = .ok (.invokespecial idx, 3)) (h1 : Cond.methodLinkNest own idx y host ∈ tw) (h2 : y.name = "<init>") (h3 : Cond.instanceMethod y ∈ tw) (hr : RmOk R rm maxL st c k)
    (kr : ∀ v w', P (.inl v) w' → Go G R cc own Y C Q (pc + 3) L (v.toList ++ st) w' (c + rm.cells) (k + rm.slots))
    (kx : ∀ E w', ¬ P (.inr E) w') : Go G R cc own Y C Q pc L (a5 :: a4 :: a3 :: a2 :: a1 :: .ref b :: st) w c k := by
  obtain ⟨p, e, s, m, args, below, meth, cd⟩ := C
  intro O H ls locs hR hS hL
  have hw := fun {x : Cond} (hx : x ∈ tw) => O.2.2.2.1.w (a := args) hx
  exact run_goN O hS hL (va_runIN (Ts := []) (maxL := maxL) (b := b) (As := [a1, a2, a3, a4, a5]) (n := 5) ⟨O.1, O.2.1, hL.1.symm, O.2.2.1, fun _ z => nomatch z⟩ (ct.met kx) ⟨⟨⟨rfl, rfl, hr.1.1, hr.1.2.1, ws_at O md.1, List.mem_cons_self⟩, hw md.1, hw md.2.1, md.2.2.1, len_of md.2.2.2, hw h1⟩, h2, hw h3⟩ ⟨Pc0.blind, fun U hU hW => pc0_at O hR hS hU hW⟩ rfl rfl rfl rfl (mr_of hr.1.2.2) d hr.2) kr
theorem g_callS6 {y : MethodName} {bytes : ByteArray} {maxL idx : Nat} {ret : Option FieldType} {rm : Room} {a1 a2 a3 a4 a5 a6 : Value} {P : RV → Wd → Prop} (ct : Ct G y (.code y bytes maxL ret) rm [a1, a2, a3, a4, a5, a6] w P) (md : MD y (.code y bytes maxL ret) 6) (d : decode cc pc = .ok (.invokestatic idx, 3)) (h1 : Cond.methodLink own idx y ∈ tw) (h2 : Cond.static y ∈ tw) (hr : RmOk R rm maxL st c k)
    (kr : ∀ v w', P (.inl v) w' → Go G R cc own Y C Q (pc + 3) L (v.toList ++ st) w' (c + rm.cells) (k + rm.slots))
    (kx : ∀ E w', P (.inr E) w' → GoX G R cc own Y C Q pc L w' (c + rm.cells) (k + rm.slots) E) : Go G R cc own Y C Q pc L (a6 :: a5 :: a4 :: a3 :: a2 :: a1 :: st) w c k := by
  obtain ⟨p, e, s, m, args, below, meth, cd⟩ := C
  intro O H ls locs hR hS hL
  have hw := fun {x : Cond} (hx : x ∈ tw) => O.2.2.2.1.w (a := args) hx
  exact run_go O hS hL (vx_runS (Ts := []) (maxL := maxL) (ret := ret) (As := [a1, a2, a3, a4, a5, a6]) (n := 6) ⟨O.1, O.2.1, hL.1.symm, O.2.2.1, fun _ z => nomatch z⟩ ct ⟨⟨rfl, rfl, hr.1.1, hr.1.2.1, ws_at O md.1, List.mem_cons_self, hw md.1, hw md.2.1, md.2.2.1, len_of md.2.2.2, hw h1⟩, hw h2⟩ ⟨Pc0.blind, fun U hU hW => pc0_at O hR hS hU hW⟩ rfl rfl rfl rfl (mr_of hr.1.2.2) d hr.2) kr kx
theorem g_callSW6 {y : MethodName} {bytes : ByteArray} {maxL idx : Nat} {ret : Option FieldType} {hh : List (Nat × Nat × Nat × Nat)} {rm : Room} {a1 a2 a3 a4 a5 a6 : Value} {P : RV → Wd → Prop} (ct : Ct G y (.codeWith y bytes maxL ret hh) rm [a1, a2, a3, a4, a5, a6] w P) (md : MD y (.codeWith y bytes maxL ret hh) 6) (d : decode cc pc = .ok (.invokestatic idx, 3)) (h1 : Cond.methodLink own idx y ∈ tw) (h2 : Cond.static y ∈ tw) (hr : RmOk R rm maxL st c k)
    (kr : ∀ v w', P (.inl v) w' → Go G R cc own Y C Q (pc + 3) L (v.toList ++ st) w' (c + rm.cells) (k + rm.slots))
    (kx : ∀ E w', P (.inr E) w' → GoX G R cc own Y C Q pc L w' (c + rm.cells) (k + rm.slots) E) : Go G R cc own Y C Q pc L (a6 :: a5 :: a4 :: a3 :: a2 :: a1 :: st) w c k := by
  obtain ⟨p, e, s, m, args, below, meth, cd⟩ := C
  intro O H ls locs hR hS hL
  have hw := fun {x : Cond} (hx : x ∈ tw) => O.2.2.2.1.w (a := args) hx
  exact run_go O hS hL (vx_runSX (Ts := []) (maxL := maxL) (ret := ret) (hh := hh) (As := [a1, a2, a3, a4, a5, a6]) (n := 6) ⟨O.1, O.2.1, hL.1.symm, O.2.2.1, fun _ z => nomatch z⟩ ct ⟨⟨rfl, rfl, hr.1.1, hr.1.2.1, ws_at O md.1, List.mem_cons_self⟩, hw md.1, hw md.2.1, md.2.2.1, len_of md.2.2.2, hw h1, hw h2⟩ ⟨Pc0.blind, fun U hU hW => pc0_at O hR hS hU hW⟩ rfl rfl rfl rfl (mr_of hr.1.2.2) d hr.2) kr kx
theorem g_callV6 {ci N b : Nat} {Cn : String} {T : u_T} {ty : Nat → FieldType} {fs : List Value} {y : MethodName} {bytes : ByteArray} {maxL idx : Nat} {ret : Option FieldType} {rm : Room} {a1 a2 a3 a4 a5 a6 : Value} {P : RV → Wd → Prop} (hk : KC ci Cn T N ty) (ct : Ct G y (.code y bytes maxL ret) rm (Value.ref b :: [a1, a2, a3, a4, a5, a6]) w P) (md : MD y (.code y bytes maxL ret) 6) (d : decode cc pc = .ok (.invokevirtual idx, 3)) (h1 : Cond.methodLink own idx y ∈ tw) (h2 : Cond.instanceMethod y ∈ tw) (h3 : Cond.selects Cn y y ∈ tw) (hb : w b = some (eO ci fs)) (hr : RmOk R rm maxL st c k)
    (kr : ∀ v w', P (.inl v) w' → Go G R cc own Y C Q (pc + 3) L (v.toList ++ st) w' (c + rm.cells) (k + rm.slots))
    (kx : ∀ E w', P (.inr E) w' → GoX G R cc own Y C Q pc L w' (c + rm.cells) (k + rm.slots) E) : Go G R cc own Y C Q pc L (a6 :: a5 :: a4 :: a3 :: a2 :: a1 :: .ref b :: st) w c k := by
  obtain ⟨p, e, s, m, args, below, meth, cd⟩ := C
  intro O H ls locs hR hS hL
  have hw := fun {x : Cond} (hx : x ∈ tw) => O.2.2.2.1.w (a := args) hx
  exact run_go O hS hL (vx_runV (Ts := []) (maxL := maxL) (ret := ret) (As := [a1, a2, a3, a4, a5, a6]) (n := 6) ⟨O.1, O.2.1, hL.1.symm, O.2.2.1, fun _ z => nomatch z⟩ ct ⟨⟨rfl, rfl, hr.1.1, hr.1.2.1, ws_at O md.1, List.mem_cons_self, hw md.1, hw md.2.1, md.2.2.1, len_of md.2.2.2, hw h1⟩, hw h2, hw h3⟩ ⟨Pc0.blind, recv_at O hk hR hb, fun U hU hW => pc0_at O hR hS hU hW⟩ rfl rfl rfl rfl (mr_of hr.1.2.2) d hr.2) kr kx
theorem g_callVN6 {ci N b : Nat} {Cn host : String} {T : u_T} {ty : Nat → FieldType} {fs : List Value} {y : MethodName} {bytes : ByteArray} {maxL idx : Nat} {ret : Option FieldType} {rm : Room} {a1 a2 a3 a4 a5 a6 : Value} {P : RV → Wd → Prop} (hk : KC ci Cn T N ty) (ct : Ct G y (.code y bytes maxL ret) rm (Value.ref b :: [a1, a2, a3, a4, a5, a6]) w P) (md : MD y (.code y bytes maxL ret) 6) (d : decode cc pc = .ok (.invokevirtual idx, 3)) (h1 : Cond.methodLinkNest own idx y host ∈ tw) (h2 : Cond.instanceMethod y ∈ tw) (h3 : Cond.selects Cn y y ∈ tw) (hb : w b = some (eO ci fs)) (hr : RmOk R rm maxL st c k)
    (kr : ∀ v w', P (.inl v) w' → Go G R cc own Y C Q (pc + 3) L (v.toList ++ st) w' (c + rm.cells) (k + rm.slots))
    (kx : ∀ E w', ¬ P (.inr E) w') : Go G R cc own Y C Q pc L (a6 :: a5 :: a4 :: a3 :: a2 :: a1 :: .ref b :: st) w c k := by
  obtain ⟨p, e, s, m, args, below, meth, cd⟩ := C
  intro O H ls locs hR hS hL
  have hw := fun {x : Cond} (hx : x ∈ tw) => O.2.2.2.1.w (a := args) hx
  exact run_goN O hS hL (va_runVN (Ts := []) (maxL := maxL) (ret := ret) (As := [a1, a2, a3, a4, a5, a6]) (n := 6) ⟨O.1, O.2.1, hL.1.symm, O.2.2.1, fun _ z => nomatch z⟩ (ct.met kx) ⟨⟨⟨rfl, rfl, hr.1.1, hr.1.2.1, ws_at O md.1, List.mem_cons_self⟩, hw md.1, hw md.2.1, md.2.2.1, len_of md.2.2.2, hw h1⟩, hw h2, hw h3⟩ ⟨Pc0.blind, recv_at O hk hR hb, fun U hU hW => pc0_at O hR hS hU hW⟩ rfl rfl rfl rfl (mr_of hr.1.2.2) d hr.2) kr
theorem g_callI6 {b : Nat} {y : MethodName} {bytes : ByteArray} {maxL idx : Nat} {rm : Room} {a1 a2 a3 a4 a5 a6 : Value} {P : RV → Wd → Prop} (ct : Ct G y (.code y bytes maxL none) rm (Value.ref b :: [a1, a2, a3, a4, a5, a6]) w P) (md : MD y (.code y bytes maxL none) 6) (d : decode cc pc = .ok (.invokespecial idx, 3)) (h1 : Cond.methodLink own idx y ∈ tw) (h2 : y.name = "<init>") (h3 : Cond.instanceMethod y ∈ tw) (hr : RmOk R rm maxL st c k)
    (kr : ∀ v w', P (.inl v) w' → Go G R cc own Y C Q (pc + 3) L (v.toList ++ st) w' (c + rm.cells) (k + rm.slots))
    (kx : ∀ E w', ¬ P (.inr E) w') : Go G R cc own Y C Q pc L (a6 :: a5 :: a4 :: a3 :: a2 :: a1 :: .ref b :: st) w c k := by
  obtain ⟨p, e, s, m, args, below, meth, cd⟩ := C
  intro O H ls locs hR hS hL
  have hw := fun {x : Cond} (hx : x ∈ tw) => O.2.2.2.1.w (a := args) hx
  exact run_goN O hS hL (va_runI (Ts := []) (maxL := maxL) (b := b) (As := [a1, a2, a3, a4, a5, a6]) (n := 6) ⟨O.1, O.2.1, hL.1.symm, O.2.2.1, fun _ z => nomatch z⟩ (ct.met kx) ⟨⟨rfl, rfl, hr.1.1, hr.1.2.1, ws_at O md.1, List.mem_cons_self, hw md.1, hw md.2.1, md.2.2.1, len_of md.2.2.2, hw h1⟩, h2, hw h3⟩ ⟨Pc0.blind, fun U hU hW => pc0_at O hR hS hU hW⟩ rfl rfl rfl rfl (mr_of hr.1.2.2) d hr.2) kr
theorem g_callIN6 {b : Nat} {host : String} {y : MethodName} {bytes : ByteArray} {maxL idx : Nat} {rm : Room} {a1 a2 a3 a4 a5 a6 : Value} {P : RV → Wd → Prop} (ct : Ct G y (.code y bytes maxL none) rm (Value.ref b :: [a1, a2, a3, a4, a5, a6]) w P) (md : MD y (.code y bytes maxL none) 6) (d : decode cc pc = .ok (.invokespecial idx, 3)) (h1 : Cond.methodLinkNest own idx y host ∈ tw) (h2 : y.name = "<init>") (h3 : Cond.instanceMethod y ∈ tw) (hr : RmOk R rm maxL st c k)
    (kr : ∀ v w', P (.inl v) w' → Go G R cc own Y C Q (pc + 3) L (v.toList ++ st) w' (c + rm.cells) (k + rm.slots))
    (kx : ∀ E w', ¬ P (.inr E) w') : Go G R cc own Y C Q pc L (a6 :: a5 :: a4 :: a3 :: a2 :: a1 :: .ref b :: st) w c k := by
  obtain ⟨p, e, s, m, args, below, meth, cd⟩ := C
  intro O H ls locs hR hS hL
  have hw := fun {x : Cond} (hx : x ∈ tw) => O.2.2.2.1.w (a := args) hx
  exact run_goN O hS hL (va_runIN (Ts := []) (maxL := maxL) (b := b) (As := [a1, a2, a3, a4, a5, a6]) (n := 6) ⟨O.1, O.2.1, hL.1.symm, O.2.2.1, fun _ z => nomatch z⟩ (ct.met kx) ⟨⟨⟨rfl, rfl, hr.1.1, hr.1.2.1, ws_at O md.1, List.mem_cons_self⟩, hw md.1, hw md.2.1, md.2.2.1, len_of md.2.2.2, hw h1⟩, h2, hw h3⟩ ⟨Pc0.blind, fun U hU hW => pc0_at O hR hS hU hW⟩ rfl rfl rfl rfl (mr_of hr.1.2.2) d hr.2) kr
theorem g_callS10 {y : MethodName} {bytes : ByteArray} {maxL idx : Nat} {ret : Option FieldType} {rm : Room} {a1 a2 a3 a4 a5 a6 a7 a8 a9 a10 : Value} {P : RV → Wd → Prop} (ct : Ct G y (.code y bytes maxL ret) rm [a1, a2, a3, a4, a5, a6, a7, a8, a9, a10] w P) (md : MD y (.code y bytes maxL ret) 10) (d : decode cc pc = .ok (.invokestatic idx, 3)) (h1 : Cond.methodLink own idx y ∈ tw) (h2 : Cond.static y ∈ tw) (hr : RmOk R rm maxL st c k)
    (kr : ∀ v w', P (.inl v) w' → Go G R cc own Y C Q (pc + 3) L (v.toList ++ st) w' (c + rm.cells) (k + rm.slots))
    (kx : ∀ E w', P (.inr E) w' → GoX G R cc own Y C Q pc L w' (c + rm.cells) (k + rm.slots) E) : Go G R cc own Y C Q pc L (a10 :: a9 :: a8 :: a7 :: a6 :: a5 :: a4 :: a3 :: a2 :: a1 :: st) w c k := by
  obtain ⟨p, e, s, m, args, below, meth, cd⟩ := C
  intro O H ls locs hR hS hL
  have hw := fun {x : Cond} (hx : x ∈ tw) => O.2.2.2.1.w (a := args) hx
  exact run_go O hS hL (vx_runS (Ts := []) (maxL := maxL) (ret := ret) (As := [a1, a2, a3, a4, a5, a6, a7, a8, a9, a10]) (n := 10) ⟨O.1, O.2.1, hL.1.symm, O.2.2.1, fun _ z => nomatch z⟩ ct ⟨⟨rfl, rfl, hr.1.1, hr.1.2.1, ws_at O md.1, List.mem_cons_self, hw md.1, hw md.2.1, md.2.2.1, len_of md.2.2.2, hw h1⟩, hw h2⟩ ⟨Pc0.blind, fun U hU hW => pc0_at O hR hS hU hW⟩ rfl rfl rfl rfl (mr_of hr.1.2.2) d hr.2) kr kx
theorem g_callS11 {y : MethodName} {bytes : ByteArray} {maxL idx : Nat} {ret : Option FieldType} {rm : Room} {a1 a2 a3 a4 a5 a6 a7 a8 a9 a10 a11 : Value} {P : RV → Wd → Prop} (ct : Ct G y (.code y bytes maxL ret) rm [a1, a2, a3, a4, a5, a6, a7, a8, a9, a10, a11] w P) (md : MD y (.code y bytes maxL ret) 11) (d : decode cc pc = .ok (.invokestatic idx, 3)) (h1 : Cond.methodLink own idx y ∈ tw) (h2 : Cond.static y ∈ tw) (hr : RmOk R rm maxL st c k)
    (kr : ∀ v w', P (.inl v) w' → Go G R cc own Y C Q (pc + 3) L (v.toList ++ st) w' (c + rm.cells) (k + rm.slots))
    (kx : ∀ E w', P (.inr E) w' → GoX G R cc own Y C Q pc L w' (c + rm.cells) (k + rm.slots) E) : Go G R cc own Y C Q pc L (a11 :: a10 :: a9 :: a8 :: a7 :: a6 :: a5 :: a4 :: a3 :: a2 :: a1 :: st) w c k := by
  obtain ⟨p, e, s, m, args, below, meth, cd⟩ := C
  intro O H ls locs hR hS hL
  have hw := fun {x : Cond} (hx : x ∈ tw) => O.2.2.2.1.w (a := args) hx
  exact run_go O hS hL (vx_runS (Ts := []) (maxL := maxL) (ret := ret) (As := [a1, a2, a3, a4, a5, a6, a7, a8, a9, a10, a11]) (n := 11) ⟨O.1, O.2.1, hL.1.symm, O.2.2.1, fun _ z => nomatch z⟩ ct ⟨⟨rfl, rfl, hr.1.1, hr.1.2.1, ws_at O md.1, List.mem_cons_self, hw md.1, hw md.2.1, md.2.2.1, len_of md.2.2.2, hw h1⟩, hw h2⟩ ⟨Pc0.blind, fun U hU hW => pc0_at O hR hS hU hW⟩ rfl rfl rfl rfl (mr_of hr.1.2.2) d hr.2) kr kx
theorem g_callS13 {y : MethodName} {bytes : ByteArray} {maxL idx : Nat} {ret : Option FieldType} {rm : Room} {a1 a2 a3 a4 a5 a6 a7 a8 a9 a10 a11 a12 a13 : Value} {P : RV → Wd → Prop} (ct : Ct G y (.code y bytes maxL ret) rm [a1, a2, a3, a4, a5, a6, a7, a8, a9, a10, a11, a12, a13] w P) (md : MD y (.code y bytes maxL ret) 13) (d : decode cc pc = .ok (.invokestatic idx, 3)) (h1 : Cond.methodLink own idx y ∈ tw) (h2 : Cond.static y ∈ tw) (hr : RmOk R rm maxL st c k)
    (kr : ∀ v w', P (.inl v) w' → Go G R cc own Y C Q (pc + 3) L (v.toList ++ st) w' (c + rm.cells) (k + rm.slots))
    (kx : ∀ E w', P (.inr E) w' → GoX G R cc own Y C Q pc L w' (c + rm.cells) (k + rm.slots) E) : Go G R cc own Y C Q pc L (a13 :: a12 :: a11 :: a10 :: a9 :: a8 :: a7 :: a6 :: a5 :: a4 :: a3 :: a2 :: a1 :: st) w c k := by
  obtain ⟨p, e, s, m, args, below, meth, cd⟩ := C
  intro O H ls locs hR hS hL
  have hw := fun {x : Cond} (hx : x ∈ tw) => O.2.2.2.1.w (a := args) hx
  exact run_go O hS hL (vx_runS (Ts := []) (maxL := maxL) (ret := ret) (As := [a1, a2, a3, a4, a5, a6, a7, a8, a9, a10, a11, a12, a13]) (n := 13) ⟨O.1, O.2.1, hL.1.symm, O.2.2.1, fun _ z => nomatch z⟩ ct ⟨⟨rfl, rfl, hr.1.1, hr.1.2.1, ws_at O md.1, List.mem_cons_self, hw md.1, hw md.2.1, md.2.2.1, len_of md.2.2.2, hw h1⟩, hw h2⟩ ⟨Pc0.blind, fun U hU hW => pc0_at O hR hS hU hW⟩ rfl rfl rfl rfl (mr_of hr.1.2.2) d hr.2) kr kx
end CallRows
section EndRows
variable {G : Gx} {R : Room} {cc : ByteArray} {own nm : String} {hh : List (Nat × Nat × Nat × Nat)} {C : Cx} {P : RV → Wd → Prop} {pc : Nat} {L : List (Option Value)} {st : List Value} {w : Wd} {c k : Nat}
theorem qc_at {s t : State} {H : Heap} {locs : List Loc} {v : Option Value} {a : Array Value} (hp : P (.inl v) w) (hR : Rel G w H) (hS : va_S (gA G) s.heap H locs) (ht : t.heap = H) : Qc0 G P a s (.returned v) t := ⟨v, w, rfl, hp, by rw [ht]; exact hR, hS.F ht⟩
theorem g_iret {v : Int32} (d : decode cc pc = .ok (.ireturn, 1)) (hp : P (.inl (some (.int v))) w) (hc : c ≤ R.cells) (hk : k ≤ R.slots) : Go G R cc own (some .int, nm, hh) C (QP G R P C) pc L [.int v] w c k := by
  obtain ⟨p, e, s, m, args, below, meth, cd⟩ := C
  intro O H ls locs hR hS hL
  have hlocks : meth.locks = false := O.2.2.2.2.2.2.2.2
  refine W.widen hc hk (vx_ret (W.iret O.1 O.2.1 O.2.2.2.2.2.1 (fun t ht _ => qc_at hp hR hS ht) hS.2.2 d hlocks))
theorem g_zret {v : Int32} (d : decode cc pc = .ok (.ireturn, 1)) (hn : narrow .boolean (.int v) = .int v) (hp : P (.inl (some (.int v))) w) (hc : c ≤ R.cells) (hk : k ≤ R.slots) : Go G R cc own (some .boolean, nm, hh) C (QP G R P C) pc L [.int v] w c k := by
  obtain ⟨p, e, s, m, args, below, meth, cd⟩ := C
  intro O H ls locs hR hS hL
  have hlocks : meth.locks = false := O.2.2.2.2.2.2.2.2
  refine W.widen hc hk (vx_ret (W.zret (ty := .boolean) O.1 O.2.1 O.2.2.2.2.2.1 hn (fun t ht _ => qc_at hp hR hS ht) hS.2.2 d hlocks))
theorem g_vret (d : decode cc pc = .ok (.return_, 1)) (hp : P (.inl none) w) (hc : c ≤ R.cells) (hk : k ≤ R.slots) : Go G R cc own (none, nm, hh) C (QP G R P C) pc L [] w c k := by
  obtain ⟨p, e, s, m, args, below, meth, cd⟩ := C
  intro O H ls locs hR hS hL
  have hlocks : meth.locks = false := O.2.2.2.2.2.2.2.2
  refine W.widen hc hk (vx_ret (W.vret O.1 O.2.1 O.2.2.2.2.2.1 (fun t ht _ => qc_at hp hR hS ht) hS.2.2 d hlocks))
theorem g_aret {v : Nat} {rt : FieldType} (hrt : (∃ n, rt = .object n) ∨ ∃ t, rt = .array t) (d : decode cc pc = .ok (.areturn, 1)) (hp : P (.inl (some (.ref v))) w) (hc : c ≤ R.cells) (hk : k ≤ R.slots) : Go G R cc own (some rt, nm, hh) C (QP G R P C) pc L [.ref v] w c k := by
  obtain ⟨p, e, s, m, args, below, meth, cd⟩ := C
  intro O H ls locs hR hS hL
  have hlocks : meth.locks = false := O.2.2.2.2.2.2.2.2
  refine W.widen hc hk (vx_ret (W.aret (rt := rt) O.1 O.2.1 O.2.2.2.2.2.1 hrt (Or.inr ⟨v, rfl⟩) (fun t ht _ => qc_at hp hR hS ht) hS.2.2 d hlocks))
theorem gx_out {Y : Yx} {E : String} (ho : ∀ x ∈ tableOf Y.2.2, covers x pc = false) (hp : P (.inr E) w) (hc : c ≤ R.cells) (hk : k ≤ R.slots) : GoX G R cc own Y C (QP G R P C) pc L w c k E := by
  obtain ⟨p, e, s, m, args, below, meth, cd⟩ := C
  intro O H ls locs q ce st hR hS hL hce hcv hcl
  refine vx_out (by rw [O.2.2.2.2.2.2.2.1]; exact ho) O.2.2.2.2.2.2.2.2 hce hcv hcl (fun t ht _ => ⟨w, hp, by rw [ht]; exact hR, hS.F ht⟩) hS.2.2 hc hk
theorem gx_catch {Y : Yx} {Q : State → Prop} {E name : String} (pre : List ExceptionTableEntry) (x : ExceptionTableEntry) (suf : List ExceptionTableEntry) (hsplit : tableOf Y.2.2 = pre ++ x :: suf)
    (hpass : ∀ z ∈ pre, covers z pc = false ∨ (z.catchType ≠ 0 ∧ ∃ n2 : String, Cond.classLink own z.catchType n2 ∈ tw ∧ (E, n2) ∈ nc_all)) (hx : covers x pc = true) (h0 : x.catchType ≠ 0) (hlink : Cond.classLink own x.catchType name ∈ tw) (hcast : Cond.castable E name ∈ tw)
    (h : ∀ q : Nat, Go G R cc own Y C Q x.handlerPc L [.ref q] w c k) : GoX G R cc own Y C Q pc L w c k E := by
  obtain ⟨p, e, s, m, args, below, meth, cd⟩ := C
  intro O H ls locs q ce st hR hS hL hce hcv hcl
  refine vx_catch O.2.2.1 pre x suf (by rw [O.2.2.2.2.2.2.2.1]; exact hsplit) (fun z hz => ?_) hx h0 (O.2.2.2.1.w hlink) (O.2.2.2.1.w hcast) hce hcv hcl (h q O H ls locs hR hS hL)
  rcases hpass z hz with h1 | ⟨h1, n2, h2, h3⟩
  · exact Or.inl h1
  · exact Or.inr ⟨h1, n2, O.2.2.2.1.w h2, O.2.2.2.1.2.2.2.1 _ h3⟩
/-- what a throw of the class cls with a text needs of the tables -/
def TW (own : String) (ik is ic : Nat) (cls text : String) : Prop := Bundle.fit cls = true ∧ Cond.classLink own ik cls ∈ tw ∧ Cond.initialized cls ∈ tw ∧ Cond.stringRef own is text ∈ tables_1 ∧ (∀ x ∈ vx_atS own ic cls ["java/lang/RuntimeException", "java/lang/Exception"], x ∈ tw) ∧
  ∀ x ∈ Cond.classLink own ik cls :: Cond.initialized cls :: vx_atS own ic cls ["java/lang/RuntimeException", "java/lang/Exception"], vx_ot x = true
theorem g_throwS {Y : Yx} {ik is ic : Nat} {cls text : String} (tq : TW own ik is ic cls text) (d0 : decode cc pc = .ok (.new ik, 3)) (d3 : decode cc (pc + 3) = .ok (.dup, 1)) (d4 : decode cc (pc + 4) = .ok (.ldc is, 2)) (d6 : decode cc (pc + 6) = .ok (.invokespecial ic, 3)) (d9 : decode cc (pc + 9) = .ok (.athrow, 1))
    (ho : ∀ x ∈ tableOf Y.2.2, covers x (pc + 9) = false) (hf : 5 < R.frames) (hl : (st.map fun v => v.category).sum + 82 ≤ R.locals) (hp : P (.inr cls) w) (hc : c + 1 ≤ R.cells) (hk : k + 6 ≤ R.slots) : Go G R cc own Y C (QP G R P C) pc L st w c k := by
  obtain ⟨p, e, s, m, args, below, meth, cd⟩ := C
  intro O H ls locs hR hS hL
  obtain ⟨hfit, h1, h2, h3, h4, h5⟩ := tq
  have hg := O.2.2.2.1
  obtain ⟨sa, hsa⟩ := hg.2.2.1 own text is h3
  have hB : ∀ a : Nat, a < (gH G).size → ¬ gA G a → s.heap[a]? = (gH G)[a]? := fun a ha _ => O.2.2.2.2.1.2 a ha
  refine vx_throwS (A := gA G) (sa := sa) (names := ["java/lang/RuntimeException", "java/lang/Exception"]) O.1 O.2.1 hg.2.2.2.2.2.2.2.2.2.2 O.2.2.1 hfit (by decide +kernel) (hg.w h1) (hg.w h2) hsa (fun x hx => hg.w (h4 x hx)) h5 (hg.2.2.2.2.1.kept hB) (hg.2.2.2.2.2.1.kept hB) hS hL.1 d0 d3 d4 d6 d9 (by rw [O.2.2.2.2.2.2.2.1]; exact ho) hf hl hc hk O.2.2.2.2.2.2.2.2 (fun t _ hz hq => ⟨w, hp, hR.kept hq, ?_⟩) hS.2.2 hc hk
  exact ⟨Nat.le_trans hS.1 hz, fun q g1 g2 => (hq q (Nat.lt_of_lt_of_le g1 hS.1)).trans (hS.2.1 q g1 g2)⟩
end EndRows
end
section
/-! The words of the tables, one by one. -/
theorem ac_int : Cond.arrayClass .int ∈ tw := tw_in 112 (by decide +kernel) (by decide +kernel)
theorem ac_boolean : Cond.arrayClass .boolean ∈ tw := tw_in 135 (by decide +kernel) (by decide +kernel)
theorem ac_long : Cond.arrayClass .long ∈ tw := tw_in 675 (by decide +kernel) (by decide +kernel)
theorem w_same : Cond.sameField "java/util/ArrayList" "java/util/AbstractList" "modCount" "I" ∈ tw := tw_in 68 (by decide +kernel) (by decide +kernel)
theorem ini_L : Cond.initialized RL ∈ tw := tw_in 0 (by decide +kernel) (by decide +kernel)
theorem ini_X5 : Cond.initialized RX5 ∈ tw := tw_in 1 (by decide +kernel) (by decide +kernel)
theorem ini_X1 : Cond.initialized RX1 ∈ tw := tw_in 2 (by decide +kernel) (by decide +kernel)
theorem ini_Jxa1e45 : Cond.initialized RJxa1e45 ∈ tw := tw_in 3 (by decide +kernel) (by decide +kernel)
theorem ini_Jxc12de : Cond.initialized RJxc12de ∈ tw := tw_in 4 (by decide +kernel) (by decide +kernel)
theorem ini_Jx4a65c : Cond.initialized RJx4a65c ∈ tw := tw_in 5 (by decide +kernel) (by decide +kernel)
theorem ini_X4 : Cond.initialized RX4 ∈ tw := tw_in 6 (by decide +kernel) (by decide +kernel)
theorem ini_X2 : Cond.initialized RX2 ∈ tw := tw_in 7 (by decide +kernel) (by decide +kernel)
theorem ini_X3 : Cond.initialized RX3 ∈ tw := tw_in 8 (by decide +kernel) (by decide +kernel)
theorem ini_J8 : Cond.initialized RJ8 ∈ tw := tw_in 9 (by decide +kernel) (by decide +kernel)
theorem ini_J9 : Cond.initialized RJ9 ∈ tw := tw_in 10 (by decide +kernel) (by decide +kernel)
theorem ini_J7 : Cond.initialized RJ7 ∈ tw := tw_in 11 (by decide +kernel) (by decide +kernel)
theorem ini_J10 : Cond.initialized RJ10 ∈ tw := tw_in 12 (by decide +kernel) (by decide +kernel)
theorem ini_Throwable : Cond.initialized "java/lang/Throwable" ∈ tw := tw_in 13 (by decide +kernel) (by decide +kernel)
theorem ini_Exception : Cond.initialized "java/lang/Exception" ∈ tw := tw_in 14 (by decide +kernel) (by decide +kernel)
theorem ini_RuntimeException : Cond.initialized "java/lang/RuntimeException" ∈ tw := tw_in 15 (by decide +kernel) (by decide +kernel)
theorem ini_IndexOutOfBoundsException : Cond.initialized "java/lang/IndexOutOfBoundsException" ∈ tw := tw_in 16 (by decide +kernel) (by decide +kernel)
theorem ini_J15 : Cond.initialized RJ15 ∈ tw := tw_in 17 (by decide +kernel) (by decide +kernel)
theorem ini_J3 : Cond.initialized RJ3 ∈ tw := tw_in 18 (by decide +kernel) (by decide +kernel)
theorem ini_IllegalArgumentException : Cond.initialized "java/lang/IllegalArgumentException" ∈ tw := tw_in 19 (by decide +kernel) (by decide +kernel)
theorem ini_NoSuchElementException : Cond.initialized "java/util/NoSuchElementException" ∈ tw := tw_in 20 (by decide +kernel) (by decide +kernel)
theorem ini_IllegalStateException : Cond.initialized "java/lang/IllegalStateException" ∈ tw := tw_in 21 (by decide +kernel) (by decide +kernel)
theorem ini_X0 : Cond.initialized RX0 ∈ tw := tw_in 22 (by decide +kernel) (by decide +kernel)
theorem ins_X5 : Cond.instantiable RX5 11 ∈ tw := tw_in 24 (by decide +kernel) (by decide +kernel)
theorem ins_X1 : Cond.instantiable RX1 3 ∈ tw := tw_in 32 (by decide +kernel) (by decide +kernel)
theorem ins_Jx4a65c : Cond.instantiable RJx4a65c 3 ∈ tw := tw_in 51 (by decide +kernel) (by decide +kernel)
theorem ins_X4 : Cond.instantiable RX4 2 ∈ tw := tw_in 77 (by decide +kernel) (by decide +kernel)
theorem ins_X2 : Cond.instantiable RX2 3 ∈ tw := tw_in 95 (by decide +kernel) (by decide +kernel)
theorem ins_X3 : Cond.instantiable RX3 4 ∈ tw := tw_in 114 (by decide +kernel) (by decide +kernel)
theorem ins_IllegalArgumentException : Cond.instantiable "java/lang/IllegalArgumentException" 6 ∈ tw := tw_in 258 (by decide +kernel) (by decide +kernel)
theorem ins_Throwable : Cond.instantiable "java/lang/Throwable" 6 ∈ tw := tw_in 297 (by decide +kernel) (by decide +kernel)
theorem ins_IllegalStateException : Cond.instantiable "java/lang/IllegalStateException" 6 ∈ tw := tw_in 331 (by decide +kernel) (by decide +kernel)
theorem ins_X0 : Cond.instantiable RX0 6 ∈ tw := tw_in 411 (by decide +kernel) (by decide +kernel)
theorem ins_IndexOutOfBoundsException : Cond.instantiable "java/lang/IndexOutOfBoundsException" 6 ∈ tw := tw_in 485 (by decide +kernel) (by decide +kernel)
theorem ins_NoSuchElementException : Cond.instantiable "java/util/NoSuchElementException" 6 ∈ tw := tw_in 660 (by decide +kernel) (by decide +kernel)
abbrev kw_X5_init : Cond := .code yX5_init cX5_init 2 none
theorem cd_X5_init : kw_X5_init ∈ tw := tw_in 27 (by decide +kernel) (by decide +kernel)
theorem md_X5_init : MD yX5_init kw_X5_init 0 := ⟨cd_X5_init, ini_X5, ⟨by decide +kernel, by decide +kernel⟩, by decide +kernel⟩
theorem cd_oi : Cond.code Lib.objectInit ⟨#[0xb1]⟩ 1 none ∈ tw := tw_in 30 (by decide +kernel) (by decide +kernel)
abbrev kw_X1_init : Cond := .code yX1_init cX1_init 4 none
theorem cd_X1_init : kw_X1_init ∈ tw := tw_in 35 (by decide +kernel) (by decide +kernel)
theorem md_X1_init : MD yX1_init kw_X1_init 3 := ⟨cd_X1_init, ini_X1, ⟨by decide +kernel, by decide +kernel⟩, by decide +kernel⟩
abbrev kw_Jx4a65c_init_da8c8 : Cond := .code yJx4a65c_init_da8c8 cJx4a65c_init_da8c8 1 none
theorem cd_Jx4a65c_init_da8c8 : kw_Jx4a65c_init_da8c8 ∈ tw := tw_in 54 (by decide +kernel) (by decide +kernel)
theorem md_Jx4a65c_init_da8c8 : MD yJx4a65c_init_da8c8 kw_Jx4a65c_init_da8c8 0 := ⟨cd_Jx4a65c_init_da8c8, ini_Jx4a65c, ⟨by decide +kernel, by decide +kernel⟩, by decide +kernel⟩
abbrev kw_Jxc12de_init_da8c8 : Cond := .code yJxc12de_init_da8c8 cJxc12de_init_da8c8 1 none
theorem cd_Jxc12de_init_da8c8 : kw_Jxc12de_init_da8c8 ∈ tw := tw_in 57 (by decide +kernel) (by decide +kernel)
theorem md_Jxc12de_init_da8c8 : MD yJxc12de_init_da8c8 kw_Jxc12de_init_da8c8 0 := ⟨cd_Jxc12de_init_da8c8, ini_Jxc12de, ⟨by decide +kernel, by decide +kernel⟩, by decide +kernel⟩
abbrev kw_Jxa1e45_init_da8c8 : Cond := .code yJxa1e45_init_da8c8 cJxa1e45_init_da8c8 1 none
theorem cd_Jxa1e45_init_da8c8 : kw_Jxa1e45_init_da8c8 ∈ tw := tw_in 60 (by decide +kernel) (by decide +kernel)
theorem md_Jxa1e45_init_da8c8 : MD yJxa1e45_init_da8c8 kw_Jxa1e45_init_da8c8 0 := ⟨cd_Jxa1e45_init_da8c8, ini_Jxa1e45, ⟨by decide +kernel, by decide +kernel⟩, by decide +kernel⟩
abbrev kw_X4_init : Cond := .code yX4_init cX4_init 1 none
theorem cd_X4_init : kw_X4_init ∈ tw := tw_in 80 (by decide +kernel) (by decide +kernel)
theorem md_X4_init : MD yX4_init kw_X4_init 0 := ⟨cd_X4_init, ini_X4, ⟨by decide +kernel, by decide +kernel⟩, by decide +kernel⟩
abbrev kw_X2_init : Cond := .code yX2_init cX2_init 1 none
theorem cd_X2_init : kw_X2_init ∈ tw := tw_in 98 (by decide +kernel) (by decide +kernel)
theorem md_X2_init : MD yX2_init kw_X2_init 0 := ⟨cd_X2_init, ini_X2, ⟨by decide +kernel, by decide +kernel⟩, by decide +kernel⟩
abbrev kw_X3_init : Cond := .code yX3_init cX3_init 2 none
theorem cd_X3_init : kw_X3_init ∈ tw := tw_in 117 (by decide +kernel) (by decide +kernel)
theorem md_X3_init : MD yX3_init kw_X3_init 1 := ⟨cd_X3_init, ini_X3, ⟨by decide +kernel, by decide +kernel⟩, by decide +kernel⟩
abbrev kw_Jx4a65c_add_9ea2d : Cond := .code yJx4a65c_add_9ea2d cJx4a65c_add_9ea2d 2 (Option.some FieldType.boolean)
theorem cd_Jx4a65c_add_9ea2d : kw_Jx4a65c_add_9ea2d ∈ tw := tw_in 139 (by decide +kernel) (by decide +kernel)
theorem md_Jx4a65c_add_9ea2d : MD yJx4a65c_add_9ea2d kw_Jx4a65c_add_9ea2d 1 := ⟨cd_Jx4a65c_add_9ea2d, ini_Jx4a65c, ⟨by decide +kernel, by decide +kernel⟩, by decide +kernel⟩
abbrev kw_Jx4a65c_add_72be8 : Cond := .code yJx4a65c_add_72be8 cJx4a65c_add_72be8 4 none
theorem cd_Jx4a65c_add_72be8 : kw_Jx4a65c_add_72be8 ∈ tw := tw_in 143 (by decide +kernel) (by decide +kernel)
theorem md_Jx4a65c_add_72be8 : MD yJx4a65c_add_72be8 kw_Jx4a65c_add_72be8 3 := ⟨cd_Jx4a65c_add_72be8, ini_Jx4a65c, ⟨by decide +kernel, by decide +kernel⟩, by decide +kernel⟩
abbrev kw_Jx4a65c_grow_d5877 : Cond := .code yJx4a65c_grow_d5877 cJx4a65c_grow_d5877 1 (Option.some (FieldType.array (FieldType.object "java/lang/Object")))
theorem cd_Jx4a65c_grow_d5877 : kw_Jx4a65c_grow_d5877 ∈ tw := tw_in 147 (by decide +kernel) (by decide +kernel)
theorem md_Jx4a65c_grow_d5877 : MD yJx4a65c_grow_d5877 kw_Jx4a65c_grow_d5877 0 := ⟨cd_Jx4a65c_grow_d5877, ini_Jx4a65c, ⟨by decide +kernel, by decide +kernel⟩, by decide +kernel⟩
abbrev kw_Jx4a65c_grow_92f84 : Cond := .code yJx4a65c_grow_92f84 cJx4a65c_grow_92f84 4 (Option.some (FieldType.array (FieldType.object "java/lang/Object")))
theorem cd_Jx4a65c_grow_92f84 : kw_Jx4a65c_grow_92f84 ∈ tw := tw_in 151 (by decide +kernel) (by decide +kernel)
theorem md_Jx4a65c_grow_92f84 : MD yJx4a65c_grow_92f84 kw_Jx4a65c_grow_92f84 1 := ⟨cd_Jx4a65c_grow_92f84, ini_Jx4a65c, ⟨by decide +kernel, by decide +kernel⟩, by decide +kernel⟩
abbrev kw_J8_newLength_cabcc : Cond := .code yJ8_newLength_cabcc cJ8_newLength_cabcc 4 (Option.some FieldType.int)
theorem cd_J8_newLength_cabcc : kw_J8_newLength_cabcc ∈ tw := tw_in 154 (by decide +kernel) (by decide +kernel)
theorem md_J8_newLength_cabcc : MD yJ8_newLength_cabcc kw_J8_newLength_cabcc 3 := ⟨cd_J8_newLength_cabcc, ini_J8, ⟨by decide +kernel, by decide +kernel⟩, by decide +kernel⟩
abbrev kw_J9_max_7cf53 : Cond := .code yJ9_max_7cf53 cJ9_max_7cf53 2 (Option.some FieldType.int)
theorem cd_J9_max_7cf53 : kw_J9_max_7cf53 ∈ tw := tw_in 157 (by decide +kernel) (by decide +kernel)
theorem md_J9_max_7cf53 : MD yJ9_max_7cf53 kw_J9_max_7cf53 2 := ⟨cd_J9_max_7cf53, ini_J9, ⟨by decide +kernel, by decide +kernel⟩, by decide +kernel⟩
abbrev kw_J8_hugeLength_7cf53 : Cond := .code yJ8_hugeLength_7cf53 cJ8_hugeLength_7cf53 3 (Option.some FieldType.int)
theorem cd_J8_hugeLength_7cf53 : kw_J8_hugeLength_7cf53 ∈ tw := tw_in 161 (by decide +kernel) (by decide +kernel)
theorem md_J8_hugeLength_7cf53 : MD yJ8_hugeLength_7cf53 kw_J8_hugeLength_7cf53 2 := ⟨cd_J8_hugeLength_7cf53, ini_J8, ⟨by decide +kernel, by decide +kernel⟩, by decide +kernel⟩
abbrev kw_J7_copyOf_1904c : Cond := .code yJ7_copyOf_1904c cJ7_copyOf_1904c 2 (Option.some (FieldType.array (FieldType.object "java/lang/Object")))
theorem cd_J7_copyOf_1904c : kw_J7_copyOf_1904c ∈ tw := tw_in 164 (by decide +kernel) (by decide +kernel)
theorem md_J7_copyOf_1904c : MD yJ7_copyOf_1904c kw_J7_copyOf_1904c 2 := ⟨cd_J7_copyOf_1904c, ini_J7, ⟨by decide +kernel, by decide +kernel⟩, by decide +kernel⟩
abbrev kw_J7_copyOf_6403c : Cond := .code yJ7_copyOf_6403c cJ7_copyOf_6403c 4 (Option.some (FieldType.array (FieldType.object "java/lang/Object")))
theorem cd_J7_copyOf_6403c : kw_J7_copyOf_6403c ∈ tw := tw_in 182 (by decide +kernel) (by decide +kernel)
theorem md_J7_copyOf_6403c : MD yJ7_copyOf_6403c kw_J7_copyOf_6403c 3 := ⟨cd_J7_copyOf_6403c, ini_J7, ⟨by decide +kernel, by decide +kernel⟩, by decide +kernel⟩
abbrev kw_J9_min_7cf53 : Cond := .code yJ9_min_7cf53 cJ9_min_7cf53 2 (Option.some FieldType.int)
theorem cd_J9_min_7cf53 : kw_J9_min_7cf53 ∈ tw := tw_in 188 (by decide +kernel) (by decide +kernel)
theorem md_J9_min_7cf53 : MD yJ9_min_7cf53 kw_J9_min_7cf53 2 := ⟨cd_J9_min_7cf53, ini_J9, ⟨by decide +kernel, by decide +kernel⟩, by decide +kernel⟩
abbrev kw_J7_fill_53178 : Cond := .code yJ7_fill_53178 cJ7_fill_53178 4 none
theorem cd_J7_fill_53178 : kw_J7_fill_53178 ∈ tw := tw_in 196 (by decide +kernel) (by decide +kernel)
theorem md_J7_fill_53178 : MD yJ7_fill_53178 kw_J7_fill_53178 2 := ⟨cd_J7_fill_53178, ini_J7, ⟨by decide +kernel, by decide +kernel⟩, by decide +kernel⟩
abbrev kw_L_cell : Cond := .code yL_cell cL_cell 2 (Option.some FieldType.int)
theorem cd_L_cell : kw_L_cell ∈ tw := tw_in 233 (by decide +kernel) (by decide +kernel)
theorem md_L_cell : MD yL_cell kw_L_cell 2 := ⟨cd_L_cell, ini_L, ⟨by decide +kernel, by decide +kernel⟩, by decide +kernel⟩
abbrev kw_L_low : Cond := .code yL_low cL_low 2 (Option.some FieldType.int)
theorem cd_L_low : kw_L_low ∈ tw := tw_in 237 (by decide +kernel) (by decide +kernel)
theorem md_L_low : MD yL_low kw_L_low 2 := ⟨cd_L_low, ini_L, ⟨by decide +kernel, by decide +kernel⟩, by decide +kernel⟩
abbrev kw_L_types : Cond := .code yL_types cL_types 13 (Option.some FieldType.boolean)
theorem cd_L_types : kw_L_types ∈ tw := tw_in 240 (by decide +kernel) (by decide +kernel)
theorem md_L_types : MD yL_types kw_L_types 11 := ⟨cd_L_types, ini_L, ⟨by decide +kernel, by decide +kernel⟩, by decide +kernel⟩
abbrev kw_L_lines : Cond := .code yL_lines cL_lines 2 (Option.some FieldType.int)
theorem cd_L_lines : kw_L_lines ∈ tw := tw_in 243 (by decide +kernel) (by decide +kernel)
theorem md_L_lines : MD yL_lines kw_L_lines 1 := ⟨cd_L_lines, ini_L, ⟨by decide +kernel, by decide +kernel⟩, by decide +kernel⟩
abbrev kw_L_line : Cond := .codeWith yL_line cL_line 4 (Option.some FieldType.int) [((0 : Nat), (6 : Nat), (9 : Nat), (14 : Nat)), ((0 : Nat), (6 : Nat), (13 : Nat), (16 : Nat))]
theorem cd_L_line : kw_L_line ∈ tw := tw_in 247 (by decide +kernel) (by decide +kernel)
theorem md_L_line : MD yL_line kw_L_line 2 := ⟨cd_L_line, ini_L, ⟨by decide +kernel, by decide +kernel⟩, by decide +kernel⟩
abbrev kw_X5_line : Cond := .code yX5_line cX5_line 2 (Option.some FieldType.int)
theorem cd_X5_line : kw_X5_line ∈ tw := tw_in 253 (by decide +kernel) (by decide +kernel)
theorem md_X5_line : MD yX5_line kw_X5_line 1 := ⟨cd_X5_line, ini_X5, ⟨by decide +kernel, by decide +kernel⟩, by decide +kernel⟩
abbrev kw_X5_demandRange : Cond := .code yX5_demandRange cX5_demandRange 3 none
theorem cd_X5_demandRange : kw_X5_demandRange ∈ tw := tw_in 256 (by decide +kernel) (by decide +kernel)
theorem md_X5_demandRange : MD yX5_demandRange kw_X5_demandRange 3 := ⟨cd_X5_demandRange, ini_X5, ⟨by decide +kernel, by decide +kernel⟩, by decide +kernel⟩
abbrev kw_X2_put : Cond := .code yX2_put cX2_put 2 (Option.some FieldType.boolean)
theorem cd_X2_put : kw_X2_put ∈ tw := tw_in 329 (by decide +kernel) (by decide +kernel)
theorem md_X2_put : MD yX2_put kw_X2_put 1 := ⟨cd_X2_put, ini_X2, ⟨by decide +kernel, by decide +kernel⟩, by decide +kernel⟩
abbrev kw_X5_documents : Cond := .code yX5_documents cX5_documents 1 (Option.some FieldType.int)
theorem cd_X5_documents : kw_X5_documents ∈ tw := tw_in 349 (by decide +kernel) (by decide +kernel)
theorem md_X5_documents : MD yX5_documents kw_X5_documents 0 := ⟨cd_X5_documents, ini_X5, ⟨by decide +kernel, by decide +kernel⟩, by decide +kernel⟩
abbrev kw_Jx4a65c_size_8abf5 : Cond := .code yJx4a65c_size_8abf5 cJx4a65c_size_8abf5 1 (Option.some FieldType.int)
theorem cd_Jx4a65c_size_8abf5 : kw_Jx4a65c_size_8abf5 ∈ tw := tw_in 353 (by decide +kernel) (by decide +kernel)
theorem md_Jx4a65c_size_8abf5 : MD yJx4a65c_size_8abf5 kw_Jx4a65c_size_8abf5 0 := ⟨cd_Jx4a65c_size_8abf5, ini_Jx4a65c, ⟨by decide +kernel, by decide +kernel⟩, by decide +kernel⟩
abbrev kw_X5_feed : Cond := .code yX5_feed cX5_feed 1 (Option.some FieldType.int)
theorem cd_X5_feed : kw_X5_feed ∈ tw := tw_in 357 (by decide +kernel) (by decide +kernel)
theorem md_X5_feed : MD yX5_feed kw_X5_feed 0 := ⟨cd_X5_feed, ini_X5, ⟨by decide +kernel, by decide +kernel⟩, by decide +kernel⟩
abbrev kw_X5_closePage : Cond := .code yX5_closePage cX5_closePage 1 none
theorem cd_X5_closePage : kw_X5_closePage ∈ tw := tw_in 362 (by decide +kernel) (by decide +kernel)
theorem md_X5_closePage : MD yX5_closePage kw_X5_closePage 0 := ⟨cd_X5_closePage, ini_X5, ⟨by decide +kernel, by decide +kernel⟩, by decide +kernel⟩
abbrev kw_L_end : Cond := .codeWith yL_end cL_end 3 (Option.some FieldType.int) [((0 : Nat), (5 : Nat), (8 : Nat), (16 : Nat))]
theorem cd_L_end : kw_L_end ∈ tw := tw_in 365 (by decide +kernel) (by decide +kernel)
theorem md_L_end : MD yL_end kw_L_end 1 := ⟨cd_L_end, ini_L, ⟨by decide +kernel, by decide +kernel⟩, by decide +kernel⟩
abbrev kw_X5_end : Cond := .code yX5_end cX5_end 2 (Option.some FieldType.int)
theorem cd_X5_end : kw_X5_end ∈ tw := tw_in 369 (by decide +kernel) (by decide +kernel)
theorem md_X5_end : MD yX5_end kw_X5_end 0 := ⟨cd_X5_end, ini_X5, ⟨by decide +kernel, by decide +kernel⟩, by decide +kernel⟩
abbrev kw_X2_isEmpty : Cond := .code yX2_isEmpty cX2_isEmpty 1 (Option.some FieldType.boolean)
theorem cd_X2_isEmpty : kw_X2_isEmpty ∈ tw := tw_in 373 (by decide +kernel) (by decide +kernel)
theorem md_X2_isEmpty : MD yX2_isEmpty kw_X2_isEmpty 0 := ⟨cd_X2_isEmpty, ini_X2, ⟨by decide +kernel, by decide +kernel⟩, by decide +kernel⟩
abbrev kw_X5_keepOpenRun : Cond := .code yX5_keepOpenRun cX5_keepOpenRun 1 none
theorem cd_X5_keepOpenRun : kw_X5_keepOpenRun ∈ tw := tw_in 379 (by decide +kernel) (by decide +kernel)
theorem md_X5_keepOpenRun : MD yX5_keepOpenRun kw_X5_keepOpenRun 0 := ⟨cd_X5_keepOpenRun, ini_X5, ⟨by decide +kernel, by decide +kernel⟩, by decide +kernel⟩
abbrev kw_X5_putTogether : Cond := .code yX5_putTogether cX5_putTogether 7 none
theorem cd_X5_putTogether : kw_X5_putTogether ∈ tw := tw_in 383 (by decide +kernel) (by decide +kernel)
theorem md_X5_putTogether : MD yX5_putTogether kw_X5_putTogether 1 := ⟨cd_X5_putTogether, ini_X5, ⟨by decide +kernel, by decide +kernel⟩, by decide +kernel⟩
abbrev kw_X5_formatOn : Cond := .code yX5_formatOn cX5_formatOn 5 (Option.some (FieldType.object "PrintKeeper$Format"))
theorem cd_X5_formatOn : kw_X5_formatOn ∈ tw := tw_in 387 (by decide +kernel) (by decide +kernel)
theorem md_X5_formatOn : MD yX5_formatOn kw_X5_formatOn 1 := ⟨cd_X5_formatOn, ini_X5, ⟨by decide +kernel, by decide +kernel⟩, by decide +kernel⟩
abbrev kw_Jx4a65c_get_915e3 : Cond := .code yJx4a65c_get_915e3 cJx4a65c_get_915e3 2 (Option.some (FieldType.object "java/lang/Object"))
theorem cd_Jx4a65c_get_915e3 : kw_Jx4a65c_get_915e3 ∈ tw := tw_in 391 (by decide +kernel) (by decide +kernel)
theorem md_Jx4a65c_get_915e3 : MD yJx4a65c_get_915e3 kw_Jx4a65c_get_915e3 1 := ⟨cd_Jx4a65c_get_915e3, ini_Jx4a65c, ⟨by decide +kernel, by decide +kernel⟩, by decide +kernel⟩
abbrev kw_J15_checkIndex_7cf53 : Cond := .code yJ15_checkIndex_7cf53 cJ15_checkIndex_7cf53 2 (Option.some FieldType.int)
theorem cd_J15_checkIndex_7cf53 : kw_J15_checkIndex_7cf53 ∈ tw := tw_in 394 (by decide +kernel) (by decide +kernel)
theorem md_J15_checkIndex_7cf53 : MD yJ15_checkIndex_7cf53 kw_J15_checkIndex_7cf53 2 := ⟨cd_J15_checkIndex_7cf53, ini_J15, ⟨by decide +kernel, by decide +kernel⟩, by decide +kernel⟩
abbrev kw_J3_checkIndex_8e157 : Cond := .code yJ3_checkIndex_8e157 cJ3_checkIndex_8e157 3 (Option.some FieldType.int)
theorem cd_J3_checkIndex_8e157 : kw_J3_checkIndex_8e157 ∈ tw := tw_in 397 (by decide +kernel) (by decide +kernel)
theorem md_J3_checkIndex_8e157 : MD yJ3_checkIndex_8e157 kw_J3_checkIndex_8e157 3 := ⟨cd_J3_checkIndex_8e157, ini_J3, ⟨by decide +kernel, by decide +kernel⟩, by decide +kernel⟩
abbrev kw_Jx4a65c_elementData_915e3 : Cond := .code yJx4a65c_elementData_915e3 cJx4a65c_elementData_915e3 2 (Option.some (FieldType.object "java/lang/Object"))
theorem cd_Jx4a65c_elementData_915e3 : kw_Jx4a65c_elementData_915e3 ∈ tw := tw_in 401 (by decide +kernel) (by decide +kernel)
theorem md_Jx4a65c_elementData_915e3 : MD yJx4a65c_elementData_915e3 kw_Jx4a65c_elementData_915e3 1 := ⟨cd_Jx4a65c_elementData_915e3, ini_Jx4a65c, ⟨by decide +kernel, by decide +kernel⟩, by decide +kernel⟩
abbrev kw_X2_valueAt : Cond := .code yX2_valueAt cX2_valueAt 2 (Option.some FieldType.int)
theorem cd_X2_valueAt : kw_X2_valueAt ∈ tw := tw_in 405 (by decide +kernel) (by decide +kernel)
theorem md_X2_valueAt : MD yX2_valueAt kw_X2_valueAt 1 := ⟨cd_X2_valueAt, ini_X2, ⟨by decide +kernel, by decide +kernel⟩, by decide +kernel⟩
abbrev kw_X2_has : Cond := .code yX2_has cX2_has 2 (Option.some FieldType.boolean)
theorem cd_X2_has : kw_X2_has ∈ tw := tw_in 409 (by decide +kernel) (by decide +kernel)
theorem md_X2_has : MD yX2_has kw_X2_has 1 := ⟨cd_X2_has, ini_X2, ⟨by decide +kernel, by decide +kernel⟩, by decide +kernel⟩
abbrev kw_X5_kindOf : Cond := .code yX5_kindOf cX5_kindOf 2 (Option.some FieldType.int)
theorem cd_X5_kindOf : kw_X5_kindOf ∈ tw := tw_in 414 (by decide +kernel) (by decide +kernel)
theorem md_X5_kindOf : MD yX5_kindOf kw_X5_kindOf 2 := ⟨cd_X5_kindOf, ini_X5, ⟨by decide +kernel, by decide +kernel⟩, by decide +kernel⟩
abbrev kw_X0_init : Cond := .code yX0_init cX0_init 5 none
theorem cd_X0_init : kw_X0_init ∈ tw := tw_in 418 (by decide +kernel) (by decide +kernel)
theorem md_X0_init : MD yX0_init kw_X0_init 4 := ⟨cd_X0_init, ini_X0, ⟨by decide +kernel, by decide +kernel⟩, by decide +kernel⟩
abbrev kw_L_keep : Cond := .code yL_keep cL_keep 13 none
theorem cd_L_keep : kw_L_keep ∈ tw := tw_in 447 (by decide +kernel) (by decide +kernel)
theorem md_L_keep : MD yL_keep kw_L_keep 6 := ⟨cd_L_keep, ini_L, ⟨by decide +kernel, by decide +kernel⟩, by decide +kernel⟩
abbrev kw_L_at : Cond := .code yL_at cL_at 3 (Option.some FieldType.int)
theorem cd_L_at : kw_L_at ∈ tw := tw_in 450 (by decide +kernel) (by decide +kernel)
theorem md_L_at : MD yL_at kw_L_at 2 := ⟨cd_L_at, ini_L, ⟨by decide +kernel, by decide +kernel⟩, by decide +kernel⟩
abbrev kw_L_acts : Cond := .code yL_acts cL_acts 18 (Option.some FieldType.boolean)
set_option maxRecDepth 100000 in
theorem cd_L_acts : kw_L_acts ∈ tw := tw_in 455 rfl (by decide +kernel)
theorem md_L_acts : MD yL_acts kw_L_acts 13 := ⟨cd_L_acts, ini_L, ⟨by decide +kernel, by decide +kernel⟩, by decide +kernel⟩
abbrev kw_L_pass : Cond := .codeWith yL_pass cL_pass 4 (Option.some FieldType.int) [((0 : Nat), (6 : Nat), (9 : Nat), (14 : Nat)), ((0 : Nat), (6 : Nat), (13 : Nat), (16 : Nat))]
theorem cd_L_pass : kw_L_pass ∈ tw := tw_in 458 (by decide +kernel) (by decide +kernel)
theorem md_L_pass : MD yL_pass kw_L_pass 2 := ⟨cd_L_pass, ini_L, ⟨by decide +kernel, by decide +kernel⟩, by decide +kernel⟩
abbrev kw_X5_pass : Cond := .code yX5_pass cX5_pass 2 (Option.some FieldType.int)
theorem cd_X5_pass : kw_X5_pass ∈ tw := tw_in 462 (by decide +kernel) (by decide +kernel)
theorem md_X5_pass : MD yX5_pass kw_X5_pass 1 := ⟨cd_X5_pass, ini_X5, ⟨by decide +kernel, by decide +kernel⟩, by decide +kernel⟩
abbrev kw_L_format : Cond := .codeWith yL_format cL_format 6 (Option.some FieldType.int) [((0 : Nat), (9 : Nat), (12 : Nat), (14 : Nat)), ((0 : Nat), (9 : Nat), (17 : Nat), (16 : Nat))]
theorem cd_L_format : kw_L_format ∈ tw := tw_in 466 (by decide +kernel) (by decide +kernel)
theorem md_L_format : MD yL_format kw_L_format 4 := ⟨cd_L_format, ini_L, ⟨by decide +kernel, by decide +kernel⟩, by decide +kernel⟩
abbrev kw_X5_format : Cond := .code yX5_format cX5_format 4 (Option.some FieldType.int)
theorem cd_X5_format : kw_X5_format ∈ tw := tw_in 470 (by decide +kernel) (by decide +kernel)
theorem md_X5_format : MD yX5_format kw_X5_format 3 := ⟨cd_X5_format, ini_X5, ⟨by decide +kernel, by decide +kernel⟩, by decide +kernel⟩
abbrev kw_L_reprint : Cond := .codeWith yL_reprint cL_reprint 6 (Option.some FieldType.int) [((0 : Nat), (9 : Nat), (12 : Nat), (32 : Nat)), ((0 : Nat), (9 : Nat), (17 : Nat), (14 : Nat))]
theorem cd_L_reprint : kw_L_reprint ∈ tw := tw_in 474 (by decide +kernel) (by decide +kernel)
theorem md_L_reprint : MD yL_reprint kw_L_reprint 4 := ⟨cd_L_reprint, ini_L, ⟨by decide +kernel, by decide +kernel⟩, by decide +kernel⟩
abbrev kw_X5_reprint : Cond := .code yX5_reprint cX5_reprint 7 (Option.some FieldType.int)
theorem cd_X5_reprint : kw_X5_reprint ∈ tw := tw_in 479 (by decide +kernel) (by decide +kernel)
theorem md_X5_reprint : MD yX5_reprint kw_X5_reprint 3 := ⟨cd_X5_reprint, ini_X5, ⟨by decide +kernel, by decide +kernel⟩, by decide +kernel⟩
abbrev kw_X5_runAt : Cond := .code yX5_runAt cX5_runAt 2 (Option.some (FieldType.object "PrintKeeper$Run"))
theorem cd_X5_runAt : kw_X5_runAt ∈ tw := tw_in 483 (by decide +kernel) (by decide +kernel)
theorem md_X5_runAt : MD yX5_runAt kw_X5_runAt 1 := ⟨cd_X5_runAt, ini_X5, ⟨by decide +kernel, by decide +kernel⟩, by decide +kernel⟩
abbrev kw_X5_demandPage : Cond := .code yX5_demandPage cX5_demandPage 2 none
theorem cd_X5_demandPage : kw_X5_demandPage ∈ tw := tw_in 502 (by decide +kernel) (by decide +kernel)
theorem md_X5_demandPage : MD yX5_demandPage kw_X5_demandPage 2 := ⟨cd_X5_demandPage, ini_X5, ⟨by decide +kernel, by decide +kernel⟩, by decide +kernel⟩
abbrev kw_L_view : Cond := .codeWith yL_view cL_view 6 (Option.some FieldType.int) [((0 : Nat), (9 : Nat), (12 : Nat), (14 : Nat))]
theorem cd_L_view : kw_L_view ∈ tw := tw_in 506 (by decide +kernel) (by decide +kernel)
theorem md_L_view : MD yL_view kw_L_view 5 := ⟨cd_L_view, ini_L, ⟨by decide +kernel, by decide +kernel⟩, by decide +kernel⟩
abbrev kw_X5_view : Cond := .code yX5_view cX5_view 6 none
theorem cd_X5_view : kw_X5_view ∈ tw := tw_in 510 (by decide +kernel) (by decide +kernel)
theorem md_X5_view : MD yX5_view kw_X5_view 4 := ⟨cd_X5_view, ini_X5, ⟨by decide +kernel, by decide +kernel⟩, by decide +kernel⟩
abbrev kw_X5_readerAt : Cond := .code yX5_readerAt cX5_readerAt 2 (Option.some (FieldType.object "PrintKeeper$Reader"))
theorem cd_X5_readerAt : kw_X5_readerAt ∈ tw := tw_in 514 (by decide +kernel) (by decide +kernel)
theorem md_X5_readerAt : MD yX5_readerAt kw_X5_readerAt 1 := ⟨cd_X5_readerAt, ini_X5, ⟨by decide +kernel, by decide +kernel⟩, by decide +kernel⟩
abbrev kw_L_span : Cond := .codeWith yL_span cL_span 5 (Option.some FieldType.int) [((0 : Nat), (7 : Nat), (10 : Nat), (14 : Nat))]
theorem cd_L_span : kw_L_span ∈ tw := tw_in 518 (by decide +kernel) (by decide +kernel)
theorem md_L_span : MD yL_span kw_L_span 3 := ⟨cd_L_span, ini_L, ⟨by decide +kernel, by decide +kernel⟩, by decide +kernel⟩
abbrev kw_X5_span : Cond := .code yX5_span cX5_span 4 (Option.some FieldType.int)
theorem cd_X5_span : kw_X5_span ∈ tw := tw_in 522 (by decide +kernel) (by decide +kernel)
theorem md_X5_span : MD yX5_span kw_X5_span 2 := ⟨cd_X5_span, ini_X5, ⟨by decide +kernel, by decide +kernel⟩, by decide +kernel⟩
abbrev kw_X5_isKind : Cond := .code yX5_isKind cX5_isKind 2 (Option.some FieldType.boolean)
theorem cd_X5_isKind : kw_X5_isKind ∈ tw := tw_in 526 (by decide +kernel) (by decide +kernel)
theorem md_X5_isKind : MD yX5_isKind kw_X5_isKind 1 := ⟨cd_X5_isKind, ini_X5, ⟨by decide +kernel, by decide +kernel⟩, by decide +kernel⟩
abbrev kw_L_hold : Cond := .codeWith yL_hold cL_hold 5 (Option.some FieldType.int) [((0 : Nat), (7 : Nat), (10 : Nat), (14 : Nat))]
theorem cd_L_hold : kw_L_hold ∈ tw := tw_in 530 (by decide +kernel) (by decide +kernel)
theorem md_L_hold : MD yL_hold kw_L_hold 3 := ⟨cd_L_hold, ini_L, ⟨by decide +kernel, by decide +kernel⟩, by decide +kernel⟩
abbrev kw_X5_hold : Cond := .code yX5_hold cX5_hold 4 (Option.some FieldType.boolean)
theorem cd_X5_hold : kw_X5_hold ∈ tw := tw_in 534 (by decide +kernel) (by decide +kernel)
theorem md_X5_hold : MD yX5_hold kw_X5_hold 2 := ⟨cd_X5_hold, ini_X5, ⟨by decide +kernel, by decide +kernel⟩, by decide +kernel⟩
abbrev kw_X5_isAccount : Cond := .code yX5_isAccount cX5_isAccount 2 (Option.some FieldType.boolean)
theorem cd_X5_isAccount : kw_X5_isAccount ∈ tw := tw_in 538 (by decide +kernel) (by decide +kernel)
theorem md_X5_isAccount : MD yX5_isAccount kw_X5_isAccount 1 := ⟨cd_X5_isAccount, ini_X5, ⟨by decide +kernel, by decide +kernel⟩, by decide +kernel⟩
abbrev kw_L_isThere : Cond := .code yL_isThere cL_isThere 2 (Option.some FieldType.boolean)
theorem cd_L_isThere : kw_L_isThere ∈ tw := tw_in 542 (by decide +kernel) (by decide +kernel)
theorem md_L_isThere : MD yL_isThere kw_L_isThere 2 := ⟨cd_L_isThere, ini_L, ⟨by decide +kernel, by decide +kernel⟩, by decide +kernel⟩
abbrev kw_X5_clear : Cond := .code yX5_clear cX5_clear 4 (Option.some FieldType.int)
theorem cd_X5_clear : kw_X5_clear ∈ tw := tw_in 546 (by decide +kernel) (by decide +kernel)
theorem md_X5_clear : MD yX5_clear kw_X5_clear 0 := ⟨cd_X5_clear, ini_X5, ⟨by decide +kernel, by decide +kernel⟩, by decide +kernel⟩
abbrev kw_X5_isOver : Cond := .code yX5_isOver cX5_isOver 2 (Option.some FieldType.boolean)
theorem cd_X5_isOver : kw_X5_isOver ∈ tw := tw_in 550 (by decide +kernel) (by decide +kernel)
theorem md_X5_isOver : MD yX5_isOver kw_X5_isOver 1 := ⟨cd_X5_isOver, ini_X5, ⟨by decide +kernel, by decide +kernel⟩, by decide +kernel⟩
abbrev kw_X5_isHeld : Cond := .code yX5_isHeld cX5_isHeld 2 (Option.some FieldType.boolean)
theorem cd_X5_isHeld : kw_X5_isHeld ∈ tw := tw_in 554 (by decide +kernel) (by decide +kernel)
theorem md_X5_isHeld : MD yX5_isHeld kw_X5_isHeld 1 := ⟨cd_X5_isHeld, ini_X5, ⟨by decide +kernel, by decide +kernel⟩, by decide +kernel⟩
abbrev kw_L_isTold : Cond := .code yL_isTold cL_isTold 22 (Option.some FieldType.boolean)
set_option maxRecDepth 100000 in
theorem cd_L_isTold : kw_L_isTold ∈ tw := tw_in 557 rfl (by decide +kernel)
theorem md_L_isTold : MD yL_isTold kw_L_isTold 10 := ⟨cd_L_isTold, ini_L, ⟨by decide +kernel, by decide +kernel⟩, by decide +kernel⟩
abbrev kw_X5_isThere : Cond := .code yX5_isThere cX5_isThere 2 (Option.some FieldType.boolean)
theorem cd_X5_isThere : kw_X5_isThere ∈ tw := tw_in 561 (by decide +kernel) (by decide +kernel)
theorem md_X5_isThere : MD yX5_isThere kw_X5_isThere 1 := ⟨cd_X5_isThere, ini_X5, ⟨by decide +kernel, by decide +kernel⟩, by decide +kernel⟩
abbrev kw_X5_documentAt : Cond := .code yX5_documentAt cX5_documentAt 2 (Option.some (FieldType.object "PrintKeeper$Document"))
theorem cd_X5_documentAt : kw_X5_documentAt ∈ tw := tw_in 565 (by decide +kernel) (by decide +kernel)
theorem md_X5_documentAt : MD yX5_documentAt kw_X5_documentAt 1 := ⟨cd_X5_documentAt, ini_X5, ⟨by decide +kernel, by decide +kernel⟩, by decide +kernel⟩
abbrev kw_L_account : Cond := .codeWith yL_account cL_account 4 (Option.some FieldType.int) [((0 : Nat), (6 : Nat), (9 : Nat), (32 : Nat))]
theorem cd_L_account : kw_L_account ∈ tw := tw_in 569 (by decide +kernel) (by decide +kernel)
theorem md_L_account : MD yL_account kw_L_account 2 := ⟨cd_L_account, ini_L, ⟨by decide +kernel, by decide +kernel⟩, by decide +kernel⟩
abbrev kw_X5_account : Cond := .code yX5_account cX5_account 2 (Option.some FieldType.int)
theorem cd_X5_account : kw_X5_account ∈ tw := tw_in 573 (by decide +kernel) (by decide +kernel)
theorem md_X5_account : MD yX5_account kw_X5_account 1 := ⟨cd_X5_account, ini_X5, ⟨by decide +kernel, by decide +kernel⟩, by decide +kernel⟩
abbrev kw_X5_kind : Cond := .code yX5_kind cX5_kind 2 (Option.some FieldType.int)
theorem cd_X5_kind : kw_X5_kind ∈ tw := tw_in 577 (by decide +kernel) (by decide +kernel)
theorem md_X5_kind : MD yX5_kind kw_X5_kind 1 := ⟨cd_X5_kind, ini_X5, ⟨by decide +kernel, by decide +kernel⟩, by decide +kernel⟩
abbrev kw_X5_length : Cond := .code yX5_length cX5_length 2 (Option.some FieldType.int)
theorem cd_X5_length : kw_X5_length ∈ tw := tw_in 581 (by decide +kernel) (by decide +kernel)
theorem md_X5_length : MD yX5_length kw_X5_length 1 := ⟨cd_X5_length, ini_X5, ⟨by decide +kernel, by decide +kernel⟩, by decide +kernel⟩
abbrev kw_L_length : Cond := .code yL_length cL_length 2 (Option.some FieldType.int)
theorem cd_L_length : kw_L_length ∈ tw := tw_in 584 (by decide +kernel) (by decide +kernel)
theorem md_L_length : MD yL_length kw_L_length 2 := ⟨cd_L_length, ini_L, ⟨by decide +kernel, by decide +kernel⟩, by decide +kernel⟩
abbrev kw_L_pages : Cond := .codeWith yL_pages cL_pages 4 (Option.some FieldType.int) [((0 : Nat), (6 : Nat), (9 : Nat), (32 : Nat))]
theorem cd_L_pages : kw_L_pages ∈ tw := tw_in 587 (by decide +kernel) (by decide +kernel)
theorem md_L_pages : MD yL_pages kw_L_pages 2 := ⟨cd_L_pages, ini_L, ⟨by decide +kernel, by decide +kernel⟩, by decide +kernel⟩
abbrev kw_X5_pages : Cond := .code yX5_pages cX5_pages 2 (Option.some FieldType.int)
theorem cd_X5_pages : kw_X5_pages ∈ tw := tw_in 591 (by decide +kernel) (by decide +kernel)
theorem md_X5_pages : MD yX5_pages kw_X5_pages 1 := ⟨cd_X5_pages, ini_X5, ⟨by decide +kernel, by decide +kernel⟩, by decide +kernel⟩
abbrev kw_L_twice : Cond := .codeWith yL_twice cL_twice 4 (Option.some FieldType.int) [((0 : Nat), (6 : Nat), (9 : Nat), (32 : Nat))]
theorem cd_L_twice : kw_L_twice ∈ tw := tw_in 594 (by decide +kernel) (by decide +kernel)
theorem md_L_twice : MD yL_twice kw_L_twice 2 := ⟨cd_L_twice, ini_L, ⟨by decide +kernel, by decide +kernel⟩, by decide +kernel⟩
abbrev kw_X5_twice : Cond := .code yX5_twice cX5_twice 4 (Option.some FieldType.int)
theorem cd_X5_twice : kw_X5_twice ∈ tw := tw_in 598 (by decide +kernel) (by decide +kernel)
theorem md_X5_twice : MD yX5_twice kw_X5_twice 1 := ⟨cd_X5_twice, ini_X5, ⟨by decide +kernel, by decide +kernel⟩, by decide +kernel⟩
abbrev kw_X4_isLike : Cond := .code yX4_isLike cX4_isLike 3 (Option.some FieldType.boolean)
theorem cd_X4_isLike : kw_X4_isLike ∈ tw := tw_in 602 (by decide +kernel) (by decide +kernel)
theorem md_X4_isLike : MD yX4_isLike kw_X4_isLike 1 := ⟨cd_X4_isLike, ini_X4, ⟨by decide +kernel, by decide +kernel⟩, by decide +kernel⟩
abbrev kw_X2_hasLinesOf : Cond := .code yX2_hasLinesOf cX2_hasLinesOf 3 (Option.some FieldType.boolean)
theorem cd_X2_hasLinesOf : kw_X2_hasLinesOf ∈ tw := tw_in 609 (by decide +kernel) (by decide +kernel)
theorem md_X2_hasLinesOf : MD yX2_hasLinesOf kw_X2_hasLinesOf 1 := ⟨cd_X2_hasLinesOf, ini_X2, ⟨by decide +kernel, by decide +kernel⟩, by decide +kernel⟩
abbrev kw_L_copies : Cond := .codeWith yL_copies cL_copies 5 (Option.some FieldType.int) [((0 : Nat), (7 : Nat), (10 : Nat), (32 : Nat))]
theorem cd_L_copies : kw_L_copies ∈ tw := tw_in 613 (by decide +kernel) (by decide +kernel)
theorem md_L_copies : MD yL_copies kw_L_copies 3 := ⟨cd_L_copies, ini_L, ⟨by decide +kernel, by decide +kernel⟩, by decide +kernel⟩
abbrev kw_X5_copies : Cond := .code yX5_copies cX5_copies 3 (Option.some FieldType.int)
theorem cd_X5_copies : kw_X5_copies ∈ tw := tw_in 617 (by decide +kernel) (by decide +kernel)
theorem md_X5_copies : MD yX5_copies kw_X5_copies 2 := ⟨cd_X5_copies, ini_X5, ⟨by decide +kernel, by decide +kernel⟩, by decide +kernel⟩
abbrev kw_X5_pageAt : Cond := .code yX5_pageAt cX5_pageAt 2 (Option.some (FieldType.object "PrintKeeper$Page"))
theorem cd_X5_pageAt : kw_X5_pageAt ∈ tw := tw_in 620 (by decide +kernel) (by decide +kernel)
theorem md_X5_pageAt : MD yX5_pageAt kw_X5_pageAt 2 := ⟨cd_X5_pageAt, ini_X5, ⟨by decide +kernel, by decide +kernel⟩, by decide +kernel⟩
abbrev kw_L_sees : Cond := .code yL_sees cL_sees 6 (Option.some FieldType.boolean)
theorem cd_L_sees : kw_L_sees ∈ tw := tw_in 623 (by decide +kernel) (by decide +kernel)
theorem md_L_sees : MD yL_sees kw_L_sees 5 := ⟨cd_L_sees, ini_L, ⟨by decide +kernel, by decide +kernel⟩, by decide +kernel⟩
abbrev kw_L_found : Cond := .codeWith yL_found cL_found 8 (Option.some FieldType.int) [((0 : Nat), (13 : Nat), (16 : Nat), (14 : Nat)), ((0 : Nat), (13 : Nat), (21 : Nat), (32 : Nat))]
theorem cd_L_found : kw_L_found ∈ tw := tw_in 626 (by decide +kernel) (by decide +kernel)
theorem md_L_found : MD yL_found kw_L_found 6 := ⟨cd_L_found, ini_L, ⟨by decide +kernel, by decide +kernel⟩, by decide +kernel⟩
abbrev kw_X5_found : Cond := .code yX5_found cX5_found 10 (Option.some FieldType.int)
theorem cd_X5_found : kw_X5_found ∈ tw := tw_in 630 (by decide +kernel) (by decide +kernel)
theorem md_X5_found : MD yX5_found kw_X5_found 5 := ⟨cd_X5_found, ini_X5, ⟨by decide +kernel, by decide +kernel⟩, by decide +kernel⟩
abbrev kw_X3_sees : Cond := .code yX3_sees cX3_sees 2 (Option.some FieldType.boolean)
theorem cd_X3_sees : kw_X3_sees ∈ tw := tw_in 634 (by decide +kernel) (by decide +kernel)
theorem md_X3_sees : MD yX3_sees kw_X3_sees 1 := ⟨cd_X3_sees, ini_X3, ⟨by decide +kernel, by decide +kernel⟩, by decide +kernel⟩
abbrev kw_X0_fits : Cond := .code yX0_fits cX0_fits 4 (Option.some FieldType.boolean)
theorem cd_X0_fits : kw_X0_fits ∈ tw := tw_in 638 (by decide +kernel) (by decide +kernel)
theorem md_X0_fits : MD yX0_fits kw_X0_fits 3 := ⟨cd_X0_fits, ini_X0, ⟨by decide +kernel, by decide +kernel⟩, by decide +kernel⟩
abbrev kw_L_bundle : Cond := .codeWith yL_bundle cL_bundle 5 (Option.some FieldType.int) [((0 : Nat), (7 : Nat), (10 : Nat), (14 : Nat))]
theorem cd_L_bundle : kw_L_bundle ∈ tw := tw_in 642 (by decide +kernel) (by decide +kernel)
theorem md_L_bundle : MD yL_bundle kw_L_bundle 3 := ⟨cd_L_bundle, ini_L, ⟨by decide +kernel, by decide +kernel⟩, by decide +kernel⟩
abbrev kw_X5_bundle : Cond := .code yX5_bundle cX5_bundle 7 (Option.some FieldType.int)
theorem cd_X5_bundle : kw_X5_bundle ∈ tw := tw_in 646 (by decide +kernel) (by decide +kernel)
theorem md_X5_bundle : MD yX5_bundle kw_X5_bundle 2 := ⟨cd_X5_bundle, ini_X5, ⟨by decide +kernel, by decide +kernel⟩, by decide +kernel⟩
abbrev kw_L_read : Cond := .codeWith yL_read cL_read 7 (Option.some FieldType.int) [((0 : Nat), (11 : Nat), (14 : Nat), (14 : Nat)), ((0 : Nat), (11 : Nat), (19 : Nat), (32 : Nat)), ((0 : Nat), (11 : Nat), (24 : Nat), (55 : Nat))]
theorem cd_L_read : kw_L_read ∈ tw := tw_in 649 (by decide +kernel) (by decide +kernel)
theorem md_L_read : MD yL_read kw_L_read 5 := ⟨cd_L_read, ini_L, ⟨by decide +kernel, by decide +kernel⟩, by decide +kernel⟩
abbrev kw_X5_read : Cond := .code yX5_read cX5_read 8 (Option.some FieldType.int)
theorem cd_X5_read : kw_X5_read ∈ tw := tw_in 654 (by decide +kernel) (by decide +kernel)
theorem md_X5_read : MD yX5_read kw_X5_read 4 := ⟨cd_X5_read, ini_X5, ⟨by decide +kernel, by decide +kernel⟩, by decide +kernel⟩
abbrev kw_X5_pageOf : Cond := .code yX5_pageOf cX5_pageOf 2 (Option.some (FieldType.object "PrintKeeper$Page"))
theorem cd_X5_pageOf : kw_X5_pageOf ∈ tw := tw_in 657 (by decide +kernel) (by decide +kernel)
theorem md_X5_pageOf : MD yX5_pageOf kw_X5_pageOf 2 := ⟨cd_X5_pageOf, ini_X5, ⟨by decide +kernel, by decide +kernel⟩, by decide +kernel⟩
theorem im_X5_init : Cond.instanceMethod yX5_init ∈ tw := tw_in 26 (by decide +kernel) (by decide +kernel)
theorem im_oi : Cond.instanceMethod Lib.objectInit ∈ tw := tw_in 29 (by decide +kernel) (by decide +kernel)
theorem im_X1_init : Cond.instanceMethod yX1_init ∈ tw := tw_in 34 (by decide +kernel) (by decide +kernel)
theorem im_Jx4a65c_init_da8c8 : Cond.instanceMethod yJx4a65c_init_da8c8 ∈ tw := tw_in 53 (by decide +kernel) (by decide +kernel)
theorem im_Jxc12de_init_da8c8 : Cond.instanceMethod yJxc12de_init_da8c8 ∈ tw := tw_in 56 (by decide +kernel) (by decide +kernel)
theorem im_Jxa1e45_init_da8c8 : Cond.instanceMethod yJxa1e45_init_da8c8 ∈ tw := tw_in 59 (by decide +kernel) (by decide +kernel)
theorem im_X4_init : Cond.instanceMethod yX4_init ∈ tw := tw_in 79 (by decide +kernel) (by decide +kernel)
theorem im_X2_init : Cond.instanceMethod yX2_init ∈ tw := tw_in 97 (by decide +kernel) (by decide +kernel)
theorem im_X3_init : Cond.instanceMethod yX3_init ∈ tw := tw_in 116 (by decide +kernel) (by decide +kernel)
theorem im_Jx4a65c_add_9ea2d : Cond.instanceMethod yJx4a65c_add_9ea2d ∈ tw := tw_in 137 (by decide +kernel) (by decide +kernel)
theorem im_Jx4a65c_add_72be8 : Cond.instanceMethod yJx4a65c_add_72be8 ∈ tw := tw_in 142 (by decide +kernel) (by decide +kernel)
theorem im_Jx4a65c_grow_d5877 : Cond.instanceMethod yJx4a65c_grow_d5877 ∈ tw := tw_in 146 (by decide +kernel) (by decide +kernel)
theorem im_Jx4a65c_grow_92f84 : Cond.instanceMethod yJx4a65c_grow_92f84 ∈ tw := tw_in 150 (by decide +kernel) (by decide +kernel)
theorem im_X5_line : Cond.instanceMethod yX5_line ∈ tw := tw_in 251 (by decide +kernel) (by decide +kernel)
theorem im_X2_put : Cond.instanceMethod yX2_put ∈ tw := tw_in 328 (by decide +kernel) (by decide +kernel)
theorem im_X5_documents : Cond.instanceMethod yX5_documents ∈ tw := tw_in 347 (by decide +kernel) (by decide +kernel)
theorem im_Jx4a65c_size_8abf5 : Cond.instanceMethod yJx4a65c_size_8abf5 ∈ tw := tw_in 351 (by decide +kernel) (by decide +kernel)
theorem im_X5_feed : Cond.instanceMethod yX5_feed ∈ tw := tw_in 355 (by decide +kernel) (by decide +kernel)
theorem im_X5_closePage : Cond.instanceMethod yX5_closePage ∈ tw := tw_in 361 (by decide +kernel) (by decide +kernel)
theorem im_X5_end : Cond.instanceMethod yX5_end ∈ tw := tw_in 367 (by decide +kernel) (by decide +kernel)
theorem im_X2_isEmpty : Cond.instanceMethod yX2_isEmpty ∈ tw := tw_in 372 (by decide +kernel) (by decide +kernel)
theorem im_X5_keepOpenRun : Cond.instanceMethod yX5_keepOpenRun ∈ tw := tw_in 378 (by decide +kernel) (by decide +kernel)
theorem im_X5_putTogether : Cond.instanceMethod yX5_putTogether ∈ tw := tw_in 382 (by decide +kernel) (by decide +kernel)
theorem im_X5_formatOn : Cond.instanceMethod yX5_formatOn ∈ tw := tw_in 386 (by decide +kernel) (by decide +kernel)
theorem im_Jx4a65c_get_915e3 : Cond.instanceMethod yJx4a65c_get_915e3 ∈ tw := tw_in 389 (by decide +kernel) (by decide +kernel)
theorem im_Jx4a65c_elementData_915e3 : Cond.instanceMethod yJx4a65c_elementData_915e3 ∈ tw := tw_in 399 (by decide +kernel) (by decide +kernel)
theorem im_X2_valueAt : Cond.instanceMethod yX2_valueAt ∈ tw := tw_in 404 (by decide +kernel) (by decide +kernel)
theorem im_X2_has : Cond.instanceMethod yX2_has ∈ tw := tw_in 408 (by decide +kernel) (by decide +kernel)
theorem im_X0_init : Cond.instanceMethod yX0_init ∈ tw := tw_in 417 (by decide +kernel) (by decide +kernel)
theorem im_X5_pass : Cond.instanceMethod yX5_pass ∈ tw := tw_in 460 (by decide +kernel) (by decide +kernel)
theorem im_X5_format : Cond.instanceMethod yX5_format ∈ tw := tw_in 468 (by decide +kernel) (by decide +kernel)
theorem im_X5_reprint : Cond.instanceMethod yX5_reprint ∈ tw := tw_in 477 (by decide +kernel) (by decide +kernel)
theorem im_X5_runAt : Cond.instanceMethod yX5_runAt ∈ tw := tw_in 482 (by decide +kernel) (by decide +kernel)
theorem im_X5_view : Cond.instanceMethod yX5_view ∈ tw := tw_in 508 (by decide +kernel) (by decide +kernel)
theorem im_X5_readerAt : Cond.instanceMethod yX5_readerAt ∈ tw := tw_in 513 (by decide +kernel) (by decide +kernel)
theorem im_X5_span : Cond.instanceMethod yX5_span ∈ tw := tw_in 520 (by decide +kernel) (by decide +kernel)
theorem im_X5_isKind : Cond.instanceMethod yX5_isKind ∈ tw := tw_in 525 (by decide +kernel) (by decide +kernel)
theorem im_X5_hold : Cond.instanceMethod yX5_hold ∈ tw := tw_in 532 (by decide +kernel) (by decide +kernel)
theorem im_X5_isAccount : Cond.instanceMethod yX5_isAccount ∈ tw := tw_in 537 (by decide +kernel) (by decide +kernel)
theorem im_X5_clear : Cond.instanceMethod yX5_clear ∈ tw := tw_in 544 (by decide +kernel) (by decide +kernel)
theorem im_X5_isOver : Cond.instanceMethod yX5_isOver ∈ tw := tw_in 549 (by decide +kernel) (by decide +kernel)
theorem im_X5_isHeld : Cond.instanceMethod yX5_isHeld ∈ tw := tw_in 553 (by decide +kernel) (by decide +kernel)
theorem im_X5_isThere : Cond.instanceMethod yX5_isThere ∈ tw := tw_in 559 (by decide +kernel) (by decide +kernel)
theorem im_X5_documentAt : Cond.instanceMethod yX5_documentAt ∈ tw := tw_in 564 (by decide +kernel) (by decide +kernel)
theorem im_X5_account : Cond.instanceMethod yX5_account ∈ tw := tw_in 571 (by decide +kernel) (by decide +kernel)
theorem im_X5_kind : Cond.instanceMethod yX5_kind ∈ tw := tw_in 575 (by decide +kernel) (by decide +kernel)
theorem im_X5_length : Cond.instanceMethod yX5_length ∈ tw := tw_in 579 (by decide +kernel) (by decide +kernel)
theorem im_X5_pages : Cond.instanceMethod yX5_pages ∈ tw := tw_in 589 (by decide +kernel) (by decide +kernel)
theorem im_X5_twice : Cond.instanceMethod yX5_twice ∈ tw := tw_in 596 (by decide +kernel) (by decide +kernel)
theorem im_X4_isLike : Cond.instanceMethod yX4_isLike ∈ tw := tw_in 601 (by decide +kernel) (by decide +kernel)
theorem im_X2_hasLinesOf : Cond.instanceMethod yX2_hasLinesOf ∈ tw := tw_in 608 (by decide +kernel) (by decide +kernel)
theorem im_X5_copies : Cond.instanceMethod yX5_copies ∈ tw := tw_in 615 (by decide +kernel) (by decide +kernel)
theorem im_X5_found : Cond.instanceMethod yX5_found ∈ tw := tw_in 628 (by decide +kernel) (by decide +kernel)
theorem im_X3_sees : Cond.instanceMethod yX3_sees ∈ tw := tw_in 633 (by decide +kernel) (by decide +kernel)
theorem im_X0_fits : Cond.instanceMethod yX0_fits ∈ tw := tw_in 637 (by decide +kernel) (by decide +kernel)
theorem im_X5_bundle : Cond.instanceMethod yX5_bundle ∈ tw := tw_in 644 (by decide +kernel) (by decide +kernel)
theorem im_X5_read : Cond.instanceMethod yX5_read ∈ tw := tw_in 652 (by decide +kernel) (by decide +kernel)
theorem st_J8_newLength_cabcc : Cond.static yJ8_newLength_cabcc ∈ tw := tw_in 153 (by decide +kernel) (by decide +kernel)
theorem st_J9_max_7cf53 : Cond.static yJ9_max_7cf53 ∈ tw := tw_in 156 (by decide +kernel) (by decide +kernel)
theorem st_J8_hugeLength_7cf53 : Cond.static yJ8_hugeLength_7cf53 ∈ tw := tw_in 160 (by decide +kernel) (by decide +kernel)
theorem st_J7_copyOf_1904c : Cond.static yJ7_copyOf_1904c ∈ tw := tw_in 163 (by decide +kernel) (by decide +kernel)
theorem st_J7_copyOf_6403c : Cond.static yJ7_copyOf_6403c ∈ tw := tw_in 181 (by decide +kernel) (by decide +kernel)
theorem st_J9_min_7cf53 : Cond.static yJ9_min_7cf53 ∈ tw := tw_in 187 (by decide +kernel) (by decide +kernel)
theorem st_J7_fill_53178 : Cond.static yJ7_fill_53178 ∈ tw := tw_in 195 (by decide +kernel) (by decide +kernel)
theorem st_L_cell : Cond.static yL_cell ∈ tw := tw_in 232 (by decide +kernel) (by decide +kernel)
theorem st_L_low : Cond.static yL_low ∈ tw := tw_in 236 (by decide +kernel) (by decide +kernel)
theorem st_L_types : Cond.static yL_types ∈ tw := tw_in 239 (by decide +kernel) (by decide +kernel)
theorem st_L_lines : Cond.static yL_lines ∈ tw := tw_in 242 (by decide +kernel) (by decide +kernel)
theorem st_L_line : Cond.static yL_line ∈ tw := tw_in 246 (by decide +kernel) (by decide +kernel)
theorem st_X5_demandRange : Cond.static yX5_demandRange ∈ tw := tw_in 255 (by decide +kernel) (by decide +kernel)
theorem st_L_end : Cond.static yL_end ∈ tw := tw_in 364 (by decide +kernel) (by decide +kernel)
theorem st_J15_checkIndex_7cf53 : Cond.static yJ15_checkIndex_7cf53 ∈ tw := tw_in 393 (by decide +kernel) (by decide +kernel)
theorem st_J3_checkIndex_8e157 : Cond.static yJ3_checkIndex_8e157 ∈ tw := tw_in 396 (by decide +kernel) (by decide +kernel)
theorem st_X5_kindOf : Cond.static yX5_kindOf ∈ tw := tw_in 413 (by decide +kernel) (by decide +kernel)
theorem st_L_keep : Cond.static yL_keep ∈ tw := tw_in 446 (by decide +kernel) (by decide +kernel)
theorem st_L_at : Cond.static yL_at ∈ tw := tw_in 449 (by decide +kernel) (by decide +kernel)
theorem st_L_acts : Cond.static yL_acts ∈ tw := tw_in 454 (by decide +kernel) (by decide +kernel)
theorem st_L_pass : Cond.static yL_pass ∈ tw := tw_in 457 (by decide +kernel) (by decide +kernel)
theorem st_L_format : Cond.static yL_format ∈ tw := tw_in 465 (by decide +kernel) (by decide +kernel)
theorem st_L_reprint : Cond.static yL_reprint ∈ tw := tw_in 473 (by decide +kernel) (by decide +kernel)
theorem st_X5_demandPage : Cond.static yX5_demandPage ∈ tw := tw_in 501 (by decide +kernel) (by decide +kernel)
theorem st_L_view : Cond.static yL_view ∈ tw := tw_in 505 (by decide +kernel) (by decide +kernel)
theorem st_L_span : Cond.static yL_span ∈ tw := tw_in 517 (by decide +kernel) (by decide +kernel)
theorem st_L_hold : Cond.static yL_hold ∈ tw := tw_in 529 (by decide +kernel) (by decide +kernel)
theorem st_L_isThere : Cond.static yL_isThere ∈ tw := tw_in 541 (by decide +kernel) (by decide +kernel)
theorem st_L_isTold : Cond.static yL_isTold ∈ tw := tw_in 556 (by decide +kernel) (by decide +kernel)
theorem st_L_account : Cond.static yL_account ∈ tw := tw_in 568 (by decide +kernel) (by decide +kernel)
theorem st_L_length : Cond.static yL_length ∈ tw := tw_in 583 (by decide +kernel) (by decide +kernel)
theorem st_L_pages : Cond.static yL_pages ∈ tw := tw_in 586 (by decide +kernel) (by decide +kernel)
theorem st_L_twice : Cond.static yL_twice ∈ tw := tw_in 593 (by decide +kernel) (by decide +kernel)
theorem st_L_copies : Cond.static yL_copies ∈ tw := tw_in 612 (by decide +kernel) (by decide +kernel)
theorem st_X5_pageAt : Cond.static yX5_pageAt ∈ tw := tw_in 619 (by decide +kernel) (by decide +kernel)
theorem st_L_sees : Cond.static yL_sees ∈ tw := tw_in 622 (by decide +kernel) (by decide +kernel)
theorem st_L_found : Cond.static yL_found ∈ tw := tw_in 625 (by decide +kernel) (by decide +kernel)
theorem st_L_bundle : Cond.static yL_bundle ∈ tw := tw_in 641 (by decide +kernel) (by decide +kernel)
theorem st_L_read : Cond.static yL_read ∈ tw := tw_in 648 (by decide +kernel) (by decide +kernel)
theorem st_X5_pageOf : Cond.static yX5_pageOf ∈ tw := tw_in 656 (by decide +kernel) (by decide +kernel)
theorem se_Jx4a65c_add_9ea2d : Cond.selects RJx4a65c yJx4a65c_add_9ea2d yJx4a65c_add_9ea2d ∈ tw := tw_in 138 (by decide +kernel) (by decide +kernel)
theorem se_X5_line : Cond.selects RX5 yX5_line yX5_line ∈ tw := tw_in 252 (by decide +kernel) (by decide +kernel)
theorem se_X5_documents : Cond.selects RX5 yX5_documents yX5_documents ∈ tw := tw_in 348 (by decide +kernel) (by decide +kernel)
theorem se_Jx4a65c_size_8abf5 : Cond.selects RJx4a65c yJx4a65c_size_8abf5 yJx4a65c_size_8abf5 ∈ tw := tw_in 352 (by decide +kernel) (by decide +kernel)
theorem se_X5_feed : Cond.selects RX5 yX5_feed yX5_feed ∈ tw := tw_in 356 (by decide +kernel) (by decide +kernel)
theorem se_X5_end : Cond.selects RX5 yX5_end yX5_end ∈ tw := tw_in 368 (by decide +kernel) (by decide +kernel)
theorem se_Jx4a65c_get_915e3 : Cond.selects RJx4a65c yJx4a65c_get_915e3 yJx4a65c_get_915e3 ∈ tw := tw_in 390 (by decide +kernel) (by decide +kernel)
theorem se_Jx4a65c_elementData_915e3 : Cond.selects RJx4a65c yJx4a65c_elementData_915e3 yJx4a65c_elementData_915e3 ∈ tw := tw_in 400 (by decide +kernel) (by decide +kernel)
theorem se_X5_pass : Cond.selects RX5 yX5_pass yX5_pass ∈ tw := tw_in 461 (by decide +kernel) (by decide +kernel)
theorem se_X5_format : Cond.selects RX5 yX5_format yX5_format ∈ tw := tw_in 469 (by decide +kernel) (by decide +kernel)
theorem se_X5_reprint : Cond.selects RX5 yX5_reprint yX5_reprint ∈ tw := tw_in 478 (by decide +kernel) (by decide +kernel)
theorem se_X5_view : Cond.selects RX5 yX5_view yX5_view ∈ tw := tw_in 509 (by decide +kernel) (by decide +kernel)
theorem se_X5_span : Cond.selects RX5 yX5_span yX5_span ∈ tw := tw_in 521 (by decide +kernel) (by decide +kernel)
theorem se_X5_hold : Cond.selects RX5 yX5_hold yX5_hold ∈ tw := tw_in 533 (by decide +kernel) (by decide +kernel)
theorem se_X5_clear : Cond.selects RX5 yX5_clear yX5_clear ∈ tw := tw_in 545 (by decide +kernel) (by decide +kernel)
theorem se_X5_isThere : Cond.selects RX5 yX5_isThere yX5_isThere ∈ tw := tw_in 560 (by decide +kernel) (by decide +kernel)
theorem se_X5_account : Cond.selects RX5 yX5_account yX5_account ∈ tw := tw_in 572 (by decide +kernel) (by decide +kernel)
theorem se_X5_kind : Cond.selects RX5 yX5_kind yX5_kind ∈ tw := tw_in 576 (by decide +kernel) (by decide +kernel)
theorem se_X5_length : Cond.selects RX5 yX5_length yX5_length ∈ tw := tw_in 580 (by decide +kernel) (by decide +kernel)
theorem se_X5_pages : Cond.selects RX5 yX5_pages yX5_pages ∈ tw := tw_in 590 (by decide +kernel) (by decide +kernel)
theorem se_X5_twice : Cond.selects RX5 yX5_twice yX5_twice ∈ tw := tw_in 597 (by decide +kernel) (by decide +kernel)
theorem se_X5_copies : Cond.selects RX5 yX5_copies yX5_copies ∈ tw := tw_in 616 (by decide +kernel) (by decide +kernel)
theorem se_X5_found : Cond.selects RX5 yX5_found yX5_found ∈ tw := tw_in 629 (by decide +kernel) (by decide +kernel)
theorem se_X5_bundle : Cond.selects RX5 yX5_bundle yX5_bundle ∈ tw := tw_in 645 (by decide +kernel) (by decide +kernel)
theorem se_X5_read : Cond.selects RX5 yX5_read yX5_read ∈ tw := tw_in 653 (by decide +kernel) (by decide +kernel)
theorem se_Jx4a65c_add_72be8 : Cond.selects RJx4a65c yJx4a65c_add_72be8 yJx4a65c_add_72be8 ∈ tw := tw_sel 0 (by decide +kernel) (by decide +kernel)
theorem se_Jx4a65c_grow_d5877 : Cond.selects RJx4a65c yJx4a65c_grow_d5877 yJx4a65c_grow_d5877 ∈ tw := tw_sel 1 (by decide +kernel) (by decide +kernel)
theorem se_Jx4a65c_grow_92f84 : Cond.selects RJx4a65c yJx4a65c_grow_92f84 yJx4a65c_grow_92f84 ∈ tw := tw_sel 2 (by decide +kernel) (by decide +kernel)
theorem se_X2_put : Cond.selects RX2 yX2_put yX2_put ∈ tw := tw_sel 4 (by decide +kernel) (by decide +kernel)
theorem se_X5_closePage : Cond.selects RX5 yX5_closePage yX5_closePage ∈ tw := tw_sel 5 (by decide +kernel) (by decide +kernel)
theorem se_X2_isEmpty : Cond.selects RX2 yX2_isEmpty yX2_isEmpty ∈ tw := tw_sel 6 (by decide +kernel) (by decide +kernel)
theorem se_X5_keepOpenRun : Cond.selects RX5 yX5_keepOpenRun yX5_keepOpenRun ∈ tw := tw_sel 7 (by decide +kernel) (by decide +kernel)
theorem se_X5_putTogether : Cond.selects RX5 yX5_putTogether yX5_putTogether ∈ tw := tw_sel 8 (by decide +kernel) (by decide +kernel)
theorem se_X5_formatOn : Cond.selects RX5 yX5_formatOn yX5_formatOn ∈ tw := tw_sel 9 (by decide +kernel) (by decide +kernel)
theorem se_X2_valueAt : Cond.selects RX2 yX2_valueAt yX2_valueAt ∈ tw := tw_sel 10 (by decide +kernel) (by decide +kernel)
theorem se_X2_has : Cond.selects RX2 yX2_has yX2_has ∈ tw := tw_sel 11 (by decide +kernel) (by decide +kernel)
theorem se_X5_runAt : Cond.selects RX5 yX5_runAt yX5_runAt ∈ tw := tw_sel 12 (by decide +kernel) (by decide +kernel)
theorem se_X5_readerAt : Cond.selects RX5 yX5_readerAt yX5_readerAt ∈ tw := tw_sel 13 (by decide +kernel) (by decide +kernel)
theorem se_X5_isKind : Cond.selects RX5 yX5_isKind yX5_isKind ∈ tw := tw_sel 14 (by decide +kernel) (by decide +kernel)
theorem se_X5_isAccount : Cond.selects RX5 yX5_isAccount yX5_isAccount ∈ tw := tw_sel 15 (by decide +kernel) (by decide +kernel)
theorem se_X5_isOver : Cond.selects RX5 yX5_isOver yX5_isOver ∈ tw := tw_sel 16 (by decide +kernel) (by decide +kernel)
theorem se_X5_isHeld : Cond.selects RX5 yX5_isHeld yX5_isHeld ∈ tw := tw_sel 17 (by decide +kernel) (by decide +kernel)
theorem se_X5_documentAt : Cond.selects RX5 yX5_documentAt yX5_documentAt ∈ tw := tw_sel 18 (by decide +kernel) (by decide +kernel)
theorem se_X4_isLike : Cond.selects RX4 yX4_isLike yX4_isLike ∈ tw := tw_sel 19 (by decide +kernel) (by decide +kernel)
theorem se_X2_hasLinesOf : Cond.selects RX2 yX2_hasLinesOf yX2_hasLinesOf ∈ tw := tw_sel 20 (by decide +kernel) (by decide +kernel)
theorem se_X3_sees : Cond.selects RX3 yX3_sees yX3_sees ∈ tw := tw_sel 21 (by decide +kernel) (by decide +kernel)
theorem se_X0_fits : Cond.selects RX0 yX0_fits yX0_fits ∈ tw := tw_sel 22 (by decide +kernel) (by decide +kernel)
theorem ca_IllegalArgumentException_self : Cond.castable "java/lang/IllegalArgumentException" "java/lang/IllegalArgumentException" ∈ tw := tw_in 259 (by decide +kernel) (by decide +kernel)
theorem ca_IllegalStateException_self : Cond.castable "java/lang/IllegalStateException" "java/lang/IllegalStateException" ∈ tw := tw_in 332 (by decide +kernel) (by decide +kernel)
theorem ca_IndexOutOfBoundsException_self : Cond.castable "java/lang/IndexOutOfBoundsException" "java/lang/IndexOutOfBoundsException" ∈ tw := tw_in 486 (by decide +kernel) (by decide +kernel)
theorem ca_NoSuchElementException_self : Cond.castable "java/util/NoSuchElementException" "java/util/NoSuchElementException" ∈ tw := tw_in 661 (by decide +kernel) (by decide +kernel)
theorem ca_X5 : Cond.castable RX5 "java/lang/Object" ∈ tw := tw_in 677 (by decide +kernel) (by decide +kernel)
theorem ca_X1 : Cond.castable RX1 "java/lang/Object" ∈ tw := tw_in 678 (by decide +kernel) (by decide +kernel)
theorem ca_Jx4a65c : Cond.castable RJx4a65c "java/lang/Object" ∈ tw := tw_in 679 (by decide +kernel) (by decide +kernel)
theorem ca_X4 : Cond.castable RX4 "java/lang/Object" ∈ tw := tw_in 680 (by decide +kernel) (by decide +kernel)
theorem ca_X2 : Cond.castable RX2 "java/lang/Object" ∈ tw := tw_in 681 (by decide +kernel) (by decide +kernel)
theorem ca_X3 : Cond.castable RX3 "java/lang/Object" ∈ tw := tw_in 682 (by decide +kernel) (by decide +kernel)
theorem ca_IndexOutOfBoundsException : Cond.castable "java/lang/IndexOutOfBoundsException" "java/lang/Object" ∈ tw := tw_in 683 (by decide +kernel) (by decide +kernel)
theorem ca_IllegalArgumentException : Cond.castable "java/lang/IllegalArgumentException" "java/lang/Object" ∈ tw := tw_in 684 (by decide +kernel) (by decide +kernel)
theorem ca_NoSuchElementException : Cond.castable "java/util/NoSuchElementException" "java/lang/Object" ∈ tw := tw_in 685 (by decide +kernel) (by decide +kernel)
theorem ca_IllegalStateException : Cond.castable "java/lang/IllegalStateException" "java/lang/Object" ∈ tw := tw_in 686 (by decide +kernel) (by decide +kernel)
theorem ca_X0 : Cond.castable RX0 "java/lang/Object" ∈ tw := tw_in 687 (by decide +kernel) (by decide +kernel)
theorem ca_J0 : Cond.castable RJ0 "java/lang/Object" ∈ tw := tw_in 689 (by decide +kernel) (by decide +kernel)
theorem cl_L_9 : Cond.classLink RL 9 RX5 ∈ tw := tw_in 23 (by decide +kernel) (by decide +kernel)
theorem cl_X5_9 : Cond.classLink RX5 9 RX1 ∈ tw := tw_in 31 (by decide +kernel) (by decide +kernel)
theorem cl_X5_18 : Cond.classLink RX5 18 RJx4a65c ∈ tw := tw_in 50 (by decide +kernel) (by decide +kernel)
theorem cl_X5_28 : Cond.classLink RX5 28 RX4 ∈ tw := tw_in 76 (by decide +kernel) (by decide +kernel)
theorem cl_X4_7 : Cond.classLink RX4 7 RJx4a65c ∈ tw := tw_in 82 (by decide +kernel) (by decide +kernel)
theorem cl_X5_35 : Cond.classLink RX5 35 RX2 ∈ tw := tw_in 94 (by decide +kernel) (by decide +kernel)
theorem cl_X5_56 : Cond.classLink RX5 56 RX3 ∈ tw := tw_in 113 (by decide +kernel) (by decide +kernel)
theorem cl_J7_110 : Cond.classLink RJ7 110 "[Ljava/lang/Object;" ∈ tw := tw_in 183 (by decide +kernel) (by decide +kernel)
theorem cl_J7_2 : Cond.classLink RJ7 2 "java/lang/Object" ∈ tw := tw_in 185 (by decide +kernel) (by decide +kernel)
theorem cl_Jx4a65c_7 : Cond.classLink RJx4a65c 7 "java/lang/Object" ∈ tw := tw_in 193 (by decide +kernel) (by decide +kernel)
theorem cl_L_14 : Cond.classLink RL 14 "java/lang/IllegalArgumentException" ∈ tw := tw_in 248 (by decide +kernel) (by decide +kernel)
theorem cl_L_16 : Cond.classLink RL 16 "java/lang/IllegalStateException" ∈ tw := tw_in 249 (by decide +kernel) (by decide +kernel)
theorem cl_X5_211 : Cond.classLink RX5 211 "java/lang/IllegalArgumentException" ∈ tw := tw_in 257 (by decide +kernel) (by decide +kernel)
theorem cl_X5_78 : Cond.classLink RX5 78 "java/lang/IllegalStateException" ∈ tw := tw_in 330 (by decide +kernel) (by decide +kernel)
theorem cl_X5_150 : Cond.classLink RX5 150 RX0 ∈ tw := tw_in 410 (by decide +kernel) (by decide +kernel)
theorem cl_L_32 : Cond.classLink RL 32 "java/lang/IndexOutOfBoundsException" ∈ tw := tw_in 475 (by decide +kernel) (by decide +kernel)
theorem cl_X5_176 : Cond.classLink RX5 176 "java/lang/IndexOutOfBoundsException" ∈ tw := tw_in 484 (by decide +kernel) (by decide +kernel)
theorem cl_X4_28 : Cond.classLink RX4 28 RX2 ∈ tw := tw_in 605 (by decide +kernel) (by decide +kernel)
theorem cl_L_55 : Cond.classLink RL 55 "java/util/NoSuchElementException" ∈ tw := tw_in 650 (by decide +kernel) (by decide +kernel)
theorem cl_X5_190 : Cond.classLink RX5 190 "java/util/NoSuchElementException" ∈ tw := tw_in 659 (by decide +kernel) (by decide +kernel)
theorem fl_X1_7 : FL RX1 7 TX1 0 := FL.w (tw_in 37 (by decide +kernel) (by decide +kernel))
theorem fw_X1_7 : Cond.fieldLink RX1 7 (TX1 0).1 (TX1 0).2.1 (TX1 0).2.2.1 ∈ tw := tw_in 37 (by decide +kernel) (by decide +kernel)
theorem fl_X5_265 : FL RX5 265 TX1 0 := FL.n (host := "PrintKeeper") (tw_in 38 (by decide +kernel) (by decide +kernel))
theorem fl_X1_13 : FL RX1 13 TX1 1 := FL.w (tw_in 39 (by decide +kernel) (by decide +kernel))
theorem fw_X1_13 : Cond.fieldLink RX1 13 (TX1 1).1 (TX1 1).2.1 (TX1 1).2.2.1 ∈ tw := tw_in 39 (by decide +kernel) (by decide +kernel)
theorem fl_X5_252 : FL RX5 252 TX1 1 := FL.n (host := "PrintKeeper") (tw_in 40 (by decide +kernel) (by decide +kernel))
theorem fl_X1_16 : FL RX1 16 TX1 2 := FL.w (tw_in 41 (by decide +kernel) (by decide +kernel))
theorem fw_X1_16 : Cond.fieldLink RX1 16 (TX1 2).1 (TX1 2).2.1 (TX1 2).2.2.1 ∈ tw := tw_in 41 (by decide +kernel) (by decide +kernel)
theorem fl_X5_262 : FL RX5 262 TX1 2 := FL.n (host := "PrintKeeper") (tw_in 42 (by decide +kernel) (by decide +kernel))
theorem fs_Jx4a65c_39 : Cond.fieldLink RJx4a65c 39 "java/util/ArrayList" "DEFAULTCAPACITY_EMPTY_ELEMENTDATA" "[Ljava/lang/Object;" ∈ tw := tw_in 62 (by decide +kernel) (by decide +kernel)
theorem fl_Jx4a65c_9 : FL RJx4a65c 9 TJx4a65c 1 := FL.w (tw_in 64 (by decide +kernel) (by decide +kernel))
theorem fl_Jx4a65c_48 : FL RJx4a65c 48 TJx4a65c 2 := FL.w (tw_in 65 (by decide +kernel) (by decide +kernel))
theorem fs_Jxc12de_7 : Cond.fieldLink RJxc12de 7 "java/util/AbstractList" "modCount" "I" ∈ tw := tw_in 66 (by decide +kernel) (by decide +kernel)
theorem fl_Jx4a65c_63 : FL RJx4a65c 63 TJx4a65c 0 := FL.s (ref := "java/util/ArrayList") (tw_in 67 (by decide +kernel) (by decide +kernel)) w_same
theorem fl_X4_10 : FL RX4 10 TX4 0 := FL.w (tw_in 84 (by decide +kernel) (by decide +kernel))
theorem fw_X4_10 : Cond.fieldLink RX4 10 (TX4 0).1 (TX4 0).2.1 (TX4 0).2.2.1 ∈ tw := tw_in 84 (by decide +kernel) (by decide +kernel)
theorem fl_X5_103 : FL RX5 103 TX4 0 := FL.n (host := "PrintKeeper") (tw_in 85 (by decide +kernel) (by decide +kernel))
theorem fl_X4_16 : FL RX4 16 TX4 1 := FL.w (tw_in 86 (by decide +kernel) (by decide +kernel))
theorem fl_X0_25 : FL RX0 25 TX4 1 := FL.n (host := "PrintKeeper") (tw_in 87 (by decide +kernel) (by decide +kernel))
theorem fl_X5_243 : FL RX5 243 TX4 1 := FL.n (host := "PrintKeeper") (tw_in 88 (by decide +kernel) (by decide +kernel))
theorem fl_X2_9 : FL RX2 9 TX2 0 := FL.w (tw_in 100 (by decide +kernel) (by decide +kernel))
theorem fw_X2_9 : Cond.fieldLink RX2 9 (TX2 0).1 (TX2 0).2.1 (TX2 0).2.2.1 ∈ tw := tw_in 100 (by decide +kernel) (by decide +kernel)
theorem fl_X2_19 : FL RX2 19 TX2 1 := FL.w (tw_in 101 (by decide +kernel) (by decide +kernel))
theorem fl_X5_97 : FL RX5 97 TX2 1 := FL.n (host := "PrintKeeper") (tw_in 102 (by decide +kernel) (by decide +kernel))
theorem fl_X2_15 : FL RX2 15 TX2 2 := FL.w (tw_in 103 (by decide +kernel) (by decide +kernel))
theorem fl_X5_138 : FL RX5 138 TX2 2 := FL.n (host := "PrintKeeper") (tw_in 104 (by decide +kernel) (by decide +kernel))
theorem fl_X3_21 : FL RX3 21 TX3 0 := FL.w (tw_in 119 (by decide +kernel) (by decide +kernel))
theorem fw_X3_21 : Cond.fieldLink RX3 21 (TX3 0).1 (TX3 0).2.1 (TX3 0).2.2.1 ∈ tw := tw_in 119 (by decide +kernel) (by decide +kernel)
theorem fl_X3_9 : FL RX3 9 TX3 1 := FL.w (tw_in 120 (by decide +kernel) (by decide +kernel))
theorem fl_X5_202 : FL RX5 202 TX3 1 := FL.n (host := "PrintKeeper") (tw_in 121 (by decide +kernel) (by decide +kernel))
theorem fl_X3_15 : FL RX3 15 TX3 2 := FL.w (tw_in 122 (by decide +kernel) (by decide +kernel))
theorem fl_X5_205 : FL RX5 205 TX3 2 := FL.n (host := "PrintKeeper") (tw_in 123 (by decide +kernel) (by decide +kernel))
theorem fl_X3_18 : FL RX3 18 TX3 3 := FL.w (tw_in 124 (by decide +kernel) (by decide +kernel))
theorem fl_X5_195 : FL RX5 195 TX3 3 := FL.n (host := "PrintKeeper") (tw_in 125 (by decide +kernel) (by decide +kernel))
theorem fl_X5_74 : FL RX5 74 TX5 0 := FL.w (tw_in 197 (by decide +kernel) (by decide +kernel))
theorem fl_X5_14 : FL RX5 14 TX5 1 := FL.w (tw_in 198 (by decide +kernel) (by decide +kernel))
theorem fw_X5_14 : Cond.fieldLink RX5 14 (TX5 1).1 (TX5 1).2.1 (TX5 1).2.2.1 ∈ tw := tw_in 198 (by decide +kernel) (by decide +kernel)
theorem fl_X5_21 : FL RX5 21 TX5 2 := FL.w (tw_in 199 (by decide +kernel) (by decide +kernel))
theorem fw_X5_21 : Cond.fieldLink RX5 21 (TX5 2).1 (TX5 2).2.1 (TX5 2).2.2.1 ∈ tw := tw_in 199 (by decide +kernel) (by decide +kernel)
theorem fl_X5_25 : FL RX5 25 TX5 3 := FL.w (tw_in 200 (by decide +kernel) (by decide +kernel))
theorem fw_X5_25 : Cond.fieldLink RX5 25 (TX5 3).1 (TX5 3).2.1 (TX5 3).2.2.1 ∈ tw := tw_in 200 (by decide +kernel) (by decide +kernel)
theorem fl_X5_100 : FL RX5 100 TX5 4 := FL.w (tw_in 201 (by decide +kernel) (by decide +kernel))
theorem fl_X5_31 : FL RX5 31 TX5 5 := FL.w (tw_in 202 (by decide +kernel) (by decide +kernel))
theorem fl_X5_38 : FL RX5 38 TX5 6 := FL.w (tw_in 203 (by decide +kernel) (by decide +kernel))
theorem fl_X5_42 : FL RX5 42 TX5 7 := FL.w (tw_in 204 (by decide +kernel) (by decide +kernel))
theorem fw_X5_42 : Cond.fieldLink RX5 42 (TX5 7).1 (TX5 7).2.1 (TX5 7).2.2.1 ∈ tw := tw_in 204 (by decide +kernel) (by decide +kernel)
theorem fl_X5_45 : FL RX5 45 TX5 8 := FL.w (tw_in 205 (by decide +kernel) (by decide +kernel))
theorem fw_X5_45 : Cond.fieldLink RX5 45 (TX5 8).1 (TX5 8).2.1 (TX5 8).2.2.1 ∈ tw := tw_in 205 (by decide +kernel) (by decide +kernel)
theorem fl_X5_48 : FL RX5 48 TX5 9 := FL.w (tw_in 206 (by decide +kernel) (by decide +kernel))
theorem fw_X5_48 : Cond.fieldLink RX5 48 (TX5 9).1 (TX5 9).2.1 (TX5 9).2.2.1 ∈ tw := tw_in 206 (by decide +kernel) (by decide +kernel)
theorem fl_X5_52 : FL RX5 52 TX5 10 := FL.w (tw_in 207 (by decide +kernel) (by decide +kernel))
theorem fw_X5_52 : Cond.fieldLink RX5 52 (TX5 10).1 (TX5 10).2.1 (TX5 10).2.2.1 ∈ tw := tw_in 207 (by decide +kernel) (by decide +kernel)
theorem fl_X0_9 : FL RX0 9 TX0 0 := FL.w (tw_in 420 (by decide +kernel) (by decide +kernel))
theorem fw_X0_9 : Cond.fieldLink RX0 9 (TX0 0).1 (TX0 0).2.1 (TX0 0).2.2.1 ∈ tw := tw_in 420 (by decide +kernel) (by decide +kernel)
theorem fl_X5_235 : FL RX5 235 TX0 0 := FL.n (host := "PrintKeeper") (tw_in 421 (by decide +kernel) (by decide +kernel))
theorem fl_X0_15 : FL RX0 15 TX0 1 := FL.w (tw_in 422 (by decide +kernel) (by decide +kernel))
theorem fw_X0_15 : Cond.fieldLink RX0 15 (TX0 1).1 (TX0 1).2.1 (TX0 1).2.2.1 ∈ tw := tw_in 422 (by decide +kernel) (by decide +kernel)
theorem fl_X5_238 : FL RX5 238 TX0 1 := FL.n (host := "PrintKeeper") (tw_in 423 (by decide +kernel) (by decide +kernel))
theorem fl_X0_19 : FL RX0 19 TX0 2 := FL.w (tw_in 424 (by decide +kernel) (by decide +kernel))
theorem fw_X0_19 : Cond.fieldLink RX0 19 (TX0 2).1 (TX0 2).2.1 (TX0 2).2.2.1 ∈ tw := tw_in 424 (by decide +kernel) (by decide +kernel)
theorem fl_X3_30 : FL RX3 30 TX0 2 := FL.n (host := "PrintKeeper") (tw_in 425 (by decide +kernel) (by decide +kernel))
theorem fl_X5_155 : FL RX5 155 TX0 2 := FL.n (host := "PrintKeeper") (tw_in 426 (by decide +kernel) (by decide +kernel))
theorem fl_X0_22 : FL RX0 22 TX0 3 := FL.w (tw_in 427 (by decide +kernel) (by decide +kernel))
theorem fw_X0_22 : Cond.fieldLink RX0 22 (TX0 3).1 (TX0 3).2.1 (TX0 3).2.2.1 ∈ tw := tw_in 427 (by decide +kernel) (by decide +kernel)
theorem fl_X5_158 : FL RX5 158 TX0 3 := FL.n (host := "PrintKeeper") (tw_in 428 (by decide +kernel) (by decide +kernel))
theorem fl_X5_161 : FL RX5 161 TX0 4 := FL.n (host := "PrintKeeper") (tw_in 429 (by decide +kernel) (by decide +kernel))
theorem fl_X3_25 : FL RX3 25 TX0 5 := FL.n (host := "PrintKeeper") (tw_in 430 (by decide +kernel) (by decide +kernel))
theorem fl_X5_149 : FL RX5 149 TX0 5 := FL.n (host := "PrintKeeper") (tw_in 431 (by decide +kernel) (by decide +kernel))
theorem ml_L_159 : Cond.methodLink RL 159 yX5_init ∈ tw := tw_in 25 (by decide +kernel) (by decide +kernel)
theorem ml_X5_3 : Cond.methodLink RX5 3 Lib.objectInit ∈ tw := tw_in 28 (by decide +kernel) (by decide +kernel)
theorem ml_X5_11 : Cond.methodLinkNest RX5 11 yX1_init "PrintKeeper" ∈ tw := tw_in 33 (by decide +kernel) (by decide +kernel)
theorem ml_X1_1 : Cond.methodLink RX1 1 Lib.objectInit ∈ tw := tw_in 36 (by decide +kernel) (by decide +kernel)
theorem ml_X5_20 : Cond.methodLink RX5 20 yJx4a65c_init_da8c8 ∈ tw := tw_in 52 (by decide +kernel) (by decide +kernel)
theorem ml_Jx4a65c_1 : Cond.methodLink RJx4a65c 1 yJxc12de_init_da8c8 ∈ tw := tw_in 55 (by decide +kernel) (by decide +kernel)
theorem ml_Jxc12de_1 : Cond.methodLink RJxc12de 1 yJxa1e45_init_da8c8 ∈ tw := tw_in 58 (by decide +kernel) (by decide +kernel)
theorem ml_Jxa1e45_1 : Cond.methodLink RJxa1e45 1 Lib.objectInit ∈ tw := tw_in 61 (by decide +kernel) (by decide +kernel)
theorem ml_X5_30 : Cond.methodLinkNest RX5 30 yX4_init "PrintKeeper" ∈ tw := tw_in 78 (by decide +kernel) (by decide +kernel)
theorem ml_X4_1 : Cond.methodLink RX4 1 Lib.objectInit ∈ tw := tw_in 81 (by decide +kernel) (by decide +kernel)
theorem ml_X4_9 : Cond.methodLink RX4 9 yJx4a65c_init_da8c8 ∈ tw := tw_in 83 (by decide +kernel) (by decide +kernel)
theorem ml_X5_37 : Cond.methodLinkNest RX5 37 yX2_init "PrintKeeper" ∈ tw := tw_in 96 (by decide +kernel) (by decide +kernel)
theorem ml_X2_3 : Cond.methodLink RX2 3 Lib.objectInit ∈ tw := tw_in 99 (by decide +kernel) (by decide +kernel)
theorem ml_X5_58 : Cond.methodLinkNest RX5 58 yX3_init "PrintKeeper" ∈ tw := tw_in 115 (by decide +kernel) (by decide +kernel)
theorem ml_X3_3 : Cond.methodLink RX3 3 Lib.objectInit ∈ tw := tw_in 118 (by decide +kernel) (by decide +kernel)
theorem ml_X5_61 : Cond.methodLink RX5 61 yJx4a65c_add_9ea2d ∈ tw := tw_in 136 (by decide +kernel) (by decide +kernel)
theorem ml_Jx4a65c_131 : Cond.methodLink RJx4a65c 131 yJx4a65c_add_72be8 ∈ tw := tw_in 140 (by decide +kernel) (by decide +kernel)
theorem ml_Jx4a65c_129 : Cond.methodLink RJx4a65c 129 yJx4a65c_grow_d5877 ∈ tw := tw_in 144 (by decide +kernel) (by decide +kernel)
theorem ml_Jx4a65c_69 : Cond.methodLink RJx4a65c 69 yJx4a65c_grow_92f84 ∈ tw := tw_in 148 (by decide +kernel) (by decide +kernel)
theorem ml_Jx4a65c_73 : Cond.methodLink RJx4a65c 73 yJ8_newLength_cabcc ∈ tw := tw_in 152 (by decide +kernel) (by decide +kernel)
theorem ml_J8_194 : Cond.methodLink RJ8 194 yJ9_max_7cf53 ∈ tw := tw_in 155 (by decide +kernel) (by decide +kernel)
theorem ml_J8_201 : Cond.methodLink RJ8 201 yJ8_hugeLength_7cf53 ∈ tw := tw_in 159 (by decide +kernel) (by decide +kernel)
theorem ml_Jx4a65c_66 : Cond.methodLink RJx4a65c 66 yJ7_copyOf_1904c ∈ tw := tw_in 162 (by decide +kernel) (by decide +kernel)
theorem ml_J7_300 : Cond.methodLink RJ7 300 yJ7_copyOf_6403c ∈ tw := tw_in 180 (by decide +kernel) (by decide +kernel)
theorem ml_J7_304 : Cond.methodLink RJ7 304 yJ9_min_7cf53 ∈ tw := tw_in 186 (by decide +kernel) (by decide +kernel)
theorem ml_Jx4a65c_79 : Cond.methodLink RJx4a65c 79 yJ9_max_7cf53 ∈ tw := tw_in 192 (by decide +kernel) (by decide +kernel)
theorem ml_X5_65 : Cond.methodLink RX5 65 yJ7_fill_53178 ∈ tw := tw_in 194 (by decide +kernel) (by decide +kernel)
theorem ml_L_164 : Cond.methodLink RL 164 yL_cell ∈ tw := tw_in 231 (by decide +kernel) (by decide +kernel)
theorem ml_L_90 : Cond.methodLink RL 90 yL_low ∈ tw := tw_in 235 (by decide +kernel) (by decide +kernel)
theorem ml_L_167 : Cond.methodLink RL 167 yL_types ∈ tw := tw_in 238 (by decide +kernel) (by decide +kernel)
theorem ml_L_73 : Cond.methodLink RL 73 yL_lines ∈ tw := tw_in 241 (by decide +kernel) (by decide +kernel)
theorem ml_L_93 : Cond.methodLink RL 93 yL_line ∈ tw := tw_in 245 (by decide +kernel) (by decide +kernel)
theorem ml_L_22 : Cond.methodLink RL 22 yX5_line ∈ tw := tw_in 250 (by decide +kernel) (by decide +kernel)
theorem ml_X5_71 : Cond.methodLink RX5 71 yX5_demandRange ∈ tw := tw_in 254 (by decide +kernel) (by decide +kernel)
theorem ml_X5_91 : Cond.methodLinkNest RX5 91 yX2_put "PrintKeeper" ∈ tw := tw_in 326 (by decide +kernel) (by decide +kernel)
theorem ml_L_96 : Cond.methodLink RL 96 yX5_documents ∈ tw := tw_in 346 (by decide +kernel) (by decide +kernel)
theorem ml_X5_85 : Cond.methodLink RX5 85 yJx4a65c_size_8abf5 ∈ tw := tw_in 350 (by decide +kernel) (by decide +kernel)
theorem ml_L_99 : Cond.methodLink RL 99 yX5_feed ∈ tw := tw_in 354 (by decide +kernel) (by decide +kernel)
theorem ml_X5_108 : Cond.methodLink RX5 108 yX5_closePage ∈ tw := tw_in 359 (by decide +kernel) (by decide +kernel)
theorem ml_L_102 : Cond.methodLink RL 102 yL_end ∈ tw := tw_in 363 (by decide +kernel) (by decide +kernel)
theorem ml_L_25 : Cond.methodLink RL 25 yX5_end ∈ tw := tw_in 366 (by decide +kernel) (by decide +kernel)
theorem ml_X5_111 : Cond.methodLinkNest RX5 111 yX2_isEmpty "PrintKeeper" ∈ tw := tw_in 370 (by decide +kernel) (by decide +kernel)
theorem ml_X5_119 : Cond.methodLink RX5 119 yX5_keepOpenRun ∈ tw := tw_in 376 (by decide +kernel) (by decide +kernel)
theorem ml_X5_244 : Cond.methodLink RX5 244 yX5_putTogether ∈ tw := tw_in 380 (by decide +kernel) (by decide +kernel)
theorem ml_X5_248 : Cond.methodLink RX5 248 yX5_formatOn ∈ tw := tw_in 384 (by decide +kernel) (by decide +kernel)
theorem ml_X5_126 : Cond.methodLink RX5 126 yJx4a65c_get_915e3 ∈ tw := tw_in 388 (by decide +kernel) (by decide +kernel)
theorem ml_Jx4a65c_118 : Cond.methodLink RJx4a65c 118 yJ15_checkIndex_7cf53 ∈ tw := tw_in 392 (by decide +kernel) (by decide +kernel)
theorem ml_J15_105 : Cond.methodLink RJ15 105 yJ3_checkIndex_8e157 ∈ tw := tw_in 395 (by decide +kernel) (by decide +kernel)
theorem ml_Jx4a65c_123 : Cond.methodLink RJx4a65c 123 yJx4a65c_elementData_915e3 ∈ tw := tw_in 398 (by decide +kernel) (by decide +kernel)
theorem ml_X5_198 : Cond.methodLinkNest RX5 198 yX2_valueAt "PrintKeeper" ∈ tw := tw_in 402 (by decide +kernel) (by decide +kernel)
theorem ml_X2_22 : Cond.methodLink RX2 22 yX2_has ∈ tw := tw_in 406 (by decide +kernel) (by decide +kernel)
theorem ml_X5_255 : Cond.methodLink RX5 255 yX5_kindOf ∈ tw := tw_in 412 (by decide +kernel) (by decide +kernel)
theorem ml_X5_185 : Cond.methodLinkNest RX5 185 yX2_has "PrintKeeper" ∈ tw := tw_in 415 (by decide +kernel) (by decide +kernel)
theorem ml_X5_259 : Cond.methodLinkNest RX5 259 yX0_init "PrintKeeper" ∈ tw := tw_in 416 (by decide +kernel) (by decide +kernel)
theorem ml_X0_3 : Cond.methodLink RX0 3 Lib.objectInit ∈ tw := tw_in 419 (by decide +kernel) (by decide +kernel)
theorem ml_L_105 : Cond.methodLink RL 105 yL_keep ∈ tw := tw_in 445 (by decide +kernel) (by decide +kernel)
theorem ml_L_85 : Cond.methodLink RL 85 yL_at ∈ tw := tw_in 448 (by decide +kernel) (by decide +kernel)
theorem ml_L_171 : Cond.methodLink RL 171 yL_acts ∈ tw := tw_in 453 (by decide +kernel) (by decide +kernel)
theorem ml_L_109 : Cond.methodLink RL 109 yL_pass ∈ tw := tw_in 456 (by decide +kernel) (by decide +kernel)
theorem ml_L_8 : Cond.methodLink RL 8 yX5_pass ∈ tw := tw_in 459 (by decide +kernel) (by decide +kernel)
theorem ml_L_111 : Cond.methodLink RL 111 yL_format ∈ tw := tw_in 464 (by decide +kernel) (by decide +kernel)
theorem ml_L_18 : Cond.methodLink RL 18 yX5_format ∈ tw := tw_in 467 (by decide +kernel) (by decide +kernel)
theorem ml_L_114 : Cond.methodLink RL 114 yL_reprint ∈ tw := tw_in 472 (by decide +kernel) (by decide +kernel)
theorem ml_L_37 : Cond.methodLink RL 37 yX5_reprint ∈ tw := tw_in 476 (by decide +kernel) (by decide +kernel)
theorem ml_X5_122 : Cond.methodLink RX5 122 yX5_runAt ∈ tw := tw_in 480 (by decide +kernel) (by decide +kernel)
theorem ml_X5_134 : Cond.methodLink RX5 134 yX5_demandPage ∈ tw := tw_in 500 (by decide +kernel) (by decide +kernel)
theorem ml_L_116 : Cond.methodLink RL 116 yL_view ∈ tw := tw_in 504 (by decide +kernel) (by decide +kernel)
theorem ml_L_57 : Cond.methodLink RL 57 yX5_view ∈ tw := tw_in 507 (by decide +kernel) (by decide +kernel)
theorem ml_X5_164 : Cond.methodLink RX5 164 yX5_readerAt ∈ tw := tw_in 511 (by decide +kernel) (by decide +kernel)
theorem ml_L_119 : Cond.methodLink RL 119 yL_span ∈ tw := tw_in 516 (by decide +kernel) (by decide +kernel)
theorem ml_L_61 : Cond.methodLink RL 61 yX5_span ∈ tw := tw_in 519 (by decide +kernel) (by decide +kernel)
theorem ml_X5_208 : Cond.methodLink RX5 208 yX5_isKind ∈ tw := tw_in 523 (by decide +kernel) (by decide +kernel)
theorem ml_L_122 : Cond.methodLink RL 122 yL_hold ∈ tw := tw_in 528 (by decide +kernel) (by decide +kernel)
theorem ml_L_64 : Cond.methodLink RL 64 yX5_hold ∈ tw := tw_in 531 (by decide +kernel) (by decide +kernel)
theorem ml_X5_216 : Cond.methodLink RX5 216 yX5_isAccount ∈ tw := tw_in 535 (by decide +kernel) (by decide +kernel)
theorem ml_L_81 : Cond.methodLink RL 81 yL_isThere ∈ tw := tw_in 540 (by decide +kernel) (by decide +kernel)
theorem ml_L_125 : Cond.methodLink RL 125 yX5_clear ∈ tw := tw_in 543 (by decide +kernel) (by decide +kernel)
theorem ml_X5_221 : Cond.methodLink RX5 221 yX5_isOver ∈ tw := tw_in 547 (by decide +kernel) (by decide +kernel)
theorem ml_X5_224 : Cond.methodLink RX5 224 yX5_isHeld ∈ tw := tw_in 551 (by decide +kernel) (by decide +kernel)
theorem ml_L_160 : Cond.methodLink RL 160 yL_isTold ∈ tw := tw_in 555 (by decide +kernel) (by decide +kernel)
theorem ml_L_128 : Cond.methodLink RL 128 yX5_isThere ∈ tw := tw_in 558 (by decide +kernel) (by decide +kernel)
theorem ml_X5_145 : Cond.methodLink RX5 145 yX5_documentAt ∈ tw := tw_in 562 (by decide +kernel) (by decide +kernel)
theorem ml_L_131 : Cond.methodLink RL 131 yL_account ∈ tw := tw_in 567 (by decide +kernel) (by decide +kernel)
theorem ml_L_44 : Cond.methodLink RL 44 yX5_account ∈ tw := tw_in 570 (by decide +kernel) (by decide +kernel)
theorem ml_L_133 : Cond.methodLink RL 133 yX5_kind ∈ tw := tw_in 574 (by decide +kernel) (by decide +kernel)
theorem ml_L_136 : Cond.methodLink RL 136 yX5_length ∈ tw := tw_in 578 (by decide +kernel) (by decide +kernel)
theorem ml_L_139 : Cond.methodLink RL 139 yL_length ∈ tw := tw_in 582 (by decide +kernel) (by decide +kernel)
theorem ml_L_142 : Cond.methodLink RL 142 yL_pages ∈ tw := tw_in 585 (by decide +kernel) (by decide +kernel)
theorem ml_L_29 : Cond.methodLink RL 29 yX5_pages ∈ tw := tw_in 588 (by decide +kernel) (by decide +kernel)
theorem ml_L_144 : Cond.methodLink RL 144 yL_twice ∈ tw := tw_in 592 (by decide +kernel) (by decide +kernel)
theorem ml_L_34 : Cond.methodLink RL 34 yX5_twice ∈ tw := tw_in 595 (by decide +kernel) (by decide +kernel)
theorem ml_X5_130 : Cond.methodLinkNest RX5 130 yX4_isLike "PrintKeeper" ∈ tw := tw_in 599 (by decide +kernel) (by decide +kernel)
theorem ml_X4_20 : Cond.methodLink RX4 20 yJx4a65c_size_8abf5 ∈ tw := tw_in 603 (by decide +kernel) (by decide +kernel)
theorem ml_X4_24 : Cond.methodLink RX4 24 yJx4a65c_get_915e3 ∈ tw := tw_in 604 (by decide +kernel) (by decide +kernel)
theorem ml_X4_30 : Cond.methodLinkNest RX4 30 yX2_hasLinesOf "PrintKeeper" ∈ tw := tw_in 606 (by decide +kernel) (by decide +kernel)
theorem ml_X2_26 : Cond.methodLink RX2 26 yX2_valueAt ∈ tw := tw_in 610 (by decide +kernel) (by decide +kernel)
theorem ml_L_146 : Cond.methodLink RL 146 yL_copies ∈ tw := tw_in 611 (by decide +kernel) (by decide +kernel)
theorem ml_L_40 : Cond.methodLink RL 40 yX5_copies ∈ tw := tw_in 614 (by decide +kernel) (by decide +kernel)
theorem ml_X5_141 : Cond.methodLink RX5 141 yX5_pageAt ∈ tw := tw_in 618 (by decide +kernel) (by decide +kernel)
theorem ml_L_148 : Cond.methodLink RL 148 yL_sees ∈ tw := tw_in 621 (by decide +kernel) (by decide +kernel)
theorem ml_L_152 : Cond.methodLink RL 152 yL_found ∈ tw := tw_in 624 (by decide +kernel) (by decide +kernel)
theorem ml_L_47 : Cond.methodLink RL 47 yX5_found ∈ tw := tw_in 627 (by decide +kernel) (by decide +kernel)
theorem ml_X5_168 : Cond.methodLinkNest RX5 168 yX3_sees "PrintKeeper" ∈ tw := tw_in 631 (by decide +kernel) (by decide +kernel)
theorem ml_X5_172 : Cond.methodLinkNest RX5 172 yX0_fits "PrintKeeper" ∈ tw := tw_in 635 (by decide +kernel) (by decide +kernel)
theorem ml_L_155 : Cond.methodLink RL 155 yL_bundle ∈ tw := tw_in 640 (by decide +kernel) (by decide +kernel)
theorem ml_L_68 : Cond.methodLink RL 68 yX5_bundle ∈ tw := tw_in 643 (by decide +kernel) (by decide +kernel)
theorem ml_L_157 : Cond.methodLink RL 157 yL_read ∈ tw := tw_in 647 (by decide +kernel) (by decide +kernel)
theorem ml_L_51 : Cond.methodLink RL 51 yX5_read ∈ tw := tw_in 651 (by decide +kernel) (by decide +kernel)
theorem ml_X5_181 : Cond.methodLink RX5 181 yX5_pageOf ∈ tw := tw_in 655 (by decide +kernel) (by decide +kernel)
theorem kc_J8_200 : Cond.constant RJ8 200 2147483639 ∈ tw := tw_in 158 (by decide +kernel) (by decide +kernel)
theorem ml_J7_86 : Cond.methodLink RJ7 86 ⟨"java/lang/Object", "getClass", "()Ljava/lang/Class;"⟩ ∈ tw := tw_in 165 (by decide +kernel) (by decide +kernel)
theorem im_gc : Cond.instanceMethod ⟨"java/lang/Object", "getClass", "()Ljava/lang/Class;"⟩ ∈ tw := tw_in 166 (by decide +kernel) (by decide +kernel)
theorem nt_gc : Cond.native ⟨"java/lang/Object", "getClass", "()Ljava/lang/Class;"⟩ ∈ tw := tw_in 179 (by decide +kernel) (by decide +kernel)
theorem ml_J7_150 : Cond.methodLink RJ7 150 arraycopyName ∈ tw := tw_in 189 (by decide +kernel) (by decide +kernel)
theorem st_ac : Cond.static arraycopyName ∈ tw := tw_in 190 (by decide +kernel) (by decide +kernel)
theorem nt_ac : Cond.native arraycopyName ∈ tw := tw_in 191 (by decide +kernel) (by decide +kernel)
theorem kc_L_7 : Cond.constant RL 7 1205193187 ∈ tw := tw_in 234 (by decide +kernel) (by decide +kernel)
theorem kc_L_89 : Cond.constant RL 89 32768 ∈ tw := tw_in 452 (by decide +kernel) (by decide +kernel)
theorem se_gc : Cond.selects "[Ljava/lang/Object;" ⟨"java/lang/Object", "getClass", "()Ljava/lang/Class;"⟩ ⟨"java/lang/Object", "getClass", "()Ljava/lang/Class;"⟩ ∈ tw := tw_in 691 (by decide +kernel) (by decide +kernel)
theorem de_gc : Cond.declares ⟨"java/lang/Object", "getClass", "()Ljava/lang/Class;"⟩ ∈ tw := tw_in 692 (by decide +kernel) (by decide +kernel)
theorem cm_max : Cond.code Lib.Math.max.name Lib.Math.max.code 2 (some .int) ∈ tw := tw_in 157 (by decide +kernel) (by decide +kernel)
theorem sm_max : Cond.static Lib.Math.max.name ∈ tw := tw_in 156 (by decide +kernel) (by decide +kernel)
theorem cm_min : Cond.code Lib.Math.min.name Lib.Math.min.code 2 (some .int) ∈ tw := tw_in 188 (by decide +kernel) (by decide +kernel)
theorem sm_min : Cond.static Lib.Math.min.name ∈ tw := tw_in 187 (by decide +kernel) (by decide +kernel)
theorem kl_L_71 : Cond.constantLong RL 71 15 ∈ tw := tw_in 244 (by decide +kernel) (by decide +kernel)
theorem kl_L_79 : Cond.constantLong RL 79 127 ∈ tw := tw_in 451 (by decide +kernel) (by decide +kernel)
theorem kc0_w : ∀ w ∈ u_ws RJx4a65c TJx4a65c 3, w ∈ tw := by
  have h : u_ws RJx4a65c TJx4a65c 3 = ([73, 69, 71] : List Nat).filterMap (fun i => tables_1[i]?) := by decide +kernel
  have h2 : (u_ws RJx4a65c TJx4a65c 3).all okW = true := by decide +kernel
  intro w hw
  have h3 := List.all_eq_true.mp h2 w hw
  rw [h] at hw
  obtain ⟨i, -, hi⟩ := List.mem_filterMap.mp hw
  exact tw_in i hi h3
theorem kc0 : KC 0 RJx4a65c TJx4a65c 3 tyJx4a65c := ⟨rfl, kc0_w, tyJx4a65c_ok, nmJx4a65c⟩
theorem kc1_w : ∀ w ∈ u_ws RX0 TX0 6, w ∈ tw := by
  have h : u_ws RX0 TX0 6 = ([432, 434, 436, 438, 440, 442] : List Nat).filterMap (fun i => tables_1[i]?) := by decide +kernel
  have h2 : (u_ws RX0 TX0 6).all okW = true := by decide +kernel
  intro w hw
  have h3 := List.all_eq_true.mp h2 w hw
  rw [h] at hw
  obtain ⟨i, -, hi⟩ := List.mem_filterMap.mp hw
  exact tw_in i hi h3
theorem kc1 : KC 1 RX0 TX0 6 tyX0 := ⟨rfl, kc1_w, tyX0_ok, nmX0⟩
theorem kc2_w : ∀ w ∈ u_ws RX1 TX1 3, w ∈ tw := by
  have h : u_ws RX1 TX1 3 = ([43, 45, 47] : List Nat).filterMap (fun i => tables_1[i]?) := by decide +kernel
  have h2 : (u_ws RX1 TX1 3).all okW = true := by decide +kernel
  intro w hw
  have h3 := List.all_eq_true.mp h2 w hw
  rw [h] at hw
  obtain ⟨i, -, hi⟩ := List.mem_filterMap.mp hw
  exact tw_in i hi h3
theorem kc2 : KC 2 RX1 TX1 3 tyX1 := ⟨rfl, kc2_w, tyX1_ok, nmX1⟩
theorem kc3_w : ∀ w ∈ u_ws RX2 TX2 3, w ∈ tw := by
  have h : u_ws RX2 TX2 3 = ([105, 107, 109] : List Nat).filterMap (fun i => tables_1[i]?) := by decide +kernel
  have h2 : (u_ws RX2 TX2 3).all okW = true := by decide +kernel
  intro w hw
  have h3 := List.all_eq_true.mp h2 w hw
  rw [h] at hw
  obtain ⟨i, -, hi⟩ := List.mem_filterMap.mp hw
  exact tw_in i hi h3
theorem kc3 : KC 3 RX2 TX2 3 tyX2 := ⟨rfl, kc3_w, tyX2_ok, nmX2⟩
theorem kc4_w : ∀ w ∈ u_ws RX3 TX3 4, w ∈ tw := by
  have h : u_ws RX3 TX3 4 = ([126, 128, 130, 132] : List Nat).filterMap (fun i => tables_1[i]?) := by decide +kernel
  have h2 : (u_ws RX3 TX3 4).all okW = true := by decide +kernel
  intro w hw
  have h3 := List.all_eq_true.mp h2 w hw
  rw [h] at hw
  obtain ⟨i, -, hi⟩ := List.mem_filterMap.mp hw
  exact tw_in i hi h3
theorem kc4 : KC 4 RX3 TX3 4 tyX3 := ⟨rfl, kc4_w, tyX3_ok, nmX3⟩
theorem kc5_w : ∀ w ∈ u_ws RX4 TX4 2, w ∈ tw := by
  have h : u_ws RX4 TX4 2 = ([89, 91] : List Nat).filterMap (fun i => tables_1[i]?) := by decide +kernel
  have h2 : (u_ws RX4 TX4 2).all okW = true := by decide +kernel
  intro w hw
  have h3 := List.all_eq_true.mp h2 w hw
  rw [h] at hw
  obtain ⟨i, -, hi⟩ := List.mem_filterMap.mp hw
  exact tw_in i hi h3
theorem kc5 : KC 5 RX4 TX4 2 tyX4 := ⟨rfl, kc5_w, tyX4_ok, nmX4⟩
theorem kc6_w : ∀ w ∈ u_ws RX5 TX5 11, w ∈ tw := by
  have h : u_ws RX5 TX5 11 = ([208, 210, 212, 214, 216, 218, 220, 222, 224, 226, 228] : List Nat).filterMap (fun i => tables_1[i]?) := by decide +kernel
  have h2 : (u_ws RX5 TX5 11).all okW = true := by decide +kernel
  intro w hw
  have h3 := List.all_eq_true.mp h2 w hw
  rw [h] at hw
  obtain ⟨i, -, hi⟩ := List.mem_filterMap.mp hw
  exact tw_in i hi h3
theorem kc6 : KC 6 RX5 TX5 11 tyX5 := ⟨rfl, kc6_w, tyX5_ok, nmX5⟩
end
