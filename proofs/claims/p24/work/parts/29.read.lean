/-! The throw of a NoSuchElementException; read. -/
def nxS (own : String) (ic : Nat) (cls : String) (ix : Nat) (rx : ByteArray) (Y : String) (r : List String) : List Cond := (nxL own ic cls ix rx Y r).filter vx_no
section NxThrow
variable {p : Program} {l : Launch} {e : Env} {R : Room} {s : State} {m : MethodId} {args : Array Value} {below : List Frame} {meth : Method} {c : Code} {H : Heap} {locs : List Loc} {cells slots : Nat} {Q : State → Prop}
variable {mc ms : Nat} {free : Addr → Prop} {A0 A1 : Nat → Prop} {H0 : Heap} {a : Array Value} {ls : Array Slot} {st0 rest : List Value}
variable {Qc : Array Value → State → Outcome → State → Prop} {XC : String → State → State → Prop}
theorem nx_throwS {cc : ByteArray} {pc : Nat} (hexec : p.tables.exec = Jvm.exec) (hb : c.code = cc) (hl : l.stackTraces = false) {own cls text : String} {Y9 : String} {r9 : List String} {ix : Nat} {rx : ByteArray} (x0 : decode rx 0 = .ok (.aload_n 0, 1)) (x1 : decode rx 1 = .ok (.aload_n 1, 1)) (x2 : decode rx 2 = .ok (.invokespecial ix, 3)) (x5 : decode rx 5 = .ok (.return_, 1)) {ik is ic mc ms sa : Nat} {A : Nat → Prop}
    (hown : s.vm.findClass own = some m.cls) (hcls : Bundle.fit cls = true) (hY : Bundle.fit Y9 = true) (hnames : ∀ n ∈ r9, Bundle.fit n = true)
    (hk : (Cond.classLink own ik cls).before args s = true) (hini : (Cond.initialized cls).before args s = true) (hstr : vk_R own is text sa s) (hat : ∀ w ∈ nxS own ic cls ix rx Y9 r9, w.before args s = true)
    (hgood : ∀ w ∈ Cond.classLink own ik cls :: Cond.initialized cls :: nxS own ic cls ix rx Y9 r9, vx_ot w = true)
    (hU : vx_Zq Bundle.tN "UNASSIGNED_STACK" Bundle.steD A s s.heap) (hN : vx_Zq Bundle.tN "SUPPRESSED_SENTINEL" Bundle.listD A s s.heap) (hS : va_S A s.heap H locs) (hsize : ls.size = c.maxLocals)
    (d0 : decode cc pc = .ok (.new ik, 3)) (d3 : decode cc (pc + 3) = .ok (.dup, 1)) (d4 : decode cc (pc + 4) = .ok (.ldc is, 2)) (d6 : decode cc (pc + 6) = .ok (.invokespecial ic, 3)) (d9 : decode cc (pc + 9) = .ok (.athrow, 1))
    (hout : ∀ x ∈ c.exceptionTable.toList, covers x (pc + 9) = false)
    (hRframes : r9.length + 4 < R.frames) (hRlocals : (rest.map fun v => v.category).sum + (13 * (r9.length + 2) + 43) ≤ R.locals) (hRcells : cells + 1 ≤ R.cells) (hRslots : slots + 6 ≤ R.slots) (hlocks : meth.locks = false)
    (hx : ∀ t : State, s.vm.Alike t.vm → H.size ≤ t.heap.size → (∀ q : Nat, q < H.size → t.heap[q]? = H[q]?) → XC cls s t)
    (hf : ∀ z ∈ locs, free z.base) (hc : cells + 1 ≤ mc) (hs : slots + 6 ≤ ms) :
    W p l e R s m args below meth c H locs cells slots (vx_MQ below Qc XC args s mc ms free) (F0 m pc ls rest) := by
  intro T hT X
  have htr : e.platform.stackTraces = false := (show e.platform.stackTraces = l.stackTraces by rw [X.admits.platform]).trans hl
  have Y := vx_rebase X (R' := { frames := R.frames, locals := R.locals, cells := 1, slots := 6 }) (Nat.le_refl _) (Nat.le_refl _) hRcells hRslots
  obtain ⟨s', hA⟩ : ∃ z, z = (T.setVm s.vm).setFrames (.invoking m args :: below) := ⟨_, rfl⟩
  rw [← hA] at Y
  have hvm : s'.vm = s.vm := by rw [hA]; rfl
  have hhp : s'.heap = H := by rw [hA]; exact hT
  have hW0 : s.WarmedH s'.vm := by rw [hvm]; exact State.WarmedH.refl s
  have hat' : ∀ w ∈ nxS own ic cls ix rx Y9 r9, w.before args s' = true := fun w hw => vx_ot_at hW0 hvm.symm (hgood w (List.mem_cons_of_mem _ (List.mem_cons_of_mem _ hw))) (hat w hw)
  have hk' : (Cond.classLink own ik cls).before args s' = true := vx_ot_at hW0 hvm.symm (hgood _ List.mem_cons_self) hk
  have hini' : (Cond.initialized cls).before args s' = true := vx_ot_at hW0 hvm.symm (hgood _ (List.mem_cons_of_mem _ List.mem_cons_self)) hini
  have hU' : vx_Zq Bundle.tN "UNASSIGNED_STACK" Bundle.steD A s' s'.heap := by rw [hhp]; exact vx_Zq.moved hW0.alike (hU.kept hS.2.1)
  have hN' : vx_Zq Bundle.tN "SUPPRESSED_SENTINEL" Bundle.listD A s' s'.heap := by rw [hhp]; exact vx_Zq.moved hW0.alike (hN.kept hS.2.1)
  have h : ∀ w ∈ nxL own ic cls ix rx Y9 r9, w.before args s' = true := vx_own hat' (vx_isRefq hU'.1) (vx_isRefq hN'.1) hU'.2.word hN'.2.word
  have hown' : s'.vm.findClass own = some m.cls := by rw [hvm]; exact hown
  have hins : (Cond.instantiable cls 6).before args s' = true := h _ (by simp [nxL])
  obtain ⟨vm₁, cX, kX, hfX, hkX, -, -, X₁, st1⟩ := Y.newCold hexec (own := own) (C := cls) (index := ik) (n := 6) hown' hk' hins hini'
    (g := F0 m pc ls rest) rfl (by rw [hb]; exact d0) (Nat.le_refl _) (Nat.le_refl _)
  generalize hT1 : (T.setVm vm₁).pushCell { cls := cX, slots := kX.instanceTypes.map defaultValue, vm := .none } = T1 at X₁ st1
  have hcat : (Value.ref T.heap.size).category = 1 := rfl
  have hcellA : T1.heap[T.heap.size]? = some (freshCell cX kX) := by rw [← hT1]; exact State.heap_pushCell_size _ _
  have d3' : decode c.code (pc + 3) = .ok (.dup, 1) := by rw [hb]; exact d3
  have d4' : decode c.code (pc + 4) = .ok (.ldc is, 2) := by rw [hb]; exact d4
  have hstr' : vk_R own is text sa s' := vk_R.warm hW0 hstr
  obtain ⟨U, hsteps, hrun, hend, hW, hsame, ce, hce, hO⟩ := nx_ctor X₁ hexec htr (own := own) (cls := cls) (Y := Y9) (r := r9) (ic := ic) x0 x1 x2 x5 hown' hcls hY hnames h (fun x hx => nomatch hx) hfX hkX hcellA (by rw [hhp, hT]; exact Nat.le_refl _) (msg := .ref sa) rfl
    (g := { method := m, pc := pc + 6, locals := ls, stack := .ref sa :: .ref T.heap.size :: .ref T.heap.size :: rest, locked := none }) rfl hsize rfl rfl (rest := rest) rfl
    (by rw [hb]; exact d6) (by rw [hb]; exact d9) hout hRframes (by simp only [List.map_cons, List.sum_cons, hcat]; omega) hlocks
  obtain ⟨f1, f2⟩ := vx_frame hsame
  rw [hhp] at f1 f2
  have hWs : s.WarmedH U.vm := State.WarmedH.trans hW0 hW
  have hcl : s.vm.findClass cls = some ce.cls := by
    have h9 := hO.1
    rw [hvm] at h9
    exact h9
  have hall : s.sameButNew ({ U with vm := s.vm } : State) locs mc ms := by
    subst hA
    obtain ⟨e1, e2⟩ := hsame
    rw [State.setFrames_setFrames] at e1
    have h2 : (T.setVm s.vm).sameButNew ({ U with vm := s.vm } : State) [] (0 + 1) (0 + 6) := ⟨e1, e2⟩
    have h3 := X.same.trans h2
    rw [List.append_nil] at h3
    exact h3.mono hc hs
  refine ⟨U, ?_, .threw T.heap.size, hrun, hend, Or.inr ⟨T.heap.size, rfl, cls, ce, locs, hx U hWs.alike f1 (fun q hq => f2 q hq (fun z hz => nomatch hz)), hce, hO.2, hcl, hWs, hall, hf⟩⟩
  refine st1 _ ?_
  show Steps p.tables e below (T1.setTop { method := m, pc := pc + 3, locals := ls, stack := .ref T.heap.size :: rest, locked := none }) _
  jvm_step X₁.here [X₁.here.top, hexec, d3', Value.category]
  exact X₁.ldcString hexec (own := own) (text := text) (index := is) (a := sa) hown' hstr'.1 hstr'.2
    (g := { method := m, pc := pc + 4, locals := ls, stack := .ref T.heap.size :: .ref T.heap.size :: rest, locked := none }) rfl d4' _ hsteps
end NxThrow
def cNse : ByteArray := prog_27_method_4_code
theorem at_Nse : ∀ x ∈ nxS RX5 194 "java/util/NoSuchElementException" 13 cNse "java/lang/RuntimeException" ["java/lang/Exception"], x ∈ tw := by
  have h : (nxS RX5 194 "java/util/NoSuchElementException" 13 cNse "java/lang/RuntimeException" ["java/lang/Exception"]).all (fun x => tables_1.contains x && okW x) = true := by decide +kernel
  intro x hx
  have h2 := List.all_eq_true.mp h x hx
  simp only [Bool.and_eq_true] at h2
  exact tw_of (List.mem_append_right _ (List.contains_iff_mem.mp h2.1)) h2.2
section NseRow
variable {G : Gx} {R : Room} {cc : ByteArray} {C : Cx} {P : RV → Wd → Prop} {pc : Nat} {L : List (Option Value)} {st : List Value} {w : Wd} {c k : Nat}
theorem g_throwNse {Y : Yx} (d0 : decode cc pc = .ok (.new 190, 3)) (d3 : decode cc (pc + 3) = .ok (.dup, 1)) (d4 : decode cc (pc + 4) = .ok (.ldc 192, 2)) (d6 : decode cc (pc + 6) = .ok (.invokespecial 194, 3)) (d9 : decode cc (pc + 9) = .ok (.athrow, 1))
    (ho : ∀ x ∈ tableOf Y.2.2, covers x (pc + 9) = false) (hf : 5 < R.frames) (hl : (st.map fun v => v.category).sum + 82 ≤ R.locals) (hp : P (.inr "java/util/NoSuchElementException") w) (hc : c + 1 ≤ R.cells) (hk : k + 6 ≤ R.slots) : Go G R cc RX5 Y C (QP G R P C) pc L st w c k := by
  obtain ⟨p, e, s, m, args, below, meth, cd⟩ := C
  intro O H ls locs hR hS hL
  have hg := O.2.2.2.1
  obtain ⟨sa, hsa⟩ := hg.2.2.1 RX5 "the reader does not see the document" 192 (List.mem_of_getElem? (i := 668) (by decide +kernel))
  have hB : ∀ a : Nat, a < (gH G).size → ¬ gA G a → s.heap[a]? = (gH G)[a]? := fun a ha _ => O.2.2.2.2.1.2 a ha
  refine nx_throwS (A := gA G) (sa := sa) (rx := cNse) (ix := 13) (Y9 := "java/lang/RuntimeException") (r9 := ["java/lang/Exception"]) O.1 O.2.1 hg.2.2.2.2.2.2.2.2.2.2 (by decide +kernel) (by decide +kernel) (by decide +kernel) (by decide +kernel) O.2.2.1 (by decide +kernel) (by decide +kernel) (by decide +kernel) (hg.w cl_X5_190) (hg.w ini_NoSuchElementException) hsa (fun x hx => hg.w (at_Nse x hx)) (by decide +kernel) (hg.2.2.2.2.1.kept hB) (hg.2.2.2.2.2.1.kept hB) hS hL.1 d0 d3 d4 d6 d9 (by rw [O.2.2.2.2.2.2.2.1]; exact ho) hf hl hc hk O.2.2.2.2.2.2.2.2 (fun t _ hz hq => ⟨w, hp, hR.kept hq, ?_⟩) hS.2.2 hc hk
  exact ⟨Nat.le_trans hS.1 hz, fun q g1 g2 => (hq q (Nat.lt_of_lt_of_le g1 hS.1)).trans (hS.2.1 q g1 g2)⟩
end NseRow

set_option maxRecDepth 100000 in
theorem kt_read_c {G : Gx} {X : Nat → Prop} {w0 w : Wd} {S : KS} (hK : Kl G X w0 S w) {r : Nat} (hr : r < S.ln 3) (hlk : S.rd r 0 = bI (decide (r = 0))) {d : Nat} (hd : d < S.ln 2) {f n : Nat} (hf : S.dI d 0 = nI f) (hn : S.dI d 3 = nI n) (hfn : f + n ≤ S.ln (S.dR d + 4)) {g : Nat} (hg : g < n) {x : Int32} (h : hasB (nI (S.pS (S.rF (S.dR d) + (f + g)))) x = true) (hs : seeS S r d = false) : Ct G yX5_read kw_X5_read rm_X5_read [.ref (S.ad 0 0), .int (nI r), .int (nI d), .int (nI g), .int x] w (PX "java/util/NoSuchElementException" w) := by
  have hr2 : 2 < S.nn 3 := by have := hK.u3; omega
  have hd8 : d < S.nn 8 := hK.cl.el 2 d hr2 hd
  have hr5 := hK.cl.dR d hd8
  have hr53 : S.dR d + 4 < S.nn 3 := by have := hK.u3; omega
  have hp6 : S.rF (S.dR d) + (f + g) < S.nn 6 := hK.cl.el (S.dR d + 4) (f + g) hr53 (by omega)
  have hp7 := Nat.lt_of_lt_of_le hp6 hK.cl.c7
  have hr3 : 3 < S.nn 3 := by have := hK.u3; omega
  have hr9 : r < S.nn 9 := hK.cl.el 3 r hr3 hr
  have hgq := hK.g9 hr9
  rw [hlk] at hgq
  refine ct_intro RX5 "read" (by decide +kernel) rfl rfl rfl (Nat.le_of_ble_eq_true rfl) [some (.ref (S.ad 0 0)), some (.int (nI r)), some (.int (nI d)), some (.int (nI g)), some (.int x), none, none, none] rfl (fun C => ?_)
  refine g_aload0 dX5_read_0 ?_
  refine g_iload1 dX5_read_1 ?_
  refine g_callV1 kc6 (ct_rdrAt_ok hK hr) md_X5_readerAt dX5_read_2 ml_X5_164 im_X5_readerAt se_X5_readerAt hK.g0 (RmOk.of (Nat.le_of_ble_eq_true rfl) (Nat.le_of_ble_eq_true rfl) (Nat.le_of_ble_eq_true rfl) (Nat.le_of_ble_eq_true rfl) (Nat.le_of_ble_eq_true rfl)) (kr_V ?_) kx_V
  refine g_astore5 dX5_read_5 ?_
  refine g_aload0 dX5_read_7 ?_
  refine g_iload2 dX5_read_8 ?_
  refine g_callV1 kc6 (ct_docAt_ok hK hd) md_X5_documentAt dX5_read_9 ml_X5_145 im_X5_documentAt se_X5_documentAt hK.g0 (RmOk.of (Nat.le_of_ble_eq_true rfl) (Nat.le_of_ble_eq_true rfl) (Nat.le_of_ble_eq_true rfl) (Nat.le_of_ble_eq_true rfl) (Nat.le_of_ble_eq_true rfl)) (kr_V ?_) kx_V
  refine g_astore6 dX5_read_12 ?_
  refine g_aload6 dX5_read_14 ?_
  refine g_iload3 dX5_read_16 ?_
  refine g_callS2 (ct_pageOf_ok hK hd8 hf hn hfn hg) md_X5_pageOf dX5_read_17 ml_X5_181 st_X5_pageOf (RmOk.of (Nat.le_of_ble_eq_true rfl) (Nat.le_of_ble_eq_true rfl) (Nat.le_of_ble_eq_true rfl) (Nat.le_of_ble_eq_true rfl) (Nat.le_of_ble_eq_true rfl)) (kr_V ?_) kx_V
  refine g_astore7 dX5_read_20 ?_
  refine g_aload7 dX5_read_22 ?_
  refine g_iload4 dX5_read_24 ?_
  refine g_callVN1 kc3 (ct_has (hK.g6 hp6) (hK.g7 hp7)) md_X2_has dX5_read_26 ml_X5_185 im_X2_has se_X2_has (hK.g6 hp6) (RmOk.of (Nat.le_of_ble_eq_true rfl) (Nat.le_of_ble_eq_true rfl) (Nat.le_of_ble_eq_true rfl) (Nat.le_of_ble_eq_true rfl) (Nat.le_of_ble_eq_true rfl)) (kr_V ?_) kn_V
  refine g_if_ne_t (tgt := 42) dX5_read_29 (by decide) (by rw [h]; decide) ?_
  refine g_aload5 dX5_read_42 ?_
  refine g_aload6 dX5_read_44 ?_
  refine g_callVN1 kc4 (ct_csees hgq (hK.g8 hd8)) md_X3_sees dX5_read_46 ml_X5_168 im_X3_sees se_X3_sees hgq (RmOk.of (Nat.le_of_ble_eq_true rfl) (Nat.le_of_ble_eq_true rfl) (Nat.le_of_ble_eq_true rfl) (Nat.le_of_ble_eq_true rfl) (Nat.le_of_ble_eq_true rfl)) (kr_V ?_) kn_V
  refine g_if_ne_f (tgt := 62) dX5_read_49 (by decide) (by rw [show seeC (decide (r = 0)) (S.rd r 1) (S.rd r 2) (S.dI d 1) (S.dI d 4) = false from hs]; decide) ?_
  refine g_throwNse dX5_read_52 dX5_read_55 dX5_read_56 dX5_read_58 dX5_read_61 (fun _ h => nomatch h) (Nat.le_of_ble_eq_true rfl) (Nat.le_of_ble_eq_true rfl) ?_ (Nat.le_of_ble_eq_true rfl) (Nat.le_of_ble_eq_true rfl)
  exact ⟨rfl, rfl⟩

