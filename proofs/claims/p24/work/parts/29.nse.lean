/-! NoSuchElementException: its constructor names the one above at another place of its pool; the throw. -/
def nxL (own : String) (ic : Nat) (cls : String) (ix : Nat) (rx : ByteArray) (Y : String) (r : List String) : List Cond :=
  Bundle.throwableAtoms ++ (Bundle.throwableSAtoms ++ (Bundle.passSAtoms cls Y ix rx ++ (Bundle.chainSAtoms Y r ++
  [.methodLink own ic (Bundle.initS cls), .castable cls cls, .instantiable cls 6, .isRef (.static Bundle.tN "UNASSIGNED_STACK" Bundle.steD), .isRef (.static Bundle.tN "SUPPRESSED_SENTINEL" Bundle.listD),
   .selects cls Bundle.tFill0 Bundle.tFill0, .selects cls Bundle.tFill Bundle.tFill, .fieldLink Bundle.tN 198 Bundle.tN "backtrace" "Ljava/lang/Object;", .lays Bundle.tN Bundle.tN "backtrace" "Ljava/lang/Object;",
   .lays cls Bundle.tN "backtrace" "Ljava/lang/Object;", .lays cls Bundle.tN "cause" "Ljava/lang/Throwable;", .lays cls Bundle.tN "stackTrace" Bundle.steD, .lays cls Bundle.tN "suppressedExceptions" Bundle.listD, .lays cls Bundle.tN "detailMessage" "Ljava/lang/String;"])))
section NxCtor
variable {p : Program} {l : Launch} {e : Env} {R : Room} {s : State} {m₀ : MethodId} {args : Array Value} {below : List Frame} {meth : Method} {c : Code} {W : State} {locs : List Loc} {cells slots : Nat}
/-- which method a virtual call of a Throwable's own takes -/
theorem nx_sel {cls : String} {k : ClassId} {y : MethodName} {m : MethodId} (hadm : selectMethod e.platform s.vm k m = selectMethod ({} : Platform) s.vm k m ∨ True) (X : Stand p l e R s m₀ args below meth c W locs cells slots) (hk : s.vm.findClass cls = some k) (hm : s.methodNamed? y = some m) (hy : y.cls ≠ "java/lang/invoke/MethodHandle" ∧ y.cls ≠ "java/lang/invoke/VarHandle") (h : (Cond.selects cls y y).before args s = true) : selectMethod e.platform s.vm k m = .method m := by
  obtain ⟨k2, r2, m2, e1, e2, e3, e4, -⟩ := Cond.selects_spec (show (Cond.selects cls y y).holds args s none s [] = true from h)
  cases Option.some.inj (e1.symm.trans hk)
  cases Option.some.inj (e2.symm.trans (State.methodFound?_of_named hm hy))
  cases Option.some.inj (e3.symm.trans hm)
  rw [Launch.admits_selectMethod X.admits]
  exact e4
set_option maxHeartbeats 2000000 in
theorem nx_ctor (X : Stand p l e R s m₀ args below meth c W locs cells slots) (hexec : p.tables.exec = Jvm.exec) (htr : e.platform.stackTraces = false) {own cls Y : String} {r : List String} {ic ix : Nat} {rx : ByteArray}
    (x0 : decode rx 0 = .ok (.aload_n 0, 1)) (x1 : decode rx 1 = .ok (.aload_n 1, 1)) (x2 : decode rx 2 = .ok (.invokespecial ix, 3)) (x5 : decode rx 5 = .ok (.return_, 1))
    (hown : s.vm.findClass own = some m₀.cls) (hcls : Bundle.fit cls = true) (hY : Bundle.fit Y = true) (hr : ∀ n ∈ r, Bundle.fit n = true) (h : ∀ w ∈ nxL own ic cls ix rx Y r, w.before args s = true)
    (hlocs : ∀ x ∈ locs, ∀ cell, s.heap[x.base]? = some cell → cell.vm.isStatics = false)
    {a : Addr} {cX : ClassId} {kX : Class} (hfX : s.vm.findClass cls = some cX) (hkX : s.vm.classes[cX]? = some kX) (hcell : W.heap[a]? = some (freshCell cX kX)) (hnew : s.heap.size ≤ a) {msg : Value} (hmsg : msg.isRef = true)
    {g : JFrame} (hg : g.method = m₀) (hsize : g.locals.size = c.maxLocals) (hlocked : g.locked = none) (hentered : g.entered = []) {rest : List Value} (hstack : g.stack = msg :: .ref a :: .ref a :: rest)
    (hd6 : decode c.code g.pc = .ok (.invokespecial ic, 3)) (hd9 : decode c.code (g.pc + 3) = .ok (.athrow, 1)) (hout : ∀ x ∈ c.exceptionTable.toList, covers x (g.pc + 3) = false)
    (hRf : r.length + 4 < R.frames) (hRl : 2 * g.monitorRoom + ((Value.ref a :: rest).map fun v => v.category).sum + (13 * (r.length + 2) + 42) ≤ R.locals) (hlocks : meth.locks = false) :
    ∃ U : State, Steps p.tables e below (W.setTop g) U ∧ U.status = .running ∧ Ended U below (.threw a) ∧ s.WarmedH U.vm ∧ s.sameButNew ({ U with vm := s.vm } : State) locs cells slots ∧ ∃ ce, U.heap[a]? = some ce ∧ s.vm.findClass cls = some ce.cls ∧ ce.vm = .none := by
  have hpl : e.platform.magicAccessors = ({} : Platform).magicAccessors := by rw [X.admits.platform]
  have hin : ∀ w, w ∈ nxL own ic cls ix rx Y r → w.holds args s none s [] = true := fun w hw => h w hw
  -- the classes above
  obtain ⟨T, Z0, LT, -, FT⟩ := ThrowableC.of_atoms (args := args) (by rw [X.admits.platform]) (by rw [X.admits.platform]) hpl (fun w hw => h w (List.mem_append_left _ hw))
  obtain ⟨Z, M, LZ, LM, hnZ⟩ := Init0T.ofS_atoms (args := args) hpl LT FT (fun w hw => h w (List.mem_append_right _ (List.mem_append_left _ hw)))
  obtain ⟨Q1, Qs, hlen, LQ, LQs, hQ1, hl1, hl2⟩ := Bundle.chainS (args := args) hpl hnZ r Y hY hr (fun w hw => h w (List.mem_append_right _ (List.mem_append_right _ (List.mem_append_right _ (List.mem_append_left _ hw)))))
  obtain ⟨P1, LP, hPm, hPs⟩ := PassC.ofS_atoms (args := args) (s := s) hpl (X := cls) (Y := Y) (Bundle.fit_spec hcls).1 (Bundle.fit_spec hY).2 x0 x1 x2 x5 (fun w hw => h w (List.mem_append_right _ (List.mem_append_right _ (List.mem_append_left _ hw))))
  have hPl : P1.sup = Q1.m := Option.some.inj (hPs.symm.trans hQ1)
  have hfd : s.vm.findClass cls = some P1.m.cls := findClass_of_methodNamed hPm
  cases Option.some.inj (hfX.symm.trans hfd)
  obtain ⟨c1, k1, hc1, hk1, hord, -, -, hn6⟩ := Cond.instantiable_spec (hin (.instantiable cls 6) (by simp [nxL]))
  cases Option.some.inj (hc1.symm.trans hfd)
  cases Option.some.inj (hkX.symm.trans hk1)
  have hs0 := nx_sel (Or.inr trivial) X hfd FT.fill0 (by decide) (h _ (by simp [nxL]))
  have hs1 := nx_sel (Or.inr trivial) X hfd FT.fill (by decide) (h _ (by simp [nxL]))
  -- the two statics
  obtain ⟨cS0, hcS0, hiss⟩ := FT.statics
  obtain ⟨u0, hu0⟩ := Cond.staticRefV FT.unassigned LT.unassignedStatic LT.statics hcS0 hiss (hin (.isRef (.static Bundle.tN "UNASSIGNED_STACK" Bundle.steD)) (by simp [nxL]))
  obtain ⟨sen, hsen⟩ := Cond.staticRefV FT.sentinel LT.sentinelStatic LT.statics hcS0 hiss (hin (.isRef (.static Bundle.tN "SUPPRESSED_SENTINEL" Bundle.listD)) (by simp [nxL]))
  obtain ⟨ciB, iB, fB, k198, g198, a198, sB, -, nB, tB, ffB⟩ := Cond.ownField (t := .object "java/lang/Object") FT.found LT.cls (by decide +kernel) (hin (.fieldLink Bundle.tN 198 Bundle.tN "backtrace" "Ljava/lang/Object;") (by simp [nxL])) (hin (.lays Bundle.tN Bundle.tN "backtrace" "Ljava/lang/Object;") (by simp [nxL])) e.platform hpl
  obtain ⟨cS, hcS, heS, -, hkeep⟩ := X.same.2.2.2.2.2 T.aS cS0 hcS0
  have hfar : ∀ i, (⟨T.aS, i⟩ : Loc) ∉ locs := fun i hm => by
    have h9 := hlocs _ hm cS0 hcS0
    rw [hiss] at h9; cases h9
  have hknown : cS.vm ≠ .unknown := by
    rw [heS]; intro hu
    rw [show cS0.vm = .unknown from hu] at hiss
    cases hiss
  have hSa : T.aS ≠ a := Nat.ne_of_lt (Nat.lt_of_lt_of_le (Array.getElem?_eq_some_iff.mp hcS0).1 hnew)
  -- the fields' places
  obtain ⟨iM, ffM⟩ := FT.msg
  obtain ⟨yC, jC, dC, nC⟩ := Cond.laysAt hfd hk1 FT.cause (hin (.lays cls Bundle.tN "cause" "Ljava/lang/Throwable;") (by simp [nxL]))
  obtain ⟨yS, jS, dS, nS⟩ := Cond.laysAt hfd hk1 FT.stack (hin (.lays cls Bundle.tN "stackTrace" Bundle.steD) (by simp [nxL]))
  obtain ⟨yP, jP, dP, nP⟩ := Cond.laysAt hfd hk1 FT.supp (hin (.lays cls Bundle.tN "suppressedExceptions" Bundle.listD) (by simp [nxL]))
  obtain ⟨yM, jM, dM, nM⟩ := Cond.laysAt hfd hk1 ffM (hin (.lays cls Bundle.tN "detailMessage" "Ljava/lang/String;") (by simp [nxL]))
  obtain ⟨yB, jB, dB, nBd⟩ := Cond.laysAt hfd hk1 ffB (hin (.lays cls Bundle.tN "backtrace" "Ljava/lang/Object;") (by simp [nxL]))
  have bC := Cond.laysApart dB dC nBd nC (by rw [nB, FT.causeName]; decide)
  have bS := Cond.laysApart dB dS nBd nS (by rw [nB, FT.stackName]; decide)
  have bP := Cond.laysApart dB dP nBd nP (by rw [nB, FT.suppName]; decide)
  have hskip : SkipFacts T e.platform s (fun u => u) u0 ((preparedCellV T.toThrowableT (freshCell P1.m.cls kX) a u0 sen).withEntry W.cur) := by
    refine ⟨{ ci198 := ciB, i198 := iB, fBack := fB }, ⟨k198, g198, a198, sB⟩, ?_, fun _ _ => rfl⟩
    have h9 := fresh_default (c := P1.m.cls) yB
    rw [tB] at h9
    simpa [preparedCellV, Cell.setSlot, Cell.withEntry, Array.getElem?_setIfInBounds, bC, bS, bP, bC.symm, bS.symm, bP.symm, defaultValue] using h9
  -- the call, the constructors, the throw
  obtain ⟨tm, m1, cd, k2, vm₁, hn1, -, -, -, -, -, -, -, hW₁, st1⟩ := Steps.initColdS (tb := p.tables) (e := e) (below := below) (s := s) (U := W) X.here hexec X.warmed hpl hown (t := Bundle.initS cls) rfl rfl (Bundle.fit_spec hcls).2
    (h (.methodLink own ic (Bundle.initS cls)) (by simp [nxL])) (h (.instanceMethod (Bundle.initS cls)) (by simp [nxL, Bundle.passSAtoms])) (bytes := rx) (maxL := 2) (h (.code (Bundle.initS cls) rx 2 none) (by simp [nxL, Bundle.passSAtoms]))
    (f := g) hg (a := a) (msg := msg) (rest := .ref a :: rest) hstack hd6
  cases Option.some.inj (hn1.symm.trans hPm)
  have X₁ := X.noted hW₁
  obtain ⟨vm₂, X₂, st2⟩ := X₁.ctorMessageOffV hexec (g := { g with stack := .ref a :: rest }) hg hsize T LT Z LZ M LM (P1 :: Q1 :: Qs)
    (fun P hP => by
      rcases List.mem_cons.mp hP with rfl | hP
      · exact LP
      · rcases List.mem_cons.mp hP with rfl | hP
        · exact LQ
        · exact LQs P hP) ⟨hPl, hl1, hl2⟩ (u0 := u0) (sen := sen) (self := a) hmsg (cell := freshCell P1.m.cls kX) (cellS := cS)
    hcell (fun _ => by simp) (by simp) rfl rfl hs0 hs1 hcS hSa hknown (by rw [hkeep _ (hfar _)]; exact hu0) (by rw [hkeep _ (hfar _)]; exact hsen)
    (Takes.of_laid hk1 hord yC (by rw [FT.causeType]; rfl)) (Takes.of_laid hk1 hord yS (by rw [FT.stackType]; exact fits_refV_array _ u0)) (Takes.of_laid hk1 hord yP (by rw [FT.suppType]; exact fits_refV_object _ sen))
    (Takes.of_laid hk1 hord yM (by rw [FT.msgType]; exact fits_refV_object _ ⟨msg, hmsg⟩)) FT.objLocals hskip htr [] hd6
    (by simp only [List.length_cons, hlen]; omega) (by simp only [List.length_cons, hlen]; exact hRl)
  obtain ⟨hwalk, hrun, hended, hWU, hsame⟩ := X₂.athrowLeaves hexec (g := { g with stack := .ref a :: rest, pc := g.pc + 3 }) hg hlocked hentered hout (a := a) (rest := rest) rfl hd9
  have hlt : a < ((W.setVm vm₁).setVm vm₂).heap.size := (Array.getElem?_eq_some_iff.mp hcell).1
  have hU := heapAt_setCell_self (s := (W.setVm vm₁).setVm vm₂) (plainBareV T.toThrowableT (freshCell P1.m.cls kX) a u0 sen msg) hlt
  refine ⟨_, st1 _ (fun acts => ?_), hrun, hended, hWU, hsame.weaken (fun y hy hb => ?_) (Nat.le_refl _) (Nat.le_refl _), _, hU, hfd, rfl⟩
  · rw [doInvoke_state]
    exact st2 _ hwalk
  · rcases List.mem_append.mp hy with z | z
    · exact z
    · exfalso
      have hya : y.base = a := by
        simp only [List.mem_cons, List.not_mem_nil, or_false] at z
        rcases z with rfl | rfl | rfl | rfl | rfl <;> rfl
      rw [hya] at hb
      exact Nat.not_lt.mpr hnew hb
end NxCtor
