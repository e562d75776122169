/-! Contracts over a world; calls, returns, throws, handlers. -/
/-- what a method gives back: a value (or none), or the class of what it throws -/
abbrev RV : Type := Option Value ⊕ String
def Pc0 (G : Gx) (As : List Value) (w : Wd) : Array Value → State → Prop := fun v U => v = As.toArray ∧ GK G U ∧ BaseOk G U.heap ∧ Rel G w U.heap
def Qc0 (G : Gx) (P : RV → Wd → Prop) : Array Value → State → Outcome → State → Prop := fun _ st o t => ∃ (v : Option Value) (w' : Wd), o = .returned v ∧ P (.inl v) w' ∧ Rel G w' t.heap ∧ va_F (gA G) st t
def Xc0 (G : Gx) (P : RV → Wd → Prop) : String → State → State → Prop := fun E st t => ∃ w' : Wd, P (.inr E) w' ∧ Rel G w' t.heap ∧ va_F (gA G) st t
def Ct (G : Gx) (y : MethodName) (cw : Cond) (rm : Room) (As : List Value) (w : Wd) (P : RV → Wd → Prop) : Prop := vx_Met G.1 y [cw] rm (Pc0 G As w) (Qc0 G P) (Xc0 G P) rm.cells rm.slots (gA G)
theorem Ct.mono {G : Gx} {y : MethodName} {cw : Cond} {rm : Room} {As : List Value} {w : Wd} {P P' : RV → Wd → Prop} (h : Ct G y cw rm As w P) (hp : ∀ r w', P r w' → P' r w') : Ct G y cw rm As w P' := by
  intro p e ha hc hk s m args below hf happ hP hK
  obtain ⟨n, o, h1, h2, h3, h4⟩ := h p e ha hc hk s m args below hf happ hP hK
  refine ⟨n, o, h1, h2, h3, ?_⟩
  rcases h4 with ⟨⟨v, w', g1, g2, g3⟩, g4⟩ | ⟨q, g1, E, ce, Lc, ⟨w', g2, g3⟩, g4⟩
  · exact Or.inl ⟨⟨v, w', g1, hp _ _ g2, g3⟩, g4⟩
  · exact Or.inr ⟨q, g1, E, ce, Lc, ⟨w', hp _ _ g2, g3⟩, g4⟩
theorem Pc0.blind {G : Gx} {As : List Value} {w : Wd} : FrameBlind (Pc0 G As w) := fun a U g mk h => ⟨h.1, GK.warm (s := U) (State.WarmedH.refl U) h.2.1, h.2.2.1, h.2.2.2⟩
theorem Ct.met {G : Gx} {y : MethodName} {cw : Cond} {rm : Room} {As : List Value} {w : Wd} {P : RV → Wd → Prop} (h : Ct G y cw rm As w P) (hx : ∀ E w', ¬ P (.inr E) w') : Met G.1 y [cw] rm (Pc0 G As w) (Qc0 G P) rm.cells rm.slots (gA G) := by
  intro p e ha hc hk s m args below hf happ hP hK
  obtain ⟨n, o, h1, h2, h3, h4⟩ := h p e ha hc hk s m args below hf happ hP hK
  refine ⟨n, o, h1, h2, h3, ?_⟩
  rcases h4 with h4 | ⟨q, g1, E, ce, Lc, ⟨w', g2, g3⟩, g4⟩
  · exact h4
  · exact absurd g2 (hx _ _)
def QP (G : Gx) (rm : Room) (P : RV → Wd → Prop) : Cx → State → Prop
  | (_, _, s, _, args, below, _, _) => vx_MQ below (Qc0 G P) (Xc0 G P) args s rm.cells rm.slots (gA G)
theorem lv_args1 {As : List Value} (hc : ∀ v ∈ As, v.category = 1) : ∀ (n i : Nat) (v : Value), As[i]? = some v → (n + i, v) ∈ lv_args n As := by
  induction As with
  | nil => intro n i v h; cases h
  | cons a As ih =>
    intro n i v h
    have ha : ¬ a.category = 2 := by rw [hc a List.mem_cons_self]; decide
    cases i with
    | zero => cases h; exact List.mem_cons_self
    | succ i =>
      have h2 := ih (fun v hv => hc v (List.mem_cons_of_mem _ hv)) (n + 1) i v h
      show (n + (i + 1), v) ∈ (n, a) :: lv_args (if a.category = 2 then n + 2 else n + 1) As
      rw [if_neg ha]
      refine List.mem_cons_of_mem _ ?_
      rw [show n + (i + 1) = n + 1 + i by omega]
      exact h2
theorem lg_sl1 {As : List Value} (hc : ∀ v ∈ As, v.category = 1) : (lg_sl As).length = As.length := by
  induction As with
  | nil => rfl
  | cons a As ih =>
    have ha := hc a List.mem_cons_self
    have h2 := ih (fun v hv => hc v (List.mem_cons_of_mem _ hv))
    unfold lg_sl at h2 ⊢
    rw [List.flatMap_cons, List.length_append, h2]
    cases a <;> simp_all [Value.category] <;> omega
theorem entry_LV {cd : Code} {m : MethodId} {As : List Value} {maxL : Nat} {L0 : List (Option Value)} (hml : cd.maxLocals = maxL) (hcat : ∀ v ∈ As, v.category = 1) (hle : As.length ≤ maxL) (hL0 : L0 = As.map some ++ List.replicate (maxL - As.length) none) :
    ∃ ls : Array Slot, entryFrame m As.toArray maxL = F0 m 0 ls [] ∧ LV cd ls L0 := by
  have h := lv_entry As (n := maxL) (by rw [lg_sl1 hcat]; exact hle)
  refine ⟨_, lg_entry_eq m As maxL, h.1.trans hml.symm, h.2.1, ?_, ?_⟩
  · rw [h.1, hL0, List.length_append, List.length_map, List.length_replicate]; omega
  · intro i v hi _
    rw [hL0] at hi
    have hi2 : As[i]? = some v := by
      by_cases hlt : i < As.length
      · rw [List.getElem?_append_left (by rw [List.length_map]; exact hlt), List.getElem?_map] at hi
        cases hA : As[i]? with
        | none => rw [hA] at hi; cases hi
        | some u => rw [hA] at hi; cases hi; rfl
      · rw [List.getElem?_append_right (by rw [List.length_map]; omega)] at hi
        have := List.eq_of_mem_replicate (List.mem_of_getElem? hi)
        cases this
    refine h.2.2 (i, v) ?_
    have := lv_args1 hcat 0 i v hi2
    rwa [Nat.zero_add] at this
theorem entry_LVL {cd : Code} {m : MethodId} {As : List Value} {maxL : Nat} {L0 : List (Option Value)} (hml : cd.maxLocals = maxL) (hle : (lg_sl As).length ≤ maxL) (hlen : L0.length ≤ maxL) (hq : ∀ i v, L0[i]? = some (some v) → (i, v) ∈ lv_args 0 As) :
    ∃ ls : Array Slot, entryFrame m As.toArray maxL = F0 m 0 ls [] ∧ LV cd ls L0 := by
  have h := lv_entry As (n := maxL) hle
  exact ⟨_, lg_entry_eq m As maxL, h.1.trans hml.symm, h.2.1, by rw [h.1]; exact hlen, fun i v hi _ => h.2.2 (i, v) (hq i v hi)⟩
/-- a contract out of a walk: a method without a table of handlers -/
theorem ct_intro {G : Gx} {y : MethodName} {cc : ByteArray} {maxL : Nat} {ret : Option FieldType} {rm : Room} {As : List Value} {w : Wd} {P : RV → Wd → Prop} (own nm : String) (hy : plainName y.cls = true) (ho : y.cls = own) (hn : y.name = nm) (hcat : As.all (fun v => v.category == 1) = true) (hle : As.length ≤ maxL)
    (L0 : List (Option Value)) (hL0 : L0 = As.map some ++ List.replicate (maxL - As.length) none) (body : ∀ C : Cx, Go G rm cc own (ret, nm, []) C (QP G rm P C) 0 L0 [] w 0 0) : Ct G y (.code y cc maxL ret) rm As w P := by
  refine vx_ofW (cc := cc) (maxL := maxL) (ret := ret) hy rfl ?_
  intro p e s m args below meth c s₁ B hml htb hP
  obtain ⟨rfl, hGK, hBO, hR⟩ := hP
  obtain ⟨ls, e1, hL⟩ := entry_LV (cd := c) (m := m) hml (fun v hv => by simpa using List.all_eq_true.mp hcat v hv) hle hL0
  rw [e1]
  have htab : c.exceptionTable.toList = tableOf [] := by
    cases hx : c.exceptionTable.toList with
    | nil => rfl
    | cons x xs => exact absurd (htb x (by rw [hx]; exact List.mem_cons_self)) id
  exact body (p, e, s, m, As.toArray, below, meth, c) ⟨B.exec, B.bytes, ho ▸ findClass_of_methodNamed B.named, hGK, hBO, B.returns, ((name_of_methodNamed B.named B.method).1).trans hn, htab, B.notSynchronized⟩ s.heap ls [] hR va_S.rf hL
/-- .. with long arguments -/
theorem ct_introL {G : Gx} {y : MethodName} {cc : ByteArray} {maxL : Nat} {ret : Option FieldType} {rm : Room} {As : List Value} {w : Wd} {P : RV → Wd → Prop} (own nm : String) (hy : plainName y.cls = true) (ho : y.cls = own) (hn : y.name = nm) (hle : (lg_sl As).length ≤ maxL)
    (L0 : List (Option Value)) (hlen : L0.length ≤ maxL) (hq : ∀ i v, L0[i]? = some (some v) → (i, v) ∈ lv_args 0 As) (body : ∀ C : Cx, Go G rm cc own (ret, nm, []) C (QP G rm P C) 0 L0 [] w 0 0) : Ct G y (.code y cc maxL ret) rm As w P := by
  refine vx_ofW (cc := cc) (maxL := maxL) (ret := ret) hy rfl ?_
  intro p e s m args below meth c s₁ B hml htb hP
  obtain ⟨rfl, hGK, hBO, hR⟩ := hP
  obtain ⟨ls, e1, hL⟩ := entry_LVL (cd := c) (m := m) hml hle hlen hq
  rw [e1]
  have htab : c.exceptionTable.toList = tableOf [] := by
    cases hx : c.exceptionTable.toList with
    | nil => rfl
    | cons x xs => exact absurd (htb x (by rw [hx]; exact List.mem_cons_self)) id
  exact body (p, e, s, m, As.toArray, below, meth, c) ⟨B.exec, B.bytes, ho ▸ findClass_of_methodNamed B.named, hGK, hBO, B.returns, ((name_of_methodNamed B.named B.method).1).trans hn, htab, B.notSynchronized⟩ s.heap ls [] hR va_S.rf hL
/-- .. with a table of handlers -/
theorem ct_introW {G : Gx} {y : MethodName} {cc : ByteArray} {maxL : Nat} {ret : Option FieldType} {hh : List (Nat × Nat × Nat × Nat)} {rm : Room} {As : List Value} {w : Wd} {P : RV → Wd → Prop} (own nm : String) (hy : plainName y.cls = true) (ho : y.cls = own) (hn : y.name = nm) (hcat : As.all (fun v => v.category == 1) = true) (hle : As.length ≤ maxL)
    (L0 : List (Option Value)) (hL0 : L0 = As.map some ++ List.replicate (maxL - As.length) none) (body : ∀ C : Cx, Go G rm cc own (ret, nm, hh) C (QP G rm P C) 0 L0 [] w 0 0) : Ct G y (.codeWith y cc maxL ret hh) rm As w P := by
  refine vx_ofWH (cc := cc) (maxL := maxL) (ret := ret) hy rfl ?_
  intro p e s m args below meth c s₁ B hml hP
  obtain ⟨rfl, hGK, hBO, hR⟩ := hP
  obtain ⟨ls, e1, hL⟩ := entry_LV (cd := c) (m := m) hml (fun v hv => by simpa using List.all_eq_true.mp hcat v hv) hle hL0
  rw [e1]
  have hts := atoms_spec (ws := [Cond.codeWith y cc maxL ret hh]) B.pre
  have htab : c.exceptionTable.toList = tableOf hh := vx_table (x := y) B (hts _ List.mem_cons_self)
  exact body (p, e, s, m, As.toArray, below, meth, c) ⟨B.exec, B.bytes, ho ▸ findClass_of_methodNamed B.named, hGK, hBO, B.returns, ((name_of_methodNamed B.named B.method).1).trans hn, htab, B.notSynchronized⟩ s.heap ls [] hR va_S.rf hL
/-- an exception of class E over the method's frame at pc -/
def GoX (G : Gx) (R : Room) (cc : ByteArray) (own : String) (Y : Yx) : Cx → (State → Prop) → Nat → List (Option Value) → Wd → Nat → Nat → String → Prop
  | (p, e, s, m, args, below, meth, cd), Q, pc, L, w, c, k, E => Okk G cc own Y p s m meth cd → ∀ (H : Heap) (ls : Array Slot) (locs : List Loc) (q : Addr) (ce : Cell) (st : List Value), Rel G w H → va_S (gA G) s.heap H locs → LV cd ls L →
      H[q]? = some ce → ce.vm = .none → s.vm.findClass E = some ce.cls → vx_W p G.1 e R s m args below meth cd H locs c k Q (F0 m pc ls st) q
/-- a method that can be called: its code, and what its name says -/
def MD (y : MethodName) (cw : Cond) (n : Nat) : Prop := cw ∈ tw ∧ Cond.initialized y.cls ∈ tw ∧ (y.cls ≠ "java/lang/invoke/MethodHandle" ∧ y.cls ≠ "java/lang/invoke/VarHandle") ∧ (parseMethodDescriptor y.desc).map (fun d => d.parameters.length) = some n
section CallRows
variable {G : Gx} {R : Room} {cc : ByteArray} {own : String} {Y : Yx} {C : Cx} {Q : State → Prop} {pc : Nat} {L : List (Option Value)} {st : List Value} {w : Wd} {c k : Nat}
theorem run_go {p : Program} {e : Env} {s : State} {m : MethodId} {args : Array Value} {below : List Frame} {meth : Method} {cd : Code} {H : Heap} {locs : List Loc} {ls : Array Slot} {rm : Room} {P : RV → Wd → Prop} {S : List Value} {a : Array Value}
    (O : Okk G cc own Y p s m meth cd) (hS : va_S (gA G) s.heap H locs) (hL : LV cd ls L)
    (hr : vx_Run p G.1 e R s m args below meth cd H locs c k rm.cells rm.slots (F0 m pc ls S) st (Qc0 G P a) (Xc0 G P) (gA G))
    (kr : ∀ v w', P (.inl v) w' → Go G R cc own Y (p, e, s, m, args, below, meth, cd) Q (pc + 3) L (v.toList ++ st) w' (c + rm.cells) (k + rm.slots))
    (kx : ∀ E w', P (.inr E) w' → GoX G R cc own Y (p, e, s, m, args, below, meth, cd) Q pc L w' (c + rm.cells) (k + rm.slots) E) : W p G.1 e R s m args below meth cd H locs c k Q (F0 m pc ls S) := by
  intro T hT X
  rcases hr T hT X with ⟨v, st₀, t, T', Lc, h0, X', hL', e1, e2, ⟨v', w', hv, hp, hR', hF⟩, stp⟩ | ⟨q, st₀, t, T', Lc, E, ce, h0, X', hL', e1, e2, ⟨w', hp, hR', hF⟩, hce, hcv, hcl, stp⟩
  · cases hv
    obtain ⟨k1, k2, k3⟩ := vx_keep h0 e1 hS (fun _ _ z => z) (fun _ z => z) hL' hF
    obtain ⟨t2, a1, b1⟩ := kr v w' hp O T'.heap ls (locs ++ Lc) (by rw [e1]; exact hR') k3 hL T' rfl X'
    exact ⟨t2, stp t2 a1, b1⟩
  · obtain ⟨k1, k2, k3⟩ := vx_keep h0 e1 hS (fun _ _ z => z) (fun _ z => z) hL' hF
    obtain ⟨t2, a1, b1⟩ := kx E w' hp O T'.heap ls (locs ++ Lc) q ce st (by rw [e1]; exact hR') k3 hL (by rw [e1]; exact hce) hcv hcl T' rfl X'
    exact ⟨t2, stp.trans a1, b1⟩
theorem run_goN {p : Program} {e : Env} {s : State} {m : MethodId} {args : Array Value} {below : List Frame} {meth : Method} {cd : Code} {H : Heap} {locs : List Loc} {ls : Array Slot} {rm : Room} {P : RV → Wd → Prop} {S : List Value} {a : Array Value}
    (O : Okk G cc own Y p s m meth cd) (hS : va_S (gA G) s.heap H locs) (hL : LV cd ls L)
    (hr : va_Run p G.1 e R s m args below meth cd H locs c k rm.cells rm.slots (F0 m pc ls S) st (Qc0 G P a) (gA G))
    (kr : ∀ v w', P (.inl v) w' → Go G R cc own Y (p, e, s, m, args, below, meth, cd) Q (pc + 3) L (v.toList ++ st) w' (c + rm.cells) (k + rm.slots)) : W p G.1 e R s m args below meth cd H locs c k Q (F0 m pc ls S) := by
  intro T hT X
  obtain ⟨v, st₀, t, T', Lc, h0, X', hL', e1, e2, ⟨v', w', hv, hp, hR', hF⟩, stp⟩ := hr T hT X
  cases hv
  obtain ⟨k1, k2, k3⟩ := vx_keep h0 e1 hS (fun _ _ z => z) (fun _ z => z) hL' hF
  obtain ⟨t2, a1, b1⟩ := kr v w' hp O T'.heap ls (locs ++ Lc) (by rw [e1]; exact hR') k3 hL T' rfl X'
  exact ⟨t2, stp t2 a1, b1⟩
theorem pc0_at {p : Program} {s U : State} {m : MethodId} {meth : Method} {cd : Code} {H : Heap} {locs : List Loc} {As : List Value} (O : Okk G cc own Y p s m meth cd) (hR : Rel G w H) (hS : va_S (gA G) s.heap H locs) (hU : U.heap = H) (hW : s.WarmedH U.vm) : Pc0 G As w As.toArray U := by
  refine ⟨rfl, O.2.2.2.1.warm hW, ⟨?_, fun q hq => ?_⟩, by rw [hU]; exact hR⟩
  · rw [hU]; exact Nat.le_trans O.2.2.2.2.1.1 hS.1
  · rw [hU, hS.2.1 q (Nat.lt_of_lt_of_le hq O.2.2.2.2.1.1) (by show ¬ (gH G).size ≤ q; omega)]
    exact O.2.2.2.2.1.2 q hq
theorem ws_at {p : Program} {s : State} {m : MethodId} {meth : Method} {cd : Code} {cw : Cond} (O : Okk G cc own Y p s m meth cd) (hc : cw ∈ tw) : ∀ x ∈ [cw], ∀ (a' : Array Value) (U : State), s.WarmedH U.vm → x.before a' U = true := by
  intro x hx a' U hW
  rw [List.mem_singleton.mp hx]
  exact okW_at hW (List.mem_filter.mp hc).2 (O.2.2.2.1.w (a := #[]) hc)
theorem len_of {y : MethodName} {n : Nat} (h2 : (parseMethodDescriptor y.desc).map (fun d => d.parameters.length) = some n) : ∀ sig, parseMethodDescriptor y.desc = some sig → n = sig.parameters.length := by
  intro sig h
  rw [h] at h2
  exact (Option.some.inj h2).symm
theorem recv_at {p : Program} {s : State} {m : MethodId} {meth : Method} {cd : Code} {H : Heap} {ci N b : Nat} {Cn : String} {T : u_T} {ty : Nat → FieldType} {fs : List Value} (O : Okk G cc own Y p s m meth cd) (hk : KC ci Cn T N ty) (hR : Rel G w H) (hw : w b = some (eO ci fs)) : ∃ cellB : Cell, H[b]? = some cellB ∧ cellB.vm.isStatics = false ∧ s.vm.findClass Cn = some cellB.cls :=
  va_recv (q0 := 0) O.2.2.2.1.2.1 (one_P hR hw) hk.1 rfl
abbrev RmOk (R rm : Room) (maxL : Nat) (st : List Value) (c k : Nat) : Prop := (rm.frames + 1 ≤ R.frames ∧ 8 + (maxL + 11) + rm.locals ≤ R.locals ∧ (st.map fun v => v.category).sum ≤ 8) ∧ c + rm.cells ≤ R.cells ∧ k + rm.slots ≤ R.slots
theorem RmOk.of {R rm : Room} {maxL : Nat} {st : List Value} {c k : Nat} (h1 : rm.frames + 1 ≤ R.frames) (h2 : 8 + (maxL + 11) + rm.locals ≤ R.locals) (h3 : (st.map fun v => v.category).sum ≤ 8) (h4 : c + rm.cells ≤ R.cells) (h5 : k + rm.slots ≤ R.slots) : RmOk R rm maxL st c k := ⟨⟨h1, h2, h3⟩, h4, h5⟩
theorem mr_of {m : MethodId} {ls : Array Slot} {S st : List Value} (h : (st.map fun v => v.category).sum ≤ 8) : 2 * (F0 m pc ls S).monitorRoom + (st.map fun v => v.category).sum ≤ 8 := by
  show 2 * 0 + _ ≤ _
  omega

theorem g_callS0 {y : MethodName} {bytes : ByteArray} {maxL idx : Nat} {ret : Option FieldType} {rm : Room} {P : RV → Wd → Prop} (ct : Ct G y (.code y bytes maxL ret) rm [] w P) (md : MD y (.code y bytes maxL ret) 0) (d : decode cc pc = .ok (.invokestatic idx, 3)) (h1 : Cond.methodLink own idx y ∈ tw) (h2 : Cond.static y ∈ tw) (hr : RmOk R rm maxL st c k)
    (kr : ∀ v w', P (.inl v) w' → Go G R cc own Y C Q (pc + 3) L (v.toList ++ st) w' (c + rm.cells) (k + rm.slots))
    (kx : ∀ E w', P (.inr E) w' → GoX G R cc own Y C Q pc L w' (c + rm.cells) (k + rm.slots) E) : Go G R cc own Y C Q pc L (st) w c k := by
  obtain ⟨p, e, s, m, args, below, meth, cd⟩ := C
  intro O H ls locs hR hS hL
  have hw := fun {x : Cond} (hx : x ∈ tw) => O.2.2.2.1.w (a := args) hx
  exact run_go O hS hL (vx_runS (Ts := []) (maxL := maxL) (ret := ret) (As := []) (n := 0) ⟨O.1, O.2.1, hL.1.symm, O.2.2.1, fun _ z => nomatch z⟩ ct ⟨⟨rfl, rfl, hr.1.1, hr.1.2.1, ws_at O md.1, List.mem_cons_self, hw md.1, hw md.2.1, md.2.2.1, len_of md.2.2.2, hw h1⟩, hw h2⟩ ⟨Pc0.blind, fun U hU hW => pc0_at O hR hS hU hW⟩ rfl rfl rfl rfl (mr_of hr.1.2.2) d hr.2) kr kx
theorem g_callSW0 {y : MethodName} {bytes : ByteArray} {maxL idx : Nat} {ret : Option FieldType} {hh : List (Nat × Nat × Nat × Nat)} {rm : Room} {P : RV → Wd → Prop} (ct : Ct G y (.codeWith y bytes maxL ret hh) rm [] w P) (md : MD y (.codeWith y bytes maxL ret hh) 0) (d : decode cc pc = .ok (.invokestatic idx, 3)) (h1 : Cond.methodLink own idx y ∈ tw) (h2 : Cond.static y ∈ tw) (hr : RmOk R rm maxL st c k)
    (kr : ∀ v w', P (.inl v) w' → Go G R cc own Y C Q (pc + 3) L (v.toList ++ st) w' (c + rm.cells) (k + rm.slots))
    (kx : ∀ E w', P (.inr E) w' → GoX G R cc own Y C Q pc L w' (c + rm.cells) (k + rm.slots) E) : Go G R cc own Y C Q pc L (st) w c k := by
  obtain ⟨p, e, s, m, args, below, meth, cd⟩ := C
  intro O H ls locs hR hS hL
  have hw := fun {x : Cond} (hx : x ∈ tw) => O.2.2.2.1.w (a := args) hx
  exact run_go O hS hL (vx_runSX (Ts := []) (maxL := maxL) (ret := ret) (hh := hh) (As := []) (n := 0) ⟨O.1, O.2.1, hL.1.symm, O.2.2.1, fun _ z => nomatch z⟩ ct ⟨⟨rfl, rfl, hr.1.1, hr.1.2.1, ws_at O md.1, List.mem_cons_self⟩, hw md.1, hw md.2.1, md.2.2.1, len_of md.2.2.2, hw h1, hw h2⟩ ⟨Pc0.blind, fun U hU hW => pc0_at O hR hS hU hW⟩ rfl rfl rfl rfl (mr_of hr.1.2.2) d hr.2) kr kx
theorem g_callV0 {ci N b : Nat} {Cn : String} {T : u_T} {ty : Nat → FieldType} {fs : List Value} {y : MethodName} {bytes : ByteArray} {maxL idx : Nat} {ret : Option FieldType} {rm : Room} {P : RV → Wd → Prop} (hk : KC ci Cn T N ty) (ct : Ct G y (.code y bytes maxL ret) rm (Value.ref b :: []) w P) (md : MD y (.code y bytes maxL ret) 0) (d : decode cc pc = .ok (.invokevirtual idx, 3)) (h1 : Cond.methodLink own idx y ∈ tw) (h2 : Cond.instanceMethod y ∈ tw) (h3 : Cond.selects Cn y y ∈ tw) (hb : w b = some (eO ci fs)) (hr : RmOk R rm maxL st c k)
    (kr : ∀ v w', P (.inl v) w' → Go G R cc own Y C Q (pc + 3) L (v.toList ++ st) w' (c + rm.cells) (k + rm.slots))
    (kx : ∀ E w', P (.inr E) w' → GoX G R cc own Y C Q pc L w' (c + rm.cells) (k + rm.slots) E) : Go G R cc own Y C Q pc L (.ref b :: st) w c k := by
  obtain ⟨p, e, s, m, args, below, meth, cd⟩ := C
  intro O H ls locs hR hS hL
  have hw := fun {x : Cond} (hx : x ∈ tw) => O.2.2.2.1.w (a := args) hx
  exact run_go O hS hL (vx_runV (Ts := []) (maxL := maxL) (ret := ret) (As := []) (n := 0) ⟨O.1, O.2.1, hL.1.symm, O.2.2.1, fun _ z => nomatch z⟩ ct ⟨⟨rfl, rfl, hr.1.1, hr.1.2.1, ws_at O md.1, List.mem_cons_self, hw md.1, hw md.2.1, md.2.2.1, len_of md.2.2.2, hw h1⟩, hw h2, hw h3⟩ ⟨Pc0.blind, recv_at O hk hR hb, fun U hU hW => pc0_at O hR hS hU hW⟩ rfl rfl rfl rfl (mr_of hr.1.2.2) d hr.2) kr kx
theorem g_callVN0 {ci N b : Nat} {Cn host : String} {T : u_T} {ty : Nat → FieldType} {fs : List Value} {y : MethodName} {bytes : ByteArray} {maxL idx : Nat} {ret : Option FieldType} {rm : Room} {P : RV → Wd → Prop} (hk : KC ci Cn T N ty) (ct : Ct G y (.code y bytes maxL ret) rm (Value.ref b :: []) w P) (md : MD y (.code y bytes maxL ret) 0) (d : decode cc pc = .ok (.invokevirtual idx, 3)) (h1 : Cond.methodLinkNest own idx y host ∈ tw) (h2 : Cond.instanceMethod y ∈ tw) (h3 : Cond.selects Cn y y ∈ tw) (hb : w b = some (eO ci fs)) (hr : RmOk R rm maxL st c k)
    (kr : ∀ v w', P (.inl v) w' → Go G R cc own Y C Q (pc + 3) L (v.toList ++ st) w' (c + rm.cells) (k + rm.slots))
    (kx : ∀ E w', ¬ P (.inr E) w') : Go G R cc own Y C Q pc L (.ref b :: st) w c k := by
  obtain ⟨p, e, s, m, args, below, meth, cd⟩ := C
  intro O H ls locs hR hS hL
  have hw := fun {x : Cond} (hx : x ∈ tw) => O.2.2.2.1.w (a := args) hx
  exact run_goN O hS hL (va_runVN (Ts := []) (maxL := maxL) (ret := ret) (As := []) (n := 0) ⟨O.1, O.2.1, hL.1.symm, O.2.2.1, fun _ z => nomatch z⟩ (ct.met kx) ⟨⟨⟨rfl, rfl, hr.1.1, hr.1.2.1, ws_at O md.1, List.mem_cons_self⟩, hw md.1, hw md.2.1, md.2.2.1, len_of md.2.2.2, hw h1⟩, hw h2, hw h3⟩ ⟨Pc0.blind, recv_at O hk hR hb, fun U hU hW => pc0_at O hR hS hU hW⟩ rfl rfl rfl rfl (mr_of hr.1.2.2) d hr.2) kr
theorem g_callI0 {b : Nat} {y : MethodName} {bytes : ByteArray} {maxL idx : Nat} {rm : Room} {P : RV → Wd → Prop} (ct : Ct G y (.code y bytes maxL none) rm (Value.ref b :: []) w P) (md : MD y (.code y bytes maxL none) 0) (d : decode cc pc = .ok (.invokespecial idx, 3)) (h1 : Cond.methodLink own idx y ∈ tw) (h2 : y.name = "<init>") (h3 : Cond.instanceMethod y ∈ tw) (hr : RmOk R rm maxL st c k)
    (kr : ∀ v w', P (.inl v) w' → Go G R cc own Y C Q (pc + 3) L (v.toList ++ st) w' (c + rm.cells) (k + rm.slots))
    (kx : ∀ E w', ¬ P (.inr E) w') : Go G R cc own Y C Q pc L (.ref b :: st) w c k := by
  obtain ⟨p, e, s, m, args, below, meth, cd⟩ := C
  intro O H ls locs hR hS hL
  have hw := fun {x : Cond} (hx : x ∈ tw) => O.2.2.2.1.w (a := args) hx
  exact run_goN O hS hL (va_runI (Ts := []) (maxL := maxL) (b := b) (As := []) (n := 0) ⟨O.1, O.2.1, hL.1.symm, O.2.2.1, fun _ z => nomatch z⟩ (ct.met kx) ⟨⟨rfl, rfl, hr.1.1, hr.1.2.1, ws_at O md.1, List.mem_cons_self, hw md.1, hw md.2.1, md.2.2.1, len_of md.2.2.2, hw h1⟩, h2, hw h3⟩ ⟨Pc0.blind, fun U hU hW => pc0_at O hR hS hU hW⟩ rfl rfl rfl rfl (mr_of hr.1.2.2) d hr.2) kr
theorem g_callIN0 {b : Nat} {host : String} {y : MethodName} {bytes : ByteArray} {maxL idx : Nat} {rm : Room} {P : RV → Wd → Prop} (ct : Ct G y (.code y bytes maxL none) rm (Value.ref b :: []) w P) (md : MD y (.code y bytes maxL none) 0) (d : decode cc pc = .ok (.invokespecial idx, 3)) (h1 : Cond.methodLinkNest own idx y host ∈ tw) (h2 : y.name = "<init>") (h3 : Cond.instanceMethod y ∈ tw) (hr : RmOk R rm maxL st c k)
    (kr : ∀ v w', P (.inl v) w' → Go G R cc own Y C Q (pc + 3) L (v.toList ++ st) w' (c + rm.cells) (k + rm.slots))
    (kx : ∀ E w', ¬ P (.inr E) w') : Go G R cc own Y C Q pc L (.ref b :: st) w c k := by
  obtain ⟨p, e, s, m, args, below, meth, cd⟩ := C
  intro O H ls locs hR hS hL
  have hw := fun {x : Cond} (hx : x ∈ tw) => O.2.2.2.1.w (a := args) hx
  exact run_goN O hS hL (va_runIN (Ts := []) (maxL := maxL) (b := b) (As := []) (n := 0) ⟨O.1, O.2.1, hL.1.symm, O.2.2.1, fun _ z => nomatch z⟩ (ct.met kx) ⟨⟨⟨rfl, rfl, hr.1.1, hr.1.2.1, ws_at O md.1, List.mem_cons_self⟩, hw md.1, hw md.2.1, md.2.2.1, len_of md.2.2.2, hw h1⟩, h2, hw h3⟩ ⟨Pc0.blind, fun U hU hW => pc0_at O hR hS hU hW⟩ rfl rfl rfl rfl (mr_of hr.1.2.2) d hr.2) kr
theorem g_callS1 {y : MethodName} {bytes : ByteArray} {maxL idx : Nat} {ret : Option FieldType} {rm : Room} {a1 : Value} {P : RV → Wd → Prop} (ct : Ct G y (.code y bytes maxL ret) rm [a1] w P) (md : MD y (.code y bytes maxL ret) 1) (d : decode cc pc = .ok (.invokestatic idx, 3)) (h1 : Cond.methodLink own idx y ∈ tw) (h2 : Cond.static y ∈ tw) (hr : RmOk R rm maxL st c k)
    (kr : ∀ v w', P (.inl v) w' → Go G R cc own Y C Q (pc + 3) L (v.toList ++ st) w' (c + rm.cells) (k + rm.slots))
    (kx : ∀ E w', P (.inr E) w' → GoX G R cc own Y C Q pc L w' (c + rm.cells) (k + rm.slots) E) : Go G R cc own Y C Q pc L (a1 :: st) w c k := by
  obtain ⟨p, e, s, m, args, below, meth, cd⟩ := C
  intro O H ls locs hR hS hL
  have hw := fun {x : Cond} (hx : x ∈ tw) => O.2.2.2.1.w (a := args) hx
  exact run_go O hS hL (vx_runS (Ts := []) (maxL := maxL) (ret := ret) (As := [a1]) (n := 1) ⟨O.1, O.2.1, hL.1.symm, O.2.2.1, fun _ z => nomatch z⟩ ct ⟨⟨rfl, rfl, hr.1.1, hr.1.2.1, ws_at O md.1, List.mem_cons_self, hw md.1, hw md.2.1, md.2.2.1, len_of md.2.2.2, hw h1⟩, hw h2⟩ ⟨Pc0.blind, fun U hU hW => pc0_at O hR hS hU hW⟩ rfl rfl rfl rfl (mr_of hr.1.2.2) d hr.2) kr kx
theorem g_callSW1 {y : MethodName} {bytes : ByteArray} {maxL idx : Nat} {ret : Option FieldType} {hh : List (Nat × Nat × Nat × Nat)} {rm : Room} {a1 : Value} {P : RV → Wd → Prop} (ct : Ct G y (.codeWith y bytes maxL ret hh) rm [a1] w P) (md : MD y (.codeWith y bytes maxL ret hh) 1) (d : decode cc pc = .ok (.invokestatic idx, 3)) (h1 : Cond.methodLink own idx y ∈ tw) (h2 : Cond.static y ∈ tw) (hr : RmOk R rm maxL st c k)
    (kr : ∀ v w', P (.inl v) w' → Go G R cc own Y C Q (pc + 3) L (v.toList ++ st) w' (c + rm.cells) (k + rm.slots))
    (kx : ∀ E w', P (.inr E) w' → GoX G R cc own Y C Q pc L w' (c + rm.cells) (k + rm.slots) E) : Go G R cc own Y C Q pc L (a1 :: st) w c k := by
  obtain ⟨p, e, s, m, args, below, meth, cd⟩ := C
  intro O H ls locs hR hS hL
  have hw := fun {x : Cond} (hx : x ∈ tw) => O.2.2.2.1.w (a := args) hx
  exact run_go O hS hL (vx_runSX (Ts := []) (maxL := maxL) (ret := ret) (hh := hh) (As := [a1]) (n := 1) ⟨O.1, O.2.1, hL.1.symm, O.2.2.1, fun _ z => nomatch z⟩ ct ⟨⟨rfl, rfl, hr.1.1, hr.1.2.1, ws_at O md.1, List.mem_cons_self⟩, hw md.1, hw md.2.1, md.2.2.1, len_of md.2.2.2, hw h1, hw h2⟩ ⟨Pc0.blind, fun U hU hW => pc0_at O hR hS hU hW⟩ rfl rfl rfl rfl (mr_of hr.1.2.2) d hr.2) kr kx
theorem g_callV1 {ci N b : Nat} {Cn : String} {T : u_T} {ty : Nat → FieldType} {fs : List Value} {y : MethodName} {bytes : ByteArray} {maxL idx : Nat} {ret : Option FieldType} {rm : Room} {a1 : Value} {P : RV → Wd → Prop} (hk : KC ci Cn T N ty) (ct : Ct G y (.code y bytes maxL ret) rm (Value.ref b :: [a1]) w P) (md : MD y (.code y bytes maxL ret) 1) (d : decode cc pc = .ok (.invokevirtual idx, 3)) (h1 : Cond.methodLink own idx y ∈ tw) (h2 : Cond.instanceMethod y ∈ tw) (h3 : Cond.selects Cn y y ∈ tw) (hb : w b = some (eO ci fs)) (hr : RmOk R rm maxL st c k)
    (kr : ∀ v w', P (.inl v) w' → Go G R cc own Y C Q (pc + 3) L (v.toList ++ st) w' (c + rm.cells) (k + rm.slots))
    (kx : ∀ E w', P (.inr E) w' → GoX G R cc own Y C Q pc L w' (c + rm.cells) (k + rm.slots) E) : Go G R cc own Y C Q pc L (a1 :: .ref b :: st) w c k := by
  obtain ⟨p, e, s, m, args, below, meth, cd⟩ := C
  intro O H ls locs hR hS hL
  have hw := fun {x : Cond} (hx : x ∈ tw) => O.2.2.2.1.w (a := args) hx
  exact run_go O hS hL (vx_runV (Ts := []) (maxL := maxL) (ret := ret) (As := [a1]) (n := 1) ⟨O.1, O.2.1, hL.1.symm, O.2.2.1, fun _ z => nomatch z⟩ ct ⟨⟨rfl, rfl, hr.1.1, hr.1.2.1, ws_at O md.1, List.mem_cons_self, hw md.1, hw md.2.1, md.2.2.1, len_of md.2.2.2, hw h1⟩, hw h2, hw h3⟩ ⟨Pc0.blind, recv_at O hk hR hb, fun U hU hW => pc0_at O hR hS hU hW⟩ rfl rfl rfl rfl (mr_of hr.1.2.2) d hr.2) kr kx
theorem g_callVN1 {ci N b : Nat} {Cn host : String} {T : u_T} {ty : Nat → FieldType} {fs : List Value} {y : MethodName} {bytes : ByteArray} {maxL idx : Nat} {ret : Option FieldType} {rm : Room} {a1 : Value} {P : RV → Wd → Prop} (hk : KC ci Cn T N ty) (ct : Ct G y (.code y bytes maxL ret) rm (Value.ref b :: [a1]) w P) (md : MD y (.code y bytes maxL ret) 1) (d : decode cc pc = .ok (.invokevirtual idx, 3)) (h1 : Cond.methodLinkNest own idx y host ∈ tw) (h2 : Cond.instanceMethod y ∈ tw) (h3 : Cond.selects Cn y y ∈ tw) (hb : w b = some (eO ci fs)) (hr : RmOk R rm maxL st c k)
    (kr : ∀ v w', P (.inl v) w' → Go G R cc own Y C Q (pc + 3) L (v.toList ++ st) w' (c + rm.cells) (k + rm.slots))
    (kx : ∀ E w', ¬ P (.inr E) w') : Go G R cc own Y C Q pc L (a1 :: .ref b :: st) w c k := by
  obtain ⟨p, e, s, m, args, below, meth, cd⟩ := C
  intro O H ls locs hR hS hL
  have hw := fun {x : Cond} (hx : x ∈ tw) => O.2.2.2.1.w (a := args) hx
  exact run_goN O hS hL (va_runVN (Ts := []) (maxL := maxL) (ret := ret) (As := [a1]) (n := 1) ⟨O.1, O.2.1, hL.1.symm, O.2.2.1, fun _ z => nomatch z⟩ (ct.met kx) ⟨⟨⟨rfl, rfl, hr.1.1, hr.1.2.1, ws_at O md.1, List.mem_cons_self⟩, hw md.1, hw md.2.1, md.2.2.1, len_of md.2.2.2, hw h1⟩, hw h2, hw h3⟩ ⟨Pc0.blind, recv_at O hk hR hb, fun U hU hW => pc0_at O hR hS hU hW⟩ rfl rfl rfl rfl (mr_of hr.1.2.2) d hr.2) kr
theorem g_callI1 {b : Nat} {y : MethodName} {bytes : ByteArray} {maxL idx : Nat} {rm : Room} {a1 : Value} {P : RV → Wd → Prop} (ct : Ct G y (.code y bytes maxL none) rm (Value.ref b :: [a1]) w P) (md : MD y (.code y bytes maxL none) 1) (d : decode cc pc = .ok (.invokespecial idx, 3)) (h1 : Cond.methodLink own idx y ∈ tw) (h2 : y.name = "<init>") (h3 : Cond.instanceMethod y ∈ tw) (hr : RmOk R rm maxL st c k)
    (kr : ∀ v w', P (.inl v) w' → Go G R cc own Y C Q (pc + 3) L (v.toList ++ st) w' (c + rm.cells) (k + rm.slots))
    (kx : ∀ E w', ¬ P (.inr E) w') : Go G R cc own Y C Q pc L (a1 :: .ref b :: st) w c k := by
  obtain ⟨p, e, s, m, args, below, meth, cd⟩ := C
  intro O H ls locs hR hS hL
  have hw := fun {x : Cond} (hx : x ∈ tw) => O.2.2.2.1.w (a := args) hx
  exact run_goN O hS hL (va_runI (Ts := []) (maxL := maxL) (b := b) (As := [a1]) (n := 1) ⟨O.1, O.2.1, hL.1.symm, O.2.2.1, fun _ z => nomatch z⟩ (ct.met kx) ⟨⟨rfl, rfl, hr.1.1, hr.1.2.1, ws_at O md.1, List.mem_cons_self, hw md.1, hw md.2.1, md.2.2.1, len_of md.2.2.2, hw h1⟩, h2, hw h3⟩ ⟨Pc0.blind, fun U hU hW => pc0_at O hR hS hU hW⟩ rfl rfl rfl rfl (mr_of hr.1.2.2) d hr.2) kr
theorem g_callIN1 {b : Nat} {host : String} {y : MethodName} {bytes : ByteArray} {maxL idx : Nat} {rm : Room} {a1 : Value} {P : RV → Wd → Prop} (ct : Ct G y (.code y bytes maxL none) rm (Value.ref b :: [a1]) w P) (md : MD y (.code y bytes maxL none) 1) (d : decode cc pc = .ok (.invokespecial idx, 3)) (h1 : Cond.methodLinkNest own idx y host ∈ tw) (h2 : y.name = "<init>") (h3 : Cond.instanceMethod y ∈ tw) (hr : RmOk R rm maxL st c k)
    (kr : ∀ v w', P (.inl v) w' → Go G R cc own Y C Q (pc + 3) L (v.toList ++ st) w' (c + rm.cells) (k + rm.slots))
    (kx : ∀ E w', ¬ P (.inr E) w') : Go G R cc own Y C Q pc L (a1 :: .ref b :: st) w c k := by
  obtain ⟨p, e, s, m, args, below, meth, cd⟩ := C
  intro O H ls locs hR hS hL
  have hw := fun {x : Cond} (hx : x ∈ tw) => O.2.2.2.1.w (a := args) hx
  exact run_goN O hS hL (va_runIN (Ts := []) (maxL := maxL) (b := b) (As := [a1]) (n := 1) ⟨O.1, O.2.1, hL.1.symm, O.2.2.1, fun _ z => nomatch z⟩ (ct.met kx) ⟨⟨⟨rfl, rfl, hr.1.1, hr.1.2.1, ws_at O md.1, List.mem_cons_self⟩, hw md.1, hw md.2.1, md.2.2.1, len_of md.2.2.2, hw h1⟩, h2, hw h3⟩ ⟨Pc0.blind, fun U hU hW => pc0_at O hR hS hU hW⟩ rfl rfl rfl rfl (mr_of hr.1.2.2) d hr.2) kr
theorem g_callS2 {y : MethodName} {bytes : ByteArray} {maxL idx : Nat} {ret : Option FieldType} {rm : Room} {a1 a2 : Value} {P : RV → Wd → Prop} (ct : Ct G y (.code y bytes maxL ret) rm [a1, a2] w P) (md : MD y (.code y bytes maxL ret) 2) (d : decode cc pc = .ok (.invokestatic idx, 3)) (h1 : Cond.methodLink own idx y ∈ tw) (h2 : Cond.static y ∈ tw) (hr : RmOk R rm maxL st c k)
    (kr : ∀ v w', P (.inl v) w' → Go G R cc own Y C Q (pc + 3) L (v.toList ++ st) w' (c + rm.cells) (k + rm.slots))
    (kx : ∀ E w', P (.inr E) w' → GoX G R cc own Y C Q pc L w' (c + rm.cells) (k + rm.slots) E) : Go G R cc own Y C Q pc L (a2 :: a1 :: st) w c k := by
  obtain ⟨p, e, s, m, args, below, meth, cd⟩ := C
  intro O H ls locs hR hS hL
  have hw := fun {x : Cond} (hx : x ∈ tw) => O.2.2.2.1.w (a := args) hx
  exact run_go O hS hL (vx_runS (Ts := []) (maxL := maxL) (ret := ret) (As := [a1, a2]) (n := 2) ⟨O.1, O.2.1, hL.1.symm, O.2.2.1, fun _ z => nomatch z⟩ ct ⟨⟨rfl, rfl, hr.1.1, hr.1.2.1, ws_at O md.1, List.mem_cons_self, hw md.1, hw md.2.1, md.2.2.1, len_of md.2.2.2, hw h1⟩, hw h2⟩ ⟨Pc0.blind, fun U hU hW => pc0_at O hR hS hU hW⟩ rfl rfl rfl rfl (mr_of hr.1.2.2) d hr.2) kr kx
theorem g_callSW2 {y : MethodName} {bytes : ByteArray} {maxL idx : Nat} {ret : Option FieldType} {hh : List (Nat × Nat × Nat × Nat)} {rm : Room} {a1 a2 : Value} {P : RV → Wd → Prop} (ct : Ct G y (.codeWith y bytes maxL ret hh) rm [a1, a2] w P) (md : MD y (.codeWith y bytes maxL ret hh) 2) (d : decode cc pc = .ok (.invokestatic idx, 3)) (h1 : Cond.methodLink own idx y ∈ tw) (h2 : Cond.static y ∈ tw) (hr : RmOk R rm maxL st c k)
    (kr : ∀ v w', P (.inl v) w' → Go G R cc own Y C Q (pc + 3) L (v.toList ++ st) w' (c + rm.cells) (k + rm.slots))
    (kx : ∀ E w', P (.inr E) w' → GoX G R cc own Y C Q pc L w' (c + rm.cells) (k + rm.slots) E) : Go G R cc own Y C Q pc L (a2 :: a1 :: st) w c k := by
  obtain ⟨p, e, s, m, args, below, meth, cd⟩ := C
  intro O H ls locs hR hS hL
  have hw := fun {x : Cond} (hx : x ∈ tw) => O.2.2.2.1.w (a := args) hx
  exact run_go O hS hL (vx_runSX (Ts := []) (maxL := maxL) (ret := ret) (hh := hh) (As := [a1, a2]) (n := 2) ⟨O.1, O.2.1, hL.1.symm, O.2.2.1, fun _ z => nomatch z⟩ ct ⟨⟨rfl, rfl, hr.1.1, hr.1.2.1, ws_at O md.1, List.mem_cons_self⟩, hw md.1, hw md.2.1, md.2.2.1, len_of md.2.2.2, hw h1, hw h2⟩ ⟨Pc0.blind, fun U hU hW => pc0_at O hR hS hU hW⟩ rfl rfl rfl rfl (mr_of hr.1.2.2) d hr.2) kr kx
theorem g_callV2 {ci N b : Nat} {Cn : String} {T : u_T} {ty : Nat → FieldType} {fs : List Value} {y : MethodName} {bytes : ByteArray} {maxL idx : Nat} {ret : Option FieldType} {rm : Room} {a1 a2 : Value} {P : RV → Wd → Prop} (hk : KC ci Cn T N ty) (ct : Ct G y (.code y bytes maxL ret) rm (Value.ref b :: [a1, a2]) w P) (md : MD y (.code y bytes maxL ret) 2) (d : decode cc pc = .ok (.invokevirtual idx, 3)) (h1 : Cond.methodLink own idx y ∈ tw) (h2 : Cond.instanceMethod y ∈ tw) (h3 : Cond.selects Cn y y ∈ tw) (hb : w b = some (eO ci fs)) (hr : RmOk R rm maxL st c k)
    (kr : ∀ v w', P (.inl v) w' → Go G R cc own Y C Q (pc + 3) L (v.toList ++ st) w' (c + rm.cells) (k + rm.slots))
    (kx : ∀ E w', P (.inr E) w' → GoX G R cc own Y C Q pc L w' (c + rm.cells) (k + rm.slots) E) : Go G R cc own Y C Q pc L (a2 :: a1 :: .ref b :: st) w c k := by
  obtain ⟨p, e, s, m, args, below, meth, cd⟩ := C
  intro O H ls locs hR hS hL
  have hw := fun {x : Cond} (hx : x ∈ tw) => O.2.2.2.1.w (a := args) hx
  exact run_go O hS hL (vx_runV (Ts := []) (maxL := maxL) (ret := ret) (As := [a1, a2]) (n := 2) ⟨O.1, O.2.1, hL.1.symm, O.2.2.1, fun _ z => nomatch z⟩ ct ⟨⟨rfl, rfl, hr.1.1, hr.1.2.1, ws_at O md.1, List.mem_cons_self, hw md.1, hw md.2.1, md.2.2.1, len_of md.2.2.2, hw h1⟩, hw h2, hw h3⟩ ⟨Pc0.blind, recv_at O hk hR hb, fun U hU hW => pc0_at O hR hS hU hW⟩ rfl rfl rfl rfl (mr_of hr.1.2.2) d hr.2) kr kx
theorem g_callVN2 {ci N b : Nat} {Cn host : String} {T : u_T} {ty : Nat → FieldType} {fs : List Value} {y : MethodName} {bytes : ByteArray} {maxL idx : Nat} {ret : Option FieldType} {rm : Room} {a1 a2 : Value} {P : RV → Wd → Prop} (hk : KC ci Cn T N ty) (ct : Ct G y (.code y bytes maxL ret) rm (Value.ref b :: [a1, a2]) w P) (md : MD y (.code y bytes maxL ret) 2) (d : decode cc pc = .ok (.invokevirtual idx, 3)) (h1 : Cond.methodLinkNest own idx y host ∈ tw) (h2 : Cond.instanceMethod y ∈ tw) (h3 : Cond.selects Cn y y ∈ tw) (hb : w b = some (eO ci fs)) (hr : RmOk R rm maxL st c k)
    (kr : ∀ v w', P (.inl v) w' → Go G R cc own Y C Q (pc + 3) L (v.toList ++ st) w' (c + rm.cells) (k + rm.slots))
    (kx : ∀ E w', ¬ P (.inr E) w') : Go G R cc own Y C Q pc L (a2 :: a1 :: .ref b :: st) w c k := by
  obtain ⟨p, e, s, m, args, below, meth, cd⟩ := C
  intro O H ls locs hR hS hL
  have hw := fun {x : Cond} (hx : x ∈ tw) => O.2.2.2.1.w (a := args) hx
  exact run_goN O hS hL (va_runVN (Ts := []) (maxL := maxL) (ret := ret) (As := [a1, a2]) (n := 2) ⟨O.1, O.2.1, hL.1.symm, O.2.2.1, fun _ z => nomatch z⟩ (ct.met kx) ⟨⟨⟨rfl, rfl, hr.1.1, hr.1.2.1, ws_at O md.1, List.mem_cons_self⟩, hw md.1, hw md.2.1, md.2.2.1, len_of md.2.2.2, hw h1⟩, hw h2, hw h3⟩ ⟨Pc0.blind, recv_at O hk hR hb, fun U hU hW => pc0_at O hR hS hU hW⟩ rfl rfl rfl rfl (mr_of hr.1.2.2) d hr.2) kr
theorem g_callI2 {b : Nat} {y : MethodName} {bytes : ByteArray} {maxL idx : Nat} {rm : Room} {a1 a2 : Value} {P : RV → Wd → Prop} (ct : Ct G y (.code y bytes maxL none) rm (Value.ref b :: [a1, a2]) w P) (md : MD y (.code y bytes maxL none) 2) (d : decode cc pc = .ok (.invokespecial idx, 3)) (h1 : Cond.methodLink own idx y ∈ tw) (h2 : y.name = "<init>") (h3 : Cond.instanceMethod y ∈ tw) (hr : RmOk R rm maxL st c k)
    (kr : ∀ v w', P (.inl v) w' → Go G R cc own Y C Q (pc + 3) L (v.toList ++ st) w' (c + rm.cells) (k + rm.slots))
    (kx : ∀ E w', ¬ P (.inr E) w') : Go G R cc own Y C Q pc L (a2 :: a1 :: .ref b :: st) w c k := by
  obtain ⟨p, e, s, m, args, below, meth, cd⟩ := C
  intro O H ls locs hR hS hL
  have hw := fun {x : Cond} (hx : x ∈ tw) => O.2.2.2.1.w (a := args) hx
  exact run_goN O hS hL (va_runI (Ts := []) (maxL := maxL) (b := b) (As := [a1, a2]) (n := 2) ⟨O.1, O.2.1, hL.1.symm, O.2.2.1, fun _ z => nomatch z⟩ (ct.met kx) ⟨⟨rfl, rfl, hr.1.1, hr.1.2.1, ws_at O md.1, List.mem_cons_self, hw md.1, hw md.2.1, md.2.2.1, len_of md.2.2.2, hw h1⟩, h2, hw h3⟩ ⟨Pc0.blind, fun U hU hW => pc0_at O hR hS hU hW⟩ rfl rfl rfl rfl (mr_of hr.1.2.2) d hr.2) kr
theorem g_callIN2 {b : Nat} {host : String} {y : MethodName} {bytes : ByteArray} {maxL idx : Nat} {rm : Room} {a1 a2 : Value} {P : RV → Wd → Prop} (ct : Ct G y (.code y bytes maxL none) rm (Value.ref b :: [a1, a2]) w P) (md : MD y (.code y bytes maxL none) 2) (d : decode cc pc = .ok (.invokespecial idx, 3)) (h1 : Cond.methodLinkNest own idx y host ∈ tw) (h2 : y.name = "<init>") (h3 : Cond.instanceMethod y ∈ tw) (hr : RmOk R rm maxL st c k)
    (kr : ∀ v w', P (.inl v) w' → Go G R cc own Y C Q (pc + 3) L (v.toList ++ st) w' (c + rm.cells) (k + rm.slots))
    (kx : ∀ E w', ¬ P (.inr E) w') : Go G R cc own Y C Q pc L (a2 :: a1 :: .ref b :: st) w c k := by
  obtain ⟨p, e, s, m, args, below, meth, cd⟩ := C
  intro O H ls locs hR hS hL
  have hw := fun {x : Cond} (hx : x ∈ tw) => O.2.2.2.1.w (a := args) hx
  exact run_goN O hS hL (va_runIN (Ts := []) (maxL := maxL) (b := b) (As := [a1, a2]) (n := 2) ⟨O.1, O.2.1, hL.1.symm, O.2.2.1, fun _ z => nomatch z⟩ (ct.met kx) ⟨⟨⟨rfl, rfl, hr.1.1, hr.1.2.1, ws_at O md.1, List.mem_cons_self⟩, hw md.1, hw md.2.1, md.2.2.1, len_of md.2.2.2, hw h1⟩, h2, hw h3⟩ ⟨Pc0.blind, fun U hU hW => pc0_at O hR hS hU hW⟩ rfl rfl rfl rfl (mr_of hr.1.2.2) d hr.2) kr
theorem g_callS3 {y : MethodName} {bytes : ByteArray} {maxL idx : Nat} {ret : Option FieldType} {rm : Room} {a1 a2 a3 : Value} {P : RV → Wd → Prop} (ct : Ct G y (.code y bytes maxL ret) rm [a1, a2, a3] w P) (md : MD y (.code y bytes maxL ret) 3) (d : decode cc pc = .ok (.invokestatic idx, 3)) (h1 : Cond.methodLink own idx y ∈ tw) (h2 : Cond.static y ∈ tw) (hr : RmOk R rm maxL st c k)
    (kr : ∀ v w', P (.inl v) w' → Go G R cc own Y C Q (pc + 3) L (v.toList ++ st) w' (c + rm.cells) (k + rm.slots))
    (kx : ∀ E w', P (.inr E) w' → GoX G R cc own Y C Q pc L w' (c + rm.cells) (k + rm.slots) E) : Go G R cc own Y C Q pc L (a3 :: a2 :: a1 :: st) w c k := by
  obtain ⟨p, e, s, m, args, below, meth, cd⟩ := C
  intro O H ls locs hR hS hL
  have hw := fun {x : Cond} (hx : x ∈ tw) => O.2.2.2.1.w (a := args) hx
  exact run_go O hS hL (vx_runS (Ts := []) (maxL := maxL) (ret := ret) (As := [a1, a2, a3]) (n := 3) ⟨O.1, O.2.1, hL.1.symm, O.2.2.1, fun _ z => nomatch z⟩ ct ⟨⟨rfl, rfl, hr.1.1, hr.1.2.1, ws_at O md.1, List.mem_cons_self, hw md.1, hw md.2.1, md.2.2.1, len_of md.2.2.2, hw h1⟩, hw h2⟩ ⟨Pc0.blind, fun U hU hW => pc0_at O hR hS hU hW⟩ rfl rfl rfl rfl (mr_of hr.1.2.2) d hr.2) kr kx
theorem g_callSW3 {y : MethodName} {bytes : ByteArray} {maxL idx : Nat} {ret : Option FieldType} {hh : List (Nat × Nat × Nat × Nat)} {rm : Room} {a1 a2 a3 : Value} {P : RV → Wd → Prop} (ct : Ct G y (.codeWith y bytes maxL ret hh) rm [a1, a2, a3] w P) (md : MD y (.codeWith y bytes maxL ret hh) 3) (d : decode cc pc = .ok (.invokestatic idx, 3)) (h1 : Cond.methodLink own idx y ∈ tw) (h2 : Cond.static y ∈ tw) (hr : RmOk R rm maxL st c k)
    (kr : ∀ v w', P (.inl v) w' → Go G R cc own Y C Q (pc + 3) L (v.toList ++ st) w' (c + rm.cells) (k + rm.slots))
    (kx : ∀ E w', P (.inr E) w' → GoX G R cc own Y C Q pc L w' (c + rm.cells) (k + rm.slots) E) : Go G R cc own Y C Q pc L (a3 :: a2 :: a1 :: st) w c k := by
  obtain ⟨p, e, s, m, args, below, meth, cd⟩ := C
  intro O H ls locs hR hS hL
  have hw := fun {x : Cond} (hx : x ∈ tw) => O.2.2.2.1.w (a := args) hx
  exact run_go O hS hL (vx_runSX (Ts := []) (maxL := maxL) (ret := ret) (hh := hh) (As := [a1, a2, a3]) (n := 3) ⟨O.1, O.2.1, hL.1.symm, O.2.2.1, fun _ z => nomatch z⟩ ct ⟨⟨rfl, rfl, hr.1.1, hr.1.2.1, ws_at O md.1, List.mem_cons_self⟩, hw md.1, hw md.2.1, md.2.2.1, len_of md.2.2.2, hw h1, hw h2⟩ ⟨Pc0.blind, fun U hU hW => pc0_at O hR hS hU hW⟩ rfl rfl rfl rfl (mr_of hr.1.2.2) d hr.2) kr kx
theorem g_callV3 {ci N b : Nat} {Cn : String} {T : u_T} {ty : Nat → FieldType} {fs : List Value} {y : MethodName} {bytes : ByteArray} {maxL idx : Nat} {ret : Option FieldType} {rm : Room} {a1 a2 a3 : Value} {P : RV → Wd → Prop} (hk : KC ci Cn T N ty) (ct : Ct G y (.code y bytes maxL ret) rm (Value.ref b :: [a1, a2, a3]) w P) (md : MD y (.code y bytes maxL ret) 3) (d : decode cc pc = .ok (.invokevirtual idx, 3)) (h1 : Cond.methodLink own idx y ∈ tw) (h2 : Cond.instanceMethod y ∈ tw) (h3 : Cond.selects Cn y y ∈ tw) (hb : w b = some (eO ci fs)) (hr : RmOk R rm maxL st c k)
    (kr : ∀ v w', P (.inl v) w' → Go G R cc own Y C Q (pc + 3) L (v.toList ++ st) w' (c + rm.cells) (k + rm.slots))
    (kx : ∀ E w', P (.inr E) w' → GoX G R cc own Y C Q pc L w' (c + rm.cells) (k + rm.slots) E) : Go G R cc own Y C Q pc L (a3 :: a2 :: a1 :: .ref b :: st) w c k := by
  obtain ⟨p, e, s, m, args, below, meth, cd⟩ := C
  intro O H ls locs hR hS hL
  have hw := fun {x : Cond} (hx : x ∈ tw) => O.2.2.2.1.w (a := args) hx
  exact run_go O hS hL (vx_runV (Ts := []) (maxL := maxL) (ret := ret) (As := [a1, a2, a3]) (n := 3) ⟨O.1, O.2.1, hL.1.symm, O.2.2.1, fun _ z => nomatch z⟩ ct ⟨⟨rfl, rfl, hr.1.1, hr.1.2.1, ws_at O md.1, List.mem_cons_self, hw md.1, hw md.2.1, md.2.2.1, len_of md.2.2.2, hw h1⟩, hw h2, hw h3⟩ ⟨Pc0.blind, recv_at O hk hR hb, fun U hU hW => pc0_at O hR hS hU hW⟩ rfl rfl rfl rfl (mr_of hr.1.2.2) d hr.2) kr kx
theorem g_callVN3 {ci N b : Nat} {Cn host : String} {T : u_T} {ty : Nat → FieldType} {fs : List Value} {y : MethodName} {bytes : ByteArray} {maxL idx : Nat} {ret : Option FieldType} {rm : Room} {a1 a2 a3 : Value} {P : RV → Wd → Prop} (hk : KC ci Cn T N ty) (ct : Ct G y (.code y bytes maxL ret) rm (Value.ref b :: [a1, a2, a3]) w P) (md : MD y (.code y bytes maxL ret) 3) (d : decode cc pc = .ok (.invokevirtual idx, 3)) (h1 : Cond.methodLinkNest own idx y host ∈ tw) (h2 : Cond.instanceMethod y ∈ tw) (h3 : Cond.selects Cn y y ∈ tw) (hb : w b = some (eO ci fs)) (hr : RmOk R rm maxL st c k)
    (kr : ∀ v w', P (.inl v) w' → Go G R cc own Y C Q (pc + 3) L (v.toList ++ st) w' (c + rm.cells) (k + rm.slots))
    (kx : ∀ E w', ¬ P (.inr E) w') : Go G R cc own Y C Q pc L (a3 :: a2 :: a1 :: .ref b :: st) w c k := by
  obtain ⟨p, e, s, m, args, below, meth, cd⟩ := C
  intro O H ls locs hR hS hL
  have hw := fun {x : Cond} (hx : x ∈ tw) => O.2.2.2.1.w (a := args) hx
  exact run_goN O hS hL (va_runVN (Ts := []) (maxL := maxL) (ret := ret) (As := [a1, a2, a3]) (n := 3) ⟨O.1, O.2.1, hL.1.symm, O.2.2.1, fun _ z => nomatch z⟩ (ct.met kx) ⟨⟨⟨rfl, rfl, hr.1.1, hr.1.2.1, ws_at O md.1, List.mem_cons_self⟩, hw md.1, hw md.2.1, md.2.2.1, len_of md.2.2.2, hw h1⟩, hw h2, hw h3⟩ ⟨Pc0.blind, recv_at O hk hR hb, fun U hU hW => pc0_at O hR hS hU hW⟩ rfl rfl rfl rfl (mr_of hr.1.2.2) d hr.2) kr
theorem g_callI3 {b : Nat} {y : MethodName} {bytes : ByteArray} {maxL idx : Nat} {rm : Room} {a1 a2 a3 : Value} {P : RV → Wd → Prop} (ct : Ct G y (.code y bytes maxL none) rm (Value.ref b :: [a1, a2, a3]) w P) (md : MD y (.code y bytes maxL none) 3) (d : decode cc pc = .ok (.invokespecial idx, 3)) (h1 : Cond.methodLink own idx y ∈ tw) (h2 : y.name = "<init>") (h3 : Cond.instanceMethod y ∈ tw) (hr : RmOk R rm maxL st c k)
    (kr : ∀ v w', P (.inl v) w' → Go G R cc own Y C Q (pc + 3) L (v.toList ++ st) w' (c + rm.cells) (k + rm.slots))
    (kx : ∀ E w', ¬ P (.inr E) w') : Go G R cc own Y C Q pc L (a3 :: a2 :: a1 :: .ref b :: st) w c k := by
  obtain ⟨p, e, s, m, args, below, meth, cd⟩ := C
  intro O H ls locs hR hS hL
  have hw := fun {x : Cond} (hx : x ∈ tw) => O.2.2.2.1.w (a := args) hx
  exact run_goN O hS hL (va_runI (Ts := []) (maxL := maxL) (b := b) (As := [a1, a2, a3]) (n := 3) ⟨O.1, O.2.1, hL.1.symm, O.2.2.1, fun _ z => nomatch z⟩ (ct.met kx) ⟨⟨rfl, rfl, hr.1.1, hr.1.2.1, ws_at O md.1, List.mem_cons_self, hw md.1, hw md.2.1, md.2.2.1, len_of md.2.2.2, hw h1⟩, h2, hw h3⟩ ⟨Pc0.blind, fun U hU hW => pc0_at O hR hS hU hW⟩ rfl rfl rfl rfl (mr_of hr.1.2.2) d hr.2) kr
theorem g_callIN3 {b : Nat} {host : String} {y : MethodName} {bytes : ByteArray} {maxL idx : Nat} {rm : Room} {a1 a2 a3 : Value} {P : RV → Wd → Prop} (ct : Ct G y (.code y bytes maxL none) rm (Value.ref b :: [a1, a2, a3]) w P) (md : MD y (.code y bytes maxL none) 3) (d : decode cc pc = .ok (.invokespecial idx, 3)) (h1 : Cond.methodLinkNest own idx y host ∈ tw) (h2 : y.name = "<init>") (h3 : Cond.instanceMethod y ∈ tw) (hr : RmOk R rm maxL st c k)
    (kr : ∀ v w', P (.inl v) w' → Go G R cc own Y C Q (pc + 3) L (v.toList ++ st) w' (c + rm.cells) (k + rm.slots))
    (kx : ∀ E w', ¬ P (.inr E) w') : Go G R cc own Y C Q pc L (a3 :: a2 :: a1 :: .ref b :: st) w c k := by
  obtain ⟨p, e, s, m, args, below, meth, cd⟩ := C
  intro O H ls locs hR hS hL
  have hw := fun {x : Cond} (hx : x ∈ tw) => O.2.2.2.1.w (a := args) hx
  exact run_goN O hS hL (va_runIN (Ts := []) (maxL := maxL) (b := b) (As := [a1, a2, a3]) (n := 3) ⟨O.1, O.2.1, hL.1.symm, O.2.2.1, fun _ z => nomatch z⟩ (ct.met kx) ⟨⟨⟨rfl, rfl, hr.1.1, hr.1.2.1, ws_at O md.1, List.mem_cons_self⟩, hw md.1, hw md.2.1, md.2.2.1, len_of md.2.2.2, hw h1⟩, h2, hw h3⟩ ⟨Pc0.blind, fun U hU hW => pc0_at O hR hS hU hW⟩ rfl rfl rfl rfl (mr_of hr.1.2.2) d hr.2) kr
theorem g_callS4 {y : MethodName} {bytes : ByteArray} {maxL idx : Nat} {ret : Option FieldType} {rm : Room} {a1 a2 a3 a4 : Value} {P : RV → Wd → Prop} (ct : Ct G y (.code y bytes maxL ret) rm [a1, a2, a3, a4] w P) (md : MD y (.code y bytes maxL ret) 4) (d : decode cc pc = .ok (.invokestatic idx, 3)) (h1 : Cond.methodLink own idx y ∈ tw) (h2 : Cond.static y ∈ tw) (hr : RmOk R rm maxL st c k)
    (kr : ∀ v w', P (.inl v) w' → Go G R cc own Y C Q (pc + 3) L (v.toList ++ st) w' (c + rm.cells) (k + rm.slots))
    (kx : ∀ E w', P (.inr E) w' → GoX G R cc own Y C Q pc L w' (c + rm.cells) (k + rm.slots) E) : Go G R cc own Y C Q pc L (a4 :: a3 :: a2 :: a1 :: st) w c k := by
  obtain ⟨p, e, s, m, args, below, meth, cd⟩ := C
  intro O H ls locs hR hS hL
  have hw := fun {x : Cond} (hx : x ∈ tw) => O.2.2.2.1.w (a := args) hx
  exact run_go O hS hL (vx_runS (Ts := []) (maxL := maxL) (ret := ret) (As := [a1, a2, a3, a4]) (n := 4) ⟨O.1, O.2.1, hL.1.symm, O.2.2.1, fun _ z => nomatch z⟩ ct ⟨⟨rfl, rfl, hr.1.1, hr.1.2.1, ws_at O md.1, List.mem_cons_self, hw md.1, hw md.2.1, md.2.2.1, len_of md.2.2.2, hw h1⟩, hw h2⟩ ⟨Pc0.blind, fun U hU hW => pc0_at O hR hS hU hW⟩ rfl rfl rfl rfl (mr_of hr.1.2.2) d hr.2) kr kx
theorem g_callSW4 {y : MethodName} {bytes : ByteArray} {maxL idx : Nat} {ret : Option FieldType} {hh : List (Nat × Nat × Nat × Nat)} {rm : Room} {a1 a2 a3 a4 : Value} {P : RV → Wd → Prop} (ct : Ct G y (.codeWith y bytes maxL ret hh) rm [a1, a2, a3, a4] w P) (md : MD y (.codeWith y bytes maxL ret hh) 4) (d : decode cc pc = .ok (.invokestatic idx, 3)) (h1 : Cond.methodLink own idx y ∈ tw) (h2 : Cond.static y ∈ tw) (hr : RmOk R rm maxL st c k)
    (kr : ∀ v w', P (.inl v) w' → Go G R cc own Y C Q (pc + 3) L (v.toList ++ st) w' (c + rm.cells) (k + rm.slots))
    (kx : ∀ E w', P (.inr E) w' → GoX G R cc own Y C Q pc L w' (c + rm.cells) (k + rm.slots) E) : Go G R cc own Y C Q pc L (a4 :: a3 :: a2 :: a1 :: st) w c k := by
  obtain ⟨p, e, s, m, args, below, meth, cd⟩ := C
  intro O H ls locs hR hS hL
  have hw := fun {x : Cond} (hx : x ∈ tw) => O.2.2.2.1.w (a := args) hx
  exact run_go O hS hL (vx_runSX (Ts := []) (maxL := maxL) (ret := ret) (hh := hh) (As := [a1, a2, a3, a4]) (n := 4) ⟨O.1, O.2.1, hL.1.symm, O.2.2.1, fun _ z => nomatch z⟩ ct ⟨⟨rfl, rfl, hr.1.1, hr.1.2.1, ws_at O md.1, List.mem_cons_self⟩, hw md.1, hw md.2.1, md.2.2.1, len_of md.2.2.2, hw h1, hw h2⟩ ⟨Pc0.blind, fun U hU hW => pc0_at O hR hS hU hW⟩ rfl rfl rfl rfl (mr_of hr.1.2.2) d hr.2) kr kx
theorem g_callV4 {ci N b : Nat} {Cn : String} {T : u_T} {ty : Nat → FieldType} {fs : List Value} {y : MethodName} {bytes : ByteArray} {maxL idx : Nat} {ret : Option FieldType} {rm : Room} {a1 a2 a3 a4 : Value} {P : RV → Wd → Prop} (hk : KC ci Cn T N ty) (ct : Ct G y (.code y bytes maxL ret) rm (Value.ref b :: [a1, a2, a3, a4]) w P) (md : MD y (.code y bytes maxL ret) 4) (d : decode cc pc = .ok (.invokevirtual idx, 3)) (h1 : Cond.methodLink own idx y ∈ tw) (h2 : Cond.instanceMethod y ∈ tw) (h3 : Cond.selects Cn y y ∈ tw) (hb : w b = some (eO ci fs)) (hr : RmOk R rm maxL st c k)
    (kr : ∀ v w', P (.inl v) w' → Go G R cc own Y C Q (pc + 3) L (v.toList ++ st) w' (c + rm.cells) (k + rm.slots))
    (kx : ∀ E w', P (.inr E) w' → GoX G R cc own Y C Q pc L w' (c + rm.cells) (k + rm.slots) E) : Go G R cc own Y C Q pc L (a4 :: a3 :: a2 :: a1 :: .ref b :: st) w c k := by
  obtain ⟨p, e, s, m, args, below, meth, cd⟩ := C
  intro O H ls locs hR hS hL
  have hw := fun {x : Cond} (hx : x ∈ tw) => O.2.2.2.1.w (a := args) hx
  exact run_go O hS hL (vx_runV (Ts := []) (maxL := maxL) (ret := ret) (As := [a1, a2, a3, a4]) (n := 4) ⟨O.1, O.2.1, hL.1.symm, O.2.2.1, fun _ z => nomatch z⟩ ct ⟨⟨rfl, rfl, hr.1.1, hr.1.2.1, ws_at O md.1, List.mem_cons_self, hw md.1, hw md.2.1, md.2.2.1, len_of md.2.2.2, hw h1⟩, hw h2, hw h3⟩ ⟨Pc0.blind, recv_at O hk hR hb, fun U hU hW => pc0_at O hR hS hU hW⟩ rfl rfl rfl rfl (mr_of hr.1.2.2) d hr.2) kr kx
theorem g_callVN4 {ci N b : Nat} {Cn host : String} {T : u_T} {ty : Nat → FieldType} {fs : List Value} {y : MethodName} {bytes : ByteArray} {maxL idx : Nat} {ret : Option FieldType} {rm : Room} {a1 a2 a3 a4 : Value} {P : RV → Wd → Prop} (hk : KC ci Cn T N ty) (ct : Ct G y (.code y bytes maxL ret) rm (Value.ref b :: [a1, a2, a3, a4]) w P) (md : MD y (.code y bytes maxL ret) 4) (d : decode cc pc = .ok (.invokevirtual idx, 3)) (h1 : Cond.methodLinkNest own idx y host ∈ tw) (h2 : Cond.instanceMethod y ∈ tw) (h3 : Cond.selects Cn y y ∈ tw) (hb : w b = some (eO ci fs)) (hr : RmOk R rm maxL st c k)
    (kr : ∀ v w', P (.inl v) w' → Go G R cc own Y C Q (pc + 3) L (v.toList ++ st) w' (c + rm.cells) (k + rm.slots))
    (kx : ∀ E w', ¬ P (.inr E) w') : Go G R cc own Y C Q pc L (a4 :: a3 :: a2 :: a1 :: .ref b :: st) w c k := by
  obtain ⟨p, e, s, m, args, below, meth, cd⟩ := C
  intro O H ls locs hR hS hL
  have hw := fun {x : Cond} (hx : x ∈ tw) => O.2.2.2.1.w (a := args) hx
  exact run_goN O hS hL (va_runVN (Ts := []) (maxL := maxL) (ret := ret) (As := [a1, a2, a3, a4]) (n := 4) ⟨O.1, O.2.1, hL.1.symm, O.2.2.1, fun _ z => nomatch z⟩ (ct.met kx) ⟨⟨⟨rfl, rfl, hr.1.1, hr.1.2.1, ws_at O md.1, List.mem_cons_self⟩, hw md.1, hw md.2.1, md.2.2.1, len_of md.2.2.2, hw h1⟩, hw h2, hw h3⟩ ⟨Pc0.blind, recv_at O hk hR hb, fun U hU hW => pc0_at O hR hS hU hW⟩ rfl rfl rfl rfl (mr_of hr.1.2.2) d hr.2) kr
theorem g_callI4 {b : Nat} {y : MethodName} {bytes : ByteArray} {maxL idx : Nat} {rm : Room} {a1 a2 a3 a4 : Value} {P : RV → Wd → Prop} (ct : Ct G y (.code y bytes maxL none) rm (Value.ref b :: [a1, a2, a3, a4]) w P) (md : MD y (.code y bytes maxL none) 4) (d : decode cc pc = .ok (.invokespecial idx, 3)) (h1 : Cond.methodLink own idx y ∈ tw) (h2 : y.name = "<init>") (h3 : Cond.instanceMethod y ∈ tw) (hr : RmOk R rm maxL st c k)
    (kr : ∀ v w', P (.inl v) w' → Go G R cc own Y C Q (pc + 3) L (v.toList ++ st) w' (c + rm.cells) (k + rm.slots))
    (kx : ∀ E w', ¬ P (.inr E) w') : Go G R cc own Y C Q pc L (a4 :: a3 :: a2 :: a1 :: .ref b :: st) w c k := by
  obtain ⟨p, e, s, m, args, below, meth, cd⟩ := C
  intro O H ls locs hR hS hL
  have hw := fun {x : Cond} (hx : x ∈ tw) => O.2.2.2.1.w (a := args) hx
  exact run_goN O hS hL (va_runI (Ts := []) (maxL := maxL) (b := b) (As := [a1, a2, a3, a4]) (n := 4) ⟨O.1, O.2.1, hL.1.symm, O.2.2.1, fun _ z => nomatch z⟩ (ct.met kx) ⟨⟨rfl, rfl, hr.1.1, hr.1.2.1, ws_at O md.1, List.mem_cons_self, hw md.1, hw md.2.1, md.2.2.1, len_of md.2.2.2, hw h1⟩, h2, hw h3⟩ ⟨Pc0.blind, fun U hU hW => pc0_at O hR hS hU hW⟩ rfl rfl rfl rfl (mr_of hr.1.2.2) d hr.2) kr
theorem g_callIN4 {b : Nat} {host : String} {y : MethodName} {bytes : ByteArray} {maxL idx : Nat} {rm : Room} {a1 a2 a3 a4 : Value} {P : RV → Wd → Prop} (ct : Ct G y (.code y bytes maxL none) rm (Value.ref b :: [a1, a2, a3, a4]) w P) (md : MD y (.code y bytes maxL none) 4) (d : decode cc pc = .ok (.invokespecial idx, 3)) (h1 : Cond.methodLinkNest own idx y host ∈ tw) (h2 : y.name = "<init>") (h3 : Cond.instanceMethod y ∈ tw) (hr : RmOk R rm maxL st c k)
    (kr : ∀ v w', P (.inl v) w' → Go G R cc own Y C Q (pc + 3) L (v.toList ++ st) w' (c + rm.cells) (k + rm.slots))
    (kx : ∀ E w', ¬ P (.inr E) w') : Go G R cc own Y C Q pc L (a4 :: a3 :: a2 :: a1 :: .ref b :: st) w c k := by
  obtain ⟨p, e, s, m, args, below, meth, cd⟩ := C
  intro O H ls locs hR hS hL
  have hw := fun {x : Cond} (hx : x ∈ tw) => O.2.2.2.1.w (a := args) hx
  exact run_goN O hS hL (va_runIN (Ts := []) (maxL := maxL) (b := b) (As := [a1, a2, a3, a4]) (n := 4) ⟨O.1, O.2.1, hL.1.symm, O.2.2.1, fun _ z => nomatch z⟩ (ct.met kx) ⟨⟨⟨rfl, rfl, hr.1.1, hr.1.2.1, ws_at O md.1, List.mem_cons_self⟩, hw md.1, hw md.2.1, md.2.2.1, len_of md.2.2.2, hw h1⟩, h2, hw h3⟩ ⟨Pc0.blind, fun U hU hW => pc0_at O hR hS hU hW⟩ rfl rfl rfl rfl (mr_of hr.1.2.2) d hr.2) kr
theorem g_callS5 {y : MethodName} {bytes : ByteArray} {maxL idx : Nat} {ret : Option FieldType} {rm : Room} {a1 a2 a3 a4 a5 : Value} {P : RV → Wd → Prop} (ct : Ct G y (.code y bytes maxL ret) rm [a1, a2, a3, a4, a5] w P) (md : MD y (.code y bytes maxL ret) 5) (d : decode cc pc = .ok (.invokestatic idx, 3)) (h1 : Cond.methodLink own idx y ∈ tw) (h2 : Cond.static y ∈ tw) (hr : RmOk R rm maxL st c k)
    (kr : ∀ v w', P (.inl v) w' → Go G R cc own Y C Q (pc + 3) L (v.toList ++ st) w' (c + rm.cells) (k + rm.slots))
    (kx : ∀ E w', P (.inr E) w' → GoX G R cc own Y C Q pc L w' (c + rm.cells) (k + rm.slots) E) : Go G R cc own Y C Q pc L (a5 :: a4 :: a3 :: a2 :: a1 :: st) w c k := by
  obtain ⟨p, e, s, m, args, below, meth, cd⟩ := C
  intro O H ls locs hR hS hL
  have hw := fun {x : Cond} (hx : x ∈ tw) => O.2.2.2.1.w (a := args) hx
  exact run_go O hS hL (vx_runS (Ts := []) (maxL := maxL) (ret := ret) (As := [a1, a2, a3, a4, a5]) (n := 5) ⟨O.1, O.2.1, hL.1.symm, O.2.2.1, fun _ z => nomatch z⟩ ct ⟨⟨rfl, rfl, hr.1.1, hr.1.2.1, ws_at O md.1, List.mem_cons_self, hw md.1, hw md.2.1, md.2.2.1, len_of md.2.2.2, hw h1⟩, hw h2⟩ ⟨Pc0.blind, fun U hU hW => pc0_at O hR hS hU hW⟩ rfl rfl rfl rfl (mr_of hr.1.2.2) d hr.2) kr kx
theorem g_callSW5 {y : MethodName} {bytes : ByteArray} {maxL idx : Nat} {ret : Option FieldType} {hh : List (Nat × Nat × Nat × Nat)} {rm : Room} {a1 a2 a3 a4 a5 : Value} {P : RV → Wd → Prop} (ct : Ct G y (.codeWith y bytes maxL ret hh) rm [a1, a2, a3, a4, a5] w P) (md : MD y (.codeWith y bytes maxL ret hh) 5) (d : decode cc pc = .ok (.invokestatic idx, 3)) (h1 : Cond.methodLink own idx y ∈ tw) (h2 : Cond.static y ∈ tw) (hr : RmOk R rm maxL st c k)
    (kr : ∀ v w', P (.inl v) w' → Go G R cc own Y C Q (pc + 3) L (v.toList ++ st) w' (c + rm.cells) (k + rm.slots))
    (kx : ∀ E w', P (.inr E) w' → GoX G R cc own Y C Q pc L w' (c + rm.cells) (k + rm.slots) E) : Go G R cc own Y C Q pc L (a5 :: a4 :: a3 :: a2 :: a1 :: st) w c k := by
  obtain ⟨p, e, s, m, args, below, meth, cd⟩ := C
  intro O H ls locs hR hS hL
  have hw := fun {x : Cond} (hx : x ∈ tw) => O.2.2.2.1.w (a := args) hx
  exact run_go O hS hL (vx_runSX (Ts := []) (maxL := maxL) (ret := ret) (hh := hh) (As := [a1, a2, a3, a4, a5]) (n := 5) ⟨O.1, O.2.1, hL.1.symm, O.2.2.1, fun _ z => nomatch z⟩ ct ⟨⟨rfl, rfl, hr.1.1, hr.1.2.1, ws_at O md.1, List.mem_cons_self⟩, hw md.1, hw md.2.1, md.2.2.1, len_of md.2.2.2, hw h1, hw h2⟩ ⟨Pc0.blind, fun U hU hW => pc0_at O hR hS hU hW⟩ rfl rfl rfl rfl (mr_of hr.1.2.2) d hr.2) kr kx
theorem g_callV5 {ci N b : Nat} {Cn : String} {T : u_T} {ty : Nat → FieldType} {fs : List Value} {y : MethodName} {bytes : ByteArray} {maxL idx : Nat} {ret : Option FieldType} {rm : Room} {a1 a2 a3 a4 a5 : Value} {P : RV → Wd → Prop} (hk : KC ci Cn T N ty) (ct : Ct G y (.code y bytes maxL ret) rm (Value.ref b :: [a1, a2, a3, a4, a5]) w P) (md : MD y (.code y bytes maxL ret) 5) (d : decode cc pc = .ok (.invokevirtual idx, 3)) (h1 : Cond.methodLink own idx y ∈ tw) (h2 : Cond.instanceMethod y ∈ tw) (h3 : Cond.selects Cn y y ∈ tw) (hb : w b = some (eO ci fs)) (hr : RmOk R rm maxL st c k)
    (kr : ∀ v w', P (.inl v) w' → Go G R cc own Y C Q (pc + 3) L (v.toList ++ st) w' (c + rm.cells) (k + rm.slots))
    (kx : ∀ E w', P (.inr E) w' → GoX G R cc own Y C Q pc L w' (c + rm.cells) (k + rm.slots) E) : Go G R cc own Y C Q pc L (a5 :: a4 :: a3 :: a2 :: a1 :: .ref b :: st) w c k := by
  obtain ⟨p, e, s, m, args, below, meth, cd⟩ := C
  intro O H ls locs hR hS hL
  have hw := fun {x : Cond} (hx : x ∈ tw) => O.2.2.2.1.w (a := args) hx
  exact run_go O hS hL (vx_runV (Ts := []) (maxL := maxL) (ret := ret) (As := [a1, a2, a3, a4, a5]) (n := 5) ⟨O.1, O.2.1, hL.1.symm, O.2.2.1, fun _ z => nomatch z⟩ ct ⟨⟨rfl, rfl, hr.1.1, hr.1.2.1, ws_at O md.1, List.mem_cons_self, hw md.1, hw md.2.1, md.2.2.1, len_of md.2.2.2, hw h1⟩, hw h2, hw h3⟩ ⟨Pc0.blind, recv_at O hk hR hb, fun U hU hW => pc0_at O hR hS hU hW⟩ rfl rfl rfl rfl (mr_of hr.1.2.2) d hr.2) kr kx
theorem g_callVN5 {ci N b : Nat} {Cn host : String} {T : u_T} {ty : Nat → FieldType} {fs : List Value} {y : MethodName} {bytes : ByteArray} {maxL idx : Nat} {ret : Option FieldType} {rm : Room} {a1 a2 a3 a4 a5 : Value} {P : RV → Wd → Prop} (hk : KC ci Cn T N ty) (ct : Ct G y (.code y bytes maxL ret) rm (Value.ref b :: [a1, a2, a3, a4, a5]) w P) (md : MD y (.code y bytes maxL ret) 5) (d : decode cc pc = .ok (.invokevirtual idx, 3)) (h1 : Cond.methodLinkNest own idx y host ∈ tw) (h2 : Cond.instanceMethod y ∈ tw) (h3 : Cond.selects Cn y y ∈ tw) (hb : w b = some (eO ci fs)) (hr : RmOk R rm maxL st c k)
    (kr : ∀ v w', P (.inl v) w' → Go G R cc own Y C Q (pc + 3) L (v.toList ++ st) w' (c + rm.cells) (k + rm.slots))
    (kx : ∀ E w', ¬ P (.inr E) w') : Go G R cc own Y C Q pc L (a5 :: a4 :: a3 :: a2 :: a1 :: .ref b :: st) w c k := by
  obtain ⟨p, e, s, m, args, below, meth, cd⟩ := C
  intro O H ls locs hR hS hL
  have hw := fun {x : Cond} (hx : x ∈ tw) => O.2.2.2.1.w (a := args) hx
  exact run_goN O hS hL (va_runVN (Ts := []) (maxL := maxL) (ret := ret) (As := [a1, a2, a3, a4, a5]) (n := 5) ⟨O.1, O.2.1, hL.1.symm, O.2.2.1, fun _ z => nomatch z⟩ (ct.met kx) ⟨⟨⟨rfl, rfl, hr.1.1, hr.1.2.1, ws_at O md.1, List.mem_cons_self⟩, hw md.1, hw md.2.1, md.2.2.1, len_of md.2.2.2, hw h1⟩, hw h2, hw h3⟩ ⟨Pc0.blind, recv_at O hk hR hb, fun U hU hW => pc0_at O hR hS hU hW⟩ rfl rfl rfl rfl (mr_of hr.1.2.2) d hr.2) kr
theorem g_callI5 {b : Nat} {y : MethodName} {bytes : ByteArray} {maxL idx : Nat} {rm : Room} {a1 a2 a3 a4 a5 : Value} {P : RV → Wd → Prop} (ct : Ct G y (.code y bytes maxL none) rm (Value.ref b :: [a1, a2, a3, a4, a5]) w P) (md : MD y (.code y bytes maxL none) 5) (d : decode cc pc = .ok (.invokespecial idx, 3)) (h1 : Cond.methodLink own idx y ∈ tw) (h2 : y.name = "<init>") (h3 : Cond.instanceMethod y ∈ tw) (hr : RmOk R rm maxL st c k)
    (kr : ∀ v w', P (.inl v) w' → Go G R cc own Y C Q (pc + 3) L (v.toList ++ st) w' (c + rm.cells) (k + rm.slots))
    (kx : ∀ E w', ¬ P (.inr E) w') : Go G R cc own Y C Q pc L (a5 :: a4 :: a3 :: a2 :: a1 :: .ref b :: st) w c k := by
  obtain ⟨p, e, s, m, args, below, meth, cd⟩ := C
  intro O H ls locs hR hS hL
  have hw := fun {x : Cond} (hx : x ∈ tw) => O.2.2.2.1.w (a := args) hx
  exact run_goN O hS hL (va_runI (Ts := []) (maxL := maxL) (b := b) (As := [a1, a2, a3, a4, a5]) (n := 5) ⟨O.1, O.2.1, hL.1.symm, O.2.2.1, fun _ z => nomatch z⟩ (ct.met kx) ⟨⟨rfl, rfl, hr.1.1, hr.1.2.1, ws_at O md.1, List.mem_cons_self, hw md.1, hw md.2.1, md.2.2.1, len_of md.2.2.2, hw h1⟩, h2, hw h3⟩ ⟨Pc0.blind, fun U hU hW => pc0_at O hR hS hU hW⟩ rfl rfl rfl rfl (mr_of hr.1.2.2) d hr.2) kr
theorem g_callIN5 {b : Nat} {host : String} {y : MethodName} {bytes : ByteArray} {maxL idx : Nat} {rm : Room} {a1 a2 a3 a4 a5 : Value} {P : RV → Wd → Prop} (ct : Ct G y (.code y bytes maxL none) rm (Value.ref b :: [a1, a2, a3, a4, a5]) w P) (md : MD y (.code y bytes maxL none) 5) (d : decode cc pc = .ok (.invokespecial idx, 3)) (h1 : Cond.methodLinkNest own idx y host ∈ tw) (h2 : y.name = "<init>") (h3 : Cond.instanceMethod y ∈ tw) (hr : RmOk R rm maxL st c k)
    (kr : ∀ v w', P (.inl v) w' → Go G R cc own Y C Q (pc + 3) L (v.toList ++ st) w' (c + rm.cells) (k + rm.slots))
    (kx : ∀ E w', ¬ P (.inr E) w') : Go G R cc own Y C Q pc L (a5 :: a4 :: a3 :: a2 :: a1 :: .ref b :: st) w c k := by
  obtain ⟨p, e, s, m, args, below, meth, cd⟩ := C
  intro O H ls locs hR hS hL
  have hw := fun {x : Cond} (hx : x ∈ tw) => O.2.2.2.1.w (a := args) hx
  exact run_goN O hS hL (va_runIN (Ts := []) (maxL := maxL) (b := b) (As := [a1, a2, a3, a4, a5]) (n := 5) ⟨O.1, O.2.1, hL.1.symm, O.2.2.1, fun _ z => nomatch z⟩ (ct.met kx) ⟨⟨⟨rfl, rfl, hr.1.1, hr.1.2.1, ws_at O md.1, List.mem_cons_self⟩, hw md.1, hw md.2.1, md.2.2.1, len_of md.2.2.2, hw h1⟩, h2, hw h3⟩ ⟨Pc0.blind, fun U hU hW => pc0_at O hR hS hU hW⟩ rfl rfl rfl rfl (mr_of hr.1.2.2) d hr.2) kr
theorem g_callS6 {y : MethodName} {bytes : ByteArray} {maxL idx : Nat} {ret : Option FieldType} {rm : Room} {a1 a2 a3 a4 a5 a6 : Value} {P : RV → Wd → Prop} (ct : Ct G y (.code y bytes maxL ret) rm [a1, a2, a3, a4, a5, a6] w P) (md : MD y (.code y bytes maxL ret) 6) (d : decode cc pc = .ok (.invokestatic idx, 3)) (h1 : Cond.methodLink own idx y ∈ tw) (h2 : Cond.static y ∈ tw) (hr : RmOk R rm maxL st c k)
    (kr : ∀ v w', P (.inl v) w' → Go G R cc own Y C Q (pc + 3) L (v.toList ++ st) w' (c + rm.cells) (k + rm.slots))
    (kx : ∀ E w', P (.inr E) w' → GoX G R cc own Y C Q pc L w' (c + rm.cells) (k + rm.slots) E) : Go G R cc own Y C Q pc L (a6 :: a5 :: a4 :: a3 :: a2 :: a1 :: st) w c k := by
  obtain ⟨p, e, s, m, args, below, meth, cd⟩ := C
  intro O H ls locs hR hS hL
  have hw := fun {x : Cond} (hx : x ∈ tw) => O.2.2.2.1.w (a := args) hx
  exact run_go O hS hL (vx_runS (Ts := []) (maxL := maxL) (ret := ret) (As := [a1, a2, a3, a4, a5, a6]) (n := 6) ⟨O.1, O.2.1, hL.1.symm, O.2.2.1, fun _ z => nomatch z⟩ ct ⟨⟨rfl, rfl, hr.1.1, hr.1.2.1, ws_at O md.1, List.mem_cons_self, hw md.1, hw md.2.1, md.2.2.1, len_of md.2.2.2, hw h1⟩, hw h2⟩ ⟨Pc0.blind, fun U hU hW => pc0_at O hR hS hU hW⟩ rfl rfl rfl rfl (mr_of hr.1.2.2) d hr.2) kr kx
theorem g_callSW6 {y : MethodName} {bytes : ByteArray} {maxL idx : Nat} {ret : Option FieldType} {hh : List (Nat × Nat × Nat × Nat)} {rm : Room} {a1 a2 a3 a4 a5 a6 : Value} {P : RV → Wd → Prop} (ct : Ct G y (.codeWith y bytes maxL ret hh) rm [a1, a2, a3, a4, a5, a6] w P) (md : MD y (.codeWith y bytes maxL ret hh) 6) (d : decode cc pc = .ok (.invokestatic idx, 3)) (h1 : Cond.methodLink own idx y ∈ tw) (h2 : Cond.static y ∈ tw) (hr : RmOk R rm maxL st c k)
    (kr : ∀ v w', P (.inl v) w' → Go G R cc own Y C Q (pc + 3) L (v.toList ++ st) w' (c + rm.cells) (k + rm.slots))
    (kx : ∀ E w', P (.inr E) w' → GoX G R cc own Y C Q pc L w' (c + rm.cells) (k + rm.slots) E) : Go G R cc own Y C Q pc L (a6 :: a5 :: a4 :: a3 :: a2 :: a1 :: st) w c k := by
  obtain ⟨p, e, s, m, args, below, meth, cd⟩ := C
  intro O H ls locs hR hS hL
  have hw := fun {x : Cond} (hx : x ∈ tw) => O.2.2.2.1.w (a := args) hx
  exact run_go O hS hL (vx_runSX (Ts := []) (maxL := maxL) (ret := ret) (hh := hh) (As := [a1, a2, a3, a4, a5, a6]) (n := 6) ⟨O.1, O.2.1, hL.1.symm, O.2.2.1, fun _ z => nomatch z⟩ ct ⟨⟨rfl, rfl, hr.1.1, hr.1.2.1, ws_at O md.1, List.mem_cons_self⟩, hw md.1, hw md.2.1, md.2.2.1, len_of md.2.2.2, hw h1, hw h2⟩ ⟨Pc0.blind, fun U hU hW => pc0_at O hR hS hU hW⟩ rfl rfl rfl rfl (mr_of hr.1.2.2) d hr.2) kr kx
theorem g_callV6 {ci N b : Nat} {Cn : String} {T : u_T} {ty : Nat → FieldType} {fs : List Value} {y : MethodName} {bytes : ByteArray} {maxL idx : Nat} {ret : Option FieldType} {rm : Room} {a1 a2 a3 a4 a5 a6 : Value} {P : RV → Wd → Prop} (hk : KC ci Cn T N ty) (ct : Ct G y (.code y bytes maxL ret) rm (Value.ref b :: [a1, a2, a3, a4, a5, a6]) w P) (md : MD y (.code y bytes maxL ret) 6) (d : decode cc pc = .ok (.invokevirtual idx, 3)) (h1 : Cond.methodLink own idx y ∈ tw) (h2 : Cond.instanceMethod y ∈ tw) (h3 : Cond.selects Cn y y ∈ tw) (hb : w b = some (eO ci fs)) (hr : RmOk R rm maxL st c k)
    (kr : ∀ v w', P (.inl v) w' → Go G R cc own Y C Q (pc + 3) L (v.toList ++ st) w' (c + rm.cells) (k + rm.slots))
    (kx : ∀ E w', P (.inr E) w' → GoX G R cc own Y C Q pc L w' (c + rm.cells) (k + rm.slots) E) : Go G R cc own Y C Q pc L (a6 :: a5 :: a4 :: a3 :: a2 :: a1 :: .ref b :: st) w c k := by
  obtain ⟨p, e, s, m, args, below, meth, cd⟩ := C
  intro O H ls locs hR hS hL
  have hw := fun {x : Cond} (hx : x ∈ tw) => O.2.2.2.1.w (a := args) hx
  exact run_go O hS hL (vx_runV (Ts := []) (maxL := maxL) (ret := ret) (As := [a1, a2, a3, a4, a5, a6]) (n := 6) ⟨O.1, O.2.1, hL.1.symm, O.2.2.1, fun _ z => nomatch z⟩ ct ⟨⟨rfl, rfl, hr.1.1, hr.1.2.1, ws_at O md.1, List.mem_cons_self, hw md.1, hw md.2.1, md.2.2.1, len_of md.2.2.2, hw h1⟩, hw h2, hw h3⟩ ⟨Pc0.blind, recv_at O hk hR hb, fun U hU hW => pc0_at O hR hS hU hW⟩ rfl rfl rfl rfl (mr_of hr.1.2.2) d hr.2) kr kx
theorem g_callVN6 {ci N b : Nat} {Cn host : String} {T : u_T} {ty : Nat → FieldType} {fs : List Value} {y : MethodName} {bytes : ByteArray} {maxL idx : Nat} {ret : Option FieldType} {rm : Room} {a1 a2 a3 a4 a5 a6 : Value} {P : RV → Wd → Prop} (hk : KC ci Cn T N ty) (ct : Ct G y (.code y bytes maxL ret) rm (Value.ref b :: [a1, a2, a3, a4, a5, a6]) w P) (md : MD y (.code y bytes maxL ret) 6) (d : decode cc pc = .ok (.invokevirtual idx, 3)) (h1 : Cond.methodLinkNest own idx y host ∈ tw) (h2 : Cond.instanceMethod y ∈ tw) (h3 : Cond.selects Cn y y ∈ tw) (hb : w b = some (eO ci fs)) (hr : RmOk R rm maxL st c k)
    (kr : ∀ v w', P (.inl v) w' → Go G R cc own Y C Q (pc + 3) L (v.toList ++ st) w' (c + rm.cells) (k + rm.slots))
    (kx : ∀ E w', ¬ P (.inr E) w') : Go G R cc own Y C Q pc L (a6 :: a5 :: a4 :: a3 :: a2 :: a1 :: .ref b :: st) w c k := by
  obtain ⟨p, e, s, m, args, below, meth, cd⟩ := C
  intro O H ls locs hR hS hL
  have hw := fun {x : Cond} (hx : x ∈ tw) => O.2.2.2.1.w (a := args) hx
  exact run_goN O hS hL (va_runVN (Ts := []) (maxL := maxL) (ret := ret) (As := [a1, a2, a3, a4, a5, a6]) (n := 6) ⟨O.1, O.2.1, hL.1.symm, O.2.2.1, fun _ z => nomatch z⟩ (ct.met kx) ⟨⟨⟨rfl, rfl, hr.1.1, hr.1.2.1, ws_at O md.1, List.mem_cons_self⟩, hw md.1, hw md.2.1, md.2.2.1, len_of md.2.2.2, hw h1⟩, hw h2, hw h3⟩ ⟨Pc0.blind, recv_at O hk hR hb, fun U hU hW => pc0_at O hR hS hU hW⟩ rfl rfl rfl rfl (mr_of hr.1.2.2) d hr.2) kr
theorem g_callI6 {b : Nat} {y : MethodName} {bytes : ByteArray} {maxL idx : Nat} {rm : Room} {a1 a2 a3 a4 a5 a6 : Value} {P : RV → Wd → Prop} (ct : Ct G y (.code y bytes maxL none) rm (Value.ref b :: [a1, a2, a3, a4, a5, a6]) w P) (md : MD y (.code y bytes maxL none) 6) (d : decode cc pc = .ok (.invokespecial idx, 3)) (h1 : Cond.methodLink own idx y ∈ tw) (h2 : y.name = "<init>") (h3 : Cond.instanceMethod y ∈ tw) (hr : RmOk R rm maxL st c k)
    (kr : ∀ v w', P (.inl v) w' → Go G R cc own Y C Q (pc + 3) L (v.toList ++ st) w' (c + rm.cells) (k + rm.slots))
    (kx : ∀ E w', ¬ P (.inr E) w') : Go G R cc own Y C Q pc L (a6 :: a5 :: a4 :: a3 :: a2 :: a1 :: .ref b :: st) w c k := by
  obtain ⟨p, e, s, m, args, below, meth, cd⟩ := C
  intro O H ls locs hR hS hL
  have hw := fun {x : Cond} (hx : x ∈ tw) => O.2.2.2.1.w (a := args) hx
  exact run_goN O hS hL (va_runI (Ts := []) (maxL := maxL) (b := b) (As := [a1, a2, a3, a4, a5, a6]) (n := 6) ⟨O.1, O.2.1, hL.1.symm, O.2.2.1, fun _ z => nomatch z⟩ (ct.met kx) ⟨⟨rfl, rfl, hr.1.1, hr.1.2.1, ws_at O md.1, List.mem_cons_self, hw md.1, hw md.2.1, md.2.2.1, len_of md.2.2.2, hw h1⟩, h2, hw h3⟩ ⟨Pc0.blind, fun U hU hW => pc0_at O hR hS hU hW⟩ rfl rfl rfl rfl (mr_of hr.1.2.2) d hr.2) kr
theorem g_callIN6 {b : Nat} {host : String} {y : MethodName} {bytes : ByteArray} {maxL idx : Nat} {rm : Room} {a1 a2 a3 a4 a5 a6 : Value} {P : RV → Wd → Prop} (ct : Ct G y (.code y bytes maxL none) rm (Value.ref b :: [a1, a2, a3, a4, a5, a6]) w P) (md : MD y (.code y bytes maxL none) 6) (d : decode cc pc = .ok (.invokespecial idx, 3)) (h1 : Cond.methodLinkNest own idx y host ∈ tw) (h2 : y.name = "<init>") (h3 : Cond.instanceMethod y ∈ tw) (hr : RmOk R rm maxL st c k)
    (kr : ∀ v w', P (.inl v) w' → Go G R cc own Y C Q (pc + 3) L (v.toList ++ st) w' (c + rm.cells) (k + rm.slots))
    (kx : ∀ E w', ¬ P (.inr E) w') : Go G R cc own Y C Q pc L (a6 :: a5 :: a4 :: a3 :: a2 :: a1 :: .ref b :: st) w c k := by
  obtain ⟨p, e, s, m, args, below, meth, cd⟩ := C
  intro O H ls locs hR hS hL
  have hw := fun {x : Cond} (hx : x ∈ tw) => O.2.2.2.1.w (a := args) hx
  exact run_goN O hS hL (va_runIN (Ts := []) (maxL := maxL) (b := b) (As := [a1, a2, a3, a4, a5, a6]) (n := 6) ⟨O.1, O.2.1, hL.1.symm, O.2.2.1, fun _ z => nomatch z⟩ (ct.met kx) ⟨⟨⟨rfl, rfl, hr.1.1, hr.1.2.1, ws_at O md.1, List.mem_cons_self⟩, hw md.1, hw md.2.1, md.2.2.1, len_of md.2.2.2, hw h1⟩, h2, hw h3⟩ ⟨Pc0.blind, fun U hU hW => pc0_at O hR hS hU hW⟩ rfl rfl rfl rfl (mr_of hr.1.2.2) d hr.2) kr
theorem g_callS10 {y : MethodName} {bytes : ByteArray} {maxL idx : Nat} {ret : Option FieldType} {rm : Room} {a1 a2 a3 a4 a5 a6 a7 a8 a9 a10 : Value} {P : RV → Wd → Prop} (ct : Ct G y (.code y bytes maxL ret) rm [a1, a2, a3, a4, a5, a6, a7, a8, a9, a10] w P) (md : MD y (.code y bytes maxL ret) 10) (d : decode cc pc = .ok (.invokestatic idx, 3)) (h1 : Cond.methodLink own idx y ∈ tw) (h2 : Cond.static y ∈ tw) (hr : RmOk R rm maxL st c k)
    (kr : ∀ v w', P (.inl v) w' → Go G R cc own Y C Q (pc + 3) L (v.toList ++ st) w' (c + rm.cells) (k + rm.slots))
    (kx : ∀ E w', P (.inr E) w' → GoX G R cc own Y C Q pc L w' (c + rm.cells) (k + rm.slots) E) : Go G R cc own Y C Q pc L (a10 :: a9 :: a8 :: a7 :: a6 :: a5 :: a4 :: a3 :: a2 :: a1 :: st) w c k := by
  obtain ⟨p, e, s, m, args, below, meth, cd⟩ := C
  intro O H ls locs hR hS hL
  have hw := fun {x : Cond} (hx : x ∈ tw) => O.2.2.2.1.w (a := args) hx
  exact run_go O hS hL (vx_runS (Ts := []) (maxL := maxL) (ret := ret) (As := [a1, a2, a3, a4, a5, a6, a7, a8, a9, a10]) (n := 10) ⟨O.1, O.2.1, hL.1.symm, O.2.2.1, fun _ z => nomatch z⟩ ct ⟨⟨rfl, rfl, hr.1.1, hr.1.2.1, ws_at O md.1, List.mem_cons_self, hw md.1, hw md.2.1, md.2.2.1, len_of md.2.2.2, hw h1⟩, hw h2⟩ ⟨Pc0.blind, fun U hU hW => pc0_at O hR hS hU hW⟩ rfl rfl rfl rfl (mr_of hr.1.2.2) d hr.2) kr kx
theorem g_callS11 {y : MethodName} {bytes : ByteArray} {maxL idx : Nat} {ret : Option FieldType} {rm : Room} {a1 a2 a3 a4 a5 a6 a7 a8 a9 a10 a11 : Value} {P : RV → Wd → Prop} (ct : Ct G y (.code y bytes maxL ret) rm [a1, a2, a3, a4, a5, a6, a7, a8, a9, a10, a11] w P) (md : MD y (.code y bytes maxL ret) 11) (d : decode cc pc = .ok (.invokestatic idx, 3)) (h1 : Cond.methodLink own idx y ∈ tw) (h2 : Cond.static y ∈ tw) (hr : RmOk R rm maxL st c k)
    (kr : ∀ v w', P (.inl v) w' → Go G R cc own Y C Q (pc + 3) L (v.toList ++ st) w' (c + rm.cells) (k + rm.slots))
    (kx : ∀ E w', P (.inr E) w' → GoX G R cc own Y C Q pc L w' (c + rm.cells) (k + rm.slots) E) : Go G R cc own Y C Q pc L (a11 :: a10 :: a9 :: a8 :: a7 :: a6 :: a5 :: a4 :: a3 :: a2 :: a1 :: st) w c k := by
  obtain ⟨p, e, s, m, args, below, meth, cd⟩ := C
  intro O H ls locs hR hS hL
  have hw := fun {x : Cond} (hx : x ∈ tw) => O.2.2.2.1.w (a := args) hx
  exact run_go O hS hL (vx_runS (Ts := []) (maxL := maxL) (ret := ret) (As := [a1, a2, a3, a4, a5, a6, a7, a8, a9, a10, a11]) (n := 11) ⟨O.1, O.2.1, hL.1.symm, O.2.2.1, fun _ z => nomatch z⟩ ct ⟨⟨rfl, rfl, hr.1.1, hr.1.2.1, ws_at O md.1, List.mem_cons_self, hw md.1, hw md.2.1, md.2.2.1, len_of md.2.2.2, hw h1⟩, hw h2⟩ ⟨Pc0.blind, fun U hU hW => pc0_at O hR hS hU hW⟩ rfl rfl rfl rfl (mr_of hr.1.2.2) d hr.2) kr kx
theorem g_callS13 {y : MethodName} {bytes : ByteArray} {maxL idx : Nat} {ret : Option FieldType} {rm : Room} {a1 a2 a3 a4 a5 a6 a7 a8 a9 a10 a11 a12 a13 : Value} {P : RV → Wd → Prop} (ct : Ct G y (.code y bytes maxL ret) rm [a1, a2, a3, a4, a5, a6, a7, a8, a9, a10, a11, a12, a13] w P) (md : MD y (.code y bytes maxL ret) 13) (d : decode cc pc = .ok (.invokestatic idx, 3)) (h1 : Cond.methodLink own idx y ∈ tw) (h2 : Cond.static y ∈ tw) (hr : RmOk R rm maxL st c k)
    (kr : ∀ v w', P (.inl v) w' → Go G R cc own Y C Q (pc + 3) L (v.toList ++ st) w' (c + rm.cells) (k + rm.slots))
    (kx : ∀ E w', P (.inr E) w' → GoX G R cc own Y C Q pc L w' (c + rm.cells) (k + rm.slots) E) : Go G R cc own Y C Q pc L (a13 :: a12 :: a11 :: a10 :: a9 :: a8 :: a7 :: a6 :: a5 :: a4 :: a3 :: a2 :: a1 :: st) w c k := by
  obtain ⟨p, e, s, m, args, below, meth, cd⟩ := C
  intro O H ls locs hR hS hL
  have hw := fun {x : Cond} (hx : x ∈ tw) => O.2.2.2.1.w (a := args) hx
  exact run_go O hS hL (vx_runS (Ts := []) (maxL := maxL) (ret := ret) (As := [a1, a2, a3, a4, a5, a6, a7, a8, a9, a10, a11, a12, a13]) (n := 13) ⟨O.1, O.2.1, hL.1.symm, O.2.2.1, fun _ z => nomatch z⟩ ct ⟨⟨rfl, rfl, hr.1.1, hr.1.2.1, ws_at O md.1, List.mem_cons_self, hw md.1, hw md.2.1, md.2.2.1, len_of md.2.2.2, hw h1⟩, hw h2⟩ ⟨Pc0.blind, fun U hU hW => pc0_at O hR hS hU hW⟩ rfl rfl rfl rfl (mr_of hr.1.2.2) d hr.2) kr kx
end CallRows
section EndRows
variable {G : Gx} {R : Room} {cc : ByteArray} {own nm : String} {hh : List (Nat × Nat × Nat × Nat)} {C : Cx} {P : RV → Wd → Prop} {pc : Nat} {L : List (Option Value)} {st : List Value} {w : Wd} {c k : Nat}
theorem qc_at {s t : State} {H : Heap} {locs : List Loc} {v : Option Value} {a : Array Value} (hp : P (.inl v) w) (hR : Rel G w H) (hS : va_S (gA G) s.heap H locs) (ht : t.heap = H) : Qc0 G P a s (.returned v) t := ⟨v, w, rfl, hp, by rw [ht]; exact hR, hS.F ht⟩
theorem g_iret {v : Int32} (d : decode cc pc = .ok (.ireturn, 1)) (hp : P (.inl (some (.int v))) w) (hc : c ≤ R.cells) (hk : k ≤ R.slots) : Go G R cc own (some .int, nm, hh) C (QP G R P C) pc L [.int v] w c k := by
  obtain ⟨p, e, s, m, args, below, meth, cd⟩ := C
  intro O H ls locs hR hS hL
  have hlocks : meth.locks = false := O.2.2.2.2.2.2.2.2
  refine W.widen hc hk (vx_ret (W.iret O.1 O.2.1 O.2.2.2.2.2.1 (fun t ht _ => qc_at hp hR hS ht) hS.2.2 d hlocks))
theorem g_zret {v : Int32} (d : decode cc pc = .ok (.ireturn, 1)) (hn : narrow .boolean (.int v) = .int v) (hp : P (.inl (some (.int v))) w) (hc : c ≤ R.cells) (hk : k ≤ R.slots) : Go G R cc own (some .boolean, nm, hh) C (QP G R P C) pc L [.int v] w c k := by
  obtain ⟨p, e, s, m, args, below, meth, cd⟩ := C
  intro O H ls locs hR hS hL
  have hlocks : meth.locks = false := O.2.2.2.2.2.2.2.2
  refine W.widen hc hk (vx_ret (W.zret (ty := .boolean) O.1 O.2.1 O.2.2.2.2.2.1 hn (fun t ht _ => qc_at hp hR hS ht) hS.2.2 d hlocks))
theorem g_vret (d : decode cc pc = .ok (.return_, 1)) (hp : P (.inl none) w) (hc : c ≤ R.cells) (hk : k ≤ R.slots) : Go G R cc own (none, nm, hh) C (QP G R P C) pc L [] w c k := by
  obtain ⟨p, e, s, m, args, below, meth, cd⟩ := C
  intro O H ls locs hR hS hL
  have hlocks : meth.locks = false := O.2.2.2.2.2.2.2.2
  refine W.widen hc hk (vx_ret (W.vret O.1 O.2.1 O.2.2.2.2.2.1 (fun t ht _ => qc_at hp hR hS ht) hS.2.2 d hlocks))
theorem g_aret {v : Nat} {rt : FieldType} (hrt : (∃ n, rt = .object n) ∨ ∃ t, rt = .array t) (d : decode cc pc = .ok (.areturn, 1)) (hp : P (.inl (some (.ref v))) w) (hc : c ≤ R.cells) (hk : k ≤ R.slots) : Go G R cc own (some rt, nm, hh) C (QP G R P C) pc L [.ref v] w c k := by
  obtain ⟨p, e, s, m, args, below, meth, cd⟩ := C
  intro O H ls locs hR hS hL
  have hlocks : meth.locks = false := O.2.2.2.2.2.2.2.2
  refine W.widen hc hk (vx_ret (W.aret (rt := rt) O.1 O.2.1 O.2.2.2.2.2.1 hrt (Or.inr ⟨v, rfl⟩) (fun t ht _ => qc_at hp hR hS ht) hS.2.2 d hlocks))
theorem gx_out {Y : Yx} {E : String} (ho : ∀ x ∈ tableOf Y.2.2, covers x pc = false) (hp : P (.inr E) w) (hc : c ≤ R.cells) (hk : k ≤ R.slots) : GoX G R cc own Y C (QP G R P C) pc L w c k E := by
  obtain ⟨p, e, s, m, args, below, meth, cd⟩ := C
  intro O H ls locs q ce st hR hS hL hce hcv hcl
  refine vx_out (by rw [O.2.2.2.2.2.2.2.1]; exact ho) O.2.2.2.2.2.2.2.2 hce hcv hcl (fun t ht _ => ⟨w, hp, by rw [ht]; exact hR, hS.F ht⟩) hS.2.2 hc hk
theorem gx_catch {Y : Yx} {Q : State → Prop} {E name : String} (pre : List ExceptionTableEntry) (x : ExceptionTableEntry) (suf : List ExceptionTableEntry) (hsplit : tableOf Y.2.2 = pre ++ x :: suf)
    (hpass : ∀ z ∈ pre, covers z pc = false ∨ (z.catchType ≠ 0 ∧ ∃ n2 : String, Cond.classLink own z.catchType n2 ∈ tw ∧ (E, n2) ∈ nc_all)) (hx : covers x pc = true) (h0 : x.catchType ≠ 0) (hlink : Cond.classLink own x.catchType name ∈ tw) (hcast : Cond.castable E name ∈ tw)
    (h : ∀ q : Nat, Go G R cc own Y C Q x.handlerPc L [.ref q] w c k) : GoX G R cc own Y C Q pc L w c k E := by
  obtain ⟨p, e, s, m, args, below, meth, cd⟩ := C
  intro O H ls locs q ce st hR hS hL hce hcv hcl
  refine vx_catch O.2.2.1 pre x suf (by rw [O.2.2.2.2.2.2.2.1]; exact hsplit) (fun z hz => ?_) hx h0 (O.2.2.2.1.w hlink) (O.2.2.2.1.w hcast) hce hcv hcl (h q O H ls locs hR hS hL)
  rcases hpass z hz with h1 | ⟨h1, n2, h2, h3⟩
  · exact Or.inl h1
  · exact Or.inr ⟨h1, n2, O.2.2.2.1.w h2, O.2.2.2.1.2.2.2.1 _ h3⟩
/-- what a throw of the class cls with a text needs of the tables -/
def TW (own : String) (ik is ic : Nat) (cls text : String) : Prop := Bundle.fit cls = true ∧ Cond.classLink own ik cls ∈ tw ∧ Cond.initialized cls ∈ tw ∧ Cond.stringRef own is text ∈ tables_1 ∧ (∀ x ∈ vx_atS own ic cls ["java/lang/RuntimeException", "java/lang/Exception"], x ∈ tw) ∧
  ∀ x ∈ Cond.classLink own ik cls :: Cond.initialized cls :: vx_atS own ic cls ["java/lang/RuntimeException", "java/lang/Exception"], vx_ot x = true
theorem g_throwS {Y : Yx} {ik is ic : Nat} {cls text : String} (tq : TW own ik is ic cls text) (d0 : decode cc pc = .ok (.new ik, 3)) (d3 : decode cc (pc + 3) = .ok (.dup, 1)) (d4 : decode cc (pc + 4) = .ok (.ldc is, 2)) (d6 : decode cc (pc + 6) = .ok (.invokespecial ic, 3)) (d9 : decode cc (pc + 9) = .ok (.athrow, 1))
    (ho : ∀ x ∈ tableOf Y.2.2, covers x (pc + 9) = false) (hf : 5 < R.frames) (hl : (st.map fun v => v.category).sum + 82 ≤ R.locals) (hp : P (.inr cls) w) (hc : c + 1 ≤ R.cells) (hk : k + 6 ≤ R.slots) : Go G R cc own Y C (QP G R P C) pc L st w c k := by
  obtain ⟨p, e, s, m, args, below, meth, cd⟩ := C
  intro O H ls locs hR hS hL
  obtain ⟨hfit, h1, h2, h3, h4, h5⟩ := tq
  have hg := O.2.2.2.1
  obtain ⟨sa, hsa⟩ := hg.2.2.1 own text is h3
  have hB : ∀ a : Nat, a < (gH G).size → ¬ gA G a → s.heap[a]? = (gH G)[a]? := fun a ha _ => O.2.2.2.2.1.2 a ha
  refine vx_throwS (A := gA G) (sa := sa) (names := ["java/lang/RuntimeException", "java/lang/Exception"]) O.1 O.2.1 hg.2.2.2.2.2.2.2.2.2.2 O.2.2.1 hfit (by decide +kernel) (hg.w h1) (hg.w h2) hsa (fun x hx => hg.w (h4 x hx)) h5 (hg.2.2.2.2.1.kept hB) (hg.2.2.2.2.2.1.kept hB) hS hL.1 d0 d3 d4 d6 d9 (by rw [O.2.2.2.2.2.2.2.1]; exact ho) hf hl hc hk O.2.2.2.2.2.2.2.2 (fun t _ hz hq => ⟨w, hp, hR.kept hq, ?_⟩) hS.2.2 hc hk
  exact ⟨Nat.le_trans hS.1 hz, fun q g1 g2 => (hq q (Nat.lt_of_lt_of_le g1 hS.1)).trans (hS.2.1 q g1 g2)⟩
end EndRows
