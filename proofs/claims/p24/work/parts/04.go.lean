/-! The judgement Go, and a row an instruction. -/
theorem GK.warm {G : Gx} {s U : State} (hW : s.WarmedH U.vm) (h : GK G s) : GK G U := by
  obtain ⟨h1, h2, h3, h4, h5, h6, h7, h8, h9, h10, h11⟩ := h
  exact ⟨fun w hw a => okW_at hW (List.mem_filter.mp hw).2 (h1 w hw #[]), va_K.moved hW.alike h2, fun own tx k hk => (h3 own tx k hk).elim fun sa hs => ⟨sa, hs.warm hW⟩,
    fun q hq => (h4 q hq).moved hW.alike, h5.moved hW.alike, h6.moved hW.alike, h7.moved hW.alike, h8.moved hW.alike, h9.moved hW.alike, va_Nw.of rfl (word_at (args := #[]) (a' := #[]) hW (good_of_word rfl) h10), h11⟩
theorem GK.w {G : Gx} {s : State} (h : GK G s) {w : Cond} (hw : w ∈ tw) {a : Array Value} : w.before a s = true := h.1 w hw a
abbrev Cx : Type := Program × Env × State × MethodId × Array Value × List Frame × Method × Code
abbrev Yx : Type := Option FieldType × String × List (Nat × Nat × Nat × Nat)
def Okk (G : Gx) (cc : ByteArray) (own : String) (Y : Yx) (p : Program) (s : State) (m : MethodId) (meth : Method) (cd : Code) : Prop :=
  p.tables.exec = Jvm.exec ∧ cd.code = cc ∧ s.vm.findClass own = some m.cls ∧ GK G s ∧ BaseOk G s.heap ∧ meth.sig.returnType = Y.1 ∧ meth.name = Y.2.1 ∧ cd.exceptionTable.toList = tableOf Y.2.2 ∧ meth.locks = false
/-- a local's value is told of a place; of a long only where the next place is told to be empty -/
def LV (cd : Code) (ls : Array Slot) (L : List (Option Value)) : Prop :=
  ls.size = cd.maxLocals ∧ lv_wf ls ∧ L.length ≤ ls.size ∧ ∀ (i : Nat) (v : Value), L[i]? = some (some v) → (v.category = 1 ∨ L[i + 1]? = some none) → ls[i]? = some (.val v)
def Go (G : Gx) (R : Room) (cc : ByteArray) (own : String) (Y : Yx) : Cx → (State → Prop) → Nat → List (Option Value) → List Value → Wd → Nat → Nat → Prop
  | (p, e, s, m, args, below, meth, cd), Q, pc, L, st, w, c, k => Okk G cc own Y p s m meth cd → ∀ (H : Heap) (ls : Array Slot) (locs : List Loc), Rel G w H → va_S (gA G) s.heap H locs → LV cd ls L →
      W p G.1 e R s m args below meth cd H locs c k Q (F0 m pc ls st)
def lvV (L : List (Option Value)) (i : Nat) (v : Value) : Bool := v.category == 1 || (match L[i + 1]? with | some none => true | _ => false)
theorem lvV_of {L : List (Option Value)} {i : Nat} {v : Value} (h : v.category = 1 ∨ L[i + 1]? = some none) : lvV L i v = true := by
  unfold lvV
  rcases h with h | h
  · rw [h]; rfl
  · rw [h]; exact Bool.or_true _
theorem lvV_to {L : List (Option Value)} {i : Nat} {v : Value} (h : lvV L i v = true) : v.category = 1 ∨ L[i + 1]? = some none := by
  unfold lvV at h
  rcases (Bool.or_eq_true _ _).mp h with h | h
  · exact Or.inl (by simpa using h)
  · right
    cases hL : L[i + 1]? with
    | none => rw [hL] at h; cases h
    | some x =>
      rw [hL] at h
      cases x with
      | none => rfl
      | some _ => cases h
def lvL (L : List (Option Value)) : List (Nat × Value) := (List.range L.length).filterMap (fun i => (L[i]?.getD none).bind (fun v => if lvV L i v = true then some (i, v) else none))
theorem lvL_mem {L : List (Option Value)} {i : Nat} {v : Value} (h : L[i]? = some (some v)) (hc : v.category = 1 ∨ L[i + 1]? = some none) : (i, v) ∈ lvL L := by
  unfold lvL
  refine List.mem_filterMap.mpr ⟨i, List.mem_range.mpr (List.getElem?_eq_some_iff.mp h).1, ?_⟩
  rw [h]
  exact if_pos (lvV_of hc)
theorem lvL_mem' {L : List (Option Value)} {q : Nat × Value} (h : q ∈ lvL L) : L[q.1]? = some (some q.2) ∧ (q.2.category = 1 ∨ L[q.1 + 1]? = some none) := by
  unfold lvL at h
  obtain ⟨i, -, hi⟩ := List.mem_filterMap.mp h
  cases hL : L[i]? with
  | none => rw [hL] at hi; cases hi
  | some x =>
    rw [hL] at hi
    cases x with
    | none => cases hi
    | some v =>
      have hi : (if lvV L i v = true then some (i, v) else none) = some q := hi
      by_cases hv : lvV L i v = true
      · rw [if_pos hv] at hi
        cases hi
        exact ⟨hL, lvV_to hv⟩
      · rw [if_neg hv] at hi
        cases hi
theorem LV.has {cd : Code} {ls : Array Slot} {L : List (Option Value)} (h : LV cd ls L) : lv_has ls ls.size (lvL L) := ⟨rfl, h.2.1, fun q hq => h.2.2.2 q.1 q.2 (lvL_mem' hq).1 (lvL_mem' hq).2⟩
theorem LV.at {cd : Code} {ls : Array Slot} {L : List (Option Value)} (h : LV cd ls L) {i : Nat} {v : Value} (hi : L[i]? = some (some v)) (hc : v.category = 1) : ls[i]? = some (.val v) := h.2.2.2 i v hi (Or.inl hc)
theorem LV.atL {cd : Code} {ls : Array Slot} {L : List (Option Value)} (h : LV cd ls L) {i : Nat} {v : Value} (hi : L[i]? = some (some v)) (hc : L[i + 1]? = some none) : ls[i]? = some (.val v) := h.2.2.2 i v hi (Or.inr hc)
theorem LV.set {cd : Code} {ls ls' : Array Slot} {L : List (Option Value)} (h : LV cd ls L) {i : Nat} {v : Value} (hc : v.category = 1)
    (h' : lv_has ls' ls.size ((i, v) :: (lvL L).filter (fun q => !(q.1 == i) && !(q.1 + 1 == i && q.2.category == 2)))) : LV cd ls' (L.set i (some v)) := by
  obtain ⟨h1, h2, h3, h4⟩ := h
  obtain ⟨g1, g2, g3⟩ := h'
  refine ⟨g1.trans h1, g2, by rw [List.length_set]; omega, fun j u hj hu => ?_⟩
  by_cases hji : j = i
  · subst hji
    have hlt : j < L.length := by
      have := (List.getElem?_eq_some_iff.mp hj).1
      rwa [List.length_set] at this
    rw [List.getElem?_set_self hlt] at hj
    cases hj
    exact g3 (j, v) List.mem_cons_self
  · rw [List.getElem?_set_ne (Ne.symm hji)] at hj
    have hu2 : u.category = 1 ∨ (j + 1 ≠ i ∧ L[j + 1]? = some none) := by
      rcases hu with hu | hu
      · exact Or.inl hu
      · right
        by_cases z : j + 1 = i
        · subst z
          have hlt : j + 1 < L.length := by
            have := (List.getElem?_eq_some_iff.mp hu).1
            rwa [List.length_set] at this
          rw [List.getElem?_set_self hlt] at hu
          cases hu
        · rw [List.getElem?_set_ne (Ne.symm z)] at hu
          exact ⟨z, hu⟩
    refine g3 (j, u) (List.mem_cons_of_mem _ (List.mem_filter.mpr ⟨lvL_mem hj (hu2.imp id And.right), ?_⟩))
    have e1 : (j == i) = false := by simpa using hji
    rcases hu2 with hu2 | hu2
    · have e2 : (u.category == 2) = false := by rw [hu2]; rfl
      simp [e1, e2]
    · have e2 : (j + 1 == i) = false := by simpa using hu2.1
      simp [e1, e2]
/-- a long is stored -/
theorem LV.setL {cd : Code} {ls ls' : Array Slot} {L : List (Option Value)} (h : LV cd ls L) {i : Nat} {v : Value}
    (h' : lv_has ls' ls.size ((i, v) :: (lvL L).filter (fun q => !(q.1 == i) && (!(q.1 == i + 1) && !(q.1 + 1 == i && q.2.category == 2))))) : LV cd ls' ((L.set i (some v)).set (i + 1) none) := by
  obtain ⟨h1, h2, h3, h4⟩ := h
  obtain ⟨g1, g2, g3⟩ := h'
  refine ⟨g1.trans h1, g2, by rw [List.length_set, List.length_set]; omega, fun j u hj hu => ?_⟩
  by_cases hji1 : j = i + 1
  · subst hji1
    have hlt : i + 1 < (L.set i (some v)).length := by
      have := (List.getElem?_eq_some_iff.mp hj).1
      rwa [List.length_set] at this
    rw [List.getElem?_set_self hlt] at hj
    cases hj
  rw [List.getElem?_set_ne (Ne.symm hji1)] at hj
  by_cases hji : j = i
  · subst hji
    have hlt : j < L.length := by
      have := (List.getElem?_eq_some_iff.mp hj).1
      rwa [List.length_set] at this
    rw [List.getElem?_set_self hlt] at hj
    cases hj
    exact g3 (j, v) List.mem_cons_self
  · rw [List.getElem?_set_ne (Ne.symm hji)] at hj
    have hu2 : u.category = 1 ∨ (j + 1 ≠ i ∧ L[j + 1]? = some none) := by
      rcases hu with hu | hu
      · exact Or.inl hu
      · right
        rw [List.getElem?_set_ne (by omega)] at hu
        by_cases z : j + 1 = i
        · subst z
          have hlt : j + 1 < L.length := by
            have := (List.getElem?_eq_some_iff.mp hu).1
            rwa [List.length_set] at this
          rw [List.getElem?_set_self hlt] at hu
          cases hu
        · rw [List.getElem?_set_ne (Ne.symm z)] at hu
          exact ⟨z, hu⟩
    refine g3 (j, u) (List.mem_cons_of_mem _ (List.mem_filter.mpr ⟨lvL_mem hj (hu2.imp id And.right), ?_⟩))
    have e1 : (j == i) = false := by simpa using hji
    have e3 : (j == i + 1) = false := by simpa using hji1
    rcases hu2 with hu2 | hu2
    · have e2 : (u.category == 2) = false := by rw [hu2]; rfl
      simp [e1, e2, e3]
    · have e2 : (j + 1 == i) = false := by simpa using hu2.1
      simp [e1, e2, e3]
section GoRows
variable {G : Gx} {R : Room} {cc : ByteArray} {own : String} {Y : Yx} {C : Cx} {Q : State → Prop} {pc : Nat} {L : List (Option Value)} {st : List Value} {w : Wd} {c k : Nat}
theorem Go.widen {c' k' : Nat} (hc : c ≤ c') (hk : k ≤ k') (h : Go G R cc own Y C Q pc L st w c' k') : Go G R cc own Y C Q pc L st w c k := by
  obtain ⟨p, e, s, m, args, below, meth, cd⟩ := C
  intro O H ls locs hR hS hL
  exact W.widen hc hk (h O H ls locs hR hS hL)
theorem Go.atpc {pc' : Nat} (hp : pc = pc') (h : Go G R cc own Y C Q pc' L st w c k) : Go G R cc own Y C Q pc L st w c k := hp ▸ h

theorem g_iconst {n : Int} {v : Int32} (d : decode cc pc = .ok (.iconst n, 1)) (hv : Int32.ofInt n = v) (h : Go G R cc own Y C Q (pc + 1) L (.int v :: st) w c k) : Go G R cc own Y C Q pc L (st) w c k := by
  obtain ⟨p, e, s, m, args, below, meth, cd⟩ := C
  intro O H ls locs hR hS hL
  exact lv_iconst O.1 O.2.1 d hv (h O H ls locs hR hS hL)
theorem g_bipush {n : Int} {v : Int32} (d : decode cc pc = .ok (.bipush n, 2)) (hv : (Int8.ofInt n).toInt32 = v) (h : Go G R cc own Y C Q (pc + 2) L (.int v :: st) w c k) : Go G R cc own Y C Q pc L (st) w c k := by
  obtain ⟨p, e, s, m, args, below, meth, cd⟩ := C
  intro O H ls locs hR hS hL
  exact lv_bipush O.1 O.2.1 d hv (h O H ls locs hR hS hL)
theorem g_sipush {n : Int} {v : Int32} (d : decode cc pc = .ok (.sipush n, 3)) (hv : (Int16.ofInt n).toInt32 = v) (h : Go G R cc own Y C Q (pc + 3) L (.int v :: st) w c k) : Go G R cc own Y C Q pc L (st) w c k := by
  obtain ⟨p, e, s, m, args, below, meth, cd⟩ := C
  intro O H ls locs hR hS hL
  exact lv_sipush O.1 O.2.1 d hv (h O H ls locs hR hS hL)
theorem g_lconst {n : Fin 2} {v : Int64} (d : decode cc pc = .ok (.lconst n, 1)) (hv : Int64.ofNat (n : Nat) = v) (h : Go G R cc own Y C Q (pc + 1) L (.long v :: st) w c k) : Go G R cc own Y C Q pc L (st) w c k := by
  obtain ⟨p, e, s, m, args, below, meth, cd⟩ := C
  intro O H ls locs hR hS hL
  exact lv_lconst O.1 O.2.1 d hv (h O H ls locs hR hS hL)
theorem g_anull  (d : decode cc pc = .ok (.aconst_null, 1)) (h : Go G R cc own Y C Q (pc + 1) L (.null :: st) w c k) : Go G R cc own Y C Q pc L (st) w c k := by
  obtain ⟨p, e, s, m, args, below, meth, cd⟩ := C
  intro O H ls locs hR hS hL
  exact lv_null O.1 O.2.1 d (h O H ls locs hR hS hL)
theorem g_iadd {x y : Int32} (d : decode cc pc = .ok (.iadd, 1)) (h : Go G R cc own Y C Q (pc + 1) L (.int (x + y) :: st) w c k) : Go G R cc own Y C Q pc L (.int y :: .int x :: st) w c k := by
  obtain ⟨p, e, s, m, args, below, meth, cd⟩ := C
  intro O H ls locs hR hS hL
  exact lv_iadd O.1 O.2.1 d (h O H ls locs hR hS hL)
theorem g_isub {x y : Int32} (d : decode cc pc = .ok (.isub, 1)) (h : Go G R cc own Y C Q (pc + 1) L (.int (x - y) :: st) w c k) : Go G R cc own Y C Q pc L (.int y :: .int x :: st) w c k := by
  obtain ⟨p, e, s, m, args, below, meth, cd⟩ := C
  intro O H ls locs hR hS hL
  exact lv_isub O.1 O.2.1 d (h O H ls locs hR hS hL)
theorem g_imul {x y : Int32} (d : decode cc pc = .ok (.imul, 1)) (h : Go G R cc own Y C Q (pc + 1) L (.int (x * y) :: st) w c k) : Go G R cc own Y C Q pc L (.int y :: .int x :: st) w c k := by
  obtain ⟨p, e, s, m, args, below, meth, cd⟩ := C
  intro O H ls locs hR hS hL
  exact lv_imul O.1 O.2.1 d (h O H ls locs hR hS hL)
theorem g_iand {x y : Int32} (d : decode cc pc = .ok (.iand, 1)) (h : Go G R cc own Y C Q (pc + 1) L (.int (x &&& y) :: st) w c k) : Go G R cc own Y C Q pc L (.int y :: .int x :: st) w c k := by
  obtain ⟨p, e, s, m, args, below, meth, cd⟩ := C
  intro O H ls locs hR hS hL
  exact lv_iand O.1 O.2.1 d (h O H ls locs hR hS hL)
theorem g_ishr {x y : Int32} (d : decode cc pc = .ok (.ishr, 1)) (h : Go G R cc own Y C Q (pc + 1) L (.int (x >>> (y &&& 31)) :: st) w c k) : Go G R cc own Y C Q pc L (.int y :: .int x :: st) w c k := by
  obtain ⟨p, e, s, m, args, below, meth, cd⟩ := C
  intro O H ls locs hR hS hL
  exact lv_ishr O.1 O.2.1 d (h O H ls locs hR hS hL)
theorem g_iushr {x y : Int32} (d : decode cc pc = .ok (.iushr, 1)) (h : Go G R cc own Y C Q (pc + 1) L (.int (x.toUInt32 >>> (y.toUInt32 &&& Int32.toUInt32 31)).toInt32 :: st) w c k) : Go G R cc own Y C Q pc L (.int y :: .int x :: st) w c k := by
  obtain ⟨p, e, s, m, args, below, meth, cd⟩ := C
  intro O H ls locs hR hS hL
  exact lv_iushr O.1 O.2.1 d rfl (h O H ls locs hR hS hL)
theorem g_ineg {x : Int32} (d : decode cc pc = .ok (.ineg, 1)) (h : Go G R cc own Y C Q (pc + 1) L (.int (-x) :: st) w c k) : Go G R cc own Y C Q pc L (.int x :: st) w c k := by
  obtain ⟨p, e, s, m, args, below, meth, cd⟩ := C
  intro O H ls locs hR hS hL
  exact lv_ineg O.1 O.2.1 d (h O H ls locs hR hS hL)
theorem g_land {x y : Int64} (d : decode cc pc = .ok (.land, 1)) (h : Go G R cc own Y C Q (pc + 1) L (.long (x &&& y) :: st) w c k) : Go G R cc own Y C Q pc L (.long y :: .long x :: st) w c k := by
  obtain ⟨p, e, s, m, args, below, meth, cd⟩ := C
  intro O H ls locs hR hS hL
  exact lv_land O.1 O.2.1 d (h O H ls locs hR hS hL)
theorem g_ladd {x y : Int64} (d : decode cc pc = .ok (.ladd, 1)) (h : Go G R cc own Y C Q (pc + 1) L (.long (x + y) :: st) w c k) : Go G R cc own Y C Q pc L (.long y :: .long x :: st) w c k := by
  obtain ⟨p, e, s, m, args, below, meth, cd⟩ := C
  intro O H ls locs hR hS hL
  exact lv_ladd O.1 O.2.1 d (h O H ls locs hR hS hL)
theorem g_lshr {x : Int64} {y : Int32} (d : decode cc pc = .ok (.lshr, 1)) (h : Go G R cc own Y C Q (pc + 1) L (.long (x >>> (y.toInt64 &&& 63)) :: st) w c k) : Go G R cc own Y C Q pc L (.int y :: .long x :: st) w c k := by
  obtain ⟨p, e, s, m, args, below, meth, cd⟩ := C
  intro O H ls locs hR hS hL
  exact lv_lshr O.1 O.2.1 d rfl (h O H ls locs hR hS hL)
theorem g_lshl {x : Int64} {y : Int32} (d : decode cc pc = .ok (.lshl, 1)) (h : Go G R cc own Y C Q (pc + 1) L (.long (x <<< (y.toInt64 &&& 63)) :: st) w c k) : Go G R cc own Y C Q pc L (.int y :: .long x :: st) w c k := by
  obtain ⟨p, e, s, m, args, below, meth, cd⟩ := C
  intro O H ls locs hR hS hL
  exact lv_lshl O.1 O.2.1 d rfl (h O H ls locs hR hS hL)
theorem g_l2i {x : Int64} (d : decode cc pc = .ok (.l2i, 1)) (h : Go G R cc own Y C Q (pc + 1) L (.int x.toInt32 :: st) w c k) : Go G R cc own Y C Q pc L (.long x :: st) w c k := by
  obtain ⟨p, e, s, m, args, below, meth, cd⟩ := C
  intro O H ls locs hR hS hL
  exact lv_l2i O.1 O.2.1 d rfl (h O H ls locs hR hS hL)
theorem g_irem {x y : Int32} (d : decode cc pc = .ok (.irem, 1)) (hne : ¬ y = 0) (h : Go G R cc own Y C Q (pc + 1) L (.int (x - x / y * y) :: st) w c k) : Go G R cc own Y C Q pc L (.int y :: .int x :: st) w c k := by
  obtain ⟨p, e, s, m, args, below, meth, cd⟩ := C
  intro O H ls locs hR hS hL
  exact lv_irem O.1 O.2.1 d hne (h O H ls locs hR hS hL)
theorem g_i2l {x : Int32} (d : decode cc pc = .ok (.i2l, 1)) (h : Go G R cc own Y C Q (pc + 1) L (.long x.toInt64 :: st) w c k) : Go G R cc own Y C Q pc L (.int x :: st) w c k := by
  obtain ⟨p, e, s, m, args, below, meth, cd⟩ := C
  intro O H ls locs hR hS hL
  exact lv_i2l O.1 O.2.1 d rfl (h O H ls locs hR hS hL)
theorem g_dup {v : Value} (d : decode cc pc = .ok (.dup, 1)) (hv : v.category = 1) (h : Go G R cc own Y C Q (pc + 1) L (v :: v :: st) w c k) : Go G R cc own Y C Q pc L (v :: st) w c k := by
  obtain ⟨p, e, s, m, args, below, meth, cd⟩ := C
  intro O H ls locs hR hS hL
  exact lv_dup O.1 O.2.1 d hv (h O H ls locs hR hS hL)
theorem g_pop {v : Value} (d : decode cc pc = .ok (.pop, 1)) (hv : v.category = 1) (h : Go G R cc own Y C Q (pc + 1) L (st) w c k) : Go G R cc own Y C Q pc L (v :: st) w c k := by
  obtain ⟨p, e, s, m, args, below, meth, cd⟩ := C
  intro O H ls locs hR hS hL
  exact lv_pop O.1 O.2.1 d hv (h O H ls locs hR hS hL)
theorem g_dup_x1 {v u : Value} (d : decode cc pc = .ok (.dup_x1, 1)) (hv : v.category = 1) (hu : u.category = 1) (h : Go G R cc own Y C Q (pc + 1) L (v :: u :: v :: st) w c k) : Go G R cc own Y C Q pc L (v :: u :: st) w c k := by
  obtain ⟨p, e, s, m, args, below, meth, cd⟩ := C
  intro O H ls locs hR hS hL
  exact lv_dup_x1 O.1 O.2.1 d hv hu (h O H ls locs hR hS hL)
theorem g_dup2 {v u : Value} (d : decode cc pc = .ok (.dup2, 1)) (hv : v.category = 1) (hu : u.category = 1) (h : Go G R cc own Y C Q (pc + 1) L (v :: u :: v :: u :: st) w c k) : Go G R cc own Y C Q pc L (v :: u :: st) w c k := by
  obtain ⟨p, e, s, m, args, below, meth, cd⟩ := C
  intro O H ls locs hR hS hL
  exact lv_dup2_11 O.1 O.2.1 d hv hu (h O H ls locs hR hS hL)
theorem g_iload0 {v : Int32} (d : decode cc pc = .ok (.iload_n 0, 1)) (h : Go G R cc own Y C Q (pc + 1) (some (.int v) :: L) (.int v :: st) w c k) : Go G R cc own Y C Q pc (some (.int v) :: L) st w c k := by
  obtain ⟨p, e, s, m, args, below, meth, cd⟩ := C
  intro O H ls locs hR hS hL
  exact lv_iload_n O.1 O.2.1 d rfl (hL.at (i := 0) rfl rfl) (h O H ls locs hR hS hL)
theorem g_istore0 {y : Option Value} {v : Int32} (d : decode cc pc = .ok (.istore_n 0, 1)) (h : Go G R cc own Y C Q (pc + 1) (some (.int v) :: L) st w c k) : Go G R cc own Y C Q pc (y :: L) (.int v :: st) w c k := by
  obtain ⟨p, e, s, m, args, below, meth, cd⟩ := C
  intro O H ls locs hR hS hL
  exact lv_istore_n (i := 0) O.1 O.2.1 d rfl hL.has (Nat.lt_of_lt_of_le (by simp) hL.2.2.1) rfl (fun ls' hl' => h O H ls' locs hR hS (hL.set (i := 0) rfl hl'))
theorem g_aload0 {v : Nat} (d : decode cc pc = .ok (.aload_n 0, 1)) (h : Go G R cc own Y C Q (pc + 1) (some (.ref v) :: L) (.ref v :: st) w c k) : Go G R cc own Y C Q pc (some (.ref v) :: L) st w c k := by
  obtain ⟨p, e, s, m, args, below, meth, cd⟩ := C
  intro O H ls locs hR hS hL
  exact lv_aload_n O.1 O.2.1 d rfl (hL.at (i := 0) rfl rfl) (h O H ls locs hR hS hL)
theorem g_astore0 {y : Option Value} {v : Nat} (d : decode cc pc = .ok (.astore_n 0, 1)) (h : Go G R cc own Y C Q (pc + 1) (some (.ref v) :: L) st w c k) : Go G R cc own Y C Q pc (y :: L) (.ref v :: st) w c k := by
  obtain ⟨p, e, s, m, args, below, meth, cd⟩ := C
  intro O H ls locs hR hS hL
  exact lv_astore_n (i := 0) O.1 O.2.1 d rfl hL.has (Nat.lt_of_lt_of_le (by simp) hL.2.2.1) rfl (fun ls' hl' => h O H ls' locs hR hS (hL.set (i := 0) rfl hl'))
theorem g_aload0N (d : decode cc pc = .ok (.aload_n 0, 1)) (h : Go G R cc own Y C Q (pc + 1) (some .null :: L) (.null :: st) w c k) : Go G R cc own Y C Q pc (some .null :: L) st w c k := by
  obtain ⟨p, e, s, m, args, below, meth, cd⟩ := C
  intro O H ls locs hR hS hL
  exact lv_aload_nN O.1 O.2.1 d rfl (hL.at (i := 0) rfl rfl) (h O H ls locs hR hS hL)
theorem g_astore0N {y : Option Value} (d : decode cc pc = .ok (.astore_n 0, 1)) (h : Go G R cc own Y C Q (pc + 1) (some .null :: L) st w c k) : Go G R cc own Y C Q pc (y :: L) (.null :: st) w c k := by
  obtain ⟨p, e, s, m, args, below, meth, cd⟩ := C
  intro O H ls locs hR hS hL
  exact lv_astore_nN (i := 0) O.1 O.2.1 d rfl hL.has (Nat.lt_of_lt_of_le (by simp) hL.2.2.1) rfl (fun ls' hl' => h O H ls' locs hR hS (hL.set (i := 0) rfl hl'))
theorem g_iinc0 {v v' : Int32} {n : Int} (d : decode cc pc = .ok (.iinc 0 n, 3)) (hv : v + Int32.ofInt n = v') (h : Go G R cc own Y C Q (pc + 3) (some (.int v') :: L) st w c k) : Go G R cc own Y C Q pc (some (.int v) :: L) st w c k := by
  obtain ⟨p, e, s, m, args, below, meth, cd⟩ := C
  intro O H ls locs hR hS hL
  obtain ⟨j, hj⟩ := List.getElem?_of_mem (lvL_mem (L := some (.int v) :: L) (i := 0) (v := .int v) rfl (Or.inl rfl))
  exact lv_iinc O.1 O.2.1 d hL.has hj hv (Nat.lt_of_lt_of_le (by simp) hL.2.2.1) rfl (fun ls' hl' => h O H ls' locs hR hS (hL.set (i := 0) rfl hl'))
theorem g_iload1 {x0 : Option Value} {v : Int32} (d : decode cc pc = .ok (.iload_n 1, 1)) (h : Go G R cc own Y C Q (pc + 1) (x0 :: some (.int v) :: L) (.int v :: st) w c k) : Go G R cc own Y C Q pc (x0 :: some (.int v) :: L) st w c k := by
  obtain ⟨p, e, s, m, args, below, meth, cd⟩ := C
  intro O H ls locs hR hS hL
  exact lv_iload_n O.1 O.2.1 d rfl (hL.at (i := 1) rfl rfl) (h O H ls locs hR hS hL)
theorem g_istore1 {x0 : Option Value} {y : Option Value} {v : Int32} (d : decode cc pc = .ok (.istore_n 1, 1)) (h : Go G R cc own Y C Q (pc + 1) (x0 :: some (.int v) :: L) st w c k) : Go G R cc own Y C Q pc (x0 :: y :: L) (.int v :: st) w c k := by
  obtain ⟨p, e, s, m, args, below, meth, cd⟩ := C
  intro O H ls locs hR hS hL
  exact lv_istore_n (i := 1) O.1 O.2.1 d rfl hL.has (Nat.lt_of_lt_of_le (by simp) hL.2.2.1) rfl (fun ls' hl' => h O H ls' locs hR hS (hL.set (i := 1) rfl hl'))
theorem g_aload1 {x0 : Option Value} {v : Nat} (d : decode cc pc = .ok (.aload_n 1, 1)) (h : Go G R cc own Y C Q (pc + 1) (x0 :: some (.ref v) :: L) (.ref v :: st) w c k) : Go G R cc own Y C Q pc (x0 :: some (.ref v) :: L) st w c k := by
  obtain ⟨p, e, s, m, args, below, meth, cd⟩ := C
  intro O H ls locs hR hS hL
  exact lv_aload_n O.1 O.2.1 d rfl (hL.at (i := 1) rfl rfl) (h O H ls locs hR hS hL)
theorem g_astore1 {x0 : Option Value} {y : Option Value} {v : Nat} (d : decode cc pc = .ok (.astore_n 1, 1)) (h : Go G R cc own Y C Q (pc + 1) (x0 :: some (.ref v) :: L) st w c k) : Go G R cc own Y C Q pc (x0 :: y :: L) (.ref v :: st) w c k := by
  obtain ⟨p, e, s, m, args, below, meth, cd⟩ := C
  intro O H ls locs hR hS hL
  exact lv_astore_n (i := 1) O.1 O.2.1 d rfl hL.has (Nat.lt_of_lt_of_le (by simp) hL.2.2.1) rfl (fun ls' hl' => h O H ls' locs hR hS (hL.set (i := 1) rfl hl'))
theorem g_aload1N {x0 : Option Value} (d : decode cc pc = .ok (.aload_n 1, 1)) (h : Go G R cc own Y C Q (pc + 1) (x0 :: some .null :: L) (.null :: st) w c k) : Go G R cc own Y C Q pc (x0 :: some .null :: L) st w c k := by
  obtain ⟨p, e, s, m, args, below, meth, cd⟩ := C
  intro O H ls locs hR hS hL
  exact lv_aload_nN O.1 O.2.1 d rfl (hL.at (i := 1) rfl rfl) (h O H ls locs hR hS hL)
theorem g_astore1N {x0 : Option Value} {y : Option Value} (d : decode cc pc = .ok (.astore_n 1, 1)) (h : Go G R cc own Y C Q (pc + 1) (x0 :: some .null :: L) st w c k) : Go G R cc own Y C Q pc (x0 :: y :: L) (.null :: st) w c k := by
  obtain ⟨p, e, s, m, args, below, meth, cd⟩ := C
  intro O H ls locs hR hS hL
  exact lv_astore_nN (i := 1) O.1 O.2.1 d rfl hL.has (Nat.lt_of_lt_of_le (by simp) hL.2.2.1) rfl (fun ls' hl' => h O H ls' locs hR hS (hL.set (i := 1) rfl hl'))
theorem g_iinc1 {x0 : Option Value} {v v' : Int32} {n : Int} (d : decode cc pc = .ok (.iinc 1 n, 3)) (hv : v + Int32.ofInt n = v') (h : Go G R cc own Y C Q (pc + 3) (x0 :: some (.int v') :: L) st w c k) : Go G R cc own Y C Q pc (x0 :: some (.int v) :: L) st w c k := by
  obtain ⟨p, e, s, m, args, below, meth, cd⟩ := C
  intro O H ls locs hR hS hL
  obtain ⟨j, hj⟩ := List.getElem?_of_mem (lvL_mem (L := x0 :: some (.int v) :: L) (i := 1) (v := .int v) rfl (Or.inl rfl))
  exact lv_iinc O.1 O.2.1 d hL.has hj hv (Nat.lt_of_lt_of_le (by simp) hL.2.2.1) rfl (fun ls' hl' => h O H ls' locs hR hS (hL.set (i := 1) rfl hl'))
theorem g_iload2 {x0 x1 : Option Value} {v : Int32} (d : decode cc pc = .ok (.iload_n 2, 1)) (h : Go G R cc own Y C Q (pc + 1) (x0 :: x1 :: some (.int v) :: L) (.int v :: st) w c k) : Go G R cc own Y C Q pc (x0 :: x1 :: some (.int v) :: L) st w c k := by
  obtain ⟨p, e, s, m, args, below, meth, cd⟩ := C
  intro O H ls locs hR hS hL
  exact lv_iload_n O.1 O.2.1 d rfl (hL.at (i := 2) rfl rfl) (h O H ls locs hR hS hL)
theorem g_istore2 {x0 x1 : Option Value} {y : Option Value} {v : Int32} (d : decode cc pc = .ok (.istore_n 2, 1)) (h : Go G R cc own Y C Q (pc + 1) (x0 :: x1 :: some (.int v) :: L) st w c k) : Go G R cc own Y C Q pc (x0 :: x1 :: y :: L) (.int v :: st) w c k := by
  obtain ⟨p, e, s, m, args, below, meth, cd⟩ := C
  intro O H ls locs hR hS hL
  exact lv_istore_n (i := 2) O.1 O.2.1 d rfl hL.has (Nat.lt_of_lt_of_le (by simp) hL.2.2.1) rfl (fun ls' hl' => h O H ls' locs hR hS (hL.set (i := 2) rfl hl'))
theorem g_aload2 {x0 x1 : Option Value} {v : Nat} (d : decode cc pc = .ok (.aload_n 2, 1)) (h : Go G R cc own Y C Q (pc + 1) (x0 :: x1 :: some (.ref v) :: L) (.ref v :: st) w c k) : Go G R cc own Y C Q pc (x0 :: x1 :: some (.ref v) :: L) st w c k := by
  obtain ⟨p, e, s, m, args, below, meth, cd⟩ := C
  intro O H ls locs hR hS hL
  exact lv_aload_n O.1 O.2.1 d rfl (hL.at (i := 2) rfl rfl) (h O H ls locs hR hS hL)
theorem g_astore2 {x0 x1 : Option Value} {y : Option Value} {v : Nat} (d : decode cc pc = .ok (.astore_n 2, 1)) (h : Go G R cc own Y C Q (pc + 1) (x0 :: x1 :: some (.ref v) :: L) st w c k) : Go G R cc own Y C Q pc (x0 :: x1 :: y :: L) (.ref v :: st) w c k := by
  obtain ⟨p, e, s, m, args, below, meth, cd⟩ := C
  intro O H ls locs hR hS hL
  exact lv_astore_n (i := 2) O.1 O.2.1 d rfl hL.has (Nat.lt_of_lt_of_le (by simp) hL.2.2.1) rfl (fun ls' hl' => h O H ls' locs hR hS (hL.set (i := 2) rfl hl'))
theorem g_aload2N {x0 x1 : Option Value} (d : decode cc pc = .ok (.aload_n 2, 1)) (h : Go G R cc own Y C Q (pc + 1) (x0 :: x1 :: some .null :: L) (.null :: st) w c k) : Go G R cc own Y C Q pc (x0 :: x1 :: some .null :: L) st w c k := by
  obtain ⟨p, e, s, m, args, below, meth, cd⟩ := C
  intro O H ls locs hR hS hL
  exact lv_aload_nN O.1 O.2.1 d rfl (hL.at (i := 2) rfl rfl) (h O H ls locs hR hS hL)
theorem g_astore2N {x0 x1 : Option Value} {y : Option Value} (d : decode cc pc = .ok (.astore_n 2, 1)) (h : Go G R cc own Y C Q (pc + 1) (x0 :: x1 :: some .null :: L) st w c k) : Go G R cc own Y C Q pc (x0 :: x1 :: y :: L) (.null :: st) w c k := by
  obtain ⟨p, e, s, m, args, below, meth, cd⟩ := C
  intro O H ls locs hR hS hL
  exact lv_astore_nN (i := 2) O.1 O.2.1 d rfl hL.has (Nat.lt_of_lt_of_le (by simp) hL.2.2.1) rfl (fun ls' hl' => h O H ls' locs hR hS (hL.set (i := 2) rfl hl'))
theorem g_iinc2 {x0 x1 : Option Value} {v v' : Int32} {n : Int} (d : decode cc pc = .ok (.iinc 2 n, 3)) (hv : v + Int32.ofInt n = v') (h : Go G R cc own Y C Q (pc + 3) (x0 :: x1 :: some (.int v') :: L) st w c k) : Go G R cc own Y C Q pc (x0 :: x1 :: some (.int v) :: L) st w c k := by
  obtain ⟨p, e, s, m, args, below, meth, cd⟩ := C
  intro O H ls locs hR hS hL
  obtain ⟨j, hj⟩ := List.getElem?_of_mem (lvL_mem (L := x0 :: x1 :: some (.int v) :: L) (i := 2) (v := .int v) rfl (Or.inl rfl))
  exact lv_iinc O.1 O.2.1 d hL.has hj hv (Nat.lt_of_lt_of_le (by simp) hL.2.2.1) rfl (fun ls' hl' => h O H ls' locs hR hS (hL.set (i := 2) rfl hl'))
theorem g_iload3 {x0 x1 x2 : Option Value} {v : Int32} (d : decode cc pc = .ok (.iload_n 3, 1)) (h : Go G R cc own Y C Q (pc + 1) (x0 :: x1 :: x2 :: some (.int v) :: L) (.int v :: st) w c k) : Go G R cc own Y C Q pc (x0 :: x1 :: x2 :: some (.int v) :: L) st w c k := by
  obtain ⟨p, e, s, m, args, below, meth, cd⟩ := C
  intro O H ls locs hR hS hL
  exact lv_iload_n O.1 O.2.1 d rfl (hL.at (i := 3) rfl rfl) (h O H ls locs hR hS hL)
theorem g_istore3 {x0 x1 x2 : Option Value} {y : Option Value} {v : Int32} (d : decode cc pc = .ok (.istore_n 3, 1)) (h : Go G R cc own Y C Q (pc + 1) (x0 :: x1 :: x2 :: some (.int v) :: L) st w c k) : Go G R cc own Y C Q pc (x0 :: x1 :: x2 :: y :: L) (.int v :: st) w c k := by
  obtain ⟨p, e, s, m, args, below, meth, cd⟩ := C
  intro O H ls locs hR hS hL
  exact lv_istore_n (i := 3) O.1 O.2.1 d rfl hL.has (Nat.lt_of_lt_of_le (by simp) hL.2.2.1) rfl (fun ls' hl' => h O H ls' locs hR hS (hL.set (i := 3) rfl hl'))
theorem g_aload3 {x0 x1 x2 : Option Value} {v : Nat} (d : decode cc pc = .ok (.aload_n 3, 1)) (h : Go G R cc own Y C Q (pc + 1) (x0 :: x1 :: x2 :: some (.ref v) :: L) (.ref v :: st) w c k) : Go G R cc own Y C Q pc (x0 :: x1 :: x2 :: some (.ref v) :: L) st w c k := by
  obtain ⟨p, e, s, m, args, below, meth, cd⟩ := C
  intro O H ls locs hR hS hL
  exact lv_aload_n O.1 O.2.1 d rfl (hL.at (i := 3) rfl rfl) (h O H ls locs hR hS hL)
theorem g_astore3 {x0 x1 x2 : Option Value} {y : Option Value} {v : Nat} (d : decode cc pc = .ok (.astore_n 3, 1)) (h : Go G R cc own Y C Q (pc + 1) (x0 :: x1 :: x2 :: some (.ref v) :: L) st w c k) : Go G R cc own Y C Q pc (x0 :: x1 :: x2 :: y :: L) (.ref v :: st) w c k := by
  obtain ⟨p, e, s, m, args, below, meth, cd⟩ := C
  intro O H ls locs hR hS hL
  exact lv_astore_n (i := 3) O.1 O.2.1 d rfl hL.has (Nat.lt_of_lt_of_le (by simp) hL.2.2.1) rfl (fun ls' hl' => h O H ls' locs hR hS (hL.set (i := 3) rfl hl'))
theorem g_aload3N {x0 x1 x2 : Option Value} (d : decode cc pc = .ok (.aload_n 3, 1)) (h : Go G R cc own Y C Q (pc + 1) (x0 :: x1 :: x2 :: some .null :: L) (.null :: st) w c k) : Go G R cc own Y C Q pc (x0 :: x1 :: x2 :: some .null :: L) st w c k := by
  obtain ⟨p, e, s, m, args, below, meth, cd⟩ := C
  intro O H ls locs hR hS hL
  exact lv_aload_nN O.1 O.2.1 d rfl (hL.at (i := 3) rfl rfl) (h O H ls locs hR hS hL)
theorem g_astore3N {x0 x1 x2 : Option Value} {y : Option Value} (d : decode cc pc = .ok (.astore_n 3, 1)) (h : Go G R cc own Y C Q (pc + 1) (x0 :: x1 :: x2 :: some .null :: L) st w c k) : Go G R cc own Y C Q pc (x0 :: x1 :: x2 :: y :: L) (.null :: st) w c k := by
  obtain ⟨p, e, s, m, args, below, meth, cd⟩ := C
  intro O H ls locs hR hS hL
  exact lv_astore_nN (i := 3) O.1 O.2.1 d rfl hL.has (Nat.lt_of_lt_of_le (by simp) hL.2.2.1) rfl (fun ls' hl' => h O H ls' locs hR hS (hL.set (i := 3) rfl hl'))
theorem g_iinc3 {x0 x1 x2 : Option Value} {v v' : Int32} {n : Int} (d : decode cc pc = .ok (.iinc 3 n, 3)) (hv : v + Int32.ofInt n = v') (h : Go G R cc own Y C Q (pc + 3) (x0 :: x1 :: x2 :: some (.int v') :: L) st w c k) : Go G R cc own Y C Q pc (x0 :: x1 :: x2 :: some (.int v) :: L) st w c k := by
  obtain ⟨p, e, s, m, args, below, meth, cd⟩ := C
  intro O H ls locs hR hS hL
  obtain ⟨j, hj⟩ := List.getElem?_of_mem (lvL_mem (L := x0 :: x1 :: x2 :: some (.int v) :: L) (i := 3) (v := .int v) rfl (Or.inl rfl))
  exact lv_iinc O.1 O.2.1 d hL.has hj hv (Nat.lt_of_lt_of_le (by simp) hL.2.2.1) rfl (fun ls' hl' => h O H ls' locs hR hS (hL.set (i := 3) rfl hl'))
theorem g_iload4 {x0 x1 x2 x3 : Option Value} {v : Int32} (d : decode cc pc = .ok (.iload 4, 2)) (h : Go G R cc own Y C Q (pc + 2) (x0 :: x1 :: x2 :: x3 :: some (.int v) :: L) (.int v :: st) w c k) : Go G R cc own Y C Q pc (x0 :: x1 :: x2 :: x3 :: some (.int v) :: L) st w c k := by
  obtain ⟨p, e, s, m, args, below, meth, cd⟩ := C
  intro O H ls locs hR hS hL
  exact lv_iload O.1 O.2.1 d (hL.at (i := 4) rfl rfl) (h O H ls locs hR hS hL)
theorem g_istore4 {x0 x1 x2 x3 : Option Value} {y : Option Value} {v : Int32} (d : decode cc pc = .ok (.istore 4, 2)) (h : Go G R cc own Y C Q (pc + 2) (x0 :: x1 :: x2 :: x3 :: some (.int v) :: L) st w c k) : Go G R cc own Y C Q pc (x0 :: x1 :: x2 :: x3 :: y :: L) (.int v :: st) w c k := by
  obtain ⟨p, e, s, m, args, below, meth, cd⟩ := C
  intro O H ls locs hR hS hL
  exact lv_istore O.1 O.2.1 d hL.has (Nat.lt_of_lt_of_le (by simp) hL.2.2.1) rfl (fun ls' hl' => h O H ls' locs hR hS (hL.set (i := 4) rfl hl'))
theorem g_aload4 {x0 x1 x2 x3 : Option Value} {v : Nat} (d : decode cc pc = .ok (.aload 4, 2)) (h : Go G R cc own Y C Q (pc + 2) (x0 :: x1 :: x2 :: x3 :: some (.ref v) :: L) (.ref v :: st) w c k) : Go G R cc own Y C Q pc (x0 :: x1 :: x2 :: x3 :: some (.ref v) :: L) st w c k := by
  obtain ⟨p, e, s, m, args, below, meth, cd⟩ := C
  intro O H ls locs hR hS hL
  exact lv_aload O.1 O.2.1 d (hL.at (i := 4) rfl rfl) (h O H ls locs hR hS hL)
theorem g_astore4 {x0 x1 x2 x3 : Option Value} {y : Option Value} {v : Nat} (d : decode cc pc = .ok (.astore 4, 2)) (h : Go G R cc own Y C Q (pc + 2) (x0 :: x1 :: x2 :: x3 :: some (.ref v) :: L) st w c k) : Go G R cc own Y C Q pc (x0 :: x1 :: x2 :: x3 :: y :: L) (.ref v :: st) w c k := by
  obtain ⟨p, e, s, m, args, below, meth, cd⟩ := C
  intro O H ls locs hR hS hL
  exact lv_astore O.1 O.2.1 d hL.has (Nat.lt_of_lt_of_le (by simp) hL.2.2.1) rfl (fun ls' hl' => h O H ls' locs hR hS (hL.set (i := 4) rfl hl'))
theorem g_iinc4 {x0 x1 x2 x3 : Option Value} {v v' : Int32} {n : Int} (d : decode cc pc = .ok (.iinc 4 n, 3)) (hv : v + Int32.ofInt n = v') (h : Go G R cc own Y C Q (pc + 3) (x0 :: x1 :: x2 :: x3 :: some (.int v') :: L) st w c k) : Go G R cc own Y C Q pc (x0 :: x1 :: x2 :: x3 :: some (.int v) :: L) st w c k := by
  obtain ⟨p, e, s, m, args, below, meth, cd⟩ := C
  intro O H ls locs hR hS hL
  obtain ⟨j, hj⟩ := List.getElem?_of_mem (lvL_mem (L := x0 :: x1 :: x2 :: x3 :: some (.int v) :: L) (i := 4) (v := .int v) rfl (Or.inl rfl))
  exact lv_iinc O.1 O.2.1 d hL.has hj hv (Nat.lt_of_lt_of_le (by simp) hL.2.2.1) rfl (fun ls' hl' => h O H ls' locs hR hS (hL.set (i := 4) rfl hl'))
theorem g_iload5 {x0 x1 x2 x3 x4 : Option Value} {v : Int32} (d : decode cc pc = .ok (.iload 5, 2)) (h : Go G R cc own Y C Q (pc + 2) (x0 :: x1 :: x2 :: x3 :: x4 :: some (.int v) :: L) (.int v :: st) w c k) : Go G R cc own Y C Q pc (x0 :: x1 :: x2 :: x3 :: x4 :: some (.int v) :: L) st w c k := by
  obtain ⟨p, e, s, m, args, below, meth, cd⟩ := C
  intro O H ls locs hR hS hL
  exact lv_iload O.1 O.2.1 d (hL.at (i := 5) rfl rfl) (h O H ls locs hR hS hL)
theorem g_istore5 {x0 x1 x2 x3 x4 : Option Value} {y : Option Value} {v : Int32} (d : decode cc pc = .ok (.istore 5, 2)) (h : Go G R cc own Y C Q (pc + 2) (x0 :: x1 :: x2 :: x3 :: x4 :: some (.int v) :: L) st w c k) : Go G R cc own Y C Q pc (x0 :: x1 :: x2 :: x3 :: x4 :: y :: L) (.int v :: st) w c k := by
  obtain ⟨p, e, s, m, args, below, meth, cd⟩ := C
  intro O H ls locs hR hS hL
  exact lv_istore O.1 O.2.1 d hL.has (Nat.lt_of_lt_of_le (by simp) hL.2.2.1) rfl (fun ls' hl' => h O H ls' locs hR hS (hL.set (i := 5) rfl hl'))
theorem g_aload5 {x0 x1 x2 x3 x4 : Option Value} {v : Nat} (d : decode cc pc = .ok (.aload 5, 2)) (h : Go G R cc own Y C Q (pc + 2) (x0 :: x1 :: x2 :: x3 :: x4 :: some (.ref v) :: L) (.ref v :: st) w c k) : Go G R cc own Y C Q pc (x0 :: x1 :: x2 :: x3 :: x4 :: some (.ref v) :: L) st w c k := by
  obtain ⟨p, e, s, m, args, below, meth, cd⟩ := C
  intro O H ls locs hR hS hL
  exact lv_aload O.1 O.2.1 d (hL.at (i := 5) rfl rfl) (h O H ls locs hR hS hL)
theorem g_astore5 {x0 x1 x2 x3 x4 : Option Value} {y : Option Value} {v : Nat} (d : decode cc pc = .ok (.astore 5, 2)) (h : Go G R cc own Y C Q (pc + 2) (x0 :: x1 :: x2 :: x3 :: x4 :: some (.ref v) :: L) st w c k) : Go G R cc own Y C Q pc (x0 :: x1 :: x2 :: x3 :: x4 :: y :: L) (.ref v :: st) w c k := by
  obtain ⟨p, e, s, m, args, below, meth, cd⟩ := C
  intro O H ls locs hR hS hL
  exact lv_astore O.1 O.2.1 d hL.has (Nat.lt_of_lt_of_le (by simp) hL.2.2.1) rfl (fun ls' hl' => h O H ls' locs hR hS (hL.set (i := 5) rfl hl'))
theorem g_iinc5 {x0 x1 x2 x3 x4 : Option Value} {v v' : Int32} {n : Int} (d : decode cc pc = .ok (.iinc 5 n, 3)) (hv : v + Int32.ofInt n = v') (h : Go G R cc own Y C Q (pc + 3) (x0 :: x1 :: x2 :: x3 :: x4 :: some (.int v') :: L) st w c k) : Go G R cc own Y C Q pc (x0 :: x1 :: x2 :: x3 :: x4 :: some (.int v) :: L) st w c k := by
  obtain ⟨p, e, s, m, args, below, meth, cd⟩ := C
  intro O H ls locs hR hS hL
  obtain ⟨j, hj⟩ := List.getElem?_of_mem (lvL_mem (L := x0 :: x1 :: x2 :: x3 :: x4 :: some (.int v) :: L) (i := 5) (v := .int v) rfl (Or.inl rfl))
  exact lv_iinc O.1 O.2.1 d hL.has hj hv (Nat.lt_of_lt_of_le (by simp) hL.2.2.1) rfl (fun ls' hl' => h O H ls' locs hR hS (hL.set (i := 5) rfl hl'))
theorem g_iload6 {x0 x1 x2 x3 x4 x5 : Option Value} {v : Int32} (d : decode cc pc = .ok (.iload 6, 2)) (h : Go G R cc own Y C Q (pc + 2) (x0 :: x1 :: x2 :: x3 :: x4 :: x5 :: some (.int v) :: L) (.int v :: st) w c k) : Go G R cc own Y C Q pc (x0 :: x1 :: x2 :: x3 :: x4 :: x5 :: some (.int v) :: L) st w c k := by
  obtain ⟨p, e, s, m, args, below, meth, cd⟩ := C
  intro O H ls locs hR hS hL
  exact lv_iload O.1 O.2.1 d (hL.at (i := 6) rfl rfl) (h O H ls locs hR hS hL)
theorem g_istore6 {x0 x1 x2 x3 x4 x5 : Option Value} {y : Option Value} {v : Int32} (d : decode cc pc = .ok (.istore 6, 2)) (h : Go G R cc own Y C Q (pc + 2) (x0 :: x1 :: x2 :: x3 :: x4 :: x5 :: some (.int v) :: L) st w c k) : Go G R cc own Y C Q pc (x0 :: x1 :: x2 :: x3 :: x4 :: x5 :: y :: L) (.int v :: st) w c k := by
  obtain ⟨p, e, s, m, args, below, meth, cd⟩ := C
  intro O H ls locs hR hS hL
  exact lv_istore O.1 O.2.1 d hL.has (Nat.lt_of_lt_of_le (by simp) hL.2.2.1) rfl (fun ls' hl' => h O H ls' locs hR hS (hL.set (i := 6) rfl hl'))
theorem g_aload6 {x0 x1 x2 x3 x4 x5 : Option Value} {v : Nat} (d : decode cc pc = .ok (.aload 6, 2)) (h : Go G R cc own Y C Q (pc + 2) (x0 :: x1 :: x2 :: x3 :: x4 :: x5 :: some (.ref v) :: L) (.ref v :: st) w c k) : Go G R cc own Y C Q pc (x0 :: x1 :: x2 :: x3 :: x4 :: x5 :: some (.ref v) :: L) st w c k := by
  obtain ⟨p, e, s, m, args, below, meth, cd⟩ := C
  intro O H ls locs hR hS hL
  exact lv_aload O.1 O.2.1 d (hL.at (i := 6) rfl rfl) (h O H ls locs hR hS hL)
theorem g_astore6 {x0 x1 x2 x3 x4 x5 : Option Value} {y : Option Value} {v : Nat} (d : decode cc pc = .ok (.astore 6, 2)) (h : Go G R cc own Y C Q (pc + 2) (x0 :: x1 :: x2 :: x3 :: x4 :: x5 :: some (.ref v) :: L) st w c k) : Go G R cc own Y C Q pc (x0 :: x1 :: x2 :: x3 :: x4 :: x5 :: y :: L) (.ref v :: st) w c k := by
  obtain ⟨p, e, s, m, args, below, meth, cd⟩ := C
  intro O H ls locs hR hS hL
  exact lv_astore O.1 O.2.1 d hL.has (Nat.lt_of_lt_of_le (by simp) hL.2.2.1) rfl (fun ls' hl' => h O H ls' locs hR hS (hL.set (i := 6) rfl hl'))
theorem g_iinc6 {x0 x1 x2 x3 x4 x5 : Option Value} {v v' : Int32} {n : Int} (d : decode cc pc = .ok (.iinc 6 n, 3)) (hv : v + Int32.ofInt n = v') (h : Go G R cc own Y C Q (pc + 3) (x0 :: x1 :: x2 :: x3 :: x4 :: x5 :: some (.int v') :: L) st w c k) : Go G R cc own Y C Q pc (x0 :: x1 :: x2 :: x3 :: x4 :: x5 :: some (.int v) :: L) st w c k := by
  obtain ⟨p, e, s, m, args, below, meth, cd⟩ := C
  intro O H ls locs hR hS hL
  obtain ⟨j, hj⟩ := List.getElem?_of_mem (lvL_mem (L := x0 :: x1 :: x2 :: x3 :: x4 :: x5 :: some (.int v) :: L) (i := 6) (v := .int v) rfl (Or.inl rfl))
  exact lv_iinc O.1 O.2.1 d hL.has hj hv (Nat.lt_of_lt_of_le (by simp) hL.2.2.1) rfl (fun ls' hl' => h O H ls' locs hR hS (hL.set (i := 6) rfl hl'))
theorem g_iload7 {x0 x1 x2 x3 x4 x5 x6 : Option Value} {v : Int32} (d : decode cc pc = .ok (.iload 7, 2)) (h : Go G R cc own Y C Q (pc + 2) (x0 :: x1 :: x2 :: x3 :: x4 :: x5 :: x6 :: some (.int v) :: L) (.int v :: st) w c k) : Go G R cc own Y C Q pc (x0 :: x1 :: x2 :: x3 :: x4 :: x5 :: x6 :: some (.int v) :: L) st w c k := by
  obtain ⟨p, e, s, m, args, below, meth, cd⟩ := C
  intro O H ls locs hR hS hL
  exact lv_iload O.1 O.2.1 d (hL.at (i := 7) rfl rfl) (h O H ls locs hR hS hL)
theorem g_istore7 {x0 x1 x2 x3 x4 x5 x6 : Option Value} {y : Option Value} {v : Int32} (d : decode cc pc = .ok (.istore 7, 2)) (h : Go G R cc own Y C Q (pc + 2) (x0 :: x1 :: x2 :: x3 :: x4 :: x5 :: x6 :: some (.int v) :: L) st w c k) : Go G R cc own Y C Q pc (x0 :: x1 :: x2 :: x3 :: x4 :: x5 :: x6 :: y :: L) (.int v :: st) w c k := by
  obtain ⟨p, e, s, m, args, below, meth, cd⟩ := C
  intro O H ls locs hR hS hL
  exact lv_istore O.1 O.2.1 d hL.has (Nat.lt_of_lt_of_le (by simp) hL.2.2.1) rfl (fun ls' hl' => h O H ls' locs hR hS (hL.set (i := 7) rfl hl'))
theorem g_aload7 {x0 x1 x2 x3 x4 x5 x6 : Option Value} {v : Nat} (d : decode cc pc = .ok (.aload 7, 2)) (h : Go G R cc own Y C Q (pc + 2) (x0 :: x1 :: x2 :: x3 :: x4 :: x5 :: x6 :: some (.ref v) :: L) (.ref v :: st) w c k) : Go G R cc own Y C Q pc (x0 :: x1 :: x2 :: x3 :: x4 :: x5 :: x6 :: some (.ref v) :: L) st w c k := by
  obtain ⟨p, e, s, m, args, below, meth, cd⟩ := C
  intro O H ls locs hR hS hL
  exact lv_aload O.1 O.2.1 d (hL.at (i := 7) rfl rfl) (h O H ls locs hR hS hL)
theorem g_astore7 {x0 x1 x2 x3 x4 x5 x6 : Option Value} {y : Option Value} {v : Nat} (d : decode cc pc = .ok (.astore 7, 2)) (h : Go G R cc own Y C Q (pc + 2) (x0 :: x1 :: x2 :: x3 :: x4 :: x5 :: x6 :: some (.ref v) :: L) st w c k) : Go G R cc own Y C Q pc (x0 :: x1 :: x2 :: x3 :: x4 :: x5 :: x6 :: y :: L) (.ref v :: st) w c k := by
  obtain ⟨p, e, s, m, args, below, meth, cd⟩ := C
  intro O H ls locs hR hS hL
  exact lv_astore O.1 O.2.1 d hL.has (Nat.lt_of_lt_of_le (by simp) hL.2.2.1) rfl (fun ls' hl' => h O H ls' locs hR hS (hL.set (i := 7) rfl hl'))
theorem g_iinc7 {x0 x1 x2 x3 x4 x5 x6 : Option Value} {v v' : Int32} {n : Int} (d : decode cc pc = .ok (.iinc 7 n, 3)) (hv : v + Int32.ofInt n = v') (h : Go G R cc own Y C Q (pc + 3) (x0 :: x1 :: x2 :: x3 :: x4 :: x5 :: x6 :: some (.int v') :: L) st w c k) : Go G R cc own Y C Q pc (x0 :: x1 :: x2 :: x3 :: x4 :: x5 :: x6 :: some (.int v) :: L) st w c k := by
  obtain ⟨p, e, s, m, args, below, meth, cd⟩ := C
  intro O H ls locs hR hS hL
  obtain ⟨j, hj⟩ := List.getElem?_of_mem (lvL_mem (L := x0 :: x1 :: x2 :: x3 :: x4 :: x5 :: x6 :: some (.int v) :: L) (i := 7) (v := .int v) rfl (Or.inl rfl))
  exact lv_iinc O.1 O.2.1 d hL.has hj hv (Nat.lt_of_lt_of_le (by simp) hL.2.2.1) rfl (fun ls' hl' => h O H ls' locs hR hS (hL.set (i := 7) rfl hl'))
theorem g_iload8 {x0 x1 x2 x3 x4 x5 x6 x7 : Option Value} {v : Int32} (d : decode cc pc = .ok (.iload 8, 2)) (h : Go G R cc own Y C Q (pc + 2) (x0 :: x1 :: x2 :: x3 :: x4 :: x5 :: x6 :: x7 :: some (.int v) :: L) (.int v :: st) w c k) : Go G R cc own Y C Q pc (x0 :: x1 :: x2 :: x3 :: x4 :: x5 :: x6 :: x7 :: some (.int v) :: L) st w c k := by
  obtain ⟨p, e, s, m, args, below, meth, cd⟩ := C
  intro O H ls locs hR hS hL
  exact lv_iload O.1 O.2.1 d (hL.at (i := 8) rfl rfl) (h O H ls locs hR hS hL)
theorem g_istore8 {x0 x1 x2 x3 x4 x5 x6 x7 : Option Value} {y : Option Value} {v : Int32} (d : decode cc pc = .ok (.istore 8, 2)) (h : Go G R cc own Y C Q (pc + 2) (x0 :: x1 :: x2 :: x3 :: x4 :: x5 :: x6 :: x7 :: some (.int v) :: L) st w c k) : Go G R cc own Y C Q pc (x0 :: x1 :: x2 :: x3 :: x4 :: x5 :: x6 :: x7 :: y :: L) (.int v :: st) w c k := by
  obtain ⟨p, e, s, m, args, below, meth, cd⟩ := C
  intro O H ls locs hR hS hL
  exact lv_istore O.1 O.2.1 d hL.has (Nat.lt_of_lt_of_le (by simp) hL.2.2.1) rfl (fun ls' hl' => h O H ls' locs hR hS (hL.set (i := 8) rfl hl'))
theorem g_aload8 {x0 x1 x2 x3 x4 x5 x6 x7 : Option Value} {v : Nat} (d : decode cc pc = .ok (.aload 8, 2)) (h : Go G R cc own Y C Q (pc + 2) (x0 :: x1 :: x2 :: x3 :: x4 :: x5 :: x6 :: x7 :: some (.ref v) :: L) (.ref v :: st) w c k) : Go G R cc own Y C Q pc (x0 :: x1 :: x2 :: x3 :: x4 :: x5 :: x6 :: x7 :: some (.ref v) :: L) st w c k := by
  obtain ⟨p, e, s, m, args, below, meth, cd⟩ := C
  intro O H ls locs hR hS hL
  exact lv_aload O.1 O.2.1 d (hL.at (i := 8) rfl rfl) (h O H ls locs hR hS hL)
theorem g_astore8 {x0 x1 x2 x3 x4 x5 x6 x7 : Option Value} {y : Option Value} {v : Nat} (d : decode cc pc = .ok (.astore 8, 2)) (h : Go G R cc own Y C Q (pc + 2) (x0 :: x1 :: x2 :: x3 :: x4 :: x5 :: x6 :: x7 :: some (.ref v) :: L) st w c k) : Go G R cc own Y C Q pc (x0 :: x1 :: x2 :: x3 :: x4 :: x5 :: x6 :: x7 :: y :: L) (.ref v :: st) w c k := by
  obtain ⟨p, e, s, m, args, below, meth, cd⟩ := C
  intro O H ls locs hR hS hL
  exact lv_astore O.1 O.2.1 d hL.has (Nat.lt_of_lt_of_le (by simp) hL.2.2.1) rfl (fun ls' hl' => h O H ls' locs hR hS (hL.set (i := 8) rfl hl'))
theorem g_iinc8 {x0 x1 x2 x3 x4 x5 x6 x7 : Option Value} {v v' : Int32} {n : Int} (d : decode cc pc = .ok (.iinc 8 n, 3)) (hv : v + Int32.ofInt n = v') (h : Go G R cc own Y C Q (pc + 3) (x0 :: x1 :: x2 :: x3 :: x4 :: x5 :: x6 :: x7 :: some (.int v') :: L) st w c k) : Go G R cc own Y C Q pc (x0 :: x1 :: x2 :: x3 :: x4 :: x5 :: x6 :: x7 :: some (.int v) :: L) st w c k := by
  obtain ⟨p, e, s, m, args, below, meth, cd⟩ := C
  intro O H ls locs hR hS hL
  obtain ⟨j, hj⟩ := List.getElem?_of_mem (lvL_mem (L := x0 :: x1 :: x2 :: x3 :: x4 :: x5 :: x6 :: x7 :: some (.int v) :: L) (i := 8) (v := .int v) rfl (Or.inl rfl))
  exact lv_iinc O.1 O.2.1 d hL.has hj hv (Nat.lt_of_lt_of_le (by simp) hL.2.2.1) rfl (fun ls' hl' => h O H ls' locs hR hS (hL.set (i := 8) rfl hl'))
theorem g_iload9 {x0 x1 x2 x3 x4 x5 x6 x7 x8 : Option Value} {v : Int32} (d : decode cc pc = .ok (.iload 9, 2)) (h : Go G R cc own Y C Q (pc + 2) (x0 :: x1 :: x2 :: x3 :: x4 :: x5 :: x6 :: x7 :: x8 :: some (.int v) :: L) (.int v :: st) w c k) : Go G R cc own Y C Q pc (x0 :: x1 :: x2 :: x3 :: x4 :: x5 :: x6 :: x7 :: x8 :: some (.int v) :: L) st w c k := by
  obtain ⟨p, e, s, m, args, below, meth, cd⟩ := C
  intro O H ls locs hR hS hL
  exact lv_iload O.1 O.2.1 d (hL.at (i := 9) rfl rfl) (h O H ls locs hR hS hL)
theorem g_istore9 {x0 x1 x2 x3 x4 x5 x6 x7 x8 : Option Value} {y : Option Value} {v : Int32} (d : decode cc pc = .ok (.istore 9, 2)) (h : Go G R cc own Y C Q (pc + 2) (x0 :: x1 :: x2 :: x3 :: x4 :: x5 :: x6 :: x7 :: x8 :: some (.int v) :: L) st w c k) : Go G R cc own Y C Q pc (x0 :: x1 :: x2 :: x3 :: x4 :: x5 :: x6 :: x7 :: x8 :: y :: L) (.int v :: st) w c k := by
  obtain ⟨p, e, s, m, args, below, meth, cd⟩ := C
  intro O H ls locs hR hS hL
  exact lv_istore O.1 O.2.1 d hL.has (Nat.lt_of_lt_of_le (by simp) hL.2.2.1) rfl (fun ls' hl' => h O H ls' locs hR hS (hL.set (i := 9) rfl hl'))
theorem g_aload9 {x0 x1 x2 x3 x4 x5 x6 x7 x8 : Option Value} {v : Nat} (d : decode cc pc = .ok (.aload 9, 2)) (h : Go G R cc own Y C Q (pc + 2) (x0 :: x1 :: x2 :: x3 :: x4 :: x5 :: x6 :: x7 :: x8 :: some (.ref v) :: L) (.ref v :: st) w c k) : Go G R cc own Y C Q pc (x0 :: x1 :: x2 :: x3 :: x4 :: x5 :: x6 :: x7 :: x8 :: some (.ref v) :: L) st w c k := by
  obtain ⟨p, e, s, m, args, below, meth, cd⟩ := C
  intro O H ls locs hR hS hL
  exact lv_aload O.1 O.2.1 d (hL.at (i := 9) rfl rfl) (h O H ls locs hR hS hL)
theorem g_astore9 {x0 x1 x2 x3 x4 x5 x6 x7 x8 : Option Value} {y : Option Value} {v : Nat} (d : decode cc pc = .ok (.astore 9, 2)) (h : Go G R cc own Y C Q (pc + 2) (x0 :: x1 :: x2 :: x3 :: x4 :: x5 :: x6 :: x7 :: x8 :: some (.ref v) :: L) st w c k) : Go G R cc own Y C Q pc (x0 :: x1 :: x2 :: x3 :: x4 :: x5 :: x6 :: x7 :: x8 :: y :: L) (.ref v :: st) w c k := by
  obtain ⟨p, e, s, m, args, below, meth, cd⟩ := C
  intro O H ls locs hR hS hL
  exact lv_astore O.1 O.2.1 d hL.has (Nat.lt_of_lt_of_le (by simp) hL.2.2.1) rfl (fun ls' hl' => h O H ls' locs hR hS (hL.set (i := 9) rfl hl'))
theorem g_iinc9 {x0 x1 x2 x3 x4 x5 x6 x7 x8 : Option Value} {v v' : Int32} {n : Int} (d : decode cc pc = .ok (.iinc 9 n, 3)) (hv : v + Int32.ofInt n = v') (h : Go G R cc own Y C Q (pc + 3) (x0 :: x1 :: x2 :: x3 :: x4 :: x5 :: x6 :: x7 :: x8 :: some (.int v') :: L) st w c k) : Go G R cc own Y C Q pc (x0 :: x1 :: x2 :: x3 :: x4 :: x5 :: x6 :: x7 :: x8 :: some (.int v) :: L) st w c k := by
  obtain ⟨p, e, s, m, args, below, meth, cd⟩ := C
  intro O H ls locs hR hS hL
  obtain ⟨j, hj⟩ := List.getElem?_of_mem (lvL_mem (L := x0 :: x1 :: x2 :: x3 :: x4 :: x5 :: x6 :: x7 :: x8 :: some (.int v) :: L) (i := 9) (v := .int v) rfl (Or.inl rfl))
  exact lv_iinc O.1 O.2.1 d hL.has hj hv (Nat.lt_of_lt_of_le (by simp) hL.2.2.1) rfl (fun ls' hl' => h O H ls' locs hR hS (hL.set (i := 9) rfl hl'))
theorem g_iload10 {x0 x1 x2 x3 x4 x5 x6 x7 x8 x9 : Option Value} {v : Int32} (d : decode cc pc = .ok (.iload 10, 2)) (h : Go G R cc own Y C Q (pc + 2) (x0 :: x1 :: x2 :: x3 :: x4 :: x5 :: x6 :: x7 :: x8 :: x9 :: some (.int v) :: L) (.int v :: st) w c k) : Go G R cc own Y C Q pc (x0 :: x1 :: x2 :: x3 :: x4 :: x5 :: x6 :: x7 :: x8 :: x9 :: some (.int v) :: L) st w c k := by
  obtain ⟨p, e, s, m, args, below, meth, cd⟩ := C
  intro O H ls locs hR hS hL
  exact lv_iload O.1 O.2.1 d (hL.at (i := 10) rfl rfl) (h O H ls locs hR hS hL)
theorem g_istore10 {x0 x1 x2 x3 x4 x5 x6 x7 x8 x9 : Option Value} {y : Option Value} {v : Int32} (d : decode cc pc = .ok (.istore 10, 2)) (h : Go G R cc own Y C Q (pc + 2) (x0 :: x1 :: x2 :: x3 :: x4 :: x5 :: x6 :: x7 :: x8 :: x9 :: some (.int v) :: L) st w c k) : Go G R cc own Y C Q pc (x0 :: x1 :: x2 :: x3 :: x4 :: x5 :: x6 :: x7 :: x8 :: x9 :: y :: L) (.int v :: st) w c k := by
  obtain ⟨p, e, s, m, args, below, meth, cd⟩ := C
  intro O H ls locs hR hS hL
  exact lv_istore O.1 O.2.1 d hL.has (Nat.lt_of_lt_of_le (by simp) hL.2.2.1) rfl (fun ls' hl' => h O H ls' locs hR hS (hL.set (i := 10) rfl hl'))
theorem g_aload10 {x0 x1 x2 x3 x4 x5 x6 x7 x8 x9 : Option Value} {v : Nat} (d : decode cc pc = .ok (.aload 10, 2)) (h : Go G R cc own Y C Q (pc + 2) (x0 :: x1 :: x2 :: x3 :: x4 :: x5 :: x6 :: x7 :: x8 :: x9 :: some (.ref v) :: L) (.ref v :: st) w c k) : Go G R cc own Y C Q pc (x0 :: x1 :: x2 :: x3 :: x4 :: x5 :: x6 :: x7 :: x8 :: x9 :: some (.ref v) :: L) st w c k := by
  obtain ⟨p, e, s, m, args, below, meth, cd⟩ := C
  intro O H ls locs hR hS hL
  exact lv_aload O.1 O.2.1 d (hL.at (i := 10) rfl rfl) (h O H ls locs hR hS hL)
theorem g_astore10 {x0 x1 x2 x3 x4 x5 x6 x7 x8 x9 : Option Value} {y : Option Value} {v : Nat} (d : decode cc pc = .ok (.astore 10, 2)) (h : Go G R cc own Y C Q (pc + 2) (x0 :: x1 :: x2 :: x3 :: x4 :: x5 :: x6 :: x7 :: x8 :: x9 :: some (.ref v) :: L) st w c k) : Go G R cc own Y C Q pc (x0 :: x1 :: x2 :: x3 :: x4 :: x5 :: x6 :: x7 :: x8 :: x9 :: y :: L) (.ref v :: st) w c k := by
  obtain ⟨p, e, s, m, args, below, meth, cd⟩ := C
  intro O H ls locs hR hS hL
  exact lv_astore O.1 O.2.1 d hL.has (Nat.lt_of_lt_of_le (by simp) hL.2.2.1) rfl (fun ls' hl' => h O H ls' locs hR hS (hL.set (i := 10) rfl hl'))
theorem g_iinc10 {x0 x1 x2 x3 x4 x5 x6 x7 x8 x9 : Option Value} {v v' : Int32} {n : Int} (d : decode cc pc = .ok (.iinc 10 n, 3)) (hv : v + Int32.ofInt n = v') (h : Go G R cc own Y C Q (pc + 3) (x0 :: x1 :: x2 :: x3 :: x4 :: x5 :: x6 :: x7 :: x8 :: x9 :: some (.int v') :: L) st w c k) : Go G R cc own Y C Q pc (x0 :: x1 :: x2 :: x3 :: x4 :: x5 :: x6 :: x7 :: x8 :: x9 :: some (.int v) :: L) st w c k := by
  obtain ⟨p, e, s, m, args, below, meth, cd⟩ := C
  intro O H ls locs hR hS hL
  obtain ⟨j, hj⟩ := List.getElem?_of_mem (lvL_mem (L := x0 :: x1 :: x2 :: x3 :: x4 :: x5 :: x6 :: x7 :: x8 :: x9 :: some (.int v) :: L) (i := 10) (v := .int v) rfl (Or.inl rfl))
  exact lv_iinc O.1 O.2.1 d hL.has hj hv (Nat.lt_of_lt_of_le (by simp) hL.2.2.1) rfl (fun ls' hl' => h O H ls' locs hR hS (hL.set (i := 10) rfl hl'))
theorem g_iload11 {x0 x1 x2 x3 x4 x5 x6 x7 x8 x9 x10 : Option Value} {v : Int32} (d : decode cc pc = .ok (.iload 11, 2)) (h : Go G R cc own Y C Q (pc + 2) (x0 :: x1 :: x2 :: x3 :: x4 :: x5 :: x6 :: x7 :: x8 :: x9 :: x10 :: some (.int v) :: L) (.int v :: st) w c k) : Go G R cc own Y C Q pc (x0 :: x1 :: x2 :: x3 :: x4 :: x5 :: x6 :: x7 :: x8 :: x9 :: x10 :: some (.int v) :: L) st w c k := by
  obtain ⟨p, e, s, m, args, below, meth, cd⟩ := C
  intro O H ls locs hR hS hL
  exact lv_iload O.1 O.2.1 d (hL.at (i := 11) rfl rfl) (h O H ls locs hR hS hL)
theorem g_istore11 {x0 x1 x2 x3 x4 x5 x6 x7 x8 x9 x10 : Option Value} {y : Option Value} {v : Int32} (d : decode cc pc = .ok (.istore 11, 2)) (h : Go G R cc own Y C Q (pc + 2) (x0 :: x1 :: x2 :: x3 :: x4 :: x5 :: x6 :: x7 :: x8 :: x9 :: x10 :: some (.int v) :: L) st w c k) : Go G R cc own Y C Q pc (x0 :: x1 :: x2 :: x3 :: x4 :: x5 :: x6 :: x7 :: x8 :: x9 :: x10 :: y :: L) (.int v :: st) w c k := by
  obtain ⟨p, e, s, m, args, below, meth, cd⟩ := C
  intro O H ls locs hR hS hL
  exact lv_istore O.1 O.2.1 d hL.has (Nat.lt_of_lt_of_le (by simp) hL.2.2.1) rfl (fun ls' hl' => h O H ls' locs hR hS (hL.set (i := 11) rfl hl'))
theorem g_aload11 {x0 x1 x2 x3 x4 x5 x6 x7 x8 x9 x10 : Option Value} {v : Nat} (d : decode cc pc = .ok (.aload 11, 2)) (h : Go G R cc own Y C Q (pc + 2) (x0 :: x1 :: x2 :: x3 :: x4 :: x5 :: x6 :: x7 :: x8 :: x9 :: x10 :: some (.ref v) :: L) (.ref v :: st) w c k) : Go G R cc own Y C Q pc (x0 :: x1 :: x2 :: x3 :: x4 :: x5 :: x6 :: x7 :: x8 :: x9 :: x10 :: some (.ref v) :: L) st w c k := by
  obtain ⟨p, e, s, m, args, below, meth, cd⟩ := C
  intro O H ls locs hR hS hL
  exact lv_aload O.1 O.2.1 d (hL.at (i := 11) rfl rfl) (h O H ls locs hR hS hL)
theorem g_astore11 {x0 x1 x2 x3 x4 x5 x6 x7 x8 x9 x10 : Option Value} {y : Option Value} {v : Nat} (d : decode cc pc = .ok (.astore 11, 2)) (h : Go G R cc own Y C Q (pc + 2) (x0 :: x1 :: x2 :: x3 :: x4 :: x5 :: x6 :: x7 :: x8 :: x9 :: x10 :: some (.ref v) :: L) st w c k) : Go G R cc own Y C Q pc (x0 :: x1 :: x2 :: x3 :: x4 :: x5 :: x6 :: x7 :: x8 :: x9 :: x10 :: y :: L) (.ref v :: st) w c k := by
  obtain ⟨p, e, s, m, args, below, meth, cd⟩ := C
  intro O H ls locs hR hS hL
  exact lv_astore O.1 O.2.1 d hL.has (Nat.lt_of_lt_of_le (by simp) hL.2.2.1) rfl (fun ls' hl' => h O H ls' locs hR hS (hL.set (i := 11) rfl hl'))
theorem g_iinc11 {x0 x1 x2 x3 x4 x5 x6 x7 x8 x9 x10 : Option Value} {v v' : Int32} {n : Int} (d : decode cc pc = .ok (.iinc 11 n, 3)) (hv : v + Int32.ofInt n = v') (h : Go G R cc own Y C Q (pc + 3) (x0 :: x1 :: x2 :: x3 :: x4 :: x5 :: x6 :: x7 :: x8 :: x9 :: x10 :: some (.int v') :: L) st w c k) : Go G R cc own Y C Q pc (x0 :: x1 :: x2 :: x3 :: x4 :: x5 :: x6 :: x7 :: x8 :: x9 :: x10 :: some (.int v) :: L) st w c k := by
  obtain ⟨p, e, s, m, args, below, meth, cd⟩ := C
  intro O H ls locs hR hS hL
  obtain ⟨j, hj⟩ := List.getElem?_of_mem (lvL_mem (L := x0 :: x1 :: x2 :: x3 :: x4 :: x5 :: x6 :: x7 :: x8 :: x9 :: x10 :: some (.int v) :: L) (i := 11) (v := .int v) rfl (Or.inl rfl))
  exact lv_iinc O.1 O.2.1 d hL.has hj hv (Nat.lt_of_lt_of_le (by simp) hL.2.2.1) rfl (fun ls' hl' => h O H ls' locs hR hS (hL.set (i := 11) rfl hl'))
theorem g_iload12 {x0 x1 x2 x3 x4 x5 x6 x7 x8 x9 x10 x11 : Option Value} {v : Int32} (d : decode cc pc = .ok (.iload 12, 2)) (h : Go G R cc own Y C Q (pc + 2) (x0 :: x1 :: x2 :: x3 :: x4 :: x5 :: x6 :: x7 :: x8 :: x9 :: x10 :: x11 :: some (.int v) :: L) (.int v :: st) w c k) : Go G R cc own Y C Q pc (x0 :: x1 :: x2 :: x3 :: x4 :: x5 :: x6 :: x7 :: x8 :: x9 :: x10 :: x11 :: some (.int v) :: L) st w c k := by
  obtain ⟨p, e, s, m, args, below, meth, cd⟩ := C
  intro O H ls locs hR hS hL
  exact lv_iload O.1 O.2.1 d (hL.at (i := 12) rfl rfl) (h O H ls locs hR hS hL)
theorem g_istore12 {x0 x1 x2 x3 x4 x5 x6 x7 x8 x9 x10 x11 : Option Value} {y : Option Value} {v : Int32} (d : decode cc pc = .ok (.istore 12, 2)) (h : Go G R cc own Y C Q (pc + 2) (x0 :: x1 :: x2 :: x3 :: x4 :: x5 :: x6 :: x7 :: x8 :: x9 :: x10 :: x11 :: some (.int v) :: L) st w c k) : Go G R cc own Y C Q pc (x0 :: x1 :: x2 :: x3 :: x4 :: x5 :: x6 :: x7 :: x8 :: x9 :: x10 :: x11 :: y :: L) (.int v :: st) w c k := by
  obtain ⟨p, e, s, m, args, below, meth, cd⟩ := C
  intro O H ls locs hR hS hL
  exact lv_istore O.1 O.2.1 d hL.has (Nat.lt_of_lt_of_le (by simp) hL.2.2.1) rfl (fun ls' hl' => h O H ls' locs hR hS (hL.set (i := 12) rfl hl'))
theorem g_aload12 {x0 x1 x2 x3 x4 x5 x6 x7 x8 x9 x10 x11 : Option Value} {v : Nat} (d : decode cc pc = .ok (.aload 12, 2)) (h : Go G R cc own Y C Q (pc + 2) (x0 :: x1 :: x2 :: x3 :: x4 :: x5 :: x6 :: x7 :: x8 :: x9 :: x10 :: x11 :: some (.ref v) :: L) (.ref v :: st) w c k) : Go G R cc own Y C Q pc (x0 :: x1 :: x2 :: x3 :: x4 :: x5 :: x6 :: x7 :: x8 :: x9 :: x10 :: x11 :: some (.ref v) :: L) st w c k := by
  obtain ⟨p, e, s, m, args, below, meth, cd⟩ := C
  intro O H ls locs hR hS hL
  exact lv_aload O.1 O.2.1 d (hL.at (i := 12) rfl rfl) (h O H ls locs hR hS hL)
theorem g_astore12 {x0 x1 x2 x3 x4 x5 x6 x7 x8 x9 x10 x11 : Option Value} {y : Option Value} {v : Nat} (d : decode cc pc = .ok (.astore 12, 2)) (h : Go G R cc own Y C Q (pc + 2) (x0 :: x1 :: x2 :: x3 :: x4 :: x5 :: x6 :: x7 :: x8 :: x9 :: x10 :: x11 :: some (.ref v) :: L) st w c k) : Go G R cc own Y C Q pc (x0 :: x1 :: x2 :: x3 :: x4 :: x5 :: x6 :: x7 :: x8 :: x9 :: x10 :: x11 :: y :: L) (.ref v :: st) w c k := by
  obtain ⟨p, e, s, m, args, below, meth, cd⟩ := C
  intro O H ls locs hR hS hL
  exact lv_astore O.1 O.2.1 d hL.has (Nat.lt_of_lt_of_le (by simp) hL.2.2.1) rfl (fun ls' hl' => h O H ls' locs hR hS (hL.set (i := 12) rfl hl'))
theorem g_iinc12 {x0 x1 x2 x3 x4 x5 x6 x7 x8 x9 x10 x11 : Option Value} {v v' : Int32} {n : Int} (d : decode cc pc = .ok (.iinc 12 n, 3)) (hv : v + Int32.ofInt n = v') (h : Go G R cc own Y C Q (pc + 3) (x0 :: x1 :: x2 :: x3 :: x4 :: x5 :: x6 :: x7 :: x8 :: x9 :: x10 :: x11 :: some (.int v') :: L) st w c k) : Go G R cc own Y C Q pc (x0 :: x1 :: x2 :: x3 :: x4 :: x5 :: x6 :: x7 :: x8 :: x9 :: x10 :: x11 :: some (.int v) :: L) st w c k := by
  obtain ⟨p, e, s, m, args, below, meth, cd⟩ := C
  intro O H ls locs hR hS hL
  obtain ⟨j, hj⟩ := List.getElem?_of_mem (lvL_mem (L := x0 :: x1 :: x2 :: x3 :: x4 :: x5 :: x6 :: x7 :: x8 :: x9 :: x10 :: x11 :: some (.int v) :: L) (i := 12) (v := .int v) rfl (Or.inl rfl))
  exact lv_iinc O.1 O.2.1 d hL.has hj hv (Nat.lt_of_lt_of_le (by simp) hL.2.2.1) rfl (fun ls' hl' => h O H ls' locs hR hS (hL.set (i := 12) rfl hl'))
theorem g_iload13 {x0 x1 x2 x3 x4 x5 x6 x7 x8 x9 x10 x11 x12 : Option Value} {v : Int32} (d : decode cc pc = .ok (.iload 13, 2)) (h : Go G R cc own Y C Q (pc + 2) (x0 :: x1 :: x2 :: x3 :: x4 :: x5 :: x6 :: x7 :: x8 :: x9 :: x10 :: x11 :: x12 :: some (.int v) :: L) (.int v :: st) w c k) : Go G R cc own Y C Q pc (x0 :: x1 :: x2 :: x3 :: x4 :: x5 :: x6 :: x7 :: x8 :: x9 :: x10 :: x11 :: x12 :: some (.int v) :: L) st w c k := by
  obtain ⟨p, e, s, m, args, below, meth, cd⟩ := C
  intro O H ls locs hR hS hL
  exact lv_iload O.1 O.2.1 d (hL.at (i := 13) rfl rfl) (h O H ls locs hR hS hL)
theorem g_istore13 {x0 x1 x2 x3 x4 x5 x6 x7 x8 x9 x10 x11 x12 : Option Value} {y : Option Value} {v : Int32} (d : decode cc pc = .ok (.istore 13, 2)) (h : Go G R cc own Y C Q (pc + 2) (x0 :: x1 :: x2 :: x3 :: x4 :: x5 :: x6 :: x7 :: x8 :: x9 :: x10 :: x11 :: x12 :: some (.int v) :: L) st w c k) : Go G R cc own Y C Q pc (x0 :: x1 :: x2 :: x3 :: x4 :: x5 :: x6 :: x7 :: x8 :: x9 :: x10 :: x11 :: x12 :: y :: L) (.int v :: st) w c k := by
  obtain ⟨p, e, s, m, args, below, meth, cd⟩ := C
  intro O H ls locs hR hS hL
  exact lv_istore O.1 O.2.1 d hL.has (Nat.lt_of_lt_of_le (by simp) hL.2.2.1) rfl (fun ls' hl' => h O H ls' locs hR hS (hL.set (i := 13) rfl hl'))
theorem g_aload13 {x0 x1 x2 x3 x4 x5 x6 x7 x8 x9 x10 x11 x12 : Option Value} {v : Nat} (d : decode cc pc = .ok (.aload 13, 2)) (h : Go G R cc own Y C Q (pc + 2) (x0 :: x1 :: x2 :: x3 :: x4 :: x5 :: x6 :: x7 :: x8 :: x9 :: x10 :: x11 :: x12 :: some (.ref v) :: L) (.ref v :: st) w c k) : Go G R cc own Y C Q pc (x0 :: x1 :: x2 :: x3 :: x4 :: x5 :: x6 :: x7 :: x8 :: x9 :: x10 :: x11 :: x12 :: some (.ref v) :: L) st w c k := by
  obtain ⟨p, e, s, m, args, below, meth, cd⟩ := C
  intro O H ls locs hR hS hL
  exact lv_aload O.1 O.2.1 d (hL.at (i := 13) rfl rfl) (h O H ls locs hR hS hL)
theorem g_astore13 {x0 x1 x2 x3 x4 x5 x6 x7 x8 x9 x10 x11 x12 : Option Value} {y : Option Value} {v : Nat} (d : decode cc pc = .ok (.astore 13, 2)) (h : Go G R cc own Y C Q (pc + 2) (x0 :: x1 :: x2 :: x3 :: x4 :: x5 :: x6 :: x7 :: x8 :: x9 :: x10 :: x11 :: x12 :: some (.ref v) :: L) st w c k) : Go G R cc own Y C Q pc (x0 :: x1 :: x2 :: x3 :: x4 :: x5 :: x6 :: x7 :: x8 :: x9 :: x10 :: x11 :: x12 :: y :: L) (.ref v :: st) w c k := by
  obtain ⟨p, e, s, m, args, below, meth, cd⟩ := C
  intro O H ls locs hR hS hL
  exact lv_astore O.1 O.2.1 d hL.has (Nat.lt_of_lt_of_le (by simp) hL.2.2.1) rfl (fun ls' hl' => h O H ls' locs hR hS (hL.set (i := 13) rfl hl'))
theorem g_iinc13 {x0 x1 x2 x3 x4 x5 x6 x7 x8 x9 x10 x11 x12 : Option Value} {v v' : Int32} {n : Int} (d : decode cc pc = .ok (.iinc 13 n, 3)) (hv : v + Int32.ofInt n = v') (h : Go G R cc own Y C Q (pc + 3) (x0 :: x1 :: x2 :: x3 :: x4 :: x5 :: x6 :: x7 :: x8 :: x9 :: x10 :: x11 :: x12 :: some (.int v') :: L) st w c k) : Go G R cc own Y C Q pc (x0 :: x1 :: x2 :: x3 :: x4 :: x5 :: x6 :: x7 :: x8 :: x9 :: x10 :: x11 :: x12 :: some (.int v) :: L) st w c k := by
  obtain ⟨p, e, s, m, args, below, meth, cd⟩ := C
  intro O H ls locs hR hS hL
  obtain ⟨j, hj⟩ := List.getElem?_of_mem (lvL_mem (L := x0 :: x1 :: x2 :: x3 :: x4 :: x5 :: x6 :: x7 :: x8 :: x9 :: x10 :: x11 :: x12 :: some (.int v) :: L) (i := 13) (v := .int v) rfl (Or.inl rfl))
  exact lv_iinc O.1 O.2.1 d hL.has hj hv (Nat.lt_of_lt_of_le (by simp) hL.2.2.1) rfl (fun ls' hl' => h O H ls' locs hR hS (hL.set (i := 13) rfl hl'))
theorem g_iload14 {x0 x1 x2 x3 x4 x5 x6 x7 x8 x9 x10 x11 x12 x13 : Option Value} {v : Int32} (d : decode cc pc = .ok (.iload 14, 2)) (h : Go G R cc own Y C Q (pc + 2) (x0 :: x1 :: x2 :: x3 :: x4 :: x5 :: x6 :: x7 :: x8 :: x9 :: x10 :: x11 :: x12 :: x13 :: some (.int v) :: L) (.int v :: st) w c k) : Go G R cc own Y C Q pc (x0 :: x1 :: x2 :: x3 :: x4 :: x5 :: x6 :: x7 :: x8 :: x9 :: x10 :: x11 :: x12 :: x13 :: some (.int v) :: L) st w c k := by
  obtain ⟨p, e, s, m, args, below, meth, cd⟩ := C
  intro O H ls locs hR hS hL
  exact lv_iload O.1 O.2.1 d (hL.at (i := 14) rfl rfl) (h O H ls locs hR hS hL)
theorem g_istore14 {x0 x1 x2 x3 x4 x5 x6 x7 x8 x9 x10 x11 x12 x13 : Option Value} {y : Option Value} {v : Int32} (d : decode cc pc = .ok (.istore 14, 2)) (h : Go G R cc own Y C Q (pc + 2) (x0 :: x1 :: x2 :: x3 :: x4 :: x5 :: x6 :: x7 :: x8 :: x9 :: x10 :: x11 :: x12 :: x13 :: some (.int v) :: L) st w c k) : Go G R cc own Y C Q pc (x0 :: x1 :: x2 :: x3 :: x4 :: x5 :: x6 :: x7 :: x8 :: x9 :: x10 :: x11 :: x12 :: x13 :: y :: L) (.int v :: st) w c k := by
  obtain ⟨p, e, s, m, args, below, meth, cd⟩ := C
  intro O H ls locs hR hS hL
  exact lv_istore O.1 O.2.1 d hL.has (Nat.lt_of_lt_of_le (by simp) hL.2.2.1) rfl (fun ls' hl' => h O H ls' locs hR hS (hL.set (i := 14) rfl hl'))
theorem g_aload14 {x0 x1 x2 x3 x4 x5 x6 x7 x8 x9 x10 x11 x12 x13 : Option Value} {v : Nat} (d : decode cc pc = .ok (.aload 14, 2)) (h : Go G R cc own Y C Q (pc + 2) (x0 :: x1 :: x2 :: x3 :: x4 :: x5 :: x6 :: x7 :: x8 :: x9 :: x10 :: x11 :: x12 :: x13 :: some (.ref v) :: L) (.ref v :: st) w c k) : Go G R cc own Y C Q pc (x0 :: x1 :: x2 :: x3 :: x4 :: x5 :: x6 :: x7 :: x8 :: x9 :: x10 :: x11 :: x12 :: x13 :: some (.ref v) :: L) st w c k := by
  obtain ⟨p, e, s, m, args, below, meth, cd⟩ := C
  intro O H ls locs hR hS hL
  exact lv_aload O.1 O.2.1 d (hL.at (i := 14) rfl rfl) (h O H ls locs hR hS hL)
theorem g_astore14 {x0 x1 x2 x3 x4 x5 x6 x7 x8 x9 x10 x11 x12 x13 : Option Value} {y : Option Value} {v : Nat} (d : decode cc pc = .ok (.astore 14, 2)) (h : Go G R cc own Y C Q (pc + 2) (x0 :: x1 :: x2 :: x3 :: x4 :: x5 :: x6 :: x7 :: x8 :: x9 :: x10 :: x11 :: x12 :: x13 :: some (.ref v) :: L) st w c k) : Go G R cc own Y C Q pc (x0 :: x1 :: x2 :: x3 :: x4 :: x5 :: x6 :: x7 :: x8 :: x9 :: x10 :: x11 :: x12 :: x13 :: y :: L) (.ref v :: st) w c k := by
  obtain ⟨p, e, s, m, args, below, meth, cd⟩ := C
  intro O H ls locs hR hS hL
  exact lv_astore O.1 O.2.1 d hL.has (Nat.lt_of_lt_of_le (by simp) hL.2.2.1) rfl (fun ls' hl' => h O H ls' locs hR hS (hL.set (i := 14) rfl hl'))
theorem g_iinc14 {x0 x1 x2 x3 x4 x5 x6 x7 x8 x9 x10 x11 x12 x13 : Option Value} {v v' : Int32} {n : Int} (d : decode cc pc = .ok (.iinc 14 n, 3)) (hv : v + Int32.ofInt n = v') (h : Go G R cc own Y C Q (pc + 3) (x0 :: x1 :: x2 :: x3 :: x4 :: x5 :: x6 :: x7 :: x8 :: x9 :: x10 :: x11 :: x12 :: x13 :: some (.int v') :: L) st w c k) : Go G R cc own Y C Q pc (x0 :: x1 :: x2 :: x3 :: x4 :: x5 :: x6 :: x7 :: x8 :: x9 :: x10 :: x11 :: x12 :: x13 :: some (.int v) :: L) st w c k := by
  obtain ⟨p, e, s, m, args, below, meth, cd⟩ := C
  intro O H ls locs hR hS hL
  obtain ⟨j, hj⟩ := List.getElem?_of_mem (lvL_mem (L := x0 :: x1 :: x2 :: x3 :: x4 :: x5 :: x6 :: x7 :: x8 :: x9 :: x10 :: x11 :: x12 :: x13 :: some (.int v) :: L) (i := 14) (v := .int v) rfl (Or.inl rfl))
  exact lv_iinc O.1 O.2.1 d hL.has hj hv (Nat.lt_of_lt_of_le (by simp) hL.2.2.1) rfl (fun ls' hl' => h O H ls' locs hR hS (hL.set (i := 14) rfl hl'))
theorem g_iload15 {x0 x1 x2 x3 x4 x5 x6 x7 x8 x9 x10 x11 x12 x13 x14 : Option Value} {v : Int32} (d : decode cc pc = .ok (.iload 15, 2)) (h : Go G R cc own Y C Q (pc + 2) (x0 :: x1 :: x2 :: x3 :: x4 :: x5 :: x6 :: x7 :: x8 :: x9 :: x10 :: x11 :: x12 :: x13 :: x14 :: some (.int v) :: L) (.int v :: st) w c k) : Go G R cc own Y C Q pc (x0 :: x1 :: x2 :: x3 :: x4 :: x5 :: x6 :: x7 :: x8 :: x9 :: x10 :: x11 :: x12 :: x13 :: x14 :: some (.int v) :: L) st w c k := by
  obtain ⟨p, e, s, m, args, below, meth, cd⟩ := C
  intro O H ls locs hR hS hL
  exact lv_iload O.1 O.2.1 d (hL.at (i := 15) rfl rfl) (h O H ls locs hR hS hL)
theorem g_istore15 {x0 x1 x2 x3 x4 x5 x6 x7 x8 x9 x10 x11 x12 x13 x14 : Option Value} {y : Option Value} {v : Int32} (d : decode cc pc = .ok (.istore 15, 2)) (h : Go G R cc own Y C Q (pc + 2) (x0 :: x1 :: x2 :: x3 :: x4 :: x5 :: x6 :: x7 :: x8 :: x9 :: x10 :: x11 :: x12 :: x13 :: x14 :: some (.int v) :: L) st w c k) : Go G R cc own Y C Q pc (x0 :: x1 :: x2 :: x3 :: x4 :: x5 :: x6 :: x7 :: x8 :: x9 :: x10 :: x11 :: x12 :: x13 :: x14 :: y :: L) (.int v :: st) w c k := by
  obtain ⟨p, e, s, m, args, below, meth, cd⟩ := C
  intro O H ls locs hR hS hL
  exact lv_istore O.1 O.2.1 d hL.has (Nat.lt_of_lt_of_le (by simp) hL.2.2.1) rfl (fun ls' hl' => h O H ls' locs hR hS (hL.set (i := 15) rfl hl'))
theorem g_aload15 {x0 x1 x2 x3 x4 x5 x6 x7 x8 x9 x10 x11 x12 x13 x14 : Option Value} {v : Nat} (d : decode cc pc = .ok (.aload 15, 2)) (h : Go G R cc own Y C Q (pc + 2) (x0 :: x1 :: x2 :: x3 :: x4 :: x5 :: x6 :: x7 :: x8 :: x9 :: x10 :: x11 :: x12 :: x13 :: x14 :: some (.ref v) :: L) (.ref v :: st) w c k) : Go G R cc own Y C Q pc (x0 :: x1 :: x2 :: x3 :: x4 :: x5 :: x6 :: x7 :: x8 :: x9 :: x10 :: x11 :: x12 :: x13 :: x14 :: some (.ref v) :: L) st w c k := by
  obtain ⟨p, e, s, m, args, below, meth, cd⟩ := C
  intro O H ls locs hR hS hL
  exact lv_aload O.1 O.2.1 d (hL.at (i := 15) rfl rfl) (h O H ls locs hR hS hL)
theorem g_astore15 {x0 x1 x2 x3 x4 x5 x6 x7 x8 x9 x10 x11 x12 x13 x14 : Option Value} {y : Option Value} {v : Nat} (d : decode cc pc = .ok (.astore 15, 2)) (h : Go G R cc own Y C Q (pc + 2) (x0 :: x1 :: x2 :: x3 :: x4 :: x5 :: x6 :: x7 :: x8 :: x9 :: x10 :: x11 :: x12 :: x13 :: x14 :: some (.ref v) :: L) st w c k) : Go G R cc own Y C Q pc (x0 :: x1 :: x2 :: x3 :: x4 :: x5 :: x6 :: x7 :: x8 :: x9 :: x10 :: x11 :: x12 :: x13 :: x14 :: y :: L) (.ref v :: st) w c k := by
  obtain ⟨p, e, s, m, args, below, meth, cd⟩ := C
  intro O H ls locs hR hS hL
  exact lv_astore O.1 O.2.1 d hL.has (Nat.lt_of_lt_of_le (by simp) hL.2.2.1) rfl (fun ls' hl' => h O H ls' locs hR hS (hL.set (i := 15) rfl hl'))
theorem g_iinc15 {x0 x1 x2 x3 x4 x5 x6 x7 x8 x9 x10 x11 x12 x13 x14 : Option Value} {v v' : Int32} {n : Int} (d : decode cc pc = .ok (.iinc 15 n, 3)) (hv : v + Int32.ofInt n = v') (h : Go G R cc own Y C Q (pc + 3) (x0 :: x1 :: x2 :: x3 :: x4 :: x5 :: x6 :: x7 :: x8 :: x9 :: x10 :: x11 :: x12 :: x13 :: x14 :: some (.int v') :: L) st w c k) : Go G R cc own Y C Q pc (x0 :: x1 :: x2 :: x3 :: x4 :: x5 :: x6 :: x7 :: x8 :: x9 :: x10 :: x11 :: x12 :: x13 :: x14 :: some (.int v) :: L) st w c k := by
  obtain ⟨p, e, s, m, args, below, meth, cd⟩ := C
  intro O H ls locs hR hS hL
  obtain ⟨j, hj⟩ := List.getElem?_of_mem (lvL_mem (L := x0 :: x1 :: x2 :: x3 :: x4 :: x5 :: x6 :: x7 :: x8 :: x9 :: x10 :: x11 :: x12 :: x13 :: x14 :: some (.int v) :: L) (i := 15) (v := .int v) rfl (Or.inl rfl))
  exact lv_iinc O.1 O.2.1 d hL.has hj hv (Nat.lt_of_lt_of_le (by simp) hL.2.2.1) rfl (fun ls' hl' => h O H ls' locs hR hS (hL.set (i := 15) rfl hl'))
theorem g_iload16 {x0 x1 x2 x3 x4 x5 x6 x7 x8 x9 x10 x11 x12 x13 x14 x15 : Option Value} {v : Int32} (d : decode cc pc = .ok (.iload 16, 2)) (h : Go G R cc own Y C Q (pc + 2) (x0 :: x1 :: x2 :: x3 :: x4 :: x5 :: x6 :: x7 :: x8 :: x9 :: x10 :: x11 :: x12 :: x13 :: x14 :: x15 :: some (.int v) :: L) (.int v :: st) w c k) : Go G R cc own Y C Q pc (x0 :: x1 :: x2 :: x3 :: x4 :: x5 :: x6 :: x7 :: x8 :: x9 :: x10 :: x11 :: x12 :: x13 :: x14 :: x15 :: some (.int v) :: L) st w c k := by
  obtain ⟨p, e, s, m, args, below, meth, cd⟩ := C
  intro O H ls locs hR hS hL
  exact lv_iload O.1 O.2.1 d (hL.at (i := 16) rfl rfl) (h O H ls locs hR hS hL)
theorem g_istore16 {x0 x1 x2 x3 x4 x5 x6 x7 x8 x9 x10 x11 x12 x13 x14 x15 : Option Value} {y : Option Value} {v : Int32} (d : decode cc pc = .ok (.istore 16, 2)) (h : Go G R cc own Y C Q (pc + 2) (x0 :: x1 :: x2 :: x3 :: x4 :: x5 :: x6 :: x7 :: x8 :: x9 :: x10 :: x11 :: x12 :: x13 :: x14 :: x15 :: some (.int v) :: L) st w c k) : Go G R cc own Y C Q pc (x0 :: x1 :: x2 :: x3 :: x4 :: x5 :: x6 :: x7 :: x8 :: x9 :: x10 :: x11 :: x12 :: x13 :: x14 :: x15 :: y :: L) (.int v :: st) w c k := by
  obtain ⟨p, e, s, m, args, below, meth, cd⟩ := C
  intro O H ls locs hR hS hL
  exact lv_istore O.1 O.2.1 d hL.has (Nat.lt_of_lt_of_le (by simp) hL.2.2.1) rfl (fun ls' hl' => h O H ls' locs hR hS (hL.set (i := 16) rfl hl'))
theorem g_aload16 {x0 x1 x2 x3 x4 x5 x6 x7 x8 x9 x10 x11 x12 x13 x14 x15 : Option Value} {v : Nat} (d : decode cc pc = .ok (.aload 16, 2)) (h : Go G R cc own Y C Q (pc + 2) (x0 :: x1 :: x2 :: x3 :: x4 :: x5 :: x6 :: x7 :: x8 :: x9 :: x10 :: x11 :: x12 :: x13 :: x14 :: x15 :: some (.ref v) :: L) (.ref v :: st) w c k) : Go G R cc own Y C Q pc (x0 :: x1 :: x2 :: x3 :: x4 :: x5 :: x6 :: x7 :: x8 :: x9 :: x10 :: x11 :: x12 :: x13 :: x14 :: x15 :: some (.ref v) :: L) st w c k := by
  obtain ⟨p, e, s, m, args, below, meth, cd⟩ := C
  intro O H ls locs hR hS hL
  exact lv_aload O.1 O.2.1 d (hL.at (i := 16) rfl rfl) (h O H ls locs hR hS hL)
theorem g_astore16 {x0 x1 x2 x3 x4 x5 x6 x7 x8 x9 x10 x11 x12 x13 x14 x15 : Option Value} {y : Option Value} {v : Nat} (d : decode cc pc = .ok (.astore 16, 2)) (h : Go G R cc own Y C Q (pc + 2) (x0 :: x1 :: x2 :: x3 :: x4 :: x5 :: x6 :: x7 :: x8 :: x9 :: x10 :: x11 :: x12 :: x13 :: x14 :: x15 :: some (.ref v) :: L) st w c k) : Go G R cc own Y C Q pc (x0 :: x1 :: x2 :: x3 :: x4 :: x5 :: x6 :: x7 :: x8 :: x9 :: x10 :: x11 :: x12 :: x13 :: x14 :: x15 :: y :: L) (.ref v :: st) w c k := by
  obtain ⟨p, e, s, m, args, below, meth, cd⟩ := C
  intro O H ls locs hR hS hL
  exact lv_astore O.1 O.2.1 d hL.has (Nat.lt_of_lt_of_le (by simp) hL.2.2.1) rfl (fun ls' hl' => h O H ls' locs hR hS (hL.set (i := 16) rfl hl'))
theorem g_iinc16 {x0 x1 x2 x3 x4 x5 x6 x7 x8 x9 x10 x11 x12 x13 x14 x15 : Option Value} {v v' : Int32} {n : Int} (d : decode cc pc = .ok (.iinc 16 n, 3)) (hv : v + Int32.ofInt n = v') (h : Go G R cc own Y C Q (pc + 3) (x0 :: x1 :: x2 :: x3 :: x4 :: x5 :: x6 :: x7 :: x8 :: x9 :: x10 :: x11 :: x12 :: x13 :: x14 :: x15 :: some (.int v') :: L) st w c k) : Go G R cc own Y C Q pc (x0 :: x1 :: x2 :: x3 :: x4 :: x5 :: x6 :: x7 :: x8 :: x9 :: x10 :: x11 :: x12 :: x13 :: x14 :: x15 :: some (.int v) :: L) st w c k := by
  obtain ⟨p, e, s, m, args, below, meth, cd⟩ := C
  intro O H ls locs hR hS hL
  obtain ⟨j, hj⟩ := List.getElem?_of_mem (lvL_mem (L := x0 :: x1 :: x2 :: x3 :: x4 :: x5 :: x6 :: x7 :: x8 :: x9 :: x10 :: x11 :: x12 :: x13 :: x14 :: x15 :: some (.int v) :: L) (i := 16) (v := .int v) rfl (Or.inl rfl))
  exact lv_iinc O.1 O.2.1 d hL.has hj hv (Nat.lt_of_lt_of_le (by simp) hL.2.2.1) rfl (fun ls' hl' => h O H ls' locs hR hS (hL.set (i := 16) rfl hl'))
theorem g_iload17 {x0 x1 x2 x3 x4 x5 x6 x7 x8 x9 x10 x11 x12 x13 x14 x15 x16 : Option Value} {v : Int32} (d : decode cc pc = .ok (.iload 17, 2)) (h : Go G R cc own Y C Q (pc + 2) (x0 :: x1 :: x2 :: x3 :: x4 :: x5 :: x6 :: x7 :: x8 :: x9 :: x10 :: x11 :: x12 :: x13 :: x14 :: x15 :: x16 :: some (.int v) :: L) (.int v :: st) w c k) : Go G R cc own Y C Q pc (x0 :: x1 :: x2 :: x3 :: x4 :: x5 :: x6 :: x7 :: x8 :: x9 :: x10 :: x11 :: x12 :: x13 :: x14 :: x15 :: x16 :: some (.int v) :: L) st w c k := by
  obtain ⟨p, e, s, m, args, below, meth, cd⟩ := C
  intro O H ls locs hR hS hL
  exact lv_iload O.1 O.2.1 d (hL.at (i := 17) rfl rfl) (h O H ls locs hR hS hL)
theorem g_istore17 {x0 x1 x2 x3 x4 x5 x6 x7 x8 x9 x10 x11 x12 x13 x14 x15 x16 : Option Value} {y : Option Value} {v : Int32} (d : decode cc pc = .ok (.istore 17, 2)) (h : Go G R cc own Y C Q (pc + 2) (x0 :: x1 :: x2 :: x3 :: x4 :: x5 :: x6 :: x7 :: x8 :: x9 :: x10 :: x11 :: x12 :: x13 :: x14 :: x15 :: x16 :: some (.int v) :: L) st w c k) : Go G R cc own Y C Q pc (x0 :: x1 :: x2 :: x3 :: x4 :: x5 :: x6 :: x7 :: x8 :: x9 :: x10 :: x11 :: x12 :: x13 :: x14 :: x15 :: x16 :: y :: L) (.int v :: st) w c k := by
  obtain ⟨p, e, s, m, args, below, meth, cd⟩ := C
  intro O H ls locs hR hS hL
  exact lv_istore O.1 O.2.1 d hL.has (Nat.lt_of_lt_of_le (by simp) hL.2.2.1) rfl (fun ls' hl' => h O H ls' locs hR hS (hL.set (i := 17) rfl hl'))
theorem g_aload17 {x0 x1 x2 x3 x4 x5 x6 x7 x8 x9 x10 x11 x12 x13 x14 x15 x16 : Option Value} {v : Nat} (d : decode cc pc = .ok (.aload 17, 2)) (h : Go G R cc own Y C Q (pc + 2) (x0 :: x1 :: x2 :: x3 :: x4 :: x5 :: x6 :: x7 :: x8 :: x9 :: x10 :: x11 :: x12 :: x13 :: x14 :: x15 :: x16 :: some (.ref v) :: L) (.ref v :: st) w c k) : Go G R cc own Y C Q pc (x0 :: x1 :: x2 :: x3 :: x4 :: x5 :: x6 :: x7 :: x8 :: x9 :: x10 :: x11 :: x12 :: x13 :: x14 :: x15 :: x16 :: some (.ref v) :: L) st w c k := by
  obtain ⟨p, e, s, m, args, below, meth, cd⟩ := C
  intro O H ls locs hR hS hL
  exact lv_aload O.1 O.2.1 d (hL.at (i := 17) rfl rfl) (h O H ls locs hR hS hL)
theorem g_astore17 {x0 x1 x2 x3 x4 x5 x6 x7 x8 x9 x10 x11 x12 x13 x14 x15 x16 : Option Value} {y : Option Value} {v : Nat} (d : decode cc pc = .ok (.astore 17, 2)) (h : Go G R cc own Y C Q (pc + 2) (x0 :: x1 :: x2 :: x3 :: x4 :: x5 :: x6 :: x7 :: x8 :: x9 :: x10 :: x11 :: x12 :: x13 :: x14 :: x15 :: x16 :: some (.ref v) :: L) st w c k) : Go G R cc own Y C Q pc (x0 :: x1 :: x2 :: x3 :: x4 :: x5 :: x6 :: x7 :: x8 :: x9 :: x10 :: x11 :: x12 :: x13 :: x14 :: x15 :: x16 :: y :: L) (.ref v :: st) w c k := by
  obtain ⟨p, e, s, m, args, below, meth, cd⟩ := C
  intro O H ls locs hR hS hL
  exact lv_astore O.1 O.2.1 d hL.has (Nat.lt_of_lt_of_le (by simp) hL.2.2.1) rfl (fun ls' hl' => h O H ls' locs hR hS (hL.set (i := 17) rfl hl'))
theorem g_iinc17 {x0 x1 x2 x3 x4 x5 x6 x7 x8 x9 x10 x11 x12 x13 x14 x15 x16 : Option Value} {v v' : Int32} {n : Int} (d : decode cc pc = .ok (.iinc 17 n, 3)) (hv : v + Int32.ofInt n = v') (h : Go G R cc own Y C Q (pc + 3) (x0 :: x1 :: x2 :: x3 :: x4 :: x5 :: x6 :: x7 :: x8 :: x9 :: x10 :: x11 :: x12 :: x13 :: x14 :: x15 :: x16 :: some (.int v') :: L) st w c k) : Go G R cc own Y C Q pc (x0 :: x1 :: x2 :: x3 :: x4 :: x5 :: x6 :: x7 :: x8 :: x9 :: x10 :: x11 :: x12 :: x13 :: x14 :: x15 :: x16 :: some (.int v) :: L) st w c k := by
  obtain ⟨p, e, s, m, args, below, meth, cd⟩ := C
  intro O H ls locs hR hS hL
  obtain ⟨j, hj⟩ := List.getElem?_of_mem (lvL_mem (L := x0 :: x1 :: x2 :: x3 :: x4 :: x5 :: x6 :: x7 :: x8 :: x9 :: x10 :: x11 :: x12 :: x13 :: x14 :: x15 :: x16 :: some (.int v) :: L) (i := 17) (v := .int v) rfl (Or.inl rfl))
  exact lv_iinc O.1 O.2.1 d hL.has hj hv (Nat.lt_of_lt_of_le (by simp) hL.2.2.1) rfl (fun ls' hl' => h O H ls' locs hR hS (hL.set (i := 17) rfl hl'))
theorem g_iload18 {x0 x1 x2 x3 x4 x5 x6 x7 x8 x9 x10 x11 x12 x13 x14 x15 x16 x17 : Option Value} {v : Int32} (d : decode cc pc = .ok (.iload 18, 2)) (h : Go G R cc own Y C Q (pc + 2) (x0 :: x1 :: x2 :: x3 :: x4 :: x5 :: x6 :: x7 :: x8 :: x9 :: x10 :: x11 :: x12 :: x13 :: x14 :: x15 :: x16 :: x17 :: some (.int v) :: L) (.int v :: st) w c k) : Go G R cc own Y C Q pc (x0 :: x1 :: x2 :: x3 :: x4 :: x5 :: x6 :: x7 :: x8 :: x9 :: x10 :: x11 :: x12 :: x13 :: x14 :: x15 :: x16 :: x17 :: some (.int v) :: L) st w c k := by
  obtain ⟨p, e, s, m, args, below, meth, cd⟩ := C
  intro O H ls locs hR hS hL
  exact lv_iload O.1 O.2.1 d (hL.at (i := 18) rfl rfl) (h O H ls locs hR hS hL)
theorem g_istore18 {x0 x1 x2 x3 x4 x5 x6 x7 x8 x9 x10 x11 x12 x13 x14 x15 x16 x17 : Option Value} {y : Option Value} {v : Int32} (d : decode cc pc = .ok (.istore 18, 2)) (h : Go G R cc own Y C Q (pc + 2) (x0 :: x1 :: x2 :: x3 :: x4 :: x5 :: x6 :: x7 :: x8 :: x9 :: x10 :: x11 :: x12 :: x13 :: x14 :: x15 :: x16 :: x17 :: some (.int v) :: L) st w c k) : Go G R cc own Y C Q pc (x0 :: x1 :: x2 :: x3 :: x4 :: x5 :: x6 :: x7 :: x8 :: x9 :: x10 :: x11 :: x12 :: x13 :: x14 :: x15 :: x16 :: x17 :: y :: L) (.int v :: st) w c k := by
  obtain ⟨p, e, s, m, args, below, meth, cd⟩ := C
  intro O H ls locs hR hS hL
  exact lv_istore O.1 O.2.1 d hL.has (Nat.lt_of_lt_of_le (by simp) hL.2.2.1) rfl (fun ls' hl' => h O H ls' locs hR hS (hL.set (i := 18) rfl hl'))
theorem g_aload18 {x0 x1 x2 x3 x4 x5 x6 x7 x8 x9 x10 x11 x12 x13 x14 x15 x16 x17 : Option Value} {v : Nat} (d : decode cc pc = .ok (.aload 18, 2)) (h : Go G R cc own Y C Q (pc + 2) (x0 :: x1 :: x2 :: x3 :: x4 :: x5 :: x6 :: x7 :: x8 :: x9 :: x10 :: x11 :: x12 :: x13 :: x14 :: x15 :: x16 :: x17 :: some (.ref v) :: L) (.ref v :: st) w c k) : Go G R cc own Y C Q pc (x0 :: x1 :: x2 :: x3 :: x4 :: x5 :: x6 :: x7 :: x8 :: x9 :: x10 :: x11 :: x12 :: x13 :: x14 :: x15 :: x16 :: x17 :: some (.ref v) :: L) st w c k := by
  obtain ⟨p, e, s, m, args, below, meth, cd⟩ := C
  intro O H ls locs hR hS hL
  exact lv_aload O.1 O.2.1 d (hL.at (i := 18) rfl rfl) (h O H ls locs hR hS hL)
theorem g_astore18 {x0 x1 x2 x3 x4 x5 x6 x7 x8 x9 x10 x11 x12 x13 x14 x15 x16 x17 : Option Value} {y : Option Value} {v : Nat} (d : decode cc pc = .ok (.astore 18, 2)) (h : Go G R cc own Y C Q (pc + 2) (x0 :: x1 :: x2 :: x3 :: x4 :: x5 :: x6 :: x7 :: x8 :: x9 :: x10 :: x11 :: x12 :: x13 :: x14 :: x15 :: x16 :: x17 :: some (.ref v) :: L) st w c k) : Go G R cc own Y C Q pc (x0 :: x1 :: x2 :: x3 :: x4 :: x5 :: x6 :: x7 :: x8 :: x9 :: x10 :: x11 :: x12 :: x13 :: x14 :: x15 :: x16 :: x17 :: y :: L) (.ref v :: st) w c k := by
  obtain ⟨p, e, s, m, args, below, meth, cd⟩ := C
  intro O H ls locs hR hS hL
  exact lv_astore O.1 O.2.1 d hL.has (Nat.lt_of_lt_of_le (by simp) hL.2.2.1) rfl (fun ls' hl' => h O H ls' locs hR hS (hL.set (i := 18) rfl hl'))
theorem g_iinc18 {x0 x1 x2 x3 x4 x5 x6 x7 x8 x9 x10 x11 x12 x13 x14 x15 x16 x17 : Option Value} {v v' : Int32} {n : Int} (d : decode cc pc = .ok (.iinc 18 n, 3)) (hv : v + Int32.ofInt n = v') (h : Go G R cc own Y C Q (pc + 3) (x0 :: x1 :: x2 :: x3 :: x4 :: x5 :: x6 :: x7 :: x8 :: x9 :: x10 :: x11 :: x12 :: x13 :: x14 :: x15 :: x16 :: x17 :: some (.int v') :: L) st w c k) : Go G R cc own Y C Q pc (x0 :: x1 :: x2 :: x3 :: x4 :: x5 :: x6 :: x7 :: x8 :: x9 :: x10 :: x11 :: x12 :: x13 :: x14 :: x15 :: x16 :: x17 :: some (.int v) :: L) st w c k := by
  obtain ⟨p, e, s, m, args, below, meth, cd⟩ := C
  intro O H ls locs hR hS hL
  obtain ⟨j, hj⟩ := List.getElem?_of_mem (lvL_mem (L := x0 :: x1 :: x2 :: x3 :: x4 :: x5 :: x6 :: x7 :: x8 :: x9 :: x10 :: x11 :: x12 :: x13 :: x14 :: x15 :: x16 :: x17 :: some (.int v) :: L) (i := 18) (v := .int v) rfl (Or.inl rfl))
  exact lv_iinc O.1 O.2.1 d hL.has hj hv (Nat.lt_of_lt_of_le (by simp) hL.2.2.1) rfl (fun ls' hl' => h O H ls' locs hR hS (hL.set (i := 18) rfl hl'))
theorem g_iload19 {x0 x1 x2 x3 x4 x5 x6 x7 x8 x9 x10 x11 x12 x13 x14 x15 x16 x17 x18 : Option Value} {v : Int32} (d : decode cc pc = .ok (.iload 19, 2)) (h : Go G R cc own Y C Q (pc + 2) (x0 :: x1 :: x2 :: x3 :: x4 :: x5 :: x6 :: x7 :: x8 :: x9 :: x10 :: x11 :: x12 :: x13 :: x14 :: x15 :: x16 :: x17 :: x18 :: some (.int v) :: L) (.int v :: st) w c k) : Go G R cc own Y C Q pc (x0 :: x1 :: x2 :: x3 :: x4 :: x5 :: x6 :: x7 :: x8 :: x9 :: x10 :: x11 :: x12 :: x13 :: x14 :: x15 :: x16 :: x17 :: x18 :: some (.int v) :: L) st w c k := by
  obtain ⟨p, e, s, m, args, below, meth, cd⟩ := C
  intro O H ls locs hR hS hL
  exact lv_iload O.1 O.2.1 d (hL.at (i := 19) rfl rfl) (h O H ls locs hR hS hL)
theorem g_istore19 {x0 x1 x2 x3 x4 x5 x6 x7 x8 x9 x10 x11 x12 x13 x14 x15 x16 x17 x18 : Option Value} {y : Option Value} {v : Int32} (d : decode cc pc = .ok (.istore 19, 2)) (h : Go G R cc own Y C Q (pc + 2) (x0 :: x1 :: x2 :: x3 :: x4 :: x5 :: x6 :: x7 :: x8 :: x9 :: x10 :: x11 :: x12 :: x13 :: x14 :: x15 :: x16 :: x17 :: x18 :: some (.int v) :: L) st w c k) : Go G R cc own Y C Q pc (x0 :: x1 :: x2 :: x3 :: x4 :: x5 :: x6 :: x7 :: x8 :: x9 :: x10 :: x11 :: x12 :: x13 :: x14 :: x15 :: x16 :: x17 :: x18 :: y :: L) (.int v :: st) w c k := by
  obtain ⟨p, e, s, m, args, below, meth, cd⟩ := C
  intro O H ls locs hR hS hL
  exact lv_istore O.1 O.2.1 d hL.has (Nat.lt_of_lt_of_le (by simp) hL.2.2.1) rfl (fun ls' hl' => h O H ls' locs hR hS (hL.set (i := 19) rfl hl'))
theorem g_aload19 {x0 x1 x2 x3 x4 x5 x6 x7 x8 x9 x10 x11 x12 x13 x14 x15 x16 x17 x18 : Option Value} {v : Nat} (d : decode cc pc = .ok (.aload 19, 2)) (h : Go G R cc own Y C Q (pc + 2) (x0 :: x1 :: x2 :: x3 :: x4 :: x5 :: x6 :: x7 :: x8 :: x9 :: x10 :: x11 :: x12 :: x13 :: x14 :: x15 :: x16 :: x17 :: x18 :: some (.ref v) :: L) (.ref v :: st) w c k) : Go G R cc own Y C Q pc (x0 :: x1 :: x2 :: x3 :: x4 :: x5 :: x6 :: x7 :: x8 :: x9 :: x10 :: x11 :: x12 :: x13 :: x14 :: x15 :: x16 :: x17 :: x18 :: some (.ref v) :: L) st w c k := by
  obtain ⟨p, e, s, m, args, below, meth, cd⟩ := C
  intro O H ls locs hR hS hL
  exact lv_aload O.1 O.2.1 d (hL.at (i := 19) rfl rfl) (h O H ls locs hR hS hL)
theorem g_astore19 {x0 x1 x2 x3 x4 x5 x6 x7 x8 x9 x10 x11 x12 x13 x14 x15 x16 x17 x18 : Option Value} {y : Option Value} {v : Nat} (d : decode cc pc = .ok (.astore 19, 2)) (h : Go G R cc own Y C Q (pc + 2) (x0 :: x1 :: x2 :: x3 :: x4 :: x5 :: x6 :: x7 :: x8 :: x9 :: x10 :: x11 :: x12 :: x13 :: x14 :: x15 :: x16 :: x17 :: x18 :: some (.ref v) :: L) st w c k) : Go G R cc own Y C Q pc (x0 :: x1 :: x2 :: x3 :: x4 :: x5 :: x6 :: x7 :: x8 :: x9 :: x10 :: x11 :: x12 :: x13 :: x14 :: x15 :: x16 :: x17 :: x18 :: y :: L) (.ref v :: st) w c k := by
  obtain ⟨p, e, s, m, args, below, meth, cd⟩ := C
  intro O H ls locs hR hS hL
  exact lv_astore O.1 O.2.1 d hL.has (Nat.lt_of_lt_of_le (by simp) hL.2.2.1) rfl (fun ls' hl' => h O H ls' locs hR hS (hL.set (i := 19) rfl hl'))
theorem g_iinc19 {x0 x1 x2 x3 x4 x5 x6 x7 x8 x9 x10 x11 x12 x13 x14 x15 x16 x17 x18 : Option Value} {v v' : Int32} {n : Int} (d : decode cc pc = .ok (.iinc 19 n, 3)) (hv : v + Int32.ofInt n = v') (h : Go G R cc own Y C Q (pc + 3) (x0 :: x1 :: x2 :: x3 :: x4 :: x5 :: x6 :: x7 :: x8 :: x9 :: x10 :: x11 :: x12 :: x13 :: x14 :: x15 :: x16 :: x17 :: x18 :: some (.int v') :: L) st w c k) : Go G R cc own Y C Q pc (x0 :: x1 :: x2 :: x3 :: x4 :: x5 :: x6 :: x7 :: x8 :: x9 :: x10 :: x11 :: x12 :: x13 :: x14 :: x15 :: x16 :: x17 :: x18 :: some (.int v) :: L) st w c k := by
  obtain ⟨p, e, s, m, args, below, meth, cd⟩ := C
  intro O H ls locs hR hS hL
  obtain ⟨j, hj⟩ := List.getElem?_of_mem (lvL_mem (L := x0 :: x1 :: x2 :: x3 :: x4 :: x5 :: x6 :: x7 :: x8 :: x9 :: x10 :: x11 :: x12 :: x13 :: x14 :: x15 :: x16 :: x17 :: x18 :: some (.int v) :: L) (i := 19) (v := .int v) rfl (Or.inl rfl))
  exact lv_iinc O.1 O.2.1 d hL.has hj hv (Nat.lt_of_lt_of_le (by simp) hL.2.2.1) rfl (fun ls' hl' => h O H ls' locs hR hS (hL.set (i := 19) rfl hl'))
theorem g_iload20 {x0 x1 x2 x3 x4 x5 x6 x7 x8 x9 x10 x11 x12 x13 x14 x15 x16 x17 x18 x19 : Option Value} {v : Int32} (d : decode cc pc = .ok (.iload 20, 2)) (h : Go G R cc own Y C Q (pc + 2) (x0 :: x1 :: x2 :: x3 :: x4 :: x5 :: x6 :: x7 :: x8 :: x9 :: x10 :: x11 :: x12 :: x13 :: x14 :: x15 :: x16 :: x17 :: x18 :: x19 :: some (.int v) :: L) (.int v :: st) w c k) : Go G R cc own Y C Q pc (x0 :: x1 :: x2 :: x3 :: x4 :: x5 :: x6 :: x7 :: x8 :: x9 :: x10 :: x11 :: x12 :: x13 :: x14 :: x15 :: x16 :: x17 :: x18 :: x19 :: some (.int v) :: L) st w c k := by
  obtain ⟨p, e, s, m, args, below, meth, cd⟩ := C
  intro O H ls locs hR hS hL
  exact lv_iload O.1 O.2.1 d (hL.at (i := 20) rfl rfl) (h O H ls locs hR hS hL)
theorem g_istore20 {x0 x1 x2 x3 x4 x5 x6 x7 x8 x9 x10 x11 x12 x13 x14 x15 x16 x17 x18 x19 : Option Value} {y : Option Value} {v : Int32} (d : decode cc pc = .ok (.istore 20, 2)) (h : Go G R cc own Y C Q (pc + 2) (x0 :: x1 :: x2 :: x3 :: x4 :: x5 :: x6 :: x7 :: x8 :: x9 :: x10 :: x11 :: x12 :: x13 :: x14 :: x15 :: x16 :: x17 :: x18 :: x19 :: some (.int v) :: L) st w c k) : Go G R cc own Y C Q pc (x0 :: x1 :: x2 :: x3 :: x4 :: x5 :: x6 :: x7 :: x8 :: x9 :: x10 :: x11 :: x12 :: x13 :: x14 :: x15 :: x16 :: x17 :: x18 :: x19 :: y :: L) (.int v :: st) w c k := by
  obtain ⟨p, e, s, m, args, below, meth, cd⟩ := C
  intro O H ls locs hR hS hL
  exact lv_istore O.1 O.2.1 d hL.has (Nat.lt_of_lt_of_le (by simp) hL.2.2.1) rfl (fun ls' hl' => h O H ls' locs hR hS (hL.set (i := 20) rfl hl'))
theorem g_aload20 {x0 x1 x2 x3 x4 x5 x6 x7 x8 x9 x10 x11 x12 x13 x14 x15 x16 x17 x18 x19 : Option Value} {v : Nat} (d : decode cc pc = .ok (.aload 20, 2)) (h : Go G R cc own Y C Q (pc + 2) (x0 :: x1 :: x2 :: x3 :: x4 :: x5 :: x6 :: x7 :: x8 :: x9 :: x10 :: x11 :: x12 :: x13 :: x14 :: x15 :: x16 :: x17 :: x18 :: x19 :: some (.ref v) :: L) (.ref v :: st) w c k) : Go G R cc own Y C Q pc (x0 :: x1 :: x2 :: x3 :: x4 :: x5 :: x6 :: x7 :: x8 :: x9 :: x10 :: x11 :: x12 :: x13 :: x14 :: x15 :: x16 :: x17 :: x18 :: x19 :: some (.ref v) :: L) st w c k := by
  obtain ⟨p, e, s, m, args, below, meth, cd⟩ := C
  intro O H ls locs hR hS hL
  exact lv_aload O.1 O.2.1 d (hL.at (i := 20) rfl rfl) (h O H ls locs hR hS hL)
theorem g_astore20 {x0 x1 x2 x3 x4 x5 x6 x7 x8 x9 x10 x11 x12 x13 x14 x15 x16 x17 x18 x19 : Option Value} {y : Option Value} {v : Nat} (d : decode cc pc = .ok (.astore 20, 2)) (h : Go G R cc own Y C Q (pc + 2) (x0 :: x1 :: x2 :: x3 :: x4 :: x5 :: x6 :: x7 :: x8 :: x9 :: x10 :: x11 :: x12 :: x13 :: x14 :: x15 :: x16 :: x17 :: x18 :: x19 :: some (.ref v) :: L) st w c k) : Go G R cc own Y C Q pc (x0 :: x1 :: x2 :: x3 :: x4 :: x5 :: x6 :: x7 :: x8 :: x9 :: x10 :: x11 :: x12 :: x13 :: x14 :: x15 :: x16 :: x17 :: x18 :: x19 :: y :: L) (.ref v :: st) w c k := by
  obtain ⟨p, e, s, m, args, below, meth, cd⟩ := C
  intro O H ls locs hR hS hL
  exact lv_astore O.1 O.2.1 d hL.has (Nat.lt_of_lt_of_le (by simp) hL.2.2.1) rfl (fun ls' hl' => h O H ls' locs hR hS (hL.set (i := 20) rfl hl'))
theorem g_iinc20 {x0 x1 x2 x3 x4 x5 x6 x7 x8 x9 x10 x11 x12 x13 x14 x15 x16 x17 x18 x19 : Option Value} {v v' : Int32} {n : Int} (d : decode cc pc = .ok (.iinc 20 n, 3)) (hv : v + Int32.ofInt n = v') (h : Go G R cc own Y C Q (pc + 3) (x0 :: x1 :: x2 :: x3 :: x4 :: x5 :: x6 :: x7 :: x8 :: x9 :: x10 :: x11 :: x12 :: x13 :: x14 :: x15 :: x16 :: x17 :: x18 :: x19 :: some (.int v') :: L) st w c k) : Go G R cc own Y C Q pc (x0 :: x1 :: x2 :: x3 :: x4 :: x5 :: x6 :: x7 :: x8 :: x9 :: x10 :: x11 :: x12 :: x13 :: x14 :: x15 :: x16 :: x17 :: x18 :: x19 :: some (.int v) :: L) st w c k := by
  obtain ⟨p, e, s, m, args, below, meth, cd⟩ := C
  intro O H ls locs hR hS hL
  obtain ⟨j, hj⟩ := List.getElem?_of_mem (lvL_mem (L := x0 :: x1 :: x2 :: x3 :: x4 :: x5 :: x6 :: x7 :: x8 :: x9 :: x10 :: x11 :: x12 :: x13 :: x14 :: x15 :: x16 :: x17 :: x18 :: x19 :: some (.int v) :: L) (i := 20) (v := .int v) rfl (Or.inl rfl))
  exact lv_iinc O.1 O.2.1 d hL.has hj hv (Nat.lt_of_lt_of_le (by simp) hL.2.2.1) rfl (fun ls' hl' => h O H ls' locs hR hS (hL.set (i := 20) rfl hl'))
theorem g_iload21 {x0 x1 x2 x3 x4 x5 x6 x7 x8 x9 x10 x11 x12 x13 x14 x15 x16 x17 x18 x19 x20 : Option Value} {v : Int32} (d : decode cc pc = .ok (.iload 21, 2)) (h : Go G R cc own Y C Q (pc + 2) (x0 :: x1 :: x2 :: x3 :: x4 :: x5 :: x6 :: x7 :: x8 :: x9 :: x10 :: x11 :: x12 :: x13 :: x14 :: x15 :: x16 :: x17 :: x18 :: x19 :: x20 :: some (.int v) :: L) (.int v :: st) w c k) : Go G R cc own Y C Q pc (x0 :: x1 :: x2 :: x3 :: x4 :: x5 :: x6 :: x7 :: x8 :: x9 :: x10 :: x11 :: x12 :: x13 :: x14 :: x15 :: x16 :: x17 :: x18 :: x19 :: x20 :: some (.int v) :: L) st w c k := by
  obtain ⟨p, e, s, m, args, below, meth, cd⟩ := C
  intro O H ls locs hR hS hL
  exact lv_iload O.1 O.2.1 d (hL.at (i := 21) rfl rfl) (h O H ls locs hR hS hL)
theorem g_istore21 {x0 x1 x2 x3 x4 x5 x6 x7 x8 x9 x10 x11 x12 x13 x14 x15 x16 x17 x18 x19 x20 : Option Value} {y : Option Value} {v : Int32} (d : decode cc pc = .ok (.istore 21, 2)) (h : Go G R cc own Y C Q (pc + 2) (x0 :: x1 :: x2 :: x3 :: x4 :: x5 :: x6 :: x7 :: x8 :: x9 :: x10 :: x11 :: x12 :: x13 :: x14 :: x15 :: x16 :: x17 :: x18 :: x19 :: x20 :: some (.int v) :: L) st w c k) : Go G R cc own Y C Q pc (x0 :: x1 :: x2 :: x3 :: x4 :: x5 :: x6 :: x7 :: x8 :: x9 :: x10 :: x11 :: x12 :: x13 :: x14 :: x15 :: x16 :: x17 :: x18 :: x19 :: x20 :: y :: L) (.int v :: st) w c k := by
  obtain ⟨p, e, s, m, args, below, meth, cd⟩ := C
  intro O H ls locs hR hS hL
  exact lv_istore O.1 O.2.1 d hL.has (Nat.lt_of_lt_of_le (by simp) hL.2.2.1) rfl (fun ls' hl' => h O H ls' locs hR hS (hL.set (i := 21) rfl hl'))
theorem g_aload21 {x0 x1 x2 x3 x4 x5 x6 x7 x8 x9 x10 x11 x12 x13 x14 x15 x16 x17 x18 x19 x20 : Option Value} {v : Nat} (d : decode cc pc = .ok (.aload 21, 2)) (h : Go G R cc own Y C Q (pc + 2) (x0 :: x1 :: x2 :: x3 :: x4 :: x5 :: x6 :: x7 :: x8 :: x9 :: x10 :: x11 :: x12 :: x13 :: x14 :: x15 :: x16 :: x17 :: x18 :: x19 :: x20 :: some (.ref v) :: L) (.ref v :: st) w c k) : Go G R cc own Y C Q pc (x0 :: x1 :: x2 :: x3 :: x4 :: x5 :: x6 :: x7 :: x8 :: x9 :: x10 :: x11 :: x12 :: x13 :: x14 :: x15 :: x16 :: x17 :: x18 :: x19 :: x20 :: some (.ref v) :: L) st w c k := by
  obtain ⟨p, e, s, m, args, below, meth, cd⟩ := C
  intro O H ls locs hR hS hL
  exact lv_aload O.1 O.2.1 d (hL.at (i := 21) rfl rfl) (h O H ls locs hR hS hL)
theorem g_astore21 {x0 x1 x2 x3 x4 x5 x6 x7 x8 x9 x10 x11 x12 x13 x14 x15 x16 x17 x18 x19 x20 : Option Value} {y : Option Value} {v : Nat} (d : decode cc pc = .ok (.astore 21, 2)) (h : Go G R cc own Y C Q (pc + 2) (x0 :: x1 :: x2 :: x3 :: x4 :: x5 :: x6 :: x7 :: x8 :: x9 :: x10 :: x11 :: x12 :: x13 :: x14 :: x15 :: x16 :: x17 :: x18 :: x19 :: x20 :: some (.ref v) :: L) st w c k) : Go G R cc own Y C Q pc (x0 :: x1 :: x2 :: x3 :: x4 :: x5 :: x6 :: x7 :: x8 :: x9 :: x10 :: x11 :: x12 :: x13 :: x14 :: x15 :: x16 :: x17 :: x18 :: x19 :: x20 :: y :: L) (.ref v :: st) w c k := by
  obtain ⟨p, e, s, m, args, below, meth, cd⟩ := C
  intro O H ls locs hR hS hL
  exact lv_astore O.1 O.2.1 d hL.has (Nat.lt_of_lt_of_le (by simp) hL.2.2.1) rfl (fun ls' hl' => h O H ls' locs hR hS (hL.set (i := 21) rfl hl'))
theorem g_iinc21 {x0 x1 x2 x3 x4 x5 x6 x7 x8 x9 x10 x11 x12 x13 x14 x15 x16 x17 x18 x19 x20 : Option Value} {v v' : Int32} {n : Int} (d : decode cc pc = .ok (.iinc 21 n, 3)) (hv : v + Int32.ofInt n = v') (h : Go G R cc own Y C Q (pc + 3) (x0 :: x1 :: x2 :: x3 :: x4 :: x5 :: x6 :: x7 :: x8 :: x9 :: x10 :: x11 :: x12 :: x13 :: x14 :: x15 :: x16 :: x17 :: x18 :: x19 :: x20 :: some (.int v') :: L) st w c k) : Go G R cc own Y C Q pc (x0 :: x1 :: x2 :: x3 :: x4 :: x5 :: x6 :: x7 :: x8 :: x9 :: x10 :: x11 :: x12 :: x13 :: x14 :: x15 :: x16 :: x17 :: x18 :: x19 :: x20 :: some (.int v) :: L) st w c k := by
  obtain ⟨p, e, s, m, args, below, meth, cd⟩ := C
  intro O H ls locs hR hS hL
  obtain ⟨j, hj⟩ := List.getElem?_of_mem (lvL_mem (L := x0 :: x1 :: x2 :: x3 :: x4 :: x5 :: x6 :: x7 :: x8 :: x9 :: x10 :: x11 :: x12 :: x13 :: x14 :: x15 :: x16 :: x17 :: x18 :: x19 :: x20 :: some (.int v) :: L) (i := 21) (v := .int v) rfl (Or.inl rfl))
  exact lv_iinc O.1 O.2.1 d hL.has hj hv (Nat.lt_of_lt_of_le (by simp) hL.2.2.1) rfl (fun ls' hl' => h O H ls' locs hR hS (hL.set (i := 21) rfl hl'))
theorem g_lload0 {v : Int64} (d : decode cc pc = .ok (.lload_n 0, 1)) (h : Go G R cc own Y C Q (pc + 1) (some (.long v) :: none :: L) (.long v :: st) w c k) : Go G R cc own Y C Q pc (some (.long v) :: none :: L) st w c k := by
  obtain ⟨p, e, s, m, args, below, meth, cd⟩ := C
  intro O H ls locs hR hS hL
  exact lv_lload_n O.1 O.2.1 d rfl (hL.atL (i := 0) rfl rfl) (h O H ls locs hR hS hL)
theorem g_lstore0 {y z : Option Value} {v : Int64} (d : decode cc pc = .ok (.lstore_n 0, 1)) (h : Go G R cc own Y C Q (pc + 1) (some (.long v) :: none :: L) st w c k) : Go G R cc own Y C Q pc (y :: z :: L) (.long v :: st) w c k := by
  obtain ⟨p, e, s, m, args, below, meth, cd⟩ := C
  intro O H ls locs hR hS hL
  exact lv_lstore_n (i := 0) O.1 O.2.1 d rfl hL.has (Nat.lt_of_lt_of_le (by simp) hL.2.2.1) rfl (fun ls' hl' => h O H ls' locs hR hS (hL.setL (i := 0) hl'))
theorem g_lload1 {x0 : Option Value} {v : Int64} (d : decode cc pc = .ok (.lload_n 1, 1)) (h : Go G R cc own Y C Q (pc + 1) (x0 :: some (.long v) :: none :: L) (.long v :: st) w c k) : Go G R cc own Y C Q pc (x0 :: some (.long v) :: none :: L) st w c k := by
  obtain ⟨p, e, s, m, args, below, meth, cd⟩ := C
  intro O H ls locs hR hS hL
  exact lv_lload_n O.1 O.2.1 d rfl (hL.atL (i := 1) rfl rfl) (h O H ls locs hR hS hL)
theorem g_lstore1 {x0 : Option Value} {y z : Option Value} {v : Int64} (d : decode cc pc = .ok (.lstore_n 1, 1)) (h : Go G R cc own Y C Q (pc + 1) (x0 :: some (.long v) :: none :: L) st w c k) : Go G R cc own Y C Q pc (x0 :: y :: z :: L) (.long v :: st) w c k := by
  obtain ⟨p, e, s, m, args, below, meth, cd⟩ := C
  intro O H ls locs hR hS hL
  exact lv_lstore_n (i := 1) O.1 O.2.1 d rfl hL.has (Nat.lt_of_lt_of_le (by simp) hL.2.2.1) rfl (fun ls' hl' => h O H ls' locs hR hS (hL.setL (i := 1) hl'))
theorem g_lload2 {x0 x1 : Option Value} {v : Int64} (d : decode cc pc = .ok (.lload_n 2, 1)) (h : Go G R cc own Y C Q (pc + 1) (x0 :: x1 :: some (.long v) :: none :: L) (.long v :: st) w c k) : Go G R cc own Y C Q pc (x0 :: x1 :: some (.long v) :: none :: L) st w c k := by
  obtain ⟨p, e, s, m, args, below, meth, cd⟩ := C
  intro O H ls locs hR hS hL
  exact lv_lload_n O.1 O.2.1 d rfl (hL.atL (i := 2) rfl rfl) (h O H ls locs hR hS hL)
theorem g_lstore2 {x0 x1 : Option Value} {y z : Option Value} {v : Int64} (d : decode cc pc = .ok (.lstore_n 2, 1)) (h : Go G R cc own Y C Q (pc + 1) (x0 :: x1 :: some (.long v) :: none :: L) st w c k) : Go G R cc own Y C Q pc (x0 :: x1 :: y :: z :: L) (.long v :: st) w c k := by
  obtain ⟨p, e, s, m, args, below, meth, cd⟩ := C
  intro O H ls locs hR hS hL
  exact lv_lstore_n (i := 2) O.1 O.2.1 d rfl hL.has (Nat.lt_of_lt_of_le (by simp) hL.2.2.1) rfl (fun ls' hl' => h O H ls' locs hR hS (hL.setL (i := 2) hl'))
theorem g_lload3 {x0 x1 x2 : Option Value} {v : Int64} (d : decode cc pc = .ok (.lload_n 3, 1)) (h : Go G R cc own Y C Q (pc + 1) (x0 :: x1 :: x2 :: some (.long v) :: none :: L) (.long v :: st) w c k) : Go G R cc own Y C Q pc (x0 :: x1 :: x2 :: some (.long v) :: none :: L) st w c k := by
  obtain ⟨p, e, s, m, args, below, meth, cd⟩ := C
  intro O H ls locs hR hS hL
  exact lv_lload_n O.1 O.2.1 d rfl (hL.atL (i := 3) rfl rfl) (h O H ls locs hR hS hL)
theorem g_lstore3 {x0 x1 x2 : Option Value} {y z : Option Value} {v : Int64} (d : decode cc pc = .ok (.lstore_n 3, 1)) (h : Go G R cc own Y C Q (pc + 1) (x0 :: x1 :: x2 :: some (.long v) :: none :: L) st w c k) : Go G R cc own Y C Q pc (x0 :: x1 :: x2 :: y :: z :: L) (.long v :: st) w c k := by
  obtain ⟨p, e, s, m, args, below, meth, cd⟩ := C
  intro O H ls locs hR hS hL
  exact lv_lstore_n (i := 3) O.1 O.2.1 d rfl hL.has (Nat.lt_of_lt_of_le (by simp) hL.2.2.1) rfl (fun ls' hl' => h O H ls' locs hR hS (hL.setL (i := 3) hl'))
theorem g_lload4 {x0 x1 x2 x3 : Option Value} {v : Int64} (d : decode cc pc = .ok (.lload 4, 2)) (h : Go G R cc own Y C Q (pc + 2) (x0 :: x1 :: x2 :: x3 :: some (.long v) :: none :: L) (.long v :: st) w c k) : Go G R cc own Y C Q pc (x0 :: x1 :: x2 :: x3 :: some (.long v) :: none :: L) st w c k := by
  obtain ⟨p, e, s, m, args, below, meth, cd⟩ := C
  intro O H ls locs hR hS hL
  exact lv_lload O.1 O.2.1 d (hL.atL (i := 4) rfl rfl) (h O H ls locs hR hS hL)
theorem g_lstore4 {x0 x1 x2 x3 : Option Value} {y z : Option Value} {v : Int64} (d : decode cc pc = .ok (.lstore 4, 2)) (h : Go G R cc own Y C Q (pc + 2) (x0 :: x1 :: x2 :: x3 :: some (.long v) :: none :: L) st w c k) : Go G R cc own Y C Q pc (x0 :: x1 :: x2 :: x3 :: y :: z :: L) (.long v :: st) w c k := by
  obtain ⟨p, e, s, m, args, below, meth, cd⟩ := C
  intro O H ls locs hR hS hL
  exact lv_lstore O.1 O.2.1 d hL.has (Nat.lt_of_lt_of_le (by simp) hL.2.2.1) rfl (fun ls' hl' => h O H ls' locs hR hS (hL.setL (i := 4) hl'))
theorem g_lload5 {x0 x1 x2 x3 x4 : Option Value} {v : Int64} (d : decode cc pc = .ok (.lload 5, 2)) (h : Go G R cc own Y C Q (pc + 2) (x0 :: x1 :: x2 :: x3 :: x4 :: some (.long v) :: none :: L) (.long v :: st) w c k) : Go G R cc own Y C Q pc (x0 :: x1 :: x2 :: x3 :: x4 :: some (.long v) :: none :: L) st w c k := by
  obtain ⟨p, e, s, m, args, below, meth, cd⟩ := C
  intro O H ls locs hR hS hL
  exact lv_lload O.1 O.2.1 d (hL.atL (i := 5) rfl rfl) (h O H ls locs hR hS hL)
theorem g_lstore5 {x0 x1 x2 x3 x4 : Option Value} {y z : Option Value} {v : Int64} (d : decode cc pc = .ok (.lstore 5, 2)) (h : Go G R cc own Y C Q (pc + 2) (x0 :: x1 :: x2 :: x3 :: x4 :: some (.long v) :: none :: L) st w c k) : Go G R cc own Y C Q pc (x0 :: x1 :: x2 :: x3 :: x4 :: y :: z :: L) (.long v :: st) w c k := by
  obtain ⟨p, e, s, m, args, below, meth, cd⟩ := C
  intro O H ls locs hR hS hL
  exact lv_lstore O.1 O.2.1 d hL.has (Nat.lt_of_lt_of_le (by simp) hL.2.2.1) rfl (fun ls' hl' => h O H ls' locs hR hS (hL.setL (i := 5) hl'))
theorem g_lload6 {x0 x1 x2 x3 x4 x5 : Option Value} {v : Int64} (d : decode cc pc = .ok (.lload 6, 2)) (h : Go G R cc own Y C Q (pc + 2) (x0 :: x1 :: x2 :: x3 :: x4 :: x5 :: some (.long v) :: none :: L) (.long v :: st) w c k) : Go G R cc own Y C Q pc (x0 :: x1 :: x2 :: x3 :: x4 :: x5 :: some (.long v) :: none :: L) st w c k := by
  obtain ⟨p, e, s, m, args, below, meth, cd⟩ := C
  intro O H ls locs hR hS hL
  exact lv_lload O.1 O.2.1 d (hL.atL (i := 6) rfl rfl) (h O H ls locs hR hS hL)
theorem g_lstore6 {x0 x1 x2 x3 x4 x5 : Option Value} {y z : Option Value} {v : Int64} (d : decode cc pc = .ok (.lstore 6, 2)) (h : Go G R cc own Y C Q (pc + 2) (x0 :: x1 :: x2 :: x3 :: x4 :: x5 :: some (.long v) :: none :: L) st w c k) : Go G R cc own Y C Q pc (x0 :: x1 :: x2 :: x3 :: x4 :: x5 :: y :: z :: L) (.long v :: st) w c k := by
  obtain ⟨p, e, s, m, args, below, meth, cd⟩ := C
  intro O H ls locs hR hS hL
  exact lv_lstore O.1 O.2.1 d hL.has (Nat.lt_of_lt_of_le (by simp) hL.2.2.1) rfl (fun ls' hl' => h O H ls' locs hR hS (hL.setL (i := 6) hl'))
theorem g_lload7 {x0 x1 x2 x3 x4 x5 x6 : Option Value} {v : Int64} (d : decode cc pc = .ok (.lload 7, 2)) (h : Go G R cc own Y C Q (pc + 2) (x0 :: x1 :: x2 :: x3 :: x4 :: x5 :: x6 :: some (.long v) :: none :: L) (.long v :: st) w c k) : Go G R cc own Y C Q pc (x0 :: x1 :: x2 :: x3 :: x4 :: x5 :: x6 :: some (.long v) :: none :: L) st w c k := by
  obtain ⟨p, e, s, m, args, below, meth, cd⟩ := C
  intro O H ls locs hR hS hL
  exact lv_lload O.1 O.2.1 d (hL.atL (i := 7) rfl rfl) (h O H ls locs hR hS hL)
theorem g_lstore7 {x0 x1 x2 x3 x4 x5 x6 : Option Value} {y z : Option Value} {v : Int64} (d : decode cc pc = .ok (.lstore 7, 2)) (h : Go G R cc own Y C Q (pc + 2) (x0 :: x1 :: x2 :: x3 :: x4 :: x5 :: x6 :: some (.long v) :: none :: L) st w c k) : Go G R cc own Y C Q pc (x0 :: x1 :: x2 :: x3 :: x4 :: x5 :: x6 :: y :: z :: L) (.long v :: st) w c k := by
  obtain ⟨p, e, s, m, args, below, meth, cd⟩ := C
  intro O H ls locs hR hS hL
  exact lv_lstore O.1 O.2.1 d hL.has (Nat.lt_of_lt_of_le (by simp) hL.2.2.1) rfl (fun ls' hl' => h O H ls' locs hR hS (hL.setL (i := 7) hl'))
theorem g_lload8 {x0 x1 x2 x3 x4 x5 x6 x7 : Option Value} {v : Int64} (d : decode cc pc = .ok (.lload 8, 2)) (h : Go G R cc own Y C Q (pc + 2) (x0 :: x1 :: x2 :: x3 :: x4 :: x5 :: x6 :: x7 :: some (.long v) :: none :: L) (.long v :: st) w c k) : Go G R cc own Y C Q pc (x0 :: x1 :: x2 :: x3 :: x4 :: x5 :: x6 :: x7 :: some (.long v) :: none :: L) st w c k := by
  obtain ⟨p, e, s, m, args, below, meth, cd⟩ := C
  intro O H ls locs hR hS hL
  exact lv_lload O.1 O.2.1 d (hL.atL (i := 8) rfl rfl) (h O H ls locs hR hS hL)
theorem g_lstore8 {x0 x1 x2 x3 x4 x5 x6 x7 : Option Value} {y z : Option Value} {v : Int64} (d : decode cc pc = .ok (.lstore 8, 2)) (h : Go G R cc own Y C Q (pc + 2) (x0 :: x1 :: x2 :: x3 :: x4 :: x5 :: x6 :: x7 :: some (.long v) :: none :: L) st w c k) : Go G R cc own Y C Q pc (x0 :: x1 :: x2 :: x3 :: x4 :: x5 :: x6 :: x7 :: y :: z :: L) (.long v :: st) w c k := by
  obtain ⟨p, e, s, m, args, below, meth, cd⟩ := C
  intro O H ls locs hR hS hL
  exact lv_lstore O.1 O.2.1 d hL.has (Nat.lt_of_lt_of_le (by simp) hL.2.2.1) rfl (fun ls' hl' => h O H ls' locs hR hS (hL.setL (i := 8) hl'))
theorem g_lload9 {x0 x1 x2 x3 x4 x5 x6 x7 x8 : Option Value} {v : Int64} (d : decode cc pc = .ok (.lload 9, 2)) (h : Go G R cc own Y C Q (pc + 2) (x0 :: x1 :: x2 :: x3 :: x4 :: x5 :: x6 :: x7 :: x8 :: some (.long v) :: none :: L) (.long v :: st) w c k) : Go G R cc own Y C Q pc (x0 :: x1 :: x2 :: x3 :: x4 :: x5 :: x6 :: x7 :: x8 :: some (.long v) :: none :: L) st w c k := by
  obtain ⟨p, e, s, m, args, below, meth, cd⟩ := C
  intro O H ls locs hR hS hL
  exact lv_lload O.1 O.2.1 d (hL.atL (i := 9) rfl rfl) (h O H ls locs hR hS hL)
theorem g_lstore9 {x0 x1 x2 x3 x4 x5 x6 x7 x8 : Option Value} {y z : Option Value} {v : Int64} (d : decode cc pc = .ok (.lstore 9, 2)) (h : Go G R cc own Y C Q (pc + 2) (x0 :: x1 :: x2 :: x3 :: x4 :: x5 :: x6 :: x7 :: x8 :: some (.long v) :: none :: L) st w c k) : Go G R cc own Y C Q pc (x0 :: x1 :: x2 :: x3 :: x4 :: x5 :: x6 :: x7 :: x8 :: y :: z :: L) (.long v :: st) w c k := by
  obtain ⟨p, e, s, m, args, below, meth, cd⟩ := C
  intro O H ls locs hR hS hL
  exact lv_lstore O.1 O.2.1 d hL.has (Nat.lt_of_lt_of_le (by simp) hL.2.2.1) rfl (fun ls' hl' => h O H ls' locs hR hS (hL.setL (i := 9) hl'))
theorem g_lload10 {x0 x1 x2 x3 x4 x5 x6 x7 x8 x9 : Option Value} {v : Int64} (d : decode cc pc = .ok (.lload 10, 2)) (h : Go G R cc own Y C Q (pc + 2) (x0 :: x1 :: x2 :: x3 :: x4 :: x5 :: x6 :: x7 :: x8 :: x9 :: some (.long v) :: none :: L) (.long v :: st) w c k) : Go G R cc own Y C Q pc (x0 :: x1 :: x2 :: x3 :: x4 :: x5 :: x6 :: x7 :: x8 :: x9 :: some (.long v) :: none :: L) st w c k := by
  obtain ⟨p, e, s, m, args, below, meth, cd⟩ := C
  intro O H ls locs hR hS hL
  exact lv_lload O.1 O.2.1 d (hL.atL (i := 10) rfl rfl) (h O H ls locs hR hS hL)
theorem g_lstore10 {x0 x1 x2 x3 x4 x5 x6 x7 x8 x9 : Option Value} {y z : Option Value} {v : Int64} (d : decode cc pc = .ok (.lstore 10, 2)) (h : Go G R cc own Y C Q (pc + 2) (x0 :: x1 :: x2 :: x3 :: x4 :: x5 :: x6 :: x7 :: x8 :: x9 :: some (.long v) :: none :: L) st w c k) : Go G R cc own Y C Q pc (x0 :: x1 :: x2 :: x3 :: x4 :: x5 :: x6 :: x7 :: x8 :: x9 :: y :: z :: L) (.long v :: st) w c k := by
  obtain ⟨p, e, s, m, args, below, meth, cd⟩ := C
  intro O H ls locs hR hS hL
  exact lv_lstore O.1 O.2.1 d hL.has (Nat.lt_of_lt_of_le (by simp) hL.2.2.1) rfl (fun ls' hl' => h O H ls' locs hR hS (hL.setL (i := 10) hl'))
theorem g_lload11 {x0 x1 x2 x3 x4 x5 x6 x7 x8 x9 x10 : Option Value} {v : Int64} (d : decode cc pc = .ok (.lload 11, 2)) (h : Go G R cc own Y C Q (pc + 2) (x0 :: x1 :: x2 :: x3 :: x4 :: x5 :: x6 :: x7 :: x8 :: x9 :: x10 :: some (.long v) :: none :: L) (.long v :: st) w c k) : Go G R cc own Y C Q pc (x0 :: x1 :: x2 :: x3 :: x4 :: x5 :: x6 :: x7 :: x8 :: x9 :: x10 :: some (.long v) :: none :: L) st w c k := by
  obtain ⟨p, e, s, m, args, below, meth, cd⟩ := C
  intro O H ls locs hR hS hL
  exact lv_lload O.1 O.2.1 d (hL.atL (i := 11) rfl rfl) (h O H ls locs hR hS hL)
theorem g_lstore11 {x0 x1 x2 x3 x4 x5 x6 x7 x8 x9 x10 : Option Value} {y z : Option Value} {v : Int64} (d : decode cc pc = .ok (.lstore 11, 2)) (h : Go G R cc own Y C Q (pc + 2) (x0 :: x1 :: x2 :: x3 :: x4 :: x5 :: x6 :: x7 :: x8 :: x9 :: x10 :: some (.long v) :: none :: L) st w c k) : Go G R cc own Y C Q pc (x0 :: x1 :: x2 :: x3 :: x4 :: x5 :: x6 :: x7 :: x8 :: x9 :: x10 :: y :: z :: L) (.long v :: st) w c k := by
  obtain ⟨p, e, s, m, args, below, meth, cd⟩ := C
  intro O H ls locs hR hS hL
  exact lv_lstore O.1 O.2.1 d hL.has (Nat.lt_of_lt_of_le (by simp) hL.2.2.1) rfl (fun ls' hl' => h O H ls' locs hR hS (hL.setL (i := 11) hl'))
theorem g_lload12 {x0 x1 x2 x3 x4 x5 x6 x7 x8 x9 x10 x11 : Option Value} {v : Int64} (d : decode cc pc = .ok (.lload 12, 2)) (h : Go G R cc own Y C Q (pc + 2) (x0 :: x1 :: x2 :: x3 :: x4 :: x5 :: x6 :: x7 :: x8 :: x9 :: x10 :: x11 :: some (.long v) :: none :: L) (.long v :: st) w c k) : Go G R cc own Y C Q pc (x0 :: x1 :: x2 :: x3 :: x4 :: x5 :: x6 :: x7 :: x8 :: x9 :: x10 :: x11 :: some (.long v) :: none :: L) st w c k := by
  obtain ⟨p, e, s, m, args, below, meth, cd⟩ := C
  intro O H ls locs hR hS hL
  exact lv_lload O.1 O.2.1 d (hL.atL (i := 12) rfl rfl) (h O H ls locs hR hS hL)
theorem g_lstore12 {x0 x1 x2 x3 x4 x5 x6 x7 x8 x9 x10 x11 : Option Value} {y z : Option Value} {v : Int64} (d : decode cc pc = .ok (.lstore 12, 2)) (h : Go G R cc own Y C Q (pc + 2) (x0 :: x1 :: x2 :: x3 :: x4 :: x5 :: x6 :: x7 :: x8 :: x9 :: x10 :: x11 :: some (.long v) :: none :: L) st w c k) : Go G R cc own Y C Q pc (x0 :: x1 :: x2 :: x3 :: x4 :: x5 :: x6 :: x7 :: x8 :: x9 :: x10 :: x11 :: y :: z :: L) (.long v :: st) w c k := by
  obtain ⟨p, e, s, m, args, below, meth, cd⟩ := C
  intro O H ls locs hR hS hL
  exact lv_lstore O.1 O.2.1 d hL.has (Nat.lt_of_lt_of_le (by simp) hL.2.2.1) rfl (fun ls' hl' => h O H ls' locs hR hS (hL.setL (i := 12) hl'))
theorem g_lload13 {x0 x1 x2 x3 x4 x5 x6 x7 x8 x9 x10 x11 x12 : Option Value} {v : Int64} (d : decode cc pc = .ok (.lload 13, 2)) (h : Go G R cc own Y C Q (pc + 2) (x0 :: x1 :: x2 :: x3 :: x4 :: x5 :: x6 :: x7 :: x8 :: x9 :: x10 :: x11 :: x12 :: some (.long v) :: none :: L) (.long v :: st) w c k) : Go G R cc own Y C Q pc (x0 :: x1 :: x2 :: x3 :: x4 :: x5 :: x6 :: x7 :: x8 :: x9 :: x10 :: x11 :: x12 :: some (.long v) :: none :: L) st w c k := by
  obtain ⟨p, e, s, m, args, below, meth, cd⟩ := C
  intro O H ls locs hR hS hL
  exact lv_lload O.1 O.2.1 d (hL.atL (i := 13) rfl rfl) (h O H ls locs hR hS hL)
theorem g_lstore13 {x0 x1 x2 x3 x4 x5 x6 x7 x8 x9 x10 x11 x12 : Option Value} {y z : Option Value} {v : Int64} (d : decode cc pc = .ok (.lstore 13, 2)) (h : Go G R cc own Y C Q (pc + 2) (x0 :: x1 :: x2 :: x3 :: x4 :: x5 :: x6 :: x7 :: x8 :: x9 :: x10 :: x11 :: x12 :: some (.long v) :: none :: L) st w c k) : Go G R cc own Y C Q pc (x0 :: x1 :: x2 :: x3 :: x4 :: x5 :: x6 :: x7 :: x8 :: x9 :: x10 :: x11 :: x12 :: y :: z :: L) (.long v :: st) w c k := by
  obtain ⟨p, e, s, m, args, below, meth, cd⟩ := C
  intro O H ls locs hR hS hL
  exact lv_lstore O.1 O.2.1 d hL.has (Nat.lt_of_lt_of_le (by simp) hL.2.2.1) rfl (fun ls' hl' => h O H ls' locs hR hS (hL.setL (i := 13) hl'))
theorem g_lload14 {x0 x1 x2 x3 x4 x5 x6 x7 x8 x9 x10 x11 x12 x13 : Option Value} {v : Int64} (d : decode cc pc = .ok (.lload 14, 2)) (h : Go G R cc own Y C Q (pc + 2) (x0 :: x1 :: x2 :: x3 :: x4 :: x5 :: x6 :: x7 :: x8 :: x9 :: x10 :: x11 :: x12 :: x13 :: some (.long v) :: none :: L) (.long v :: st) w c k) : Go G R cc own Y C Q pc (x0 :: x1 :: x2 :: x3 :: x4 :: x5 :: x6 :: x7 :: x8 :: x9 :: x10 :: x11 :: x12 :: x13 :: some (.long v) :: none :: L) st w c k := by
  obtain ⟨p, e, s, m, args, below, meth, cd⟩ := C
  intro O H ls locs hR hS hL
  exact lv_lload O.1 O.2.1 d (hL.atL (i := 14) rfl rfl) (h O H ls locs hR hS hL)
theorem g_lstore14 {x0 x1 x2 x3 x4 x5 x6 x7 x8 x9 x10 x11 x12 x13 : Option Value} {y z : Option Value} {v : Int64} (d : decode cc pc = .ok (.lstore 14, 2)) (h : Go G R cc own Y C Q (pc + 2) (x0 :: x1 :: x2 :: x3 :: x4 :: x5 :: x6 :: x7 :: x8 :: x9 :: x10 :: x11 :: x12 :: x13 :: some (.long v) :: none :: L) st w c k) : Go G R cc own Y C Q pc (x0 :: x1 :: x2 :: x3 :: x4 :: x5 :: x6 :: x7 :: x8 :: x9 :: x10 :: x11 :: x12 :: x13 :: y :: z :: L) (.long v :: st) w c k := by
  obtain ⟨p, e, s, m, args, below, meth, cd⟩ := C
  intro O H ls locs hR hS hL
  exact lv_lstore O.1 O.2.1 d hL.has (Nat.lt_of_lt_of_le (by simp) hL.2.2.1) rfl (fun ls' hl' => h O H ls' locs hR hS (hL.setL (i := 14) hl'))
theorem g_lload15 {x0 x1 x2 x3 x4 x5 x6 x7 x8 x9 x10 x11 x12 x13 x14 : Option Value} {v : Int64} (d : decode cc pc = .ok (.lload 15, 2)) (h : Go G R cc own Y C Q (pc + 2) (x0 :: x1 :: x2 :: x3 :: x4 :: x5 :: x6 :: x7 :: x8 :: x9 :: x10 :: x11 :: x12 :: x13 :: x14 :: some (.long v) :: none :: L) (.long v :: st) w c k) : Go G R cc own Y C Q pc (x0 :: x1 :: x2 :: x3 :: x4 :: x5 :: x6 :: x7 :: x8 :: x9 :: x10 :: x11 :: x12 :: x13 :: x14 :: some (.long v) :: none :: L) st w c k := by
  obtain ⟨p, e, s, m, args, below, meth, cd⟩ := C
  intro O H ls locs hR hS hL
  exact lv_lload O.1 O.2.1 d (hL.atL (i := 15) rfl rfl) (h O H ls locs hR hS hL)
theorem g_lstore15 {x0 x1 x2 x3 x4 x5 x6 x7 x8 x9 x10 x11 x12 x13 x14 : Option Value} {y z : Option Value} {v : Int64} (d : decode cc pc = .ok (.lstore 15, 2)) (h : Go G R cc own Y C Q (pc + 2) (x0 :: x1 :: x2 :: x3 :: x4 :: x5 :: x6 :: x7 :: x8 :: x9 :: x10 :: x11 :: x12 :: x13 :: x14 :: some (.long v) :: none :: L) st w c k) : Go G R cc own Y C Q pc (x0 :: x1 :: x2 :: x3 :: x4 :: x5 :: x6 :: x7 :: x8 :: x9 :: x10 :: x11 :: x12 :: x13 :: x14 :: y :: z :: L) (.long v :: st) w c k := by
  obtain ⟨p, e, s, m, args, below, meth, cd⟩ := C
  intro O H ls locs hR hS hL
  exact lv_lstore O.1 O.2.1 d hL.has (Nat.lt_of_lt_of_le (by simp) hL.2.2.1) rfl (fun ls' hl' => h O H ls' locs hR hS (hL.setL (i := 15) hl'))
theorem g_lload16 {x0 x1 x2 x3 x4 x5 x6 x7 x8 x9 x10 x11 x12 x13 x14 x15 : Option Value} {v : Int64} (d : decode cc pc = .ok (.lload 16, 2)) (h : Go G R cc own Y C Q (pc + 2) (x0 :: x1 :: x2 :: x3 :: x4 :: x5 :: x6 :: x7 :: x8 :: x9 :: x10 :: x11 :: x12 :: x13 :: x14 :: x15 :: some (.long v) :: none :: L) (.long v :: st) w c k) : Go G R cc own Y C Q pc (x0 :: x1 :: x2 :: x3 :: x4 :: x5 :: x6 :: x7 :: x8 :: x9 :: x10 :: x11 :: x12 :: x13 :: x14 :: x15 :: some (.long v) :: none :: L) st w c k := by
  obtain ⟨p, e, s, m, args, below, meth, cd⟩ := C
  intro O H ls locs hR hS hL
  exact lv_lload O.1 O.2.1 d (hL.atL (i := 16) rfl rfl) (h O H ls locs hR hS hL)
theorem g_lstore16 {x0 x1 x2 x3 x4 x5 x6 x7 x8 x9 x10 x11 x12 x13 x14 x15 : Option Value} {y z : Option Value} {v : Int64} (d : decode cc pc = .ok (.lstore 16, 2)) (h : Go G R cc own Y C Q (pc + 2) (x0 :: x1 :: x2 :: x3 :: x4 :: x5 :: x6 :: x7 :: x8 :: x9 :: x10 :: x11 :: x12 :: x13 :: x14 :: x15 :: some (.long v) :: none :: L) st w c k) : Go G R cc own Y C Q pc (x0 :: x1 :: x2 :: x3 :: x4 :: x5 :: x6 :: x7 :: x8 :: x9 :: x10 :: x11 :: x12 :: x13 :: x14 :: x15 :: y :: z :: L) (.long v :: st) w c k := by
  obtain ⟨p, e, s, m, args, below, meth, cd⟩ := C
  intro O H ls locs hR hS hL
  exact lv_lstore O.1 O.2.1 d hL.has (Nat.lt_of_lt_of_le (by simp) hL.2.2.1) rfl (fun ls' hl' => h O H ls' locs hR hS (hL.setL (i := 16) hl'))
theorem g_lload17 {x0 x1 x2 x3 x4 x5 x6 x7 x8 x9 x10 x11 x12 x13 x14 x15 x16 : Option Value} {v : Int64} (d : decode cc pc = .ok (.lload 17, 2)) (h : Go G R cc own Y C Q (pc + 2) (x0 :: x1 :: x2 :: x3 :: x4 :: x5 :: x6 :: x7 :: x8 :: x9 :: x10 :: x11 :: x12 :: x13 :: x14 :: x15 :: x16 :: some (.long v) :: none :: L) (.long v :: st) w c k) : Go G R cc own Y C Q pc (x0 :: x1 :: x2 :: x3 :: x4 :: x5 :: x6 :: x7 :: x8 :: x9 :: x10 :: x11 :: x12 :: x13 :: x14 :: x15 :: x16 :: some (.long v) :: none :: L) st w c k := by
  obtain ⟨p, e, s, m, args, below, meth, cd⟩ := C
  intro O H ls locs hR hS hL
  exact lv_lload O.1 O.2.1 d (hL.atL (i := 17) rfl rfl) (h O H ls locs hR hS hL)
theorem g_lstore17 {x0 x1 x2 x3 x4 x5 x6 x7 x8 x9 x10 x11 x12 x13 x14 x15 x16 : Option Value} {y z : Option Value} {v : Int64} (d : decode cc pc = .ok (.lstore 17, 2)) (h : Go G R cc own Y C Q (pc + 2) (x0 :: x1 :: x2 :: x3 :: x4 :: x5 :: x6 :: x7 :: x8 :: x9 :: x10 :: x11 :: x12 :: x13 :: x14 :: x15 :: x16 :: some (.long v) :: none :: L) st w c k) : Go G R cc own Y C Q pc (x0 :: x1 :: x2 :: x3 :: x4 :: x5 :: x6 :: x7 :: x8 :: x9 :: x10 :: x11 :: x12 :: x13 :: x14 :: x15 :: x16 :: y :: z :: L) (.long v :: st) w c k := by
  obtain ⟨p, e, s, m, args, below, meth, cd⟩ := C
  intro O H ls locs hR hS hL
  exact lv_lstore O.1 O.2.1 d hL.has (Nat.lt_of_lt_of_le (by simp) hL.2.2.1) rfl (fun ls' hl' => h O H ls' locs hR hS (hL.setL (i := 17) hl'))
theorem g_lload18 {x0 x1 x2 x3 x4 x5 x6 x7 x8 x9 x10 x11 x12 x13 x14 x15 x16 x17 : Option Value} {v : Int64} (d : decode cc pc = .ok (.lload 18, 2)) (h : Go G R cc own Y C Q (pc + 2) (x0 :: x1 :: x2 :: x3 :: x4 :: x5 :: x6 :: x7 :: x8 :: x9 :: x10 :: x11 :: x12 :: x13 :: x14 :: x15 :: x16 :: x17 :: some (.long v) :: none :: L) (.long v :: st) w c k) : Go G R cc own Y C Q pc (x0 :: x1 :: x2 :: x3 :: x4 :: x5 :: x6 :: x7 :: x8 :: x9 :: x10 :: x11 :: x12 :: x13 :: x14 :: x15 :: x16 :: x17 :: some (.long v) :: none :: L) st w c k := by
  obtain ⟨p, e, s, m, args, below, meth, cd⟩ := C
  intro O H ls locs hR hS hL
  exact lv_lload O.1 O.2.1 d (hL.atL (i := 18) rfl rfl) (h O H ls locs hR hS hL)
theorem g_lstore18 {x0 x1 x2 x3 x4 x5 x6 x7 x8 x9 x10 x11 x12 x13 x14 x15 x16 x17 : Option Value} {y z : Option Value} {v : Int64} (d : decode cc pc = .ok (.lstore 18, 2)) (h : Go G R cc own Y C Q (pc + 2) (x0 :: x1 :: x2 :: x3 :: x4 :: x5 :: x6 :: x7 :: x8 :: x9 :: x10 :: x11 :: x12 :: x13 :: x14 :: x15 :: x16 :: x17 :: some (.long v) :: none :: L) st w c k) : Go G R cc own Y C Q pc (x0 :: x1 :: x2 :: x3 :: x4 :: x5 :: x6 :: x7 :: x8 :: x9 :: x10 :: x11 :: x12 :: x13 :: x14 :: x15 :: x16 :: x17 :: y :: z :: L) (.long v :: st) w c k := by
  obtain ⟨p, e, s, m, args, below, meth, cd⟩ := C
  intro O H ls locs hR hS hL
  exact lv_lstore O.1 O.2.1 d hL.has (Nat.lt_of_lt_of_le (by simp) hL.2.2.1) rfl (fun ls' hl' => h O H ls' locs hR hS (hL.setL (i := 18) hl'))
theorem g_lload19 {x0 x1 x2 x3 x4 x5 x6 x7 x8 x9 x10 x11 x12 x13 x14 x15 x16 x17 x18 : Option Value} {v : Int64} (d : decode cc pc = .ok (.lload 19, 2)) (h : Go G R cc own Y C Q (pc + 2) (x0 :: x1 :: x2 :: x3 :: x4 :: x5 :: x6 :: x7 :: x8 :: x9 :: x10 :: x11 :: x12 :: x13 :: x14 :: x15 :: x16 :: x17 :: x18 :: some (.long v) :: none :: L) (.long v :: st) w c k) : Go G R cc own Y C Q pc (x0 :: x1 :: x2 :: x3 :: x4 :: x5 :: x6 :: x7 :: x8 :: x9 :: x10 :: x11 :: x12 :: x13 :: x14 :: x15 :: x16 :: x17 :: x18 :: some (.long v) :: none :: L) st w c k := by
  obtain ⟨p, e, s, m, args, below, meth, cd⟩ := C
  intro O H ls locs hR hS hL
  exact lv_lload O.1 O.2.1 d (hL.atL (i := 19) rfl rfl) (h O H ls locs hR hS hL)
theorem g_lstore19 {x0 x1 x2 x3 x4 x5 x6 x7 x8 x9 x10 x11 x12 x13 x14 x15 x16 x17 x18 : Option Value} {y z : Option Value} {v : Int64} (d : decode cc pc = .ok (.lstore 19, 2)) (h : Go G R cc own Y C Q (pc + 2) (x0 :: x1 :: x2 :: x3 :: x4 :: x5 :: x6 :: x7 :: x8 :: x9 :: x10 :: x11 :: x12 :: x13 :: x14 :: x15 :: x16 :: x17 :: x18 :: some (.long v) :: none :: L) st w c k) : Go G R cc own Y C Q pc (x0 :: x1 :: x2 :: x3 :: x4 :: x5 :: x6 :: x7 :: x8 :: x9 :: x10 :: x11 :: x12 :: x13 :: x14 :: x15 :: x16 :: x17 :: x18 :: y :: z :: L) (.long v :: st) w c k := by
  obtain ⟨p, e, s, m, args, below, meth, cd⟩ := C
  intro O H ls locs hR hS hL
  exact lv_lstore O.1 O.2.1 d hL.has (Nat.lt_of_lt_of_le (by simp) hL.2.2.1) rfl (fun ls' hl' => h O H ls' locs hR hS (hL.setL (i := 19) hl'))
theorem g_lload20 {x0 x1 x2 x3 x4 x5 x6 x7 x8 x9 x10 x11 x12 x13 x14 x15 x16 x17 x18 x19 : Option Value} {v : Int64} (d : decode cc pc = .ok (.lload 20, 2)) (h : Go G R cc own Y C Q (pc + 2) (x0 :: x1 :: x2 :: x3 :: x4 :: x5 :: x6 :: x7 :: x8 :: x9 :: x10 :: x11 :: x12 :: x13 :: x14 :: x15 :: x16 :: x17 :: x18 :: x19 :: some (.long v) :: none :: L) (.long v :: st) w c k) : Go G R cc own Y C Q pc (x0 :: x1 :: x2 :: x3 :: x4 :: x5 :: x6 :: x7 :: x8 :: x9 :: x10 :: x11 :: x12 :: x13 :: x14 :: x15 :: x16 :: x17 :: x18 :: x19 :: some (.long v) :: none :: L) st w c k := by
  obtain ⟨p, e, s, m, args, below, meth, cd⟩ := C
  intro O H ls locs hR hS hL
  exact lv_lload O.1 O.2.1 d (hL.atL (i := 20) rfl rfl) (h O H ls locs hR hS hL)
theorem g_lstore20 {x0 x1 x2 x3 x4 x5 x6 x7 x8 x9 x10 x11 x12 x13 x14 x15 x16 x17 x18 x19 : Option Value} {y z : Option Value} {v : Int64} (d : decode cc pc = .ok (.lstore 20, 2)) (h : Go G R cc own Y C Q (pc + 2) (x0 :: x1 :: x2 :: x3 :: x4 :: x5 :: x6 :: x7 :: x8 :: x9 :: x10 :: x11 :: x12 :: x13 :: x14 :: x15 :: x16 :: x17 :: x18 :: x19 :: some (.long v) :: none :: L) st w c k) : Go G R cc own Y C Q pc (x0 :: x1 :: x2 :: x3 :: x4 :: x5 :: x6 :: x7 :: x8 :: x9 :: x10 :: x11 :: x12 :: x13 :: x14 :: x15 :: x16 :: x17 :: x18 :: x19 :: y :: z :: L) (.long v :: st) w c k := by
  obtain ⟨p, e, s, m, args, below, meth, cd⟩ := C
  intro O H ls locs hR hS hL
  exact lv_lstore O.1 O.2.1 d hL.has (Nat.lt_of_lt_of_le (by simp) hL.2.2.1) rfl (fun ls' hl' => h O H ls' locs hR hS (hL.setL (i := 20) hl'))
theorem g_if_eq {x : Int32} {off : Int} {tgt : Nat} (d : decode cc pc = .ok (.ifCond .eq off, 3)) (ht : (pc : Int) + off = (tgt : Int)) (kt : x = 0 → Go G R cc own Y C Q tgt L st w c k) (kf : ¬ x = 0 → Go G R cc own Y C Q (pc + 3) L st w c k) : Go G R cc own Y C Q pc L (.int x :: st) w c k := by
  obtain ⟨p, e, s, m, args, below, meth, cd⟩ := C
  intro O H ls locs hR hS hL
  exact lv_if_eq O.1 O.2.1 d ht (fun z => kt z O H ls locs hR hS hL) (fun z => kf z O H ls locs hR hS hL)
theorem g_icmp_eq {x y : Int32} {off : Int} {tgt : Nat} (d : decode cc pc = .ok (.if_icmp .eq off, 3)) (ht : (pc : Int) + off = (tgt : Int)) (kt : x = y → Go G R cc own Y C Q tgt L st w c k) (kf : ¬ x = y → Go G R cc own Y C Q (pc + 3) L st w c k) : Go G R cc own Y C Q pc L (.int y :: .int x :: st) w c k := by
  obtain ⟨p, e, s, m, args, below, meth, cd⟩ := C
  intro O H ls locs hR hS hL
  exact lv_icmp_eq O.1 O.2.1 d ht (fun z => kt z O H ls locs hR hS hL) (fun z => kf z O H ls locs hR hS hL)
theorem g_if_ne {x : Int32} {off : Int} {tgt : Nat} (d : decode cc pc = .ok (.ifCond .ne off, 3)) (ht : (pc : Int) + off = (tgt : Int)) (kt : ¬ x = 0 → Go G R cc own Y C Q tgt L st w c k) (kf : x = 0 → Go G R cc own Y C Q (pc + 3) L st w c k) : Go G R cc own Y C Q pc L (.int x :: st) w c k := by
  obtain ⟨p, e, s, m, args, below, meth, cd⟩ := C
  intro O H ls locs hR hS hL
  exact lv_if_ne O.1 O.2.1 d ht (fun z => kt z O H ls locs hR hS hL) (fun z => kf z O H ls locs hR hS hL)
theorem g_icmp_ne {x y : Int32} {off : Int} {tgt : Nat} (d : decode cc pc = .ok (.if_icmp .ne off, 3)) (ht : (pc : Int) + off = (tgt : Int)) (kt : ¬ x = y → Go G R cc own Y C Q tgt L st w c k) (kf : x = y → Go G R cc own Y C Q (pc + 3) L st w c k) : Go G R cc own Y C Q pc L (.int y :: .int x :: st) w c k := by
  obtain ⟨p, e, s, m, args, below, meth, cd⟩ := C
  intro O H ls locs hR hS hL
  exact lv_icmp_ne O.1 O.2.1 d ht (fun z => kt z O H ls locs hR hS hL) (fun z => kf z O H ls locs hR hS hL)
theorem g_if_lt {x : Int32} {off : Int} {tgt : Nat} (d : decode cc pc = .ok (.ifCond .lt off, 3)) (ht : (pc : Int) + off = (tgt : Int)) (kt : x < 0 → Go G R cc own Y C Q tgt L st w c k) (kf : ¬ x < 0 → Go G R cc own Y C Q (pc + 3) L st w c k) : Go G R cc own Y C Q pc L (.int x :: st) w c k := by
  obtain ⟨p, e, s, m, args, below, meth, cd⟩ := C
  intro O H ls locs hR hS hL
  exact lv_if_lt O.1 O.2.1 d ht (fun z => kt z O H ls locs hR hS hL) (fun z => kf z O H ls locs hR hS hL)
theorem g_icmp_lt {x y : Int32} {off : Int} {tgt : Nat} (d : decode cc pc = .ok (.if_icmp .lt off, 3)) (ht : (pc : Int) + off = (tgt : Int)) (kt : x < y → Go G R cc own Y C Q tgt L st w c k) (kf : ¬ x < y → Go G R cc own Y C Q (pc + 3) L st w c k) : Go G R cc own Y C Q pc L (.int y :: .int x :: st) w c k := by
  obtain ⟨p, e, s, m, args, below, meth, cd⟩ := C
  intro O H ls locs hR hS hL
  exact lv_icmp_lt O.1 O.2.1 d ht (fun z => kt z O H ls locs hR hS hL) (fun z => kf z O H ls locs hR hS hL)
theorem g_if_ge {x : Int32} {off : Int} {tgt : Nat} (d : decode cc pc = .ok (.ifCond .ge off, 3)) (ht : (pc : Int) + off = (tgt : Int)) (kt : 0 ≤ x → Go G R cc own Y C Q tgt L st w c k) (kf : ¬ 0 ≤ x → Go G R cc own Y C Q (pc + 3) L st w c k) : Go G R cc own Y C Q pc L (.int x :: st) w c k := by
  obtain ⟨p, e, s, m, args, below, meth, cd⟩ := C
  intro O H ls locs hR hS hL
  exact lv_if_ge O.1 O.2.1 d ht (fun z => kt z O H ls locs hR hS hL) (fun z => kf z O H ls locs hR hS hL)
theorem g_icmp_ge {x y : Int32} {off : Int} {tgt : Nat} (d : decode cc pc = .ok (.if_icmp .ge off, 3)) (ht : (pc : Int) + off = (tgt : Int)) (kt : y ≤ x → Go G R cc own Y C Q tgt L st w c k) (kf : ¬ y ≤ x → Go G R cc own Y C Q (pc + 3) L st w c k) : Go G R cc own Y C Q pc L (.int y :: .int x :: st) w c k := by
  obtain ⟨p, e, s, m, args, below, meth, cd⟩ := C
  intro O H ls locs hR hS hL
  exact lv_icmp_ge O.1 O.2.1 d ht (fun z => kt z O H ls locs hR hS hL) (fun z => kf z O H ls locs hR hS hL)
theorem g_if_gt {x : Int32} {off : Int} {tgt : Nat} (d : decode cc pc = .ok (.ifCond .gt off, 3)) (ht : (pc : Int) + off = (tgt : Int)) (kt : 0 < x → Go G R cc own Y C Q tgt L st w c k) (kf : ¬ 0 < x → Go G R cc own Y C Q (pc + 3) L st w c k) : Go G R cc own Y C Q pc L (.int x :: st) w c k := by
  obtain ⟨p, e, s, m, args, below, meth, cd⟩ := C
  intro O H ls locs hR hS hL
  exact lv_if_gt O.1 O.2.1 d ht (fun z => kt z O H ls locs hR hS hL) (fun z => kf z O H ls locs hR hS hL)
theorem g_icmp_gt {x y : Int32} {off : Int} {tgt : Nat} (d : decode cc pc = .ok (.if_icmp .gt off, 3)) (ht : (pc : Int) + off = (tgt : Int)) (kt : y < x → Go G R cc own Y C Q tgt L st w c k) (kf : ¬ y < x → Go G R cc own Y C Q (pc + 3) L st w c k) : Go G R cc own Y C Q pc L (.int y :: .int x :: st) w c k := by
  obtain ⟨p, e, s, m, args, below, meth, cd⟩ := C
  intro O H ls locs hR hS hL
  exact lv_icmp_gt O.1 O.2.1 d ht (fun z => kt z O H ls locs hR hS hL) (fun z => kf z O H ls locs hR hS hL)
theorem g_if_le {x : Int32} {off : Int} {tgt : Nat} (d : decode cc pc = .ok (.ifCond .le off, 3)) (ht : (pc : Int) + off = (tgt : Int)) (kt : x ≤ 0 → Go G R cc own Y C Q tgt L st w c k) (kf : ¬ x ≤ 0 → Go G R cc own Y C Q (pc + 3) L st w c k) : Go G R cc own Y C Q pc L (.int x :: st) w c k := by
  obtain ⟨p, e, s, m, args, below, meth, cd⟩ := C
  intro O H ls locs hR hS hL
  exact lv_if_le O.1 O.2.1 d ht (fun z => kt z O H ls locs hR hS hL) (fun z => kf z O H ls locs hR hS hL)
theorem g_icmp_le {x y : Int32} {off : Int} {tgt : Nat} (d : decode cc pc = .ok (.if_icmp .le off, 3)) (ht : (pc : Int) + off = (tgt : Int)) (kt : x ≤ y → Go G R cc own Y C Q tgt L st w c k) (kf : ¬ x ≤ y → Go G R cc own Y C Q (pc + 3) L st w c k) : Go G R cc own Y C Q pc L (.int y :: .int x :: st) w c k := by
  obtain ⟨p, e, s, m, args, below, meth, cd⟩ := C
  intro O H ls locs hR hS hL
  exact lv_icmp_le O.1 O.2.1 d ht (fun z => kt z O H ls locs hR hS hL) (fun z => kf z O H ls locs hR hS hL)
theorem g_goto {off : Int} {tgt : Nat} (d : decode cc pc = .ok (.goto off, 3)) (ht : (pc : Int) + off = (tgt : Int)) (h : Go G R cc own Y C Q tgt L st w c k) : Go G R cc own Y C Q pc L st w c k := by
  obtain ⟨p, e, s, m, args, below, meth, cd⟩ := C
  intro O H ls locs hR hS hL
  exact lv_goto O.1 O.2.1 d ht (h O H ls locs hR hS hL)
theorem g_ifnull {x : Nat} {off : Int} (d : decode cc pc = .ok (.ifnull off, 3)) (h : Go G R cc own Y C Q (pc + 3) L st w c k) : Go G R cc own Y C Q pc L (.ref x :: st) w c k := by
  obtain ⟨p, e, s, m, args, below, meth, cd⟩ := C
  intro O H ls locs hR hS hL
  exact lv_ifnull O.1 O.2.1 d (h O H ls locs hR hS hL)
theorem g_ifnullN {off : Int} {tgt : Nat} (d : decode cc pc = .ok (.ifnull off, 3)) (ht : (pc : Int) + off = (tgt : Int)) (h : Go G R cc own Y C Q tgt L st w c k) : Go G R cc own Y C Q pc L (.null :: st) w c k := by
  obtain ⟨p, e, s, m, args, below, meth, cd⟩ := C
  intro O H ls locs hR hS hL
  exact lv_ifnullN O.1 O.2.1 d ht (h O H ls locs hR hS hL)
theorem g_acmp_eq {x y : Nat} {off : Int} {tgt : Nat} (d : decode cc pc = .ok (.if_acmp .eq off, 3)) (ht : (pc : Int) + off = (tgt : Int)) (kt : x = y → Go G R cc own Y C Q tgt L st w c k) (kf : ¬ x = y → Go G R cc own Y C Q (pc + 3) L st w c k) : Go G R cc own Y C Q pc L (.ref y :: .ref x :: st) w c k := by
  obtain ⟨p, e, s, m, args, below, meth, cd⟩ := C
  intro O H ls locs hR hS hL
  exact lv_acmp_eq (rx := some x) (ry := some y) O.1 O.2.1 d ht (fun z => kt (Option.some.inj z) O H ls locs hR hS hL) (fun z => kf (fun q => z (by rw [q])) O H ls locs hR hS hL)
theorem g_acmp_ne {x y : Nat} {off : Int} {tgt : Nat} (d : decode cc pc = .ok (.if_acmp .ne off, 3)) (ht : (pc : Int) + off = (tgt : Int)) (kt : ¬ x = y → Go G R cc own Y C Q tgt L st w c k) (kf : x = y → Go G R cc own Y C Q (pc + 3) L st w c k) : Go G R cc own Y C Q pc L (.ref y :: .ref x :: st) w c k := by
  obtain ⟨p, e, s, m, args, below, meth, cd⟩ := C
  intro O H ls locs hR hS hL
  exact lv_acmp_ne (rx := some x) (ry := some y) O.1 O.2.1 d ht (fun z => kt (fun q => z (by rw [q])) O H ls locs hR hS hL) (fun z => kf (Option.some.inj z) O H ls locs hR hS hL)
theorem g_tabIn {dflt lo hi : Int} {offs : Array Int} {len : Nat} {x : Int32} {off : Int} {tgt : Nat} (d : decode cc pc = .ok (.tableswitch dflt lo hi offs, len)) (h1 : ¬ x.toInt < lo) (h2 : ¬ hi < x.toInt) (ho : offs[(x.toInt - lo).toNat]? = some off) (ht : (pc : Int) + off = (tgt : Int)) (h : Go G R cc own Y C Q tgt L st w c k) : Go G R cc own Y C Q pc L (.int x :: st) w c k := by
  obtain ⟨p, e, s, m, args, below, meth, cd⟩ := C
  intro O H ls locs hR hS hL
  exact lv_tableIn O.1 O.2.1 d h1 h2 ho ht (h O H ls locs hR hS hL)
theorem g_tabOut {dflt lo hi : Int} {offs : Array Int} {len : Nat} {x : Int32} {tgt : Nat} (d : decode cc pc = .ok (.tableswitch dflt lo hi offs, len)) (h1 : x.toInt < lo ∨ hi < x.toInt) (ht : (pc : Int) + dflt = (tgt : Int)) (h : Go G R cc own Y C Q tgt L st w c k) : Go G R cc own Y C Q pc L (.int x :: st) w c k := by
  obtain ⟨p, e, s, m, args, below, meth, cd⟩ := C
  intro O H ls locs hR hS hL
  exact lv_tableOut O.1 O.2.1 d h1 ht (h O H ls locs hR hS hL)
theorem g_lcmp {x y : Int64} (d : decode cc pc = .ok (.lcmp, 1)) (h : Go G R cc own Y C Q (pc + 1) L (.int (lg_cmp x y) :: st) w c k) : Go G R cc own Y C Q pc L (.long y :: .long x :: st) w c k := by
  obtain ⟨p, e, s, m, args, below, meth, cd⟩ := C
  intro O H ls locs hR hS hL
  exact W.lcmp O.1 O.2.1 d (h O H ls locs hR hS hL)
end GoRows
