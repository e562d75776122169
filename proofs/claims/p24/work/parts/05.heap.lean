/-! Rows that read and write the heap. -/
/-- a class of the table: its number, name, fields, types -/
def KC (ci : Nat) (Cn : String) (T : u_T) (N : Nat) (ty : Nat → FieldType) : Prop :=
  vwCl[ci]? = some (Cn, T, N) ∧ (∀ w ∈ u_ws Cn T N, w ∈ tw) ∧ (∀ k, k < N → parseFieldDescriptor (T k).2.2.1 = some (ty k)) ∧ (∀ a, a < N → ∀ b, b < N → a ≠ b → (T a).2.1 ≠ (T b).2.1)
/-- the entry 'idx' of own's pool is the field k of the class -/
def FL (own : String) (idx : Nat) (T : u_T) (k : Nat) : Prop :=
  Cond.fieldLink own idx (T k).1 (T k).2.1 (T k).2.2.1 ∈ tw ∨ (∃ host : String, Cond.fieldLinkNest own idx (T k).1 (T k).2.1 (T k).2.2.1 host ∈ tw) ∨
  ∃ ref : String, Cond.fieldLink own idx ref (T k).2.1 (T k).2.2.1 ∈ tw ∧ Cond.sameField ref (T k).1 (T k).2.1 (T k).2.2.1 ∈ tw
theorem FL.w {own : String} {idx : Nat} {T : u_T} {k : Nat} (h : Cond.fieldLink own idx (T k).1 (T k).2.1 (T k).2.2.1 ∈ tw) : FL own idx T k := Or.inl h
theorem FL.n {own host : String} {idx : Nat} {T : u_T} {k : Nat} (h : Cond.fieldLinkNest own idx (T k).1 (T k).2.1 (T k).2.2.1 host ∈ tw) : FL own idx T k := Or.inr (Or.inl ⟨host, h⟩)
theorem FL.s {own ref : String} {idx : Nat} {T : u_T} {k : Nat} (h : Cond.fieldLink own idx ref (T k).2.1 (T k).2.2.1 ∈ tw) (h2 : Cond.sameField ref (T k).1 (T k).2.1 (T k).2.2.1 ∈ tw) : FL own idx T k := Or.inr (Or.inr ⟨ref, h, h2⟩)
theorem va_S.new {A : Nat → Prop} {H0 H H1 : Heap} {locs : List Loc} (h : va_S A H0 H locs) (z : H.size ≤ H1.size) (o1 : ∀ q : Nat, q < H.size → H1[q]? = H[q]?) : va_S A H0 H1 locs :=
  ⟨Nat.le_trans h.1 z, fun x h1 h2 => (o1 x (Nat.lt_of_lt_of_le h1 h.1)).trans (h.2.1 x h1 h2), h.2.2⟩
theorem ra_cls {s : State} {cA cB : ClassId} {ty : FieldType} (h1 : va_RA s cA ty) (h2 : s.vm.findClass ("[" ++ ty.toString) = some cB) : cA = cB := by
  cases ty with
  | object C => obtain ⟨-, -, -, -, -, h4⟩ := h1; exact Option.some.inj (h4.symm.trans h2)
  | _ => exact Option.some.inj (Eq.trans (Eq.symm h1) h2)
section HeapRows
variable {G : Gx} {R : Room} {cc : ByteArray} {own : String} {Y : Yx} {C : Cx} {Q : State → Prop} {pc : Nat} {L : List (Option Value)} {st : List Value} {w : Wd} {c k : Nat}
theorem g_getf {ci N idx kf a : Nat} {Cn : String} {T : u_T} {ty : Nat → FieldType} {fs : List Value} {v : Value} (hk : KC ci Cn T N ty) (d : decode cc pc = .ok (.getfield idx, 3)) (hl : FL own idx T kf) (hlt : kf < N) (hw : w a = some (eO ci fs)) (hv : fs[kf]? = some v)
    (h : Go G R cc own Y C Q (pc + 3) L (v :: st) w c k) : Go G R cc own Y C Q pc L (.ref a :: st) w c k := by
  obtain ⟨p, e, s, m, args, below, meth, cd⟩ := C
  intro O H ls locs hR hS hL
  have hP : va_P (gD G) vwCl [(a, eO ci fs)] H := fun i q hq => by
    have hi : i < 1 := (List.getElem?_eq_some_iff.mp hq).1
    rw [show i = 0 by omega] at hq
    cases hq
    exact hR.o hw
  have hts : ∀ x ∈ tw, x.before args s = true := fun x hx => O.2.2.2.1.w hx
  rcases hl with hl | ⟨host, hl⟩ | ⟨ref, hl, hl2⟩
  · exact va_get O.1 O.2.1 hts hk.2.1 O.2.2.1 O.2.2.2.1.2.1 hP 0 rfl hk.1 kf hlt (hts _ hl) (fun _ z => z) hv d (h O H ls locs hR hS hL)
  · exact va_getN O.1 O.2.1 hts hk.2.1 O.2.2.1 O.2.2.2.1.2.1 hP 0 rfl hk.1 kf hlt (hts _ hl) (fun _ z => z) hv d (h O H ls locs hR hS hL)
  · exact va_get O.1 O.2.1 hts hk.2.1 O.2.2.1 O.2.2.2.1.2.1 hP 0 rfl hk.1 kf hlt (hts _ hl) (fun x z => u_same (hts _ hl2) x z) hv d (h O H ls locs hR hS hL)
theorem g_putf {ci N idx kf a : Nat} {Cn : String} {T : u_T} {ty : Nat → FieldType} {fs fs' : List Value} {v : Value} (hk : KC ci Cn T N ty) (d : decode cc pc = .ok (.putfield idx, 3)) (hl : FL own idx T kf) (hlt : kf < N) (hfin : (T kf).2.2.2 = false) (hw : w a = some (eO ci fs)) (ha : (gH G).size ≤ a) (hn : narrow (ty kf) v = v) (hf : fits (ty kf) v = true) (hlen : kf < fs.length) (hfs : fs.set kf v = fs')
    (h : Go G R cc own Y C Q (pc + 3) L st (up w a (eO ci fs')) c k) : Go G R cc own Y C Q pc L (v :: .ref a :: st) w c k := by
  obtain ⟨p, e, s, m, args, below, meth, cd⟩ := C
  intro O H ls locs hR hS hL
  subst hfs
  have hts : ∀ x ∈ tw, x.before args s = true := fun x hx => O.2.2.2.1.w hx
  have hK := O.2.2.2.1.2.1
  have hap := va_apart (own := own) hts hk.2.1 ty hk.2.2.1 hk.2.2.2 hK hk.1
  obtain ⟨r, h1, cell, q1, q2, q3, q4⟩ := hR.o hw
  have hr : r = (Cn, T, N) := Option.some.inj (h1.symm.trans hk.1)
  subst hr
  obtain ⟨hSl, hfc, kC, hkC, hkind⟩ := hK.1 ci _ hk.1
  obtain ⟨cf, kfc, fi, f, hi, hsl⟩ := hSl kf hlt
  have hlay := hts _ (hk.2.1 _ (u_in_lay hlt))
  unfold u_lay at hlay
  rw [if_neg (by rw [hfin]; decide)] at hlay
  have hst := (u_facts hfc hkC (u_lays hts hk.2.1 hlt) hi).1
  have h6 := u_store hfc hkC hkind hlay hi (hk.2.2.1 kf hlt) hn hf
  have go : ∀ (H' : Heap) (locs' : List Loc), H'[a]? = some (cell.setSlot f.slot v) → H'.size = H.size → (∀ q : Nat, q ≠ a → H'[q]? = H[q]?) → locs' = locs ++ [⟨a, f.slot⟩] → W p G.1 e R s m args below meth cd H' locs' c k Q (F0 m (pc + 3) ls st) := by
    intro H' locs' e1 e2 e3 e4
    subst e4
    rw [hsl] at e1
    exact h O H' ls _ (hR.put ⟨_, hk.1, t_OB.to (V := updV (vp_V fs) kf v) ⟨_, e1, q2, q3, t_set q4 hap hlt v⟩ (fun j _ => vp_updV_set hlen v j)⟩ e3) (hS.put e2 e3 ha) hL
  rcases hl with hl | ⟨host, hl⟩ | ⟨ref, hl, hl2⟩
  · exact W.putK O.1 O.2.1 (f := f) ⟨O.2.2.1, hts _ hl, ⟨_, _, _, hi⟩, hst⟩ (by rw [q2]; exact h6) q1 q3 (by rw [hsl]; exact k2_hasslot (q4 kf hlt)) rfl rfl d fun H' e1 e2 e3 => go H' _ e1 e2 e3 rfl
  · exact va_WputK O.1 O.2.1 (f := f) O.2.2.1 (hts _ hl) hi hst (by rw [q2]; exact h6) q1 q3 (by rw [hsl]; exact k2_hasslot (q4 kf hlt)) rfl rfl d fun H' e1 e2 e3 => go H' _ e1 e2 e3 rfl
  · exact W.putK O.1 O.2.1 (f := f) ⟨O.2.2.1, hts _ hl, ⟨_, _, _, u_same (hts _ hl2) _ hi⟩, hst⟩ (by rw [q2]; exact h6) q1 q3 (by rw [hsl]; exact k2_hasslot (q4 kf hlt)) rfl rfl d fun H' e1 e2 e3 => go H' _ e1 e2 e3 rfl
theorem g_putF {ci N idx kf a : Nat} {Cn : String} {T : u_T} {ty : Nat → FieldType} {fs fs' : List Value} {v : Value} {rt : Option FieldType} {hh : List (Nat × Nat × Nat × Nat)} (hk : KC ci Cn T N ty) (d : decode cc pc = .ok (.putfield idx, 3)) (hl : Cond.fieldLink own idx (T kf).1 (T kf).2.1 (T kf).2.2.1 ∈ tw) (hlt : kf < N) (hfin : (T kf).2.2.2 = true) (hdecl : (T kf).1 = own) (hw : w a = some (eO ci fs)) (ha : (gH G).size ≤ a) (hn : narrow (ty kf) v = v) (hf : fits (ty kf) v = true) (hlen : kf < fs.length) (hfs : fs.set kf v = fs')
    (h : Go G R cc own (rt, "<init>", hh) C Q (pc + 3) L st (up w a (eO ci fs')) c k) : Go G R cc own (rt, "<init>", hh) C Q pc L (v :: .ref a :: st) w c k := by
  obtain ⟨p, e, s, m, args, below, meth, cd⟩ := C
  intro O H ls locs hR hS hL
  subst hfs
  have hts : ∀ x ∈ tw, x.before args s = true := fun x hx => O.2.2.2.1.w hx
  have hK := O.2.2.2.1.2.1
  have hap := va_apart (own := own) hts hk.2.1 ty hk.2.2.1 hk.2.2.2 hK hk.1
  obtain ⟨r, h1, cell, q1, q2, q3, q4⟩ := hR.o hw
  have hr : r = (Cn, T, N) := Option.some.inj (h1.symm.trans hk.1)
  subst hr
  obtain ⟨hSl, hfc, kC, hkC, hkind⟩ := hK.1 ci _ hk.1
  obtain ⟨cf, kfc, fi, f, hi, hsl⟩ := hSl kf hlt
  have hlay := hts _ (hk.2.1 _ (u_in_lay hlt))
  unfold u_lay at hlay
  rw [if_pos hfin] at hlay
  have hst := (u_facts hfc hkC (u_lays hts hk.2.1 hlt) hi).1
  have hown := O.2.2.1
  have hcf : m.cls = cf := by
    obtain ⟨_, _, c', _, _, _, -, -, hf', -, -, -, hown2, -⟩ := Cond.laysFinal_spec hlay
    have e1 : c' = cf := by have := hi.symm.trans hf'; simp at this; exact this.1.symm
    rw [hdecl] at hown2
    rw [← e1]; exact Option.some.inj (hown.symm.trans hown2)
  have h6 := u_fits hfc hkC hkind (Or.inr hlay) hi (hk.2.2.1 kf hlt) hn hf
  refine W.putFinK O.1 O.2.1 hown (hts _ hl) hi hst hcf O.2.2.2.2.2.2.1 (by rw [q2]; exact h6) q1 q3 (by rw [hsl]; exact k2_hasslot (q4 kf hlt)) rfl rfl d fun H' e1 e2 e3 => ?_
  rw [hsl] at e1 ⊢
  exact h O H' ls _ (hR.put ⟨_, hk.1, t_OB.to (V := updV (vp_V fs) kf v) ⟨_, e1, q2, q3, t_set q4 hap hlt v⟩ (fun j _ => vp_updV_set hlen v j)⟩ e3) (hS.put e2 e3 ha) hL
theorem one_P {a : Nat} {x : Nat × List Value} {H : Heap} (hR : Rel G w H) (hw : w a = some (.inr x)) : va_P (gD G) vwCl [(a, .inr x)] H := fun i q hq => by
  have hi : i < 1 := (List.getElem?_eq_some_iff.mp hq).1
  rw [show i = 0 by omega] at hq
  cases hq
  exact hR.o hw
theorem g_iald {a n : Nat} {f : Nat → Int32} {i : Int32} (d : decode cc pc = .ok (.iaload, 1)) (hw : w a = some (eI G n f)) (hi : vp_in i n) (h : Go G R cc own Y C Q (pc + 1) L (.int (f i.toNatClampNeg) :: st) w c k) : Go G R cc own Y C Q pc L (.int i :: .ref a :: st) w c k := by
  obtain ⟨p, e, s, m, args, below, meth, cd⟩ := C
  intro O H ls locs hR hS hL
  obtain ⟨cell, q1, q2, q3, q4, q5⟩ := hR.c hw
  have hlt : i.toNatClampNeg < n := Nat.not_le.mp fun q => hi (Or.inr q)
  exact W.iald (v := .int (f i.toNatClampNeg)) O.1 O.2.1 q1 (ol_arr ((O.2.2.2.1.2.1.2 0 _ rfl).1 n (fun j => .int (f j))) q2 q4) q5 (by rw [q3]; show ¬ (i < 0 ∨ (arrV _ _ _).slots.size ≤ _); rw [arrV_size]; exact hi) (by rw [q3]; show (arrV _ _ _).slots[_]? = _; rw [arrV_read _ _ hlt]) rfl rfl d (h O H ls locs hR hS hL)
theorem g_zald {a n : Nat} {f : Nat → Int32} {i : Int32} (d : decode cc pc = .ok (.baload, 1)) (hw : w a = some (eZ G n f)) (hi : vp_in i n) (h : Go G R cc own Y C Q (pc + 1) L (.int (f i.toNatClampNeg) :: st) w c k) : Go G R cc own Y C Q pc L (.int i :: .ref a :: st) w c k := by
  obtain ⟨p, e, s, m, args, below, meth, cd⟩ := C
  intro O H ls locs hR hS hL
  obtain ⟨cell, q1, q2, q3, q4, q5⟩ := hR.c hw
  have hlt : i.toNatClampNeg < n := Nat.not_le.mp fun q => hi (Or.inr q)
  exact W.zald (v := .int (f i.toNatClampNeg)) O.1 O.2.1 q1 (ol_arr ((O.2.2.2.1.2.1.2 1 _ rfl).1 n (fun j => .int (f j))) q2 q4) q5 (by rw [q3]; show ¬ (i < 0 ∨ (arrV _ _ _).slots.size ≤ _); rw [arrV_size]; exact hi) (by rw [q3]; show (arrV _ _ _).slots[_]? = _; rw [arrV_read _ _ hlt]) rfl rfl d (h O H ls locs hR hS hL)
theorem g_lald {a n : Nat} {f : Nat → Int64} {i : Int32} (d : decode cc pc = .ok (.laload, 1)) (hw : w a = some (eJ G n f)) (hi : vp_in i n) (h : Go G R cc own Y C Q (pc + 1) L (.long (f i.toNatClampNeg) :: st) w c k) : Go G R cc own Y C Q pc L (.int i :: .ref a :: st) w c k := by
  obtain ⟨p, e, s, m, args, below, meth, cd⟩ := C
  intro O H ls locs hR hS hL
  obtain ⟨cell, q1, q2, q3, q4, q5⟩ := hR.c hw
  have hlt : i.toNatClampNeg < n := Nat.not_le.mp fun q => hi (Or.inr q)
  exact W.lald (v := .long (f i.toNatClampNeg)) O.1 O.2.1 q1 (ol_arr ((O.2.2.2.1.2.1.2 2 _ rfl).1 n (fun j => .long (f j))) q2 q4) q5 (by rw [q3]; show ¬ (i < 0 ∨ (arrV _ _ _).slots.size ≤ _); rw [arrV_size]; exact hi) (by rw [q3]; show (arrV _ _ _).slots[_]? = _; rw [arrV_read _ _ hlt]) rfl rfl d (h O H ls locs hR hS hL)
theorem g_qald {a n : Nat} {f : Nat → Option Nat} {i : Int32} {v : Value} (d : decode cc pc = .ok (.aaload, 1)) (hw : w a = some (eQ G n f)) (hi : vp_in i n) (hv : va_rf (f i.toNatClampNeg) = v) (h : Go G R cc own Y C Q (pc + 1) L (v :: st) w c k) : Go G R cc own Y C Q pc L (.int i :: .ref a :: st) w c k := by
  obtain ⟨p, e, s, m, args, below, meth, cd⟩ := C
  intro O H ls locs hR hS hL
  subst hv
  obtain ⟨cell, q1, q2, q3, q4, q5⟩ := hR.c hw
  have hlt : i.toNatClampNeg < n := Nat.not_le.mp fun q => hi (Or.inr q)
  exact W.aald (v := va_rf (f i.toNatClampNeg)) (ty := .object "java/lang/Object") O.1 O.2.1 q1 (ol_arr ((O.2.2.2.1.2.1.2 3 _ rfl).1 n (fun j => va_rf (f j))) q2 q4) rfl q5 (by rw [q3]; show ¬ (i < 0 ∨ (arrV _ _ _).slots.size ≤ _); rw [arrV_size]; exact hi) (by rw [q3]; show (arrV _ _ _).slots[_]? = _; rw [arrV_read _ _ hlt]) rfl rfl d (h O H ls locs hR hS hL)
theorem g_alenI {a n : Nat} {f : Nat → Int32} (d : decode cc pc = .ok (.arraylength, 1)) (hw : w a = some (eI G n f)) (h : Go G R cc own Y C Q (pc + 1) L (.int (nI n) :: st) w c k) : Go G R cc own Y C Q pc L (.ref a :: st) w c k := by
  obtain ⟨p, e, s, m, args, below, meth, cd⟩ := C
  intro O H ls locs hR hS hL
  obtain ⟨cell, q1, q2, q3, q4, q5⟩ := hR.c hw
  exact W.alen (n := nI n) O.1 O.2.1 q1 (ol_arr ((O.2.2.2.1.2.1.2 0 _ rfl).1 n (fun j => .int (f j))) q2 q4) (by rw [q3, vp_cell_i, arrV_size] <;> rfl) rfl rfl d (h O H ls locs hR hS hL)
theorem g_alenZ {a n : Nat} {f : Nat → Int32} (d : decode cc pc = .ok (.arraylength, 1)) (hw : w a = some (eZ G n f)) (h : Go G R cc own Y C Q (pc + 1) L (.int (nI n) :: st) w c k) : Go G R cc own Y C Q pc L (.ref a :: st) w c k := by
  obtain ⟨p, e, s, m, args, below, meth, cd⟩ := C
  intro O H ls locs hR hS hL
  obtain ⟨cell, q1, q2, q3, q4, q5⟩ := hR.c hw
  exact W.alen (n := nI n) O.1 O.2.1 q1 (ol_arr ((O.2.2.2.1.2.1.2 1 _ rfl).1 n (fun j => .int (f j))) q2 q4) (by rw [q3, vp_cell_i, arrV_size] <;> rfl) rfl rfl d (h O H ls locs hR hS hL)
theorem g_alenQ {a n : Nat} {f : Nat → Option Nat} (d : decode cc pc = .ok (.arraylength, 1)) (hw : w a = some (eQ G n f)) (h : Go G R cc own Y C Q (pc + 1) L (.int (nI n) :: st) w c k) : Go G R cc own Y C Q pc L (.ref a :: st) w c k := by
  obtain ⟨p, e, s, m, args, below, meth, cd⟩ := C
  intro O H ls locs hR hS hL
  obtain ⟨cell, q1, q2, q3, q4, q5⟩ := hR.c hw
  exact W.alen (n := nI n) O.1 O.2.1 q1 (ol_arr ((O.2.2.2.1.2.1.2 3 _ rfl).1 n (fun j => va_rf (f j))) q2 q4) (by rw [q3, vp_cell_q, arrV_size] <;> rfl) rfl rfl d (h O H ls locs hR hS hL)
theorem g_iast {a n : Nat} {f : Nat → Int32} {i x : Int32} (d : decode cc pc = .ok (.iastore, 1)) (hw : w a = some (eI G n f)) (ha : (gH G).size ≤ a) (hi : vp_in i n) (h : Go G R cc own Y C Q (pc + 1) L st (up w a (eI G n (upd f i.toNatClampNeg x))) c k) : Go G R cc own Y C Q pc L (.int x :: .int i :: .ref a :: st) w c k := by
  obtain ⟨p, e, s, m, args, below, meth, cd⟩ := C
  intro O H ls locs hR hS hL
  refine W.iast O.1 O.2.1 (hR.s hw ha) ((O.2.2.2.1.2.1.2 0 _ rfl).1 n (fun j => .int (f j))) (fun q => by cases q) (by show ¬ (i < 0 ∨ (arrV _ _ _).slots.size ≤ _); rw [arrV_size]; exact hi) rfl rfl d fun H1 e1 z oq => ?_
  refine h O H1 ls _ (hR.put ?_ oq) (hS.put z oq ha) hL
  show H1[a]? = some (vp_cell _ _)
  rw [e1, vp_cell_i, vp_cell_i, arrV_store]
  congr 2
  funext q
  by_cases hq : q = i.toNatClampNeg
  · subst hq
    simp [updV, upd]
  · simp [updV, upd, hq]
theorem g_zast {a n : Nat} {f : Nat → Int32} {i x : Int32} (d : decode cc pc = .ok (.bastore, 1)) (hw : w a = some (eZ G n f)) (ha : (gH G).size ≤ a) (hi : vp_in i n) (hx : narrow .boolean (.int x) = .int x) (h : Go G R cc own Y C Q (pc + 1) L st (up w a (eZ G n (upd f i.toNatClampNeg x))) c k) : Go G R cc own Y C Q pc L (.int x :: .int i :: .ref a :: st) w c k := by
  obtain ⟨p, e, s, m, args, below, meth, cd⟩ := C
  intro O H ls locs hR hS hL
  refine W.zast O.1 O.2.1 (hR.s hw ha) ((O.2.2.2.1.2.1.2 1 _ rfl).1 n (fun j => .int (f j))) (fun q => by cases q) (by show ¬ (i < 0 ∨ (arrV _ _ _).slots.size ≤ _); rw [arrV_size]; exact hi) rfl rfl d fun H1 e1 z oq => ?_
  refine h O H1 ls _ (hR.put ?_ oq) (hS.put z oq ha) hL
  show H1[a]? = some (vp_cell _ _)
  rw [e1, vp_cell_i, vp_cell_i, arrV_store]
  congr 2
  funext q
  by_cases hq : q = i.toNatClampNeg
  · subst hq
    simp [updV, upd, hx]
  · simp [updV, upd, hq]
theorem g_last {a n : Nat} {f : Nat → Int64} {i : Int32} {x : Int64} (d : decode cc pc = .ok (.lastore, 1)) (hw : w a = some (eJ G n f)) (ha : (gH G).size ≤ a) (hi : vp_in i n) (h : Go G R cc own Y C Q (pc + 1) L st (up w a (eJ G n (vp_updL f i.toNatClampNeg x))) c k) : Go G R cc own Y C Q pc L (.long x :: .int i :: .ref a :: st) w c k := by
  obtain ⟨p, e, s, m, args, below, meth, cd⟩ := C
  intro O H ls locs hR hS hL
  refine W.last O.1 O.2.1 (hR.s hw ha) ((O.2.2.2.1.2.1.2 2 _ rfl).1 n (fun j => .long (f j))) (fun q => by cases q) (by show ¬ (i < 0 ∨ (arrV _ _ _).slots.size ≤ _); rw [arrV_size]; exact hi) rfl rfl d fun H1 e1 z oq => ?_
  refine h O H1 ls _ (hR.put ?_ oq) (hS.put z oq ha) hL
  show H1[a]? = some (vp_cell _ _)
  rw [e1, vp_cell_l, vp_cell_l, arrV_store]
  congr 2
  funext q
  by_cases hq : q = i.toNatClampNeg
  · subst hq
    simp [updV, vp_updL]
  · simp [updV, vp_updL, hq]
theorem g_qast {a n v ci : Nat} {f : Nat → Option Nat} {i : Int32} {vs : List Value} {Cn : String} {T : u_T} {N : Nat} {ty : Nat → FieldType} (hk : KC ci Cn T N ty) (hca : Cond.castable Cn "java/lang/Object" ∈ tw) (d : decode cc pc = .ok (.aastore, 1)) (hw : w a = some (eQ G n f)) (hv : w v = some (eO ci vs)) (ha : (gH G).size ≤ a) (hi : vp_in i n) (h : Go G R cc own Y C Q (pc + 1) L st (up w a (eQ G n (va_up f i.toNatClampNeg (some v)))) c k) : Go G R cc own Y C Q pc L (.ref v :: .int i :: .ref a :: st) w c k := by
  obtain ⟨p, e, s, m, args, below, meth, cd⟩ := C
  intro O H ls locs hR hS hL
  have hlt : i.toNatClampNeg < n := Nat.not_le.mp fun q => hi (Or.inr q)
  have h0 : ¬ i < 0 := fun q => hi (Or.inl q)
  have hK := O.2.2.2.1.2.1
  obtain ⟨r', hr', cellV, g1, g2, g3, -⟩ := hR.o hv
  have hcls := (hK.1 ci _ hk.1).2
  obtain ⟨kA, comp, k1, k2, k3, -⟩ := (hK.2 3 _ rfl).2
  obtain ⟨kE, hkE, -⟩ := Vm.findClass_spec k3
  obtain ⟨c0, t1, f1, f2, f3⟩ := Cond.castable_spec (O.2.2.2.1.w (a := args) hca)
  cases hcls.1.symm.trans f1
  cases k3.symm.trans f2
  obtain ⟨kC, hkC, -⟩ := hcls.2
  refine W.aast O.1 O.2.1 (hR.s hw ha) (fun q h => by cases h) (fun h => by cases h) k1 k2 rfl hkE ⟨h0, by show _ < (arrV _ _ _).slots.size; rw [arrV_size]; exact hlt⟩ g1 (fun q h => by rw [g3] at h; cases h) (by rw [g2]; exact hkC) (by rw [g2]; exact f3) rfl rfl d fun H1 e1 z oq => ?_
  refine h O H1 ls _ (hR.put ?_ oq) (hS.put z oq ha) hL
  show H1[a]? = some (vp_cell _ _)
  rw [e1, vp_cell_q, vp_cell_q, arrV_store]
  congr 2
  funext q
  by_cases hq : q = i.toNatClampNeg
  · subst hq
    simp [updV, va_up, va_rf]
  · simp [updV, va_up, hq]
theorem g_new {ci N idx : Nat} {Cn : String} {T : u_T} {ty : Nat → FieldType} {fs : List Value} (hk : KC ci Cn T N ty) (d : decode cc pc = .ok (.new idx, 3)) (h1 : Cond.classLink own idx Cn ∈ tw) (h2 : Cond.instantiable Cn N ∈ tw) (h3 : Cond.initialized Cn ∈ tw) (hfs : ∀ j, j < N → defaultValue (ty j) = vp_V fs j) (hc : c + 1 ≤ R.cells) (hs : k + N ≤ R.slots)
    (h : ∀ q : Nat, w q = none → (gH G).size ≤ q → Go G R cc own Y C Q (pc + 3) L (.ref q :: st) (up w q (eO ci fs)) (c + 1) (k + N)) : Go G R cc own Y C Q pc L st w c k := by
  obtain ⟨p, e, s, m, args, below, meth, cd⟩ := C
  intro O H ls locs hR hS hL
  have hts : ∀ x ∈ tw, x.before args s = true := fun x hx => O.2.2.2.1.w hx
  have hKn := O.2.2.2.1.2.1.1 ci _ hk.1
  refine W.newcK O.1 O.2.1 O.2.2.1 (hts _ h1) (hts _ h2) (hts _ h3) rfl d hc hs hKn.2.1 rfl fun H1 kC hkC e1 z1 o1 => ?_
  exact h H.size hR.fresh (Nat.le_trans O.2.2.2.2.1.1 hS.1) O H1 ls locs (hR.push ⟨_, hk.1, (u_born ty hts hk.2.1 hKn hkC e1 hk.2.2.1).to hfs⟩ o1) (hS.new (by omega) o1) hL
theorem g_newI {n : Int32} {N : Nat} (d : decode cc pc = .ok (.newarray .int, 2)) (h1 : Cond.arrayClass .int ∈ tw) (hn : ¬ n < 0) (hN : n.toNatClampNeg = N) (hb : N * 4 ≤ 536870912) (hc : c + 1 ≤ R.cells) (hs : k + N ≤ R.slots)
    (h : ∀ q : Nat, w q = none → (gH G).size ≤ q → Go G R cc own Y C Q (pc + 2) L (.ref q :: st) (up w q (eI G N (fun _ => 0))) (c + 1) (k + N)) : Go G R cc own Y C Q pc L (.int n :: st) w c k := by
  obtain ⟨p, e, s, m, args, below, meth, cd⟩ := C
  intro O H ls locs hR hS hL
  refine va_newaK (atype := .int) O.1 O.2.1 (O.2.2.2.1.w h1) rfl d rfl hn hN hb hc hs rfl fun H1 cA e1 z1 o1 hAr hNm => ?_
  have ec : gI G = cA := ra_cls (ty := .int) (O.2.2.2.1.2.1.2 0 _ rfl).2 hNm
  subst ec
  exact h H.size hR.fresh (Nat.le_trans O.2.2.2.2.1.1 hS.1) O H1 ls locs (hR.push e1 o1) (hS.new (by omega) o1) hL
theorem g_newZ {n : Int32} {N : Nat} (d : decode cc pc = .ok (.newarray .boolean, 2)) (h1 : Cond.arrayClass .boolean ∈ tw) (hn : ¬ n < 0) (hN : n.toNatClampNeg = N) (hb : N * 1 ≤ 536870912) (hc : c + 1 ≤ R.cells) (hs : k + N ≤ R.slots)
    (h : ∀ q : Nat, w q = none → (gH G).size ≤ q → Go G R cc own Y C Q (pc + 2) L (.ref q :: st) (up w q (eZ G N (fun _ => 0))) (c + 1) (k + N)) : Go G R cc own Y C Q pc L (.int n :: st) w c k := by
  obtain ⟨p, e, s, m, args, below, meth, cd⟩ := C
  intro O H ls locs hR hS hL
  refine va_newaK (atype := .boolean) O.1 O.2.1 (O.2.2.2.1.w h1) rfl d rfl hn hN hb hc hs rfl fun H1 cA e1 z1 o1 hAr hNm => ?_
  have ec : gZ G = cA := ra_cls (ty := .boolean) (O.2.2.2.1.2.1.2 1 _ rfl).2 hNm
  subst ec
  exact h H.size hR.fresh (Nat.le_trans O.2.2.2.2.1.1 hS.1) O H1 ls locs (hR.push e1 o1) (hS.new (by omega) o1) hL
theorem g_newJ {n : Int32} {N : Nat} (d : decode cc pc = .ok (.newarray .long, 2)) (h1 : Cond.arrayClass .long ∈ tw) (hn : ¬ n < 0) (hN : n.toNatClampNeg = N) (hb : N * 8 ≤ 536870912) (hc : c + 1 ≤ R.cells) (hs : k + N ≤ R.slots)
    (h : ∀ q : Nat, w q = none → (gH G).size ≤ q → Go G R cc own Y C Q (pc + 2) L (.ref q :: st) (up w q (eJ G N (fun _ => 0))) (c + 1) (k + N)) : Go G R cc own Y C Q pc L (.int n :: st) w c k := by
  obtain ⟨p, e, s, m, args, below, meth, cd⟩ := C
  intro O H ls locs hR hS hL
  refine va_newaK (atype := .long) O.1 O.2.1 (O.2.2.2.1.w h1) rfl d rfl hn hN hb hc hs rfl fun H1 cA e1 z1 o1 hAr hNm => ?_
  have ec : gJ G = cA := ra_cls (ty := .long) (O.2.2.2.1.2.1.2 2 _ rfl).2 hNm
  subst ec
  exact h H.size hR.fresh (Nat.le_trans O.2.2.2.2.1.1 hS.1) O H1 ls locs (hR.push e1 o1) (hS.new (by omega) o1) hL
theorem g_newQ {n : Int32} {N idx : Nat} (d : decode cc pc = .ok (.anewarray idx, 3)) (h1 : Cond.classLink own idx "java/lang/Object" ∈ tw) (hn : ¬ n < 0) (hN : n.toNatClampNeg = N) (hb : N * 4 ≤ 536870912) (hc : c + 1 ≤ R.cells) (hs : k + N ≤ R.slots)
    (h : ∀ q : Nat, w q = none → (gH G).size ≤ q → Go G R cc own Y C Q (pc + 3) L (.ref q :: st) (up w q (eQ G N (fun _ => none))) (c + 1) (k + N)) : Go G R cc own Y C Q pc L (.int n :: st) w c k := by
  obtain ⟨p, e, s, m, args, below, meth, cd⟩ := C
  intro O H ls locs hR hS hL
  subst hN
  refine W.anew O.1 O.2.1 O.2.2.1 (O.2.2.2.1.w h1) (va_AO.use O.2.2.2.1.2.2.2.2.2.2.2.2.1) rfl d rfl hn hb hc hs fun cA kA comp f1 f2 f3 f4 => ?_
  have ec : gO G = cA := ra_cls (ty := .object "java/lang/Object") (O.2.2.2.1.2.1.2 3 _ rfl).2 f1
  subst ec
  generalize hH1 : H.push ({ cls := gO G, slots := Array.replicate n.toNatClampNeg .null, vm := .none } : Cell) = H1
  have z1 : H1.size = H.size + 1 := by rw [← hH1, Array.size_push]
  have e1 : H1[H.size]? = some (arrV (gO G) n.toNatClampNeg (fun _ => .null)) := by rw [← hH1, Array.getElem?_push_size, ← arrV_new]
  have o1 : ∀ q : Nat, q < H.size → H1[q]? = H[q]? := fun q hq => by rw [← hH1, Array.getElem?_push, if_neg (Nat.ne_of_lt hq)]
  exact h H.size hR.fresh (Nat.le_trans O.2.2.2.2.1.1 hS.1) O H1 ls locs (hR.push (by show H1[H.size]? = some (vp_cell _ _); rw [vp_cell_q]; exact e1) o1) (hS.new (by omega) o1) hL
theorem g_cast {ci N idx a : Nat} {Cn : String} {T : u_T} {ty : Nat → FieldType} {fs : List Value} (hk : KC ci Cn T N ty) (d : decode cc pc = .ok (.checkcast idx, 3)) (h1 : Cond.classLink own idx Cn ∈ tw) (hw : w a = some (eO ci fs)) (h : Go G R cc own Y C Q (pc + 3) L (.ref a :: st) w c k) : Go G R cc own Y C Q pc L (.ref a :: st) w c k := by
  obtain ⟨p, e, s, m, args, below, meth, cd⟩ := C
  intro O H ls locs hR hS hL
  have hr := va_recv (q0 := 0) O.2.2.2.1.2.1 (one_P hR hw) hk.1 rfl
  exact va_castS O.1 O.2.1 O.2.2.1 (O.2.2.2.1.w h1) (O.2.2.2.1.2.1.1 ci _ hk.1).2 hr d (h O H ls locs hR hS hL)
theorem g_objInit {idx : Nat} {a : Nat} (d : decode cc pc = .ok (.invokespecial idx, 3)) (h1 : Cond.methodLink own idx Lib.objectInit ∈ tw) (h2 : Cond.instanceMethod Lib.objectInit ∈ tw) (h3 : Cond.code Lib.objectInit ⟨#[0xb1]⟩ 1 none ∈ tw) (hf : 1 ≤ R.frames) (hl : (st.map fun v => v.category).sum + 12 ≤ R.locals) (h : Go G R cc own Y C Q (pc + 3) L st w c k) : Go G R cc own Y C Q pc L (.ref a :: st) w c k := by
  obtain ⟨p, e, s, m, args, below, meth, cd⟩ := C
  intro O H ls locs hR hS hL
  exact W.objInit O.1 O.2.1 O.2.2.1 (O.2.2.2.1.w h1) (O.2.2.2.1.w h2) (O.2.2.2.1.w h3) rfl hL.1 rfl d hf (by show 2 * 0 + _ + 12 ≤ _; omega) (h O H ls locs hR hS hL)
end HeapRows
