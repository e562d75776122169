/-! More rows: statics, class objects, copying of references; contracts of the common forms. -/
/-- answers v, the world as it was -/
def PV (v : Value) (w : Wd) : RV → Wd → Prop := fun r w' => r = .inl (some v) ∧ w' = w
/-- answers nothing, the world as it was -/
def PU (w : Wd) : RV → Wd → Prop := fun r w' => r = .inl none ∧ w' = w
/-- throws E, the world as it was -/
def PX (E : String) (w : Wd) : RV → Wd → Prop := fun r w' => r = .inr E ∧ w' = w
/-- answers v, with a world of which B holds -/
def PB (v : Value) (B : Wd → Prop) : RV → Wd → Prop := fun r w' => r = .inl (some v) ∧ B w'
/-- answers nothing, with a world of which B holds -/
def PN (B : Wd → Prop) : RV → Wd → Prop := fun r w' => r = .inl none ∧ B w'
section Cont
variable {w : Wd} {v : Value} {E0 : String} {B : Wd → Prop} {K : Option Value → Wd → Prop} {KX : String → Wd → Prop}
theorem kr_V (h : K (some v) w) : ∀ v' w', PV v w (.inl v') w' → K v' w' := fun _ _ hp => by obtain ⟨h1, h2⟩ := hp; cases h1; rw [h2]; exact h
theorem kx_V : ∀ E w', PV v w (.inr E) w' → KX E w' := fun _ _ hp => nomatch hp.1
theorem kn_V : ∀ E w', ¬ PV v w (.inr E) w' := fun _ _ hp => nomatch hp.1
theorem kr_U (h : K none w) : ∀ v' w', PU w (.inl v') w' → K v' w' := fun _ _ hp => by obtain ⟨h1, h2⟩ := hp; cases h1; rw [h2]; exact h
theorem kx_U : ∀ E w', PU w (.inr E) w' → KX E w' := fun _ _ hp => nomatch hp.1
theorem kn_U : ∀ E w', ¬ PU w (.inr E) w' := fun _ _ hp => nomatch hp.1
theorem kr_X : ∀ v' w', PX E0 w (.inl v') w' → K v' w' := fun _ _ hp => nomatch hp.1
theorem kx_X (h : KX E0 w) : ∀ E w', PX E0 w (.inr E) w' → KX E w' := fun _ _ hp => by obtain ⟨h1, h2⟩ := hp; cases h1; rw [h2]; exact h
theorem kr_B (h : ∀ w', B w' → K (some v) w') : ∀ v' w', PB v B (.inl v') w' → K v' w' := fun _ _ hp => by obtain ⟨h1, h2⟩ := hp; cases h1; exact h _ h2
theorem kx_B : ∀ E w', PB v B (.inr E) w' → KX E w' := fun _ _ hp => nomatch hp.1
theorem kn_B : ∀ E w', ¬ PB v B (.inr E) w' := fun _ _ hp => nomatch hp.1
theorem kr_N (h : ∀ w', B w' → K none w') : ∀ v' w', PN B (.inl v') w' → K v' w' := fun _ _ hp => by obtain ⟨h1, h2⟩ := hp; cases h1; exact h _ h2
theorem kx_N : ∀ E w', PN B (.inr E) w' → KX E w' := fun _ _ hp => nomatch hp.1
theorem kn_N : ∀ E w', ¬ PN B (.inr E) w' := fun _ _ hp => nomatch hp.1
end Cont
section MoreRows
variable {G : Gx} {R : Room} {cc : ByteArray} {own : String} {Y : Yx} {C : Cx} {Q : State → Prop} {pc : Nat} {L : List (Option Value)} {st : List Value} {w : Wd} {c k : Nat}
theorem g_gsE {idx : Nat} (d : decode cc pc = .ok (.getstatic idx, 3)) (h1 : Cond.fieldLink own idx "java/util/ArrayList" "DEFAULTCAPACITY_EMPTY_ELEMENTDATA" "[Ljava/lang/Object;" ∈ tw) (h : Go G R cc own Y C Q (pc + 3) L (.ref (gE G) :: st) w c k) : Go G R cc own Y C Q pc L st w c k := by
  obtain ⟨p, e, s, m, args, below, meth, cd⟩ := C
  intro O H ls locs hR hS hL
  have hB : ∀ a : Nat, a < (gH G).size → ¬ gA G a → s.heap[a]? = (gH G)[a]? := fun a ha _ => O.2.2.2.2.1.2 a ha
  exact va_gets O.1 O.2.1 (O.2.2.2.1.2.2.2.2.2.2.1.kept hB) hS O.2.2.1 (O.2.2.2.1.w h1) (fun _ z => z) d (h O H ls locs hR hS hL)
theorem g_getC {idx a n : Nat} {f : Nat → Option Nat} (d : decode cc pc = .ok (.invokevirtual idx, 3)) (h1 : Cond.methodLink own idx ⟨"java/lang/Object", "getClass", "()Ljava/lang/Class;"⟩ ∈ tw) (hw : w a = some (eQ G n f)) (hf : 1 ≤ R.frames) (hl : (st.map fun v => v.category).sum + 14 ≤ R.locals) (h : Go G R cc own Y C Q (pc + 3) L (.ref (gM G) :: st) w c k) : Go G R cc own Y C Q pc L (.ref a :: st) w c k := by
  obtain ⟨p, e, s, m, args, below, meth, cd⟩ := C
  intro O H ls locs hR hS hL
  obtain ⟨cell, q1, q2, q3, q4, q5⟩ := hR.c hw
  refine va_getC O.1 O.2.1 hL.1.symm O.2.2.1 (O.2.2.2.1.w h1) (O.2.2.2.1.w de_gc) (O.2.2.2.1.w se_gc) (O.2.2.2.1.w im_gc) (O.2.2.2.1.w nt_gc) O.2.2.2.1.2.2.2.2.2.2.2.1 ⟨cell, q1, q4, ?_⟩ hf hl d (h O H ls locs hR hS hL)
  rw [q2]
  exact va_nmO (O.2.2.2.1.2.1.2 3 _ rfl).2 (by decide +kernel)
theorem g_ldcM {idx : Nat} (d : decode cc pc = .ok (.ldc idx, 2)) (h1 : Cond.classLink own idx "[Ljava/lang/Object;" ∈ tw) (h : Go G R cc own Y C Q (pc + 2) L (.ref (gM G) :: st) w c k) : Go G R cc own Y C Q pc L st w c k := by
  obtain ⟨p, e, s, m, args, below, meth, cd⟩ := C
  intro O H ls locs hR hS hL
  exact va_ldcM O.1 O.2.1 O.2.2.1 (O.2.2.2.1.w h1) O.2.2.2.1.2.2.2.2.2.2.2.1 d (h O H ls locs hR hS hL)
theorem g_ldcI {idx : Nat} {v : Int32} (d : decode cc pc = .ok (.ldc idx, 2)) (h1 : Cond.constant own idx v ∈ tw) (h : Go G R cc own Y C Q (pc + 2) L (.int v :: st) w c k) : Go G R cc own Y C Q pc L st w c k := by
  obtain ⟨p, e, s, m, args, below, meth, cd⟩ := C
  intro O H ls locs hR hS hL
  exact lv_ldc O.1 O.2.1 O.2.2.1 (O.2.2.2.1.w h1) d (h O H ls locs hR hS hL)
/-- System.arraycopy(a0, 0, a, 0, n) between arrays of references, the elements all of one class of the table -/
theorem g_copyq {idx a0 a n0 n1 n ci N : Nat} {f g : Nat → Option Nat} {Cn : String} {T : u_T} {ty : Nat → FieldType} (hk : KC ci Cn T N ty) (hca : Cond.castable Cn "java/lang/Object" ∈ tw) (d : decode cc pc = .ok (.invokestatic idx, 3)) (h1 : Cond.methodLink own idx arraycopyName ∈ tw) (h2 : Cond.initialized "java/lang/System" ∈ tw)
    (hw0 : w a0 = some (eQ G n0 f)) (hw1 : w a = some (eQ G n1 g)) (ha : (gH G).size ≤ a) (hn : n < 2 ^ 31) (hn0 : n ≤ n0) (hn1 : n ≤ n1) (hel : ∀ i, i < n → ∀ y, f i = some y → ∃ vs, w y = some (eO ci vs)) (hf : 1 ≤ R.frames) (hl : (st.map fun v => v.category).sum + (nativeFrameWords "java/lang/System" "arraycopy" 5 + 11) ≤ R.locals)
    (h : Go G R cc own Y C Q (pc + 3) L st (up w a (eQ G n1 (va_cpy f g 0 0 n))) c k) : Go G R cc own Y C Q pc L (.int (nI n) :: .int 0 :: .ref a :: .int 0 :: .ref a0 :: st) w c k := by
  obtain ⟨p, e, s, m, args, below, meth, cd⟩ := C
  intro O H ls locs hR hS hL T0 hT X
  have hK := O.2.2.2.1.2.1
  obtain ⟨cs, hc0, qc, qs, qv, qu⟩ := hR.c hw0
  have hcs : ∀ j, j < n0 → cs.slots[j]? = some (va_rf (f j)) := fun j hj => by rw [qs]; show (arrV _ _ _).slots[j]? = _; rw [arrV_read _ _ hj]
  have hcz : cs.slots.size = n0 := by rw [qs, vp_cell_q, arrV_size]
  have hc1 : H[a]? = some (vp_cell (gO G) (n1, .inr (.inr (.inr (.inr g))))) := hR.s hw1 ha
  obtain ⟨-, k0, hk0, cm0, hkk0⟩ := (hK.2 3 _ rfl).1 n0 (fun j => va_rf (f j))
  obtain ⟨-, k1, hk1, cm1, hkk1⟩ := (hK.2 3 _ rfl).1 n1 (fun j => va_rf (g j))
  have ei : (nI n).toInt = (n : Int) := nI_toInt hn
  have ec : (nI n).toNatClampNeg = n := nI_clamp hn
  obtain ⟨vm', X', step⟩ := X.arraycopy O.1 O.2.2.1 (O.2.2.2.1.w h1) (O.2.2.2.1.w nt_ac) (O.2.2.2.1.w st_ac) (O.2.2.2.1.w h2) (src := a0) (dst := a) (cs := cs) (cd := vp_cell (gO G) (n1, .inr (.inr (.inr (.inr g))))) (srcPos := 0) (destPos := 0) (n := nI n) (by rw [hT]; exact hc0) (by rw [hT]; exact hc1)
    (fun _ h => by rw [h] at qv; cases qv) (fun _ h => by cases h) qu (fun h => by cases h) (by rw [qc]; exact hk0) hk1 hkk0 hkk1 rfl (by decide) (by decide) (nI_pos hn)
    (by rw [ei, hcz]; have : (0 : Int32).toInt = 0 := rfl; omega)
    (by rw [ei]; show ¬ (0 : Int32).toInt + _ > ((arrV (gO G) n1 (fun j => va_rf (g j))).slots.size : Int); rw [arrV_size]; have : (0 : Int32).toInt = 0 := rfl; omega)
    (fun vm₁ hal i hi => by
      rw [ec] at hi
      have e0 : (0 : Int32).toNatClampNeg = 0 := by decide
      have e : cs.slots.getD ((0 : Int32).toNatClampNeg + i) .null = va_rf (f i) := by
        rw [e0, Nat.zero_add, Array.getD_eq_getD_getElem?, hcs _ (by omega)]
        rfl
      rw [e]
      cases hy : f i with
      | none => exact ⟨rfl, trivial⟩
      | some y =>
        obtain ⟨vs, hv⟩ := hel i hi y hy
        obtain ⟨cellV, g1, g2, g3⟩ := recv_at O hk hR hv
        obtain ⟨kA, comp, r1, r2, r3, -⟩ := (hK.2 3 _ rfl).2
        cases hk1.symm.trans r1
        cases hkk1.symm.trans r2
        obtain ⟨kC, hkC, -⟩ := Vm.findClass_spec g3
        obtain ⟨kE, hkE, -⟩ := Vm.findClass_spec r3
        obtain ⟨kC', hkC', -⟩ := hal.2.2 _ _ hkC
        obtain ⟨kE', hkE', -⟩ := hal.2.2 _ _ hkE
        refine ⟨rfl, cellV, (show T0.heap[y]? = some cellV by rw [hT]; exact g1), (fun q h => by rw [h] at g2; cases g2), ⟨kC', hkC'⟩, ?_, ?_⟩
        · exact ⟨kE', hkE'⟩
        · show vm₁.assignable _ _ = true
          rw [hal.assignable]
          obtain ⟨c5, t5, f1, f2, f3⟩ := Cond.castable_spec (O.2.2.2.1.w (a := args) hca)
          cases g3.symm.trans f1
          cases r3.symm.trans f2
          exact f3)
    (g := F0 m pc ls (.int (nI n) :: .int 0 :: .ref a :: .int 0 :: .ref a0 :: st)) rfl hL.1 (rest := st) rfl (by rw [O.2.1]; exact d) hf (by show 2 * 0 + _ + _ ≤ _; omega)
  have e1 : copied cs (vp_cell (gO G) (n1, .inr (.inr (.inr (.inr g))))) 0 0 (nI n) = vp_cell (gO G) (n1, .inr (.inr (.inr (.inr (va_cpy f g 0 0 n))))) := by
    rw [vp_cell_q, vp_cell_q]
    have h9 := va_copiedX (sp := (0 : Int32).toNatClampNeg) (dp := (0 : Int32).toNatClampNeg) (n := (nI n).toNatClampNeg) (fun z => va_rf z) cs (gO G) f g (n0 := n0) (n1 := n1) hcs (by rw [ec]; show 0 + n ≤ n0; omega)
    refine Eq.trans h9 ?_
    rw [ec, sb_cl0]
  rw [e1] at X' step
  have hlt : a < H.size := (Array.getElem?_eq_some_iff.mp hc1).1
  have hheap : ((T0.setVm vm').setCell a (vp_cell (gO G) (n1, .inr (.inr (.inr (.inr (va_cpy f g 0 0 n))))))).heap = H.setIfInBounds a (vp_cell (gO G) (n1, .inr (.inr (.inr (.inr (va_cpy f g 0 0 n)))))) := by rw [← hT]; rfl
  have oq : ∀ q : Nat, q ≠ a → (H.setIfInBounds a (vp_cell (gO G) (n1, .inr (.inr (.inr (.inr (va_cpy f g 0 0 n)))))))[q]? = H[q]? := fun q hq => by simp [Array.getElem?_setIfInBounds, Ne.symm hq]
  obtain ⟨t, a1, b1⟩ := h O _ ls _ (hR.put (show (H.setIfInBounds a _)[a]? = some _ by simp [Array.getElem?_setIfInBounds, hlt]) oq) ⟨by simp; exact hS.1, fun q g1 g2 => by
      rw [oq q (fun e => g2 (by rw [e]; exact ha))]
      exact hS.2.1 q g1 g2, fun q hq => by
      rcases List.mem_append.mp hq with h | h
      · exact hS.2.2 q h
      · obtain ⟨z, -, hz⟩ := List.mem_map.mp h
        rw [← hz]
        exact ha⟩ hL _ hheap X'
  exact ⟨t, step t a1, b1⟩
end MoreRows
