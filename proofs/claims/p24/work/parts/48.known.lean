/-! The law's start: what every state of the run knows, out of what the Statement gives. -/
theorem at_arr {args : Array Value} {s : State} {ty : FieldType} (h : (Cond.arrayClass ty).before args s = true) (hp : ∀ C, ty ≠ .object C) : ∃ c : ClassId, ArrOfT s c ty ∧ va_RA s c ty := by
  obtain ⟨c, k, comp, h1, h2, h3⟩ := Cond.arrayClass_spec h
  refine ⟨c, fun n z => ⟨fun q e => (by cases e), k, h2, comp, h3⟩, ?_⟩
  cases ty with
  | object C => exact absurd rfl (hp C)
  | _ => exact h1
theorem at_arrO {args : Array Value} {s : State} {C : String} (h : (Cond.arrayOver (.object C)).before args s = true) : ∃ c : ClassId, ArrOfT s c (.object C) ∧ va_RA s c (.object C) := by
  obtain ⟨comp, c, k, h1, h2, h3, h4, h5⟩ := Cond.arrayOver_spec h
  exact ⟨c, fun n z => ⟨fun q e => (by cases e), k, h3, comp, h4⟩, k, comp, h3, h4, h1, h5⟩
theorem at_empty {args : Array Value} {s : State} {tm : Term} {cO : ClassId} (hO : va_RA s cO (.object "java/lang/Object")) (hex : (Cond.exactly tm "[Ljava/lang/Object;").before args s = true) (hlen : (Cond.eq (.length tm) (.int 0)).before args s = true) :
    ∃ t : Nat, tm.eval args s none [] s = some (.ref t) ∧ olA cO (0, .inr (.inr (.inr (.inr (fun _ => none))))) t s.heap := by
  have hl := va_eqt hlen
  obtain ⟨t, cell, ht, hat, hv⟩ := Term.length_spec hl
  obtain ⟨hcell, hkn, hst, -⟩ := State.arrayAt?_spec hat
  obtain ⟨a, c, cell2, k, e1, e2, e3, e4, e5, e6, -⟩ := Cond.exactly_spec hex
  cases ht.symm.trans e1
  cases hcell.symm.trans e3
  have hcO := va_nmO hO (nm := "[Ljava/lang/Object;") (by decide +kernel)
  have hcc : cell.cls = cO := e6.trans (Option.some.inj (e2.symm.trans hcO))
  have hsz : cell.slots.size < 2147483648 := by
    by_cases hn : cell.slots.size < 2147483648
    · exact hn
    · exfalso
      simp [Term.eval, ht, hat, hn] at hl
  have h0 : cell.slots.size = 0 := by
    have h1 : (0 : Int32) = nI cell.slots.size := Value.int.inj hv
    have h2 : (0 : Int32).toInt = (cell.slots.size : Int) := by rw [h1]; exact nI_toInt hsz
    have h3 : (0 : Int32).toInt = 0 := rfl
    omega
  exact ⟨t, ht, cell, hcell, hcc, (Array.eq_empty_of_size_eq_zero h0).trans (Array.eq_empty_of_size_eq_zero (by rw [vp_cell_q, arrV_size])).symm, hst, hkn⟩
def strOk (w : Cond) : Bool := match w with
  | .stringRef own k _ => decide (Cond.exactly (.string own k) "java/lang/String" ∈ flatC (Cond.and given_1 narrow_1))
  | _ => true
theorem strOk_all : tables_1.all strOk = true := by decide +kernel
theorem strOk_in {own tx : String} {k : Nat} (h : Cond.stringRef own k tx ∈ tables_1) : Cond.exactly (.string own k) "java/lang/String" ∈ flatC (Cond.and given_1 narrow_1) := of_decide_eq_true (List.all_eq_true.mp strOk_all _ h)
theorem tb_at {P : Cond → Prop} {w : Cond} (h : ∀ w ∈ lw_tbl, P w) (k : Nat) (hk : tables_1[k]? = some w) : P w := h w (List.mem_append_right _ (List.mem_of_getElem? hk))
theorem gk_start {s : State} {l : Launch} (hflags : l.flags = flags0) {b : Nat} (hts : ∀ w ∈ lw_tbl, w.before #[Value.ref b] s = true) (hgv : (Jvm.Cond.and given_1 narrow_1).before #[Value.ref b] s = true) :
    ∃ G : Gx, G.1 = l ∧ gH G = s.heap ∧ GK G s ∧ olA (gO G) (0, .inr (.inr (.inr (.inr (fun _ => none))))) (gE G) s.heap ∧ gE G < s.heap.size := by
  have hg := flat_of_before _ hgv
  have htw : ∀ w ∈ tw, w.before #[Value.ref b] s = true := fun w hw => hts w (List.mem_filter.mp hw).1
  have hA : ∀ a : Nat, a < s.heap.size → ¬ (fun q : Nat => s.heap.size ≤ q) a := fun a ha => Nat.not_le.mpr ha
  obtain ⟨cI, hI1, hI2⟩ := at_arr (htw _ ac_int) (fun C h => by cases h)
  obtain ⟨cZ, hZ1, hZ2⟩ := at_arr (htw _ ac_boolean) (fun C h => by cases h)
  obtain ⟨cJ, hJ1, hJ2⟩ := at_arr (htw _ ac_long) (fun C h => by cases h)
  have hov : (Cond.arrayOver (.object "java/lang/Object")).before #[Value.ref b] s = true := tb_at hts 184 (by decide +kernel)
  obtain ⟨cO, hO1, hO2⟩ := at_arrO hov
  obtain ⟨t, ht, hEm⟩ := at_empty hO2 (hg (.exactly (.static "java/util/ArrayList" "DEFAULTCAPACITY_EMPTY_ELEMENTDATA" "[Ljava/lang/Object;") "[Ljava/lang/Object;") (by decide +kernel)) (hg _ (by decide +kernel))
  obtain ⟨mi, hmi⟩ := va_Mi.of (hg (.isRef (.mirror "[Ljava/lang/Object;")) (by decide +kernel))
  obtain ⟨c0, i0, k0⟩ := u_known (n := 3) htw kc0.2.1 (htw _ ins_Jx4a65c)
  obtain ⟨c1, i1, k1⟩ := u_known (n := 6) htw kc1.2.1 (htw _ ins_X0)
  obtain ⟨c2, i2, k2⟩ := u_known (n := 3) htw kc2.2.1 (htw _ ins_X1)
  obtain ⟨c3, i3, k3⟩ := u_known (n := 3) htw kc3.2.1 (htw _ ins_X2)
  obtain ⟨c4, i4, k4⟩ := u_known (n := 4) htw kc4.2.1 (htw _ ins_X3)
  obtain ⟨c5, i5, k5⟩ := u_known (n := 2) htw kc5.2.1 (htw _ ins_X4)
  obtain ⟨c6, i6, k6⟩ := u_known (n := 11) htw kc6.2.1 (htw _ ins_X5)
  obtain ⟨dC, dI, hKc⟩ : ∃ (dC : Nat → ClassId) (dI : Nat → Nat → Nat), ∀ (k : Nat) (q : vw_C), vwCl[k]? = some q → u_Kn s q.1 q.2.1 q.2.2 (dC k) (dI k) := by
    refine ⟨fun k => match k with | 0 => c0 | 1 => c1 | 2 => c2 | 3 => c3 | 4 => c4 | 5 => c5 | _ => c6, fun k => match k with | 0 => i0 | 1 => i1 | 2 => i2 | 3 => i3 | 4 => i4 | 5 => i5 | _ => i6, ?_⟩
    intro k q hq
    match k, hq with
    | 0, hq => cases hq; exact k0
    | 1, hq => cases hq; exact k1
    | 2, hq => cases hq; exact k2
    | 3, hq => cases hq; exact k3
    | 4, hq => cases hq; exact k4
    | 5, hq => cases hq; exact k5
    | 6, hq => cases hq; exact k6
    | k + 7, hq => exact absurd hq (by rw [List.getElem?_eq_none (Nat.le_add_left 7 k)]; exact fun h => nomatch h)
  refine ⟨(l, (dC, dI), (cI, cZ, cJ, cO), s.heap, t, mi), rfl, rfl, ⟨fun w hw a => ?_, ⟨hKc, fun k q hq => ?_⟩, fun own tx k hk => ?_, fun q hq => ?_, ?_, ?_, ?_, hmi, ?_, ?_, ?_⟩, hEm, ?_⟩
  · exact okW_at (State.WarmedH.refl s) (List.mem_filter.mp hw).2 (htw w hw)
  · match k, hq with
    | 0, hq => cases hq; exact ⟨hI1, hI2⟩
    | 1, hq => cases hq; exact ⟨hZ1, hZ2⟩
    | 2, hq => cases hq; exact ⟨hJ1, hJ2⟩
    | 3, hq => cases hq; exact ⟨hO1, hO2⟩
    | k + 4, hq => exact absurd hq (by rw [show (gty (l, (dC, dI), (cI, cZ, cJ, cO), s.heap, t, mi))[k + 4]? = none from List.getElem?_eq_none (Nat.le_add_left 4 k)]; exact fun h => nomatch h)
  · obtain ⟨a, c, cell, k9, e1, -⟩ := Cond.exactly_spec (hg _ (strOk_in hk))
    exact ⟨a, vk_R.of (hts _ (List.mem_append_right _ hk)) e1⟩
  · have h9 : (Cond.not (Cond.castable q.1 q.2)) ∈ flatC (Cond.and given_1 narrow_1) := by
      revert q
      decide +kernel
    exact va_Nc.of (hg _ h9)
  · exact vx_Zqof (tb_at hts 284 (by decide +kernel)) (htw _ ini_Throwable) (hg _ (by decide +kernel)) hA
  · exact vx_Zqof (tb_at hts 286 (by decide +kernel)) (htw _ ini_Throwable) (hg _ (by decide +kernel)) hA
  · exact va_Zref (tb_at hts 63 (by decide +kernel)) (htw _ ini_Jx4a65c) ht hA
  · exact hov
  · exact va_Nw.of rfl (htw _ w_same)
  · show (!l.flags.contains noTraceFlag) = false
    rw [hflags]
    decide +kernel
  · obtain ⟨cell, hcell, -⟩ := hEm
    exact (Array.getElem?_eq_some_iff.mp hcell).1
