/-! The law's loop, and its start. The script is older than all that is made, of whatever class its array is: it is told by va_X. -/
section ScriptRows
variable {G : Gx} {R : Room} {cc : ByteArray} {own : String} {Y : Yx} {C : Cx} {Q : State → Prop} {pc : Nat} {L : List (Option Value)} {st : List Value} {w : Wd} {c k : Nat}
theorem g_ixor {x y : Int32} (d : decode cc pc = .ok (.ixor, 1)) (h : Go G R cc own Y C Q (pc + 1) L (.int (x ^^^ y) :: st) w c k) : Go G R cc own Y C Q pc L (.int y :: .int x :: st) w c k := by
  obtain ⟨p, e, s, m, args, below, meth, cd⟩ := C
  intro O H ls locs hR hS hL
  exact lv_ixor O.1 O.2.1 d (h O H ls locs hR hS hL)
theorem g_sald {b n : Nat} {xs : Nat → Int32} {i : Int32} (d : decode cc pc = .ok (.iaload, 1)) (hX : va_X b n xs C.2.2.1 C.2.2.1.heap) (hb : b < (gH G).size) (hi : vp_in i n) (h : Go G R cc own Y C Q (pc + 1) L (.int (xs i.toNatClampNeg) :: st) w c k) : Go G R cc own Y C Q pc L (.int i :: .ref b :: st) w c k := by
  obtain ⟨p, e, s, m, args, below, meth, cd⟩ := C
  intro O H ls locs hR hS hL
  exact va_sld O.1 O.2.1 hX (Nat.lt_of_lt_of_le hb O.2.2.2.2.1.1) (Nat.not_le.mpr hb) hS hi d (h O H ls locs hR hS hL)
theorem g_slen {b n : Nat} {xs : Nat → Int32} (d : decode cc pc = .ok (.arraylength, 1)) (hX : va_X b n xs C.2.2.1 C.2.2.1.heap) (hb : b < (gH G).size) (h : Go G R cc own Y C Q (pc + 1) L (.int (nI n) :: st) w c k) : Go G R cc own Y C Q pc L (.ref b :: st) w c k := by
  obtain ⟨p, e, s, m, args, below, meth, cd⟩ := C
  intro O H ls locs hR hS hL
  exact va_slen O.1 O.2.1 hX (Nat.lt_of_lt_of_le hb O.2.2.2.2.1.1) (Nat.not_le.mpr hb) hS d (h O H ls locs hR hS hL)
/-- a contract of a method that is given the script -/
def PcS (G : Gx) (b n : Nat) (xs : Nat → Int32) (As : List Value) (w : Wd) : Array Value → State → Prop := fun v U => Pc0 G As w v U ∧ va_X b n xs U U.heap
def CtS (G : Gx) (b n : Nat) (xs : Nat → Int32) (y : MethodName) (cw : Cond) (rm : Room) (As : List Value) (w : Wd) (P : RV → Wd → Prop) : Prop := vx_Met G.1 y [cw] rm (PcS G b n xs As w) (Qc0 G P) (Xc0 G P) rm.cells rm.slots (gA G)
theorem PcS.blind {b n : Nat} {xs : Nat → Int32} {As : List Value} : FrameBlind (PcS G b n xs As w) := fun a U g mk h => ⟨Pc0.blind a U g mk h.1, h.2⟩
theorem g_callSS2 {b n : Nat} {xs : Nat → Int32} {y : MethodName} {bytes : ByteArray} {maxL idx : Nat} {ret : Option FieldType} {rm : Room} {a1 a2 : Value} {P : RV → Wd → Prop} (ct : CtS G b n xs y (.code y bytes maxL ret) rm [a1, a2] w P) (hX : va_X b n xs C.2.2.1 C.2.2.1.heap) (hbl : b < (gH G).size) (md : MD y (.code y bytes maxL ret) 2) (d : decode cc pc = .ok (.invokestatic idx, 3)) (h1 : Cond.methodLink own idx y ∈ tw) (h2 : Cond.static y ∈ tw) (hr : RmOk R rm maxL st c k)
    (kr : ∀ v w', P (.inl v) w' → Go G R cc own Y C Q (pc + 3) L (v.toList ++ st) w' (c + rm.cells) (k + rm.slots))
    (kx : ∀ E w', P (.inr E) w' → GoX G R cc own Y C Q pc L w' (c + rm.cells) (k + rm.slots) E) : Go G R cc own Y C Q pc L (a2 :: a1 :: st) w c k := by
  obtain ⟨p, e, s, m, args, below, meth, cd⟩ := C
  intro O H ls locs hR hS hL
  have hw := fun {x : Cond} (hx : x ∈ tw) => O.2.2.2.1.w (a := args) hx
  have hXm : ∀ U : State, U.heap = H → s.WarmedH U.vm → va_X b n xs U U.heap := fun U hU hW => by
    have h9 : va_X b n xs U s.heap := va_X.moved hW.alike hX
    refine h9.kept ?_
    rw [hU]
    exact hS.2.1 b (Nat.lt_of_lt_of_le hbl O.2.2.2.2.1.1) (Nat.not_le.mpr hbl)
  exact run_go O hS hL (vx_runS (Ts := []) (maxL := maxL) (ret := ret) (As := [a1, a2]) (n := 2) ⟨O.1, O.2.1, hL.1.symm, O.2.2.1, fun _ z => nomatch z⟩ ct ⟨⟨rfl, rfl, hr.1.1, hr.1.2.1, ws_at O md.1, List.mem_cons_self, hw md.1, hw md.2.1, md.2.2.1, len_of md.2.2.2, hw h1⟩, hw h2⟩ ⟨PcS.blind, fun U hU hW => ⟨pc0_at O hR hS hU hW, hXm U hU hW⟩⟩ rfl rfl rfl rfl (mr_of hr.1.2.2) d hr.2) kr kx
end ScriptRows
theorem ct_introS {G : Gx} {b n : Nat} {xs : Nat → Int32} {y : MethodName} {cc : ByteArray} {maxL : Nat} {ret : Option FieldType} {rm : Room} {As : List Value} {w : Wd} {P : RV → Wd → Prop} (own nm : String) (hy : plainName y.cls = true) (ho : y.cls = own) (hn : y.name = nm) (hcat : As.all (fun v => v.category == 1) = true) (hle : As.length ≤ maxL)
    (L0 : List (Option Value)) (hL0 : L0 = As.map some ++ List.replicate (maxL - As.length) none) (body : ∀ C : Cx, va_X b n xs C.2.2.1 C.2.2.1.heap → Go G rm cc own (ret, nm, []) C (QP G rm P C) 0 L0 [] w 0 0) : CtS G b n xs y (.code y cc maxL ret) rm As w P := by
  refine vx_ofW (cc := cc) (maxL := maxL) (ret := ret) hy rfl ?_
  intro p e s m args below meth c s₁ B hml htb hP
  obtain ⟨⟨rfl, hGK, hBO, hR⟩, hX⟩ := hP
  obtain ⟨ls, e1, hL⟩ := entry_LV (cd := c) (m := m) hml (fun v hv => by simpa using List.all_eq_true.mp hcat v hv) hle hL0
  rw [e1]
  have htab : c.exceptionTable.toList = tableOf [] := by
    cases hx : c.exceptionTable.toList with
    | nil => rfl
    | cons x xs => exact absurd (htb x (by rw [hx]; exact List.mem_cons_self)) id
  exact body (p, e, s, m, As.toArray, below, meth, c) hX ⟨B.exec, B.bytes, ho ▸ findClass_of_methodNamed B.named, hGK, hBO, B.returns, ((name_of_methodNamed B.named B.method).1).trans hn, htab, B.notSynchronized⟩ s.heap ls [] hR va_S.rf hL

set_option maxRecDepth 100000 in
theorem ct_cellS {G : Gx} {w : Wd} {b n k : Nat} {xs : Nat → Int32} (hsb : b < (gH G).size) (hn : n ≤ 260) (hk : k < 1000) : ∃ v, CtS G b n xs yL_cell kw_L_cell rm_L_cell [.ref b, .int (nI k)] w (PV (.int v) w) := by
  by_cases h : k < n
  · refine ⟨xs k, ?_⟩
    refine ct_introS RL "cell" (by decide +kernel) rfl rfl rfl (Nat.le_of_ble_eq_true rfl) [some (.ref b), some (.int (nI k))] rfl (fun C hX => ?_)
    refine g_iload1 dL_cell_0 ?_
    refine g_aload0 dL_cell_1 ?_
    refine g_slen dL_cell_2 hX hsb ?_
    refine g_icmp_ge_f (tgt := 12) dL_cell_3 (by decide) (nI_ge h (by omega)) ?_
    refine g_aload0 dL_cell_6 ?_
    refine g_iload1 dL_cell_7 ?_
    refine g_sald dL_cell_8 hX hsb (vp_in_nI h (by omega)) ?_
    rw [nI_clamp (by omega)]
    refine g_goto (tgt := 19) dL_cell_9 (by decide) ?_
    refine g_iret dL_cell_19 ?_ (Nat.le_of_ble_eq_true rfl) (Nat.le_of_ble_eq_true rfl)
    exact ⟨rfl, rfl⟩
  · refine ⟨1205193187 * (nI k + 6), ?_⟩
    refine ct_introS RL "cell" (by decide +kernel) rfl rfl rfl (Nat.le_of_ble_eq_true rfl) [some (.ref b), some (.int (nI k))] rfl (fun C hX => ?_)
    refine g_iload1 dL_cell_0 ?_
    refine g_aload0 dL_cell_1 ?_
    refine g_slen dL_cell_2 hX hsb ?_
    refine g_icmp_ge_t (tgt := 12) dL_cell_3 (by decide) (nI_le (by omega) (by omega)) ?_
    refine g_ldcI dL_cell_12 kc_L_7 ?_
    refine g_iload1 dL_cell_14 ?_
    refine g_bipush (v := 6) dL_cell_15 (by decide) ?_
    refine g_iadd dL_cell_17 ?_
    refine g_imul dL_cell_18 ?_
    refine g_iret dL_cell_19 ?_ (Nat.le_of_ble_eq_true rfl) (Nat.le_of_ble_eq_true rfl)
    exact ⟨rfl, rfl⟩

theorem Kl.more {G : Gx} {X X' : Nat → Prop} {w0 w w' : Wd} {S : KS} (h : Kl G X w0 S w) (hw : ∀ a, w a ≠ none → w' a = w a) (hX : ∀ x, X' x → w' x ≠ none ∧ (X x ∨ w x = none)) (hXE : X' (gE G)) : Kl G X' w' S w' := by
  have hs : ∀ k i, Lv S k i → w (S.ad k i) ≠ none := fun k i hl e => by
    have h9 := h.at_ k i hl
    rw [e] at h9
    cases h9
  have hE1 : w (gE G) = some (eQ G 0 (fun _ => none)) := (h.X _ h.E.1).1.trans h.E.2
  refine ⟨fun k i hl => (hw _ (hs k i hl)).trans (h.at_ k i hl), h.inj, h.base, fun x hx => ⟨rfl, (hX x hx).1, fun k i hl e => ?_⟩, ⟨hXE, (hw _ (by rw [hE1]; exact Option.some_ne_none _)).trans hE1⟩, h.cl⟩
  rcases (hX x hx).2 with h1 | h1
  · exact (h.X x h1).2.2 k i hl e
  · exact hs k i hl (by rw [e]; exact h1)
def A0 : Nat → Nat → Int32 := fun j _ => match j with
  | 25 => 99
  | 26 => -1
  | 27 => 100
  | _ => 0
theorem lk_start {S : KS} {g : Nat → Int32} (hg : ∀ j, j < 4 → g j = 100) (h : S.v = ((rdT (S0 (fun _ _ => 0)) 4).ssp g).v) : Lk S (fun _ => 0) A0 := by
  refine Lk_v h ⟨⟨rfl, Nat.zero_le _, rfl⟩, ⟨rfl, rfl, Nat.zero_le _, fun j hj => absurd hj (Nat.not_lt_zero _)⟩, ⟨rfl, rfl, rfl, Nat.zero_le _, rfl, rfl, rfl, fun j hj => absurd hj (Nat.not_lt_zero _)⟩,
    ⟨rfl, rfl, rfl, Nat.zero_le _, rfl, Nat.zero_le _, rfl, fun j hj => absurd hj (Nat.not_lt_zero _), fun j hj => absurd hj (Nat.not_lt_zero _), fun j hj => absurd hj (Nat.not_lt_zero _)⟩,
    ⟨rfl, rfl, Nat.le_refl _, fun j hj => absurd hj (Nat.not_lt_zero _)⟩, ⟨rfl, rfl, fun r hr => ?_, fun k hk => hg k hk, fun a _ => ⟨rfl, false, rfl⟩⟩⟩
  match r, hr with
  | 0, _ => exact ⟨rfl, rfl, rfl, rfl⟩
  | 1, _ => exact ⟨rfl, rfl, rfl, rfl⟩
  | 2, _ => exact ⟨rfl, rfl, rfl, rfl⟩
  | 3, _ => exact ⟨rfl, rfl, rfl, rfl⟩
  | n + 4, hr => exact absurd hr (by omega)
theorem jj_start {FI : Nat → Nat → Int32} (h10 : ∀ j, j < 6 → FI 10 j = 0) (h7 : ∀ r, r < 4 → FI 7 r = 12672) (h8 : ∀ k, k < 4 → FI 8 k = 100) (h9 : ∀ a, a < 6 → FI 9 a = 0) : JJ (fun _ => 0) A0 (fun _ _ => 0) FI := by
  refine ⟨⟨h10 0 (by decide), h10 1 (by decide), h10 2 (by decide), h10 3 (by decide), h10 4 (by decide), h10 5 (by decide)⟩, ⟨Nat.zero_le _, Nat.zero_le _, Nat.zero_le _, Nat.zero_le _, Nat.zero_le _, Nat.zero_le _⟩, ⟨fun k hk => absurd hk (Nat.not_lt_zero _), rfl⟩,
    fun q hq => absurd hq (Nat.not_lt_zero _), fun q hq => absurd hq (Nat.not_lt_zero _), fun q hq => absurd hq (Nat.not_lt_zero _), fun q hq => absurd hq (Nat.not_lt_zero _), fun r hr => ⟨0, 99, 0, by decide, by decide, by decide, rfl, rfl, rfl, (h7 r hr).trans rfl⟩, fun k hk => ⟨100, by decide, rfl, (h8 k hk).trans rfl⟩, fun a ha => ⟨false, rfl, (h9 a ha).trans rfl⟩, fun a _ _ => rfl⟩

section LawLoop
variable {G : Gx} {Y : Yx} {C : Cx} {Q : State → Prop} {X : Nat → Prop} {kp sc Ln : Nat} {xs : Nat → Int32} {am : Nat → Nat}
set_option maxRecDepth 100000 in
theorem law_told (hZ : LAZ G X am) (hs : va_X sc Ln xs C.2.2.1 C.2.2.1.heap) (hsb : sc < (gH G).size) (hLn : Ln ≤ 260) {w : Wd} {t c k c0 k0 : Nat} {a b d : Int32} {x17 : Option Value} (hSt : St G X am kp w) (hc : c ≤ c0 + 320) (hk : k ≤ k0 + 2800) (hc0 : c0 + 3720 ≤ 764213) (hk0 : k0 + 23200 ≤ 6809058) (hnext : ∀ (w2 : Wd) (c2 k2 : Nat) (x14 x15 x16 x17 : Option Value), St G X am kp w2 → c2 ≤ c0 + 3720 → k2 ≤ k0 + 23200 → Go G room_1 cL_law RL Y C Q 126 [some (.ref sc), some (.ref kp), some (.ref (am 0)), some (.ref (am 1)), some (.ref (am 2)), some (.ref (am 3)), some (.ref (am 4)), some (.ref (am 5)), some (.ref (am 6)), some (.ref (am 7)), some (.ref (am 8)), some (.ref (am 9)), some (.ref (am 10)), some (.int (nI (t + 1))), x14, x15, x16, x17] [] w2 c2 k2) : Go G room_1 cL_law RL Y C Q 261 [some (.ref sc), some (.ref kp), some (.ref (am 0)), some (.ref (am 1)), some (.ref (am 2)), some (.ref (am 3)), some (.ref (am 4)), some (.ref (am 5)), some (.ref (am 6)), some (.ref (am 7)), some (.ref (am 8)), some (.ref (am 9)), some (.ref (am 10)), some (.int (nI t)), some (.int a), some (.int b), some (.int d), x17] [] w c k := by
  obtain ⟨N, A, FJ, FI, hI, hM, hJ⟩ := hSt
  refine g_aload1 dL_law_261 ?_
  refine g_iload14 dL_law_262 ?_
  refine g_iconst (v := 5) dL_law_264 (by decide) ?_
  refine g_ishr dL_law_265 ?_
  refine g_iload15 dL_law_266 ?_
  refine g_ixor dL_law_268 ?_
  refine g_iload16 dL_law_269 ?_
  refine g_iload14 dL_law_271 ?_
  refine g_bipush (v := 7) dL_law_273 (by decide) ?_
  refine g_ishr dL_law_275 ?_
  refine g_ixor dL_law_276 ?_
  refine g_aload3 dL_law_277 ?_
  refine g_aload4 dL_law_278 ?_
  refine g_aload5 dL_law_280 ?_
  refine g_aload7 dL_law_282 ?_
  refine g_aload8 dL_law_284 ?_
  refine g_aload9 dL_law_286 ?_
  refine g_aload12 dL_law_288 ?_
  refine g_callS10 (ct_told hI hM hJ) md_L_isTold dL_law_290 ml_L_160 st_L_isTold (RmOk.of (Nat.le_of_ble_eq_true rfl) (Nat.le_of_ble_eq_true rfl) (Nat.le_of_ble_eq_true rfl) (by (try dsimp only [room_1, rm_L_isTold]); omega) (by (try dsimp only [room_1, rm_L_isTold]); omega)) (kr_V ?_) kx_V
  refine g_if_ne_t (tgt := 298) dL_law_293 (by decide) (by decide) ?_
  refine g_iinc13 (v' := (nI (t + 1))) dL_law_298 (nI_1 t) ?_
  refine g_goto (tgt := 126) dL_law_301 (by decide) ?_
  exact hnext _ _ _ _ _ _ _ ⟨N, A, FJ, FI, hI, hM, hJ⟩ (by (try dsimp only [room_1, rm_L_isTold, rm_L_types, rm_L_acts, rm_L_cell, rm_L_low]); omega) (by (try dsimp only [room_1, rm_L_isTold, rm_L_types, rm_L_acts, rm_L_cell, rm_L_low]); omega)

set_option maxRecDepth 100000 in
theorem law_step (hZ : LAZ G X am) (hs : va_X sc Ln xs C.2.2.1 C.2.2.1.heap) (hsb : sc < (gH G).size) (hLn : Ln ≤ 260) {w : Wd} {t c0 k0 : Nat} {x14 x15 x16 x17 : Option Value} (ht : t < 130) (hSt : St G X am kp w) (hc0 : c0 + 3720 ≤ 764213) (hk0 : k0 + 23200 ≤ 6809058) (hnext : ∀ (w2 : Wd) (c2 k2 : Nat) (x14 x15 x16 x17 : Option Value), St G X am kp w2 → c2 ≤ c0 + 3720 → k2 ≤ k0 + 23200 → Go G room_1 cL_law RL Y C Q 126 [some (.ref sc), some (.ref kp), some (.ref (am 0)), some (.ref (am 1)), some (.ref (am 2)), some (.ref (am 3)), some (.ref (am 4)), some (.ref (am 5)), some (.ref (am 6)), some (.ref (am 7)), some (.ref (am 8)), some (.ref (am 9)), some (.ref (am 10)), some (.int (nI (t + 1))), x14, x15, x16, x17] [] w2 c2 k2) : Go G room_1 cL_law RL Y C Q 134 [some (.ref sc), some (.ref kp), some (.ref (am 0)), some (.ref (am 1)), some (.ref (am 2)), some (.ref (am 3)), some (.ref (am 4)), some (.ref (am 5)), some (.ref (am 6)), some (.ref (am 7)), some (.ref (am 8)), some (.ref (am 9)), some (.ref (am 10)), some (.int (nI t)), x14, x15, x16, x17] [] w c0 k0 := by
  obtain ⟨N, A, FJ, FI, hI, hM, hJ⟩ := hSt
  refine g_aload0 dL_law_134 ?_
  refine g_iconst (v := 3) dL_law_135 (by decide) ?_
  refine g_iload13 dL_law_136 ?_
  refine g_imul dL_law_138 ?_
  rw [show (3 : Int32) * nI t = nI (3 * t) from pk_mul 3 t]
  obtain ⟨v1, hv1⟩ := ct_cellS (xs := xs) (w := w) hsb hLn (show 3 * t < 1000 by omega)
  refine g_callSS2 hv1 hs hsb md_L_cell dL_law_139 ml_L_164 st_L_cell (RmOk.of (Nat.le_of_ble_eq_true rfl) (Nat.le_of_ble_eq_true rfl) (Nat.le_of_ble_eq_true rfl) (by (try dsimp only [room_1, rm_L_isTold, rm_L_types, rm_L_acts, rm_L_cell, rm_L_low]); omega) (by (try dsimp only [room_1, rm_L_isTold, rm_L_types, rm_L_acts, rm_L_cell, rm_L_low]); omega)) (kr_V ?_) kx_V
  refine g_istore14 dL_law_142 ?_
  refine g_aload0 dL_law_144 ?_
  refine g_iconst (v := 3) dL_law_145 (by decide) ?_
  refine g_iload13 dL_law_146 ?_
  refine g_imul dL_law_148 ?_
  refine g_iconst (v := 1) dL_law_149 (by decide) ?_
  refine g_iadd dL_law_150 ?_
  rw [show (3 : Int32) * nI t + 1 = nI (3 * t + 1) by rw [show (3 : Int32) * nI t = nI (3 * t) from pk_mul 3 t, nI_1]]
  obtain ⟨v2, hv2⟩ := ct_cellS (xs := xs) (w := w) hsb hLn (show 3 * t + 1 < 1000 by omega)
  refine g_callSS2 hv2 hs hsb md_L_cell dL_law_151 ml_L_164 st_L_cell (RmOk.of (Nat.le_of_ble_eq_true rfl) (Nat.le_of_ble_eq_true rfl) (Nat.le_of_ble_eq_true rfl) (by (try dsimp only [room_1, rm_L_isTold, rm_L_types, rm_L_acts, rm_L_cell, rm_L_low]); omega) (by (try dsimp only [room_1, rm_L_isTold, rm_L_types, rm_L_acts, rm_L_cell, rm_L_low]); omega)) (kr_V ?_) kx_V
  refine g_istore15 dL_law_154 ?_
  refine g_aload0 dL_law_156 ?_
  refine g_iconst (v := 3) dL_law_157 (by decide) ?_
  refine g_iload13 dL_law_158 ?_
  refine g_imul dL_law_160 ?_
  refine g_iconst (v := 2) dL_law_161 (by decide) ?_
  refine g_iadd dL_law_162 ?_
  rw [show (3 : Int32) * nI t + 2 = nI (3 * t + 2) by rw [show (3 : Int32) * nI t = nI (3 * t) from pk_mul 3 t]; exact nI_add _ 2]
  obtain ⟨v3, hv3⟩ := ct_cellS (xs := xs) (w := w) hsb hLn (show 3 * t + 2 < 1000 by omega)
  refine g_callSS2 hv3 hs hsb md_L_cell dL_law_163 ml_L_164 st_L_cell (RmOk.of (Nat.le_of_ble_eq_true rfl) (Nat.le_of_ble_eq_true rfl) (Nat.le_of_ble_eq_true rfl) (by (try dsimp only [room_1, rm_L_isTold, rm_L_types, rm_L_acts, rm_L_cell, rm_L_low]); omega) (by (try dsimp only [room_1, rm_L_isTold, rm_L_types, rm_L_acts, rm_L_cell, rm_L_low]); omega)) (kr_V ?_) kx_V
  refine g_istore16 dL_law_166 ?_
  refine g_iload14 dL_law_168 ?_
  refine g_bipush (v := 24) dL_law_170 (by decide) ?_
  refine g_callS2 (ct_low (m := 24) (by decide) (by decide)) md_L_low dL_law_172 ml_L_90 st_L_low (RmOk.of (Nat.le_of_ble_eq_true rfl) (Nat.le_of_ble_eq_true rfl) (Nat.le_of_ble_eq_true rfl) (by (try dsimp only [room_1, rm_L_cell, rm_L_low]); omega) (by (try dsimp only [room_1, rm_L_cell, rm_L_low]); omega)) (kr_V ?_) kx_V
  have hact := lowN_lt v1 (m := 24) (by decide)
  generalize lowN v1 24 = act at hact ⊢
  refine g_istore17 dL_law_175 ?_
  refine g_iload17 dL_law_177 ?_
  refine g_bipush (v := 16) dL_law_179 (by decide) ?_
  refine g_icmp_ge (tgt := 212) dL_law_181 (by decide) (fun h181 => ?_) (fun h181 => ?_)
  · skip
    have h16 : 16 ≤ act := (nI_leI (a := 16) (by decide) (by omega)).mp h181
    refine g_aload1 dL_law_212 ?_
    refine g_iload17 dL_law_213 ?_
    refine g_bipush (v := 16) dL_law_215 (by decide) ?_
    refine g_isub dL_law_217 ?_
    rw [show nI act - 16 = nI (act - 16) from pk_sub h16]
    refine g_bipush (v := 7) dL_law_218 (by decide) ?_
    refine g_icmp_ge (tgt := 231) dL_law_220 (by decide) (fun h220 => ?_) (fun h220 => ?_)
    · skip
      have h7 : 7 ≤ act - 16 := (nI_leI (a := 7) (by decide) (by omega)).mp h220
      refine g_bipush (v := 6) dL_law_231 (by decide) ?_
      refine g_iload15 dL_law_233 ?_
      refine g_iload16 dL_law_235 ?_
      refine g_aload4 dL_law_237 ?_
      refine g_aload5 dL_law_239 ?_
      refine g_aload6 dL_law_241 ?_
      refine g_aload7 dL_law_243 ?_
      refine g_aload8 dL_law_245 ?_
      refine g_aload9 dL_law_247 ?_
      refine g_aload10 dL_law_249 ?_
      refine g_aload11 dL_law_251 ?_
      refine g_aload12 dL_law_253 ?_
      refine g_callS13 (ct_acts (act := 6) hI hZ hM hJ (by decide)) md_L_acts dL_law_255 ml_L_171 st_L_acts (RmOk.of (Nat.le_of_ble_eq_true rfl) (Nat.le_of_ble_eq_true rfl) (Nat.le_of_ble_eq_true rfl) (by (try dsimp only [room_1, rm_L_cell, rm_L_low, rm_L_acts]); omega) (by (try dsimp only [room_1, rm_L_cell, rm_L_low, rm_L_acts]); omega)) (kr_B (fun w1 hw1 => ?_)) kx_B
      refine g_if_eq_f (tgt := 296) dL_law_258 (by decide) (by decide) ?_
      exact law_told hZ hs hsb hLn hw1 (by (try dsimp only [room_1, rm_L_isTold, rm_L_types, rm_L_acts, rm_L_cell, rm_L_low]); omega) (by (try dsimp only [room_1, rm_L_isTold, rm_L_types, rm_L_acts, rm_L_cell, rm_L_low]); omega) hc0 hk0 hnext
    · skip
      have h7 : act - 16 < 7 := by
        rcases Nat.lt_or_ge (act - 16) 7 with q | q
        · exact q
        · exact absurd (nI_le q (by omega)) h220
      refine g_iload17 dL_law_223 ?_
      refine g_bipush (v := 16) dL_law_225 (by decide) ?_
      refine g_isub dL_law_227 ?_
      rw [show nI act - 16 = nI (act - 16) from pk_sub h16]
      refine g_goto (tgt := 233) dL_law_228 (by decide) ?_
      refine g_iload15 dL_law_233 ?_
      refine g_iload16 dL_law_235 ?_
      refine g_aload4 dL_law_237 ?_
      refine g_aload5 dL_law_239 ?_
      refine g_aload6 dL_law_241 ?_
      refine g_aload7 dL_law_243 ?_
      refine g_aload8 dL_law_245 ?_
      refine g_aload9 dL_law_247 ?_
      refine g_aload10 dL_law_249 ?_
      refine g_aload11 dL_law_251 ?_
      refine g_aload12 dL_law_253 ?_
      refine g_callS13 (ct_acts hI hZ hM hJ h7) md_L_acts dL_law_255 ml_L_171 st_L_acts (RmOk.of (Nat.le_of_ble_eq_true rfl) (Nat.le_of_ble_eq_true rfl) (Nat.le_of_ble_eq_true rfl) (by (try dsimp only [room_1, rm_L_cell, rm_L_low, rm_L_acts]); omega) (by (try dsimp only [room_1, rm_L_cell, rm_L_low, rm_L_acts]); omega)) (kr_B (fun w1 hw1 => ?_)) kx_B
      refine g_if_eq_f (tgt := 296) dL_law_258 (by decide) (by decide) ?_
      exact law_told hZ hs hsb hLn hw1 (by (try dsimp only [room_1, rm_L_isTold, rm_L_types, rm_L_acts, rm_L_cell, rm_L_low]); omega) (by (try dsimp only [room_1, rm_L_isTold, rm_L_types, rm_L_acts, rm_L_cell, rm_L_low]); omega) hc0 hk0 hnext
  · skip
    have h16 : act < 16 := by
      rcases Nat.lt_or_ge act 16 with q | q
      · exact q
      · exact absurd (nI_le q (by omega)) h181
    refine g_aload1 dL_law_184 ?_
    refine g_iload17 dL_law_185 ?_
    refine g_iload15 dL_law_187 ?_
    refine g_aload2 dL_law_189 ?_
    refine g_aload3 dL_law_190 ?_
    refine g_aload4 dL_law_191 ?_
    refine g_aload5 dL_law_193 ?_
    refine g_aload6 dL_law_195 ?_
    refine g_aload7 dL_law_197 ?_
    refine g_aload8 dL_law_199 ?_
    refine g_aload12 dL_law_201 ?_
    refine g_callS11 (ct_types hI hZ hM hJ h16) md_L_types dL_law_203 ml_L_167 st_L_types (RmOk.of (Nat.le_of_ble_eq_true rfl) (Nat.le_of_ble_eq_true rfl) (Nat.le_of_ble_eq_true rfl) (by (try dsimp only [room_1, rm_L_cell, rm_L_low, rm_L_acts, rm_L_types]); omega) (by (try dsimp only [room_1, rm_L_cell, rm_L_low, rm_L_acts, rm_L_types]); omega)) (kr_B (fun w1 hw1 => ?_)) kx_B
    refine g_if_eq_f (tgt := 296) dL_law_206 (by decide) (by decide) ?_
    refine g_goto (tgt := 261) dL_law_209 (by decide) ?_
    exact law_told hZ hs hsb hLn hw1 (by (try dsimp only [room_1, rm_L_isTold, rm_L_types, rm_L_acts, rm_L_cell, rm_L_low]); omega) (by (try dsimp only [room_1, rm_L_isTold, rm_L_types, rm_L_acts, rm_L_cell, rm_L_low]); omega) hc0 hk0 hnext

set_option maxRecDepth 100000 in
theorem law_loop (hZ : LAZ G X am) (hs : va_X sc Ln xs C.2.2.1 C.2.2.1.heap) (hsb : sc < (gH G).size) (hLn : Ln ≤ 260) (hend : ∀ (w : Wd) (c k : Nat) (L : List (Option Value)), c ≤ 764213 → k ≤ 6809058 → Go G room_1 cL_law RL Y C Q 304 L [] w c k) :
    ∀ (n t : Nat), 130 < t + n → t ≤ 130 → ∀ (w : Wd) (c k : Nat) (x14 x15 x16 x17 : Option Value), St G X am kp w → c + 3720 * n ≤ 764213 → k + 23200 * n ≤ 6809058 → Go G room_1 cL_law RL Y C Q 126 [some (.ref sc), some (.ref kp), some (.ref (am 0)), some (.ref (am 1)), some (.ref (am 2)), some (.ref (am 3)), some (.ref (am 4)), some (.ref (am 5)), some (.ref (am 6)), some (.ref (am 7)), some (.ref (am 8)), some (.ref (am 9)), some (.ref (am 10)), some (.int (nI t)), x14, x15, x16, x17] [] w c k := by
  intro n
  induction n with
  | zero => intro t hn ht; exact absurd hn (by omega)
  | succ n ih =>
    intro t hn ht w c k x14 x15 x16 x17 hSt hc hk
    refine g_iload13 dL_law_126 ?_
    refine g_sipush (v := 130) dL_law_128 (by decide) ?_
    by_cases h : t < 130
    · refine g_icmp_ge_f (tgt := 304) dL_law_131 (by decide) (nI_ge (b := 130) h (by decide)) ?_
      exact law_step hZ hs hsb hLn h hSt (by omega) (by omega) (fun w2 c2 k2 x14 x15 x16 x17 hS2 hc2 hk2 => ih (t + 1) (by omega) (by omega) w2 c2 k2 x14 x15 x16 x17 hS2 (by omega) (by omega))
    · refine g_icmp_ge_t (tgt := 304) dL_law_131 (by decide) (nI_le (a := 130) (by omega) (by omega)) ?_
      exact hend _ _ _ _ (by omega) (by omega)

set_option maxRecDepth 100000 in
theorem law_init (hZ : LAZ G X am) (hs : va_X sc Ln xs C.2.2.1 C.2.2.1.heap) (hsb : sc < (gH G).size) (hLn : Ln ≤ 260) (hend : ∀ (w : Wd) (c k : Nat) (L : List (Option Value)), c ≤ 764213 → k ≤ 6809058 → Go G room_1 cL_law RL Y C Q 304 L [] w c k) {w : Wd} {c k : Nat} (hI : Inv0 G X w kp (fun _ => 0) A0 w) (hM : LA G am w (fun _ _ => 0) (fun _ _ => 0) w) (hc : c ≤ 100) (hk : k ≤ 2000) :
    Go G room_1 cL_law RL Y C Q 69 [some (.ref sc), some (.ref kp), some (.ref (am 0)), some (.ref (am 1)), some (.ref (am 2)), some (.ref (am 3)), some (.ref (am 4)), some (.ref (am 5)), some (.ref (am 6)), some (.ref (am 7)), some (.ref (am 8)), some (.ref (am 9)), some (.ref (am 10)), none, none, none, none, none] [] w c k := by
  refine g_iconst (v := 0) dL_law_69 (by decide) ?_
  refine g_istore13 dL_law_70 ?_
  refine g_iload13 dL_law_72 ?_
  refine g_iconst (v := 4) dL_law_74 (by decide) ?_
  refine g_icmp_ge_f (tgt := 99) dL_law_75 (by decide) (by decide) ?_
  refine g_aload9 dL_law_78 ?_
  refine g_iload13 dL_law_80 ?_
  refine g_sipush (v := 12672) dL_law_82 (by decide) ?_
  refine g_jiast (k := 7) (i := 0) hM (by decide) (by decide) dL_law_85 (show _ < 4 from by omega) (fun w1 hM => ?_)
  refine g_aload10 dL_law_86 ?_
  refine g_iload13 dL_law_88 ?_
  refine g_bipush (v := 100) dL_law_90 (by decide) ?_
  refine g_jiast (k := 8) (i := 0) hM (by decide) (by decide) dL_law_92 (show _ < 4 from by omega) (fun w1 hM => ?_)
  refine g_iinc13 (v' := 1) dL_law_93 (by decide) ?_
  refine g_goto (tgt := 72) dL_law_96 (by decide) ?_
  refine g_iload13 dL_law_72 ?_
  refine g_iconst (v := 4) dL_law_74 (by decide) ?_
  refine g_icmp_ge_f (tgt := 99) dL_law_75 (by decide) (by decide) ?_
  refine g_aload9 dL_law_78 ?_
  refine g_iload13 dL_law_80 ?_
  refine g_sipush (v := 12672) dL_law_82 (by decide) ?_
  refine g_jiast (k := 7) (i := 1) hM (by decide) (by decide) dL_law_85 (show _ < 4 from by omega) (fun w1 hM => ?_)
  refine g_aload10 dL_law_86 ?_
  refine g_iload13 dL_law_88 ?_
  refine g_bipush (v := 100) dL_law_90 (by decide) ?_
  refine g_jiast (k := 8) (i := 1) hM (by decide) (by decide) dL_law_92 (show _ < 4 from by omega) (fun w1 hM => ?_)
  refine g_iinc13 (v' := 2) dL_law_93 (by decide) ?_
  refine g_goto (tgt := 72) dL_law_96 (by decide) ?_
  refine g_iload13 dL_law_72 ?_
  refine g_iconst (v := 4) dL_law_74 (by decide) ?_
  refine g_icmp_ge_f (tgt := 99) dL_law_75 (by decide) (by decide) ?_
  refine g_aload9 dL_law_78 ?_
  refine g_iload13 dL_law_80 ?_
  refine g_sipush (v := 12672) dL_law_82 (by decide) ?_
  refine g_jiast (k := 7) (i := 2) hM (by decide) (by decide) dL_law_85 (show _ < 4 from by omega) (fun w1 hM => ?_)
  refine g_aload10 dL_law_86 ?_
  refine g_iload13 dL_law_88 ?_
  refine g_bipush (v := 100) dL_law_90 (by decide) ?_
  refine g_jiast (k := 8) (i := 2) hM (by decide) (by decide) dL_law_92 (show _ < 4 from by omega) (fun w1 hM => ?_)
  refine g_iinc13 (v' := 3) dL_law_93 (by decide) ?_
  refine g_goto (tgt := 72) dL_law_96 (by decide) ?_
  refine g_iload13 dL_law_72 ?_
  refine g_iconst (v := 4) dL_law_74 (by decide) ?_
  refine g_icmp_ge_f (tgt := 99) dL_law_75 (by decide) (by decide) ?_
  refine g_aload9 dL_law_78 ?_
  refine g_iload13 dL_law_80 ?_
  refine g_sipush (v := 12672) dL_law_82 (by decide) ?_
  refine g_jiast (k := 7) (i := 3) hM (by decide) (by decide) dL_law_85 (show _ < 4 from by omega) (fun w1 hM => ?_)
  refine g_aload10 dL_law_86 ?_
  refine g_iload13 dL_law_88 ?_
  refine g_bipush (v := 100) dL_law_90 (by decide) ?_
  refine g_jiast (k := 8) (i := 3) hM (by decide) (by decide) dL_law_92 (show _ < 4 from by omega) (fun w1 hM => ?_)
  refine g_iinc13 (v' := 4) dL_law_93 (by decide) ?_
  refine g_goto (tgt := 72) dL_law_96 (by decide) ?_
  refine g_iload13 dL_law_72 ?_
  refine g_iconst (v := 4) dL_law_74 (by decide) ?_
  refine g_icmp_ge_t (tgt := 99) dL_law_75 (by decide) (by decide) ?_
  have hI2 := hI.keepL hZ hM
  have hM2 := hM.base
  have hJ2 := jj_start (fun j hj => by rfl) (fun r hr => by
    match r, hr with
    | 0, _ => rfl
    | 1, _ => rfl
    | 2, _ => rfl
    | 3, _ => rfl
    | n + 4, hr => exact absurd hr (by omega)) (fun r hr => by
    match r, hr with
    | 0, _ => rfl
    | 1, _ => rfl
    | 2, _ => rfl
    | 3, _ => rfl
    | n + 4, hr => exact absurd hr (by omega)) (fun a ha => by rfl) (FI := (updA (updA (updA (updA (updA (updA (updA (updA (fun _ _ => (0 : Int32)) 7 0 12672) 8 0 100) 7 1 12672) 8 1 100) 7 2 12672) 8 2 100) 7 3 12672) 8 3 100))
  refine g_aload1 dL_law_99 ?_
  refine g_iconst (v := 0) dL_law_100 (by decide) ?_
  refine g_iconst (v := 0) dL_law_101 (by decide) ?_
  refine g_aload3 dL_law_102 ?_
  refine g_aload4 dL_law_103 ?_
  refine g_aload5 dL_law_105 ?_
  refine g_aload7 dL_law_107 ?_
  refine g_aload8 dL_law_109 ?_
  refine g_aload9 dL_law_111 ?_
  refine g_aload12 dL_law_113 ?_
  refine g_callS10 (ct_told hI2 hM2 hJ2) md_L_isTold dL_law_115 ml_L_160 st_L_isTold (RmOk.of (Nat.le_of_ble_eq_true rfl) (Nat.le_of_ble_eq_true rfl) (Nat.le_of_ble_eq_true rfl) (by (try dsimp only [room_1, rm_L_isTold]); omega) (by (try dsimp only [room_1, rm_L_isTold]); omega)) (kr_V ?_) kx_V
  refine g_if_ne_t (tgt := 123) dL_law_118 (by decide) (by decide) ?_
  refine g_iconst (v := 0) dL_law_123 (by decide) ?_
  refine g_istore13 dL_law_124 ?_
  exact law_loop hZ hs hsb hLn hend 131 0 (by decide) (by decide) _ _ _ _ _ _ _ ⟨_, _, _, _, hI2, hM2, hJ2⟩ (by (try dsimp only [room_1, rm_L_isTold, rm_L_types, rm_L_acts, rm_L_cell, rm_L_low]); omega) (by (try dsimp only [room_1, rm_L_isTold, rm_L_types, rm_L_acts, rm_L_cell, rm_L_low]); omega)
end LawLoop

set_option maxRecDepth 100000 in
theorem law_start {G : Gx} {Y : Yx} {C : Cx} {Q : State → Prop} {sc Ln : Nat} {xs : Nat → Int32} {w : Wd} (hw : w (gE G) = some (eQ G 0 (fun _ => none))) (hs : va_X sc Ln xs C.2.2.1 C.2.2.1.heap) (hsb : sc < (gH G).size) (hLn : Ln ≤ 260)
    (hend : ∀ (w : Wd) (c k : Nat) (L : List (Option Value)), c ≤ 764213 → k ≤ 6809058 → Go G room_1 cL_law RL Y C Q 304 L [] w c k) : Go G room_1 cL_law RL Y C Q 0 [some (.ref sc), none, none, none, none, none, none, none, none, none, none, none, none, none, none, none, none, none] [] w 0 0 := by
  refine g_new (fs := [.int 0, .null, .null, .null, .int 0, .null, .null, .null, .null, .null, .null]) kc6 dL_law_0 cl_L_9 ins_X5 ini_X5 (by intro j hj; rcases (show j = 0 ∨ j = 1 ∨ j = 2 ∨ j = 3 ∨ j = 4 ∨ j = 5 ∨ j = 6 ∨ j = 7 ∨ j = 8 ∨ j = 9 ∨ j = 10 by omega) with rfl | rfl | rfl | rfl | rfl | rfl | rfl | rfl | rfl | rfl | rfl <;> rfl) (Nat.le_of_ble_eq_true rfl) (Nat.le_of_ble_eq_true rfl) (fun q qn qb => ?_)
  have hqE : gE G ≠ q := ne_of_new hw qn
  refine g_dup dL_law_3 rfl ?_
  refine g_callI0 (kt_init (X := fun x => x = gE G) (up_s _ _ _) qb ⟨rfl, by rw [up_n hqE]; exact hw⟩ (fun x hx => ⟨by rw [hx, up_n hqE, hw]; exact Option.some_ne_none _, by rw [hx]; exact hqE⟩)) md_X5_init dL_law_4 ml_L_159 rfl im_X5_init (RmOk.of (Nat.le_of_ble_eq_true rfl) (Nat.le_of_ble_eq_true rfl) (Nat.le_of_ble_eq_true rfl) (Nat.le_of_ble_eq_true rfl) (Nat.le_of_ble_eq_true rfl)) (kr_N (fun w1 hw1 => ?_)) kn_N
  obtain ⟨S, hK, hS0, g, hg, hSv⟩ := hw1
  have hE1 : w1 (gE G) = some (eQ G 0 (fun _ => none)) := (hK.X _ hK.E.1).1.trans hK.E.2
  have hC := CS.start (B := (gH G).size) hE1
  refine g_astore1 dL_law_7 ?_
  refine g_iconst (v := 1) dL_law_8 (by decide) ?_
  refine g_newJ (N := 1) dL_law_9 ac_long (by decide) (by decide) (Nat.le_of_ble_eq_true rfl) (Nat.le_of_ble_eq_true rfl) (Nat.le_of_ble_eq_true rfl) (fun q0 q0n q0b => ?_)
  refine CS.op (P := fun w9 => Go _ _ _ _ _ _ _ _ _ _ w9 _ _) (hC.new q0n q0b) (fun w9 hC => ?_)
  refine g_astore2 dL_law_11 ?_
  refine g_bipush (v := 60) dL_law_12 (by decide) ?_
  refine g_newJ (N := 60) dL_law_14 ac_long (by decide) (by decide) (Nat.le_of_ble_eq_true rfl) (Nat.le_of_ble_eq_true rfl) (Nat.le_of_ble_eq_true rfl) (fun q1 q1n q1b => ?_)
  refine CS.op (P := fun w9 => Go _ _ _ _ _ _ _ _ _ _ w9 _ _) (hC.new q1n q1b) (fun w9 hC => ?_)
  refine g_astore3 dL_law_16 ?_
  refine g_bipush (v := 60) dL_law_17 (by decide) ?_
  refine g_newI (N := 60) dL_law_19 ac_int (by decide) (by decide) (Nat.le_of_ble_eq_true rfl) (Nat.le_of_ble_eq_true rfl) (Nat.le_of_ble_eq_true rfl) (fun q2 q2n q2b => ?_)
  refine CS.op (P := fun w9 => Go _ _ _ _ _ _ _ _ _ _ w9 _ _) (hC.new q2n q2b) (fun w9 hC => ?_)
  refine g_astore4 dL_law_21 ?_
  refine g_bipush (v := 15) dL_law_23 (by decide) ?_
  refine g_newI (N := 15) dL_law_25 ac_int (by decide) (by decide) (Nat.le_of_ble_eq_true rfl) (Nat.le_of_ble_eq_true rfl) (Nat.le_of_ble_eq_true rfl) (fun q3 q3n q3b => ?_)
  refine CS.op (P := fun w9 => Go _ _ _ _ _ _ _ _ _ _ w9 _ _) (hC.new q3n q3b) (fun w9 hC => ?_)
  refine g_astore5 dL_law_27 ?_
  refine g_bipush (v := 10) dL_law_29 (by decide) ?_
  refine g_newI (N := 10) dL_law_31 ac_int (by decide) (by decide) (Nat.le_of_ble_eq_true rfl) (Nat.le_of_ble_eq_true rfl) (Nat.le_of_ble_eq_true rfl) (fun q4 q4n q4b => ?_)
  refine CS.op (P := fun w9 => Go _ _ _ _ _ _ _ _ _ _ w9 _ _) (hC.new q4n q4b) (fun w9 hC => ?_)
  refine g_astore6 dL_law_33 ?_
  refine g_bipush (v := 60) dL_law_35 (by decide) ?_
  refine g_newI (N := 60) dL_law_37 ac_int (by decide) (by decide) (Nat.le_of_ble_eq_true rfl) (Nat.le_of_ble_eq_true rfl) (Nat.le_of_ble_eq_true rfl) (fun q5 q5n q5b => ?_)
  refine CS.op (P := fun w9 => Go _ _ _ _ _ _ _ _ _ _ w9 _ _) (hC.new q5n q5b) (fun w9 hC => ?_)
  refine g_astore7 dL_law_39 ?_
  refine g_bipush (v := 60) dL_law_41 (by decide) ?_
  refine g_newI (N := 60) dL_law_43 ac_int (by decide) (by decide) (Nat.le_of_ble_eq_true rfl) (Nat.le_of_ble_eq_true rfl) (Nat.le_of_ble_eq_true rfl) (fun q6 q6n q6b => ?_)
  refine CS.op (P := fun w9 => Go _ _ _ _ _ _ _ _ _ _ w9 _ _) (hC.new q6n q6b) (fun w9 hC => ?_)
  refine g_astore8 dL_law_45 ?_
  refine g_iconst (v := 4) dL_law_47 (by decide) ?_
  refine g_newI (N := 4) dL_law_48 ac_int (by decide) (by decide) (Nat.le_of_ble_eq_true rfl) (Nat.le_of_ble_eq_true rfl) (Nat.le_of_ble_eq_true rfl) (fun q7 q7n q7b => ?_)
  refine CS.op (P := fun w9 => Go _ _ _ _ _ _ _ _ _ _ w9 _ _) (hC.new q7n q7b) (fun w9 hC => ?_)
  refine g_astore9 dL_law_50 ?_
  refine g_iconst (v := 4) dL_law_52 (by decide) ?_
  refine g_newI (N := 4) dL_law_53 ac_int (by decide) (by decide) (Nat.le_of_ble_eq_true rfl) (Nat.le_of_ble_eq_true rfl) (Nat.le_of_ble_eq_true rfl) (fun q8 q8n q8b => ?_)
  refine CS.op (P := fun w9 => Go _ _ _ _ _ _ _ _ _ _ w9 _ _) (hC.new q8n q8b) (fun w9 hC => ?_)
  refine g_astore10 dL_law_55 ?_
  refine g_bipush (v := 6) dL_law_57 (by decide) ?_
  refine g_newI (N := 6) dL_law_59 ac_int (by decide) (by decide) (Nat.le_of_ble_eq_true rfl) (Nat.le_of_ble_eq_true rfl) (Nat.le_of_ble_eq_true rfl) (fun q9 q9n q9b => ?_)
  refine CS.op (P := fun w9 => Go _ _ _ _ _ _ _ _ _ _ w9 _ _) (hC.new q9n q9b) (fun w9 hC => ?_)
  refine g_astore11 dL_law_61 ?_
  refine g_bipush (v := 6) dL_law_63 (by decide) ?_
  refine g_newI (N := 6) dL_law_65 ac_int (by decide) (by decide) (Nat.le_of_ble_eq_true rfl) (Nat.le_of_ble_eq_true rfl) (Nat.le_of_ble_eq_true rfl) (fun q10 q10n q10b => ?_)
  refine CS.op (P := fun w9 => Go _ _ _ _ _ _ _ _ _ _ w9 _ _) (hC.new q10n q10b) (fun w9 hC => ?_)
  refine g_astore12 dL_law_67 ?_
  obtain ⟨c1, c2, c3, c4, -⟩ := hC
  have hnd : [q10, q9, q8, q7, q6, q5, q4, q3, q2, q1, q0].Nodup := c3
  have hmem : ∀ (i : Nat) (z : Nat × va_E), [(q10, eI G 6 (fun _ => 0)), (q9, eI G 6 (fun _ => 0)), (q8, eI G 4 (fun _ => 0)), (q7, eI G 4 (fun _ => 0)), (q6, eI G 60 (fun _ => 0)), (q5, eI G 60 (fun _ => 0)), (q4, eI G 10 (fun _ => 0)), (q3, eI G 15 (fun _ => 0)), (q2, eI G 60 (fun _ => 0)), (q1, eJ G 60 (fun _ => 0)), (q0, eJ G 1 (fun _ => 0))][i]? = some z → w9 z.1 = some z.2 ∧ (gH G).size ≤ z.1 ∧ w1 z.1 = none := fun i z hz => c2 z (List.mem_of_getElem? hz)
  have hamE : ∀ k, k < 11 → w1 ([q10, q9, q8, q7, q6, q5, q4, q3, q2, q1, q0].getD (10 - k) 0) = none ∧ (gH G).size ≤ ([q10, q9, q8, q7, q6, q5, q4, q3, q2, q1, q0].getD (10 - k) 0) := fun k hk => by
    match k, hk with
    | 0, _ => exact ⟨(hmem 10 _ rfl).2.2, (hmem 10 _ rfl).2.1⟩
    | 1, _ => exact ⟨(hmem 9 _ rfl).2.2, (hmem 9 _ rfl).2.1⟩
    | 2, _ => exact ⟨(hmem 8 _ rfl).2.2, (hmem 8 _ rfl).2.1⟩
    | 3, _ => exact ⟨(hmem 7 _ rfl).2.2, (hmem 7 _ rfl).2.1⟩
    | 4, _ => exact ⟨(hmem 6 _ rfl).2.2, (hmem 6 _ rfl).2.1⟩
    | 5, _ => exact ⟨(hmem 5 _ rfl).2.2, (hmem 5 _ rfl).2.1⟩
    | 6, _ => exact ⟨(hmem 4 _ rfl).2.2, (hmem 4 _ rfl).2.1⟩
    | 7, _ => exact ⟨(hmem 3 _ rfl).2.2, (hmem 3 _ rfl).2.1⟩
    | 8, _ => exact ⟨(hmem 2 _ rfl).2.2, (hmem 2 _ rfl).2.1⟩
    | 9, _ => exact ⟨(hmem 1 _ rfl).2.2, (hmem 1 _ rfl).2.1⟩
    | 10, _ => exact ⟨(hmem 0 _ rfl).2.2, (hmem 0 _ rfl).2.1⟩
    | n + 11, hk => exact absurd hk (by omega)
  have hM : LA G (fun k => [q10, q9, q8, q7, q6, q5, q4, q3, q2, q1, q0].getD (10 - k) 0) w9 (fun _ _ => 0) (fun _ _ => 0) w9 := by
    refine ⟨fun k hk => ?_, fun k h2 hk => ?_, fun k hk => (hamE k hk).2, fun i j hi hj e => ?_, fun _ _ => rfl⟩
    · match k, hk with
      | 0, _ => exact (hmem 10 _ rfl).1
      | 1, _ => exact (hmem 9 _ rfl).1
      | n + 2, hk => exact absurd hk (by omega)
    · match k, h2, hk with
      | 2, _, _ => exact (hmem 8 _ rfl).1
      | 3, _, _ => exact (hmem 7 _ rfl).1
      | 4, _, _ => exact (hmem 6 _ rfl).1
      | 5, _, _ => exact (hmem 5 _ rfl).1
      | 6, _, _ => exact (hmem 4 _ rfl).1
      | 7, _, _ => exact (hmem 3 _ rfl).1
      | 8, _, _ => exact (hmem 2 _ rfl).1
      | 9, _, _ => exact (hmem 1 _ rfl).1
      | 10, _, _ => exact (hmem 0 _ rfl).1
      | n + 11, _, hk => exact absurd hk (by omega)
    · have h9 := nodup_getD hnd (i := 10 - i) (j := 10 - j) (by show _ < 11; omega) (by show _ < 11; omega) e
      omega
  have hsame : ∀ a, w1 a ≠ none → w9 a = w1 a := fun a ha => by
    by_cases e : a = gE G
    · rw [e, c1, hE1]
    · refine c4 a e (fun hm => ?_)
      obtain ⟨z, hz, hz2⟩ := List.mem_map.mp hm
      exact ha (by rw [← hz2]; exact (c2 z hz).2.2)
  have hZ : LAZ G (fun x => x = gE G ∨ ∃ k, k < 11 ∧ x = [q10, q9, q8, q7, q6, q5, q4, q3, q2, q1, q0].getD (10 - k) 0) (fun k => [q10, q9, q8, q7, q6, q5, q4, q3, q2, q1, q0].getD (10 - k) 0) := fun k hk => ⟨Or.inr ⟨k, hk, rfl⟩, fun e => by
    have h9 := (hamE k hk).1
    have e : [q10, q9, q8, q7, q6, q5, q4, q3, q2, q1, q0].getD (10 - k) 0 = gE G := e
    rw [e, hE1] at h9
    cases h9⟩
  have hI : Inv0 G (fun x => x = gE G ∨ ∃ k, k < 11 ∧ x = [q10, q9, q8, q7, q6, q5, q4, q3, q2, q1, q0].getD (10 - k) 0) w9 q (fun _ => 0) A0 w9 := by
    refine ⟨S, hK.more hsame (fun x hx => ?_) (Or.inl rfl), lk_start hg hSv, hS0⟩
    rcases hx with hx | ⟨k, hk, hx⟩
    · rw [hx]
      exact ⟨by rw [hsame _ (by rw [hE1]; exact Option.some_ne_none _), hE1]; exact Option.some_ne_none _, Or.inl rfl⟩
    · rw [hx]
      exact ⟨hM.some hk, Or.inr (hamE k hk).1⟩
  exact law_init hZ hs hsb hLn hend hI hM (Nat.le_of_ble_eq_true rfl) (Nat.le_of_ble_eq_true rfl)
