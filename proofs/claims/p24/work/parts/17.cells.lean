/-! The keeper: its throws; pages, documents, readers, runs by their cells. -/
theorem at_IndexOutOfBoundsException : ∀ x ∈ vx_atS RX5 180 "java/lang/IndexOutOfBoundsException" ["java/lang/RuntimeException", "java/lang/Exception"], x ∈ tw := by
  have h : (vx_atS RX5 180 "java/lang/IndexOutOfBoundsException" ["java/lang/RuntimeException", "java/lang/Exception"]).all (fun x => tables_1.contains x && okW x) = true := by decide +kernel
  intro x hx
  have h2 := List.all_eq_true.mp h x hx
  simp only [Bool.and_eq_true] at h2
  exact tw_of (List.mem_append_right _ (List.contains_iff_mem.mp h2.1)) h2.2
theorem tw_X5_176_178_180 : TW RX5 176 178 180 "java/lang/IndexOutOfBoundsException" "no such document is found" := ⟨by decide +kernel, cl_X5_176, ini_IndexOutOfBoundsException, List.mem_of_getElem? (i := 639) (by decide +kernel), at_IndexOutOfBoundsException, by decide +kernel⟩
theorem tw_X5_176_188_180 : TW RX5 176 188 180 "java/lang/IndexOutOfBoundsException" "no such line" := ⟨by decide +kernel, cl_X5_176, ini_IndexOutOfBoundsException, List.mem_of_getElem? (i := 658) (by decide +kernel), at_IndexOutOfBoundsException, by decide +kernel⟩
theorem tw_X5_176_229_180 : TW RX5 176 229 180 "java/lang/IndexOutOfBoundsException" "no such page" := ⟨by decide +kernel, cl_X5_176, ini_IndexOutOfBoundsException, List.mem_of_getElem? (i := 503) (by decide +kernel), at_IndexOutOfBoundsException, by decide +kernel⟩
theorem tw_X5_176_231_180 : TW RX5 176 231 180 "java/lang/IndexOutOfBoundsException" "no such run" := ⟨by decide +kernel, cl_X5_176, ini_IndexOutOfBoundsException, List.mem_of_getElem? (i := 493) (by decide +kernel), at_IndexOutOfBoundsException, by decide +kernel⟩
theorem tw_X5_176_233_180 : TW RX5 176 233 180 "java/lang/IndexOutOfBoundsException" "no such document" := ⟨by decide +kernel, cl_X5_176, ini_IndexOutOfBoundsException, List.mem_of_getElem? (i := 566) (by decide +kernel), at_IndexOutOfBoundsException, by decide +kernel⟩
theorem at_IllegalArgumentException : ∀ x ∈ vx_atS RX5 215 "java/lang/IllegalArgumentException" ["java/lang/RuntimeException", "java/lang/Exception"], x ∈ tw := by
  have h : (vx_atS RX5 215 "java/lang/IllegalArgumentException" ["java/lang/RuntimeException", "java/lang/Exception"]).all (fun x => tables_1.contains x && okW x) = true := by decide +kernel
  intro x hx
  have h2 := List.all_eq_true.mp h x hx
  simp only [Bool.and_eq_true] at h2
  exact tw_of (List.mem_append_right _ (List.contains_iff_mem.mp h2.1)) h2.2
theorem tw_X5_211_213_215 : TW RX5 211 213 215 "java/lang/IllegalArgumentException" "no such kind" := ⟨by decide +kernel, cl_X5_211, ini_IllegalArgumentException, List.mem_of_getElem? (i := 527) (by decide +kernel), at_IllegalArgumentException, by decide +kernel⟩
theorem tw_X5_211_219_215 : TW RX5 211 219 215 "java/lang/IllegalArgumentException" "no such account" := ⟨by decide +kernel, cl_X5_211, ini_IllegalArgumentException, List.mem_of_getElem? (i := 539) (by decide +kernel), at_IllegalArgumentException, by decide +kernel⟩
theorem tw_X5_211_227_215 : TW RX5 211 227 215 "java/lang/IllegalArgumentException" "out of range" := ⟨by decide +kernel, cl_X5_211, ini_IllegalArgumentException, List.mem_of_getElem? (i := 299) (by decide +kernel), at_IllegalArgumentException, by decide +kernel⟩
theorem tw_X5_211_241_215 : TW RX5 211 241 215 "java/lang/IllegalArgumentException" "no such reader" := ⟨by decide +kernel, cl_X5_211, ini_IllegalArgumentException, List.mem_of_getElem? (i := 515) (by decide +kernel), at_IllegalArgumentException, by decide +kernel⟩
theorem at_IllegalStateException : ∀ x ∈ vx_atS RX5 82 "java/lang/IllegalStateException" ["java/lang/RuntimeException", "java/lang/Exception"], x ∈ tw := by
  have h : (vx_atS RX5 82 "java/lang/IllegalStateException" ["java/lang/RuntimeException", "java/lang/Exception"]).all (fun x => tables_1.contains x && okW x) = true := by decide +kernel
  intro x hx
  have h2 := List.all_eq_true.mp h x hx
  simp only [Bool.and_eq_true] at h2
  exact tw_of (List.mem_append_right _ (List.contains_iff_mem.mp h2.1)) h2.2
theorem tw_X5_78_106_82 : TW RX5 78 106 82 "java/lang/IllegalStateException" "120 pages are kept" := ⟨by decide +kernel, cl_X5_78, ini_IllegalStateException, List.mem_of_getElem? (i := 358) (by decide +kernel), at_IllegalStateException, by decide +kernel⟩
theorem tw_X5_78_115_82 : TW RX5 78 115 82 "java/lang/IllegalStateException" "the run would have no pages" := ⟨by decide +kernel, cl_X5_78, ini_IllegalStateException, List.mem_of_getElem? (i := 374) (by decide +kernel), at_IllegalStateException, by decide +kernel⟩
theorem tw_X5_78_117_82 : TW RX5 78 117 82 "java/lang/IllegalStateException" "15 runs are kept" := ⟨by decide +kernel, cl_X5_78, ini_IllegalStateException, List.mem_of_getElem? (i := 375) (by decide +kernel), at_IllegalStateException, by decide +kernel⟩
theorem tw_X5_78_80_82 : TW RX5 78 80 82 "java/lang/IllegalStateException" "the days end at 9999" := ⟨by decide +kernel, cl_X5_78, ini_IllegalStateException, List.mem_of_getElem? (i := 463) (by decide +kernel), at_IllegalStateException, by decide +kernel⟩
theorem tw_X5_78_89_82 : TW RX5 78 89 82 "java/lang/IllegalStateException" "10 formats are told" := ⟨by decide +kernel, cl_X5_78, ini_IllegalStateException, List.mem_of_getElem? (i := 471) (by decide +kernel), at_IllegalStateException, by decide +kernel⟩
theorem tw_X5_78_95_82 : TW RX5 78 95 82 "java/lang/IllegalStateException" "the page has 8 lines" := ⟨by decide +kernel, cl_X5_78, ini_IllegalStateException, List.mem_of_getElem? (i := 339) (by decide +kernel), at_IllegalStateException, by decide +kernel⟩
/-- whether a page of n lines has the line l -/
def hasB (cnt l : Int32) : Bool := !decide (l < 0) && (!decide (cnt ≤ l) && !decide (nI 8 ≤ l))
theorem hasB_t {cnt l : Int32} (h : hasB cnt l = true) : ¬ l < 0 ∧ ¬ cnt ≤ l ∧ ¬ nI 8 ≤ l := by simpa [hasB] using h
theorem hasB_n {n k : Nat} (hn : n ≤ 8) (hk : k < 2 ^ 31) : hasB (nI n) (nI k) = decide (k < n) := by
  unfold hasB
  rw [decide_eq_false (nI_pos hk)]
  by_cases h : k < n
  · rw [decide_eq_true h, decide_eq_false (nI_ge h (by omega)), decide_eq_false (nI_ge (by omega) (by decide))]; rfl
  · rw [decide_eq_false h, decide_eq_true (nI_le (by omega) hk)]; rfl
abbrev ePg (v : Nat) (cnt cop : Int32) : va_E := eO 3 [.ref v, .int cnt, .int cop]
abbrev eDc (r : Nat) (fp ac kd ln gn : Int32) : va_E := eO 1 [.ref r, .int fp, .int ac, .int kd, .int ln, .int gn]
abbrev eFm (dy la ka : Int32) : va_E := eO 2 [.int dy, .int la, .int ka]
abbrev eRd (lk f l b : Int32) : va_E := eO 4 [.int lk, .int f, .int l, .int b]
abbrev eRn (ls : Nat) (dy : Int32) : va_E := eO 5 [.ref ls, .int dy]
abbrev eLs (m : Int32) (d n : Nat) : va_E := eO 0 [.int m, .ref d, .int (nI n)]

abbrev rm_X2_isEmpty : Room := { frames := 0, cells := 0, slots := 0, locals := 0 }

set_option maxRecDepth 100000 in
theorem ct_isEmpty {G : Gx} {w : Wd} {p v : Nat} {cnt cop : Int32} (hp : w p = some (ePg v cnt cop)) : Ct G yX2_isEmpty kw_X2_isEmpty rm_X2_isEmpty [.ref p] w (PV (.int (bI (decide (cnt = 0)))) w) := by
  refine ct_intro RX2 "isEmpty" (by decide +kernel) rfl rfl rfl (Nat.le_of_ble_eq_true rfl) [some (.ref p)] rfl (fun C => ?_)
  refine g_aload0 dX2_isEmpty_0 ?_
  refine g_getf kc3 dX2_isEmpty_1 fl_X2_19 (by decide) hp rfl ?_
  refine g_if_ne (tgt := 11) dX2_isEmpty_4 (by decide) (fun h4 => ?_) (fun h4 => ?_)
  · skip
    refine g_iconst (v := 0) dX2_isEmpty_11 (by decide) ?_
    refine g_zret dX2_isEmpty_12 (by decide) ?_ (Nat.le_of_ble_eq_true rfl) (Nat.le_of_ble_eq_true rfl)
    first | exact ⟨by rw [decide_eq_true h4]; rfl, rfl⟩ | exact ⟨by rw [decide_eq_false h4]; rfl, rfl⟩
  · skip
    refine g_iconst (v := 1) dX2_isEmpty_7 (by decide) ?_
    refine g_goto (tgt := 12) dX2_isEmpty_8 (by decide) ?_
    refine g_zret dX2_isEmpty_12 (by decide) ?_ (Nat.le_of_ble_eq_true rfl) (Nat.le_of_ble_eq_true rfl)
    first | exact ⟨by rw [decide_eq_true h4]; rfl, rfl⟩ | exact ⟨by rw [decide_eq_false h4]; rfl, rfl⟩

abbrev rm_X2_has : Room := { frames := 0, cells := 0, slots := 0, locals := 0 }

set_option maxRecDepth 100000 in
theorem ct_has {G : Gx} {w : Wd} {p v : Nat} {cnt cop : Int32} {g : Nat → Int32} (hp : w p = some (ePg v cnt cop)) (hv : w v = some (eI G 8 g)) {l : Int32} : Ct G yX2_has kw_X2_has rm_X2_has [.ref p, .int l] w (PV (.int (bI (hasB cnt l))) w) := by
  refine ct_intro RX2 "has" (by decide +kernel) rfl rfl rfl (Nat.le_of_ble_eq_true rfl) [some (.ref p), some (.int l)] rfl (fun C => ?_)
  refine g_iload1 dX2_has_0 ?_
  refine g_if_lt (tgt := 25) dX2_has_1 (by decide) (fun h1 => ?_) (fun h1 => ?_)
  · skip
    refine g_iconst (v := 0) dX2_has_25 (by decide) ?_
    refine g_zret dX2_has_26 (by decide) ?_ (Nat.le_of_ble_eq_true rfl) (Nat.le_of_ble_eq_true rfl)
    first
      | exact ⟨by unfold hasB; rw [decide_eq_true h1]; rfl, rfl⟩
      | exact ⟨by unfold hasB; rw [decide_eq_false h1, decide_eq_true h9]; rfl, rfl⟩
      | exact ⟨by unfold hasB; rw [decide_eq_false h1, decide_eq_false h9, decide_eq_true h18]; rfl, rfl⟩
      | exact ⟨by unfold hasB; rw [decide_eq_false h1, decide_eq_false h9, decide_eq_false h18]; rfl, rfl⟩
  · skip
    refine g_iload1 dX2_has_4 ?_
    refine g_aload0 dX2_has_5 ?_
    refine g_getf kc3 dX2_has_6 fl_X2_19 (by decide) hp rfl ?_
    refine g_icmp_ge (tgt := 25) dX2_has_9 (by decide) (fun h9 => ?_) (fun h9 => ?_)
    · skip
      refine g_iconst (v := 0) dX2_has_25 (by decide) ?_
      refine g_zret dX2_has_26 (by decide) ?_ (Nat.le_of_ble_eq_true rfl) (Nat.le_of_ble_eq_true rfl)
      first
        | exact ⟨by unfold hasB; rw [decide_eq_true h1]; rfl, rfl⟩
        | exact ⟨by unfold hasB; rw [decide_eq_false h1, decide_eq_true h9]; rfl, rfl⟩
        | exact ⟨by unfold hasB; rw [decide_eq_false h1, decide_eq_false h9, decide_eq_true h18]; rfl, rfl⟩
        | exact ⟨by unfold hasB; rw [decide_eq_false h1, decide_eq_false h9, decide_eq_false h18]; rfl, rfl⟩
    · skip
      refine g_iload1 dX2_has_12 ?_
      refine g_aload0 dX2_has_13 ?_
      refine g_getf kc3 dX2_has_14 fl_X2_9 (by decide) hp rfl ?_
      refine g_alenI dX2_has_17 hv ?_
      refine g_icmp_ge (tgt := 25) dX2_has_18 (by decide) (fun h18 => ?_) (fun h18 => ?_)
      · skip
        refine g_iconst (v := 0) dX2_has_25 (by decide) ?_
        refine g_zret dX2_has_26 (by decide) ?_ (Nat.le_of_ble_eq_true rfl) (Nat.le_of_ble_eq_true rfl)
        first
          | exact ⟨by unfold hasB; rw [decide_eq_true h1]; rfl, rfl⟩
          | exact ⟨by unfold hasB; rw [decide_eq_false h1, decide_eq_true h9]; rfl, rfl⟩
          | exact ⟨by unfold hasB; rw [decide_eq_false h1, decide_eq_false h9, decide_eq_true h18]; rfl, rfl⟩
          | exact ⟨by unfold hasB; rw [decide_eq_false h1, decide_eq_false h9, decide_eq_false h18]; rfl, rfl⟩
      · skip
        refine g_iconst (v := 1) dX2_has_21 (by decide) ?_
        refine g_goto (tgt := 26) dX2_has_22 (by decide) ?_
        refine g_zret dX2_has_26 (by decide) ?_ (Nat.le_of_ble_eq_true rfl) (Nat.le_of_ble_eq_true rfl)
        first
          | exact ⟨by unfold hasB; rw [decide_eq_true h1]; rfl, rfl⟩
          | exact ⟨by unfold hasB; rw [decide_eq_false h1, decide_eq_true h9]; rfl, rfl⟩
          | exact ⟨by unfold hasB; rw [decide_eq_false h1, decide_eq_false h9, decide_eq_true h18]; rfl, rfl⟩
          | exact ⟨by unfold hasB; rw [decide_eq_false h1, decide_eq_false h9, decide_eq_false h18]; rfl, rfl⟩

abbrev rm_X2_valueAt : Room := { frames := 1, cells := 0, slots := 0, locals := 21 }

set_option maxRecDepth 100000 in
theorem ct_valueAt {G : Gx} {w : Wd} {p v : Nat} {cnt cop : Int32} {g : Nat → Int32} (hp : w p = some (ePg v cnt cop)) (hv : w v = some (eI G 8 g)) {l : Int32} : Ct G yX2_valueAt kw_X2_valueAt rm_X2_valueAt [.ref p, .int l] w (PV (.int (if hasB cnt l = true then g l.toNatClampNeg else -1)) w) := by
  refine ct_intro RX2 "valueAt" (by decide +kernel) rfl rfl rfl (Nat.le_of_ble_eq_true rfl) [some (.ref p), some (.int l)] rfl (fun C => ?_)
  refine g_aload0 dX2_valueAt_0 ?_
  refine g_iload1 dX2_valueAt_1 ?_
  refine g_callV1 kc3 (ct_has hp hv) md_X2_has dX2_valueAt_2 ml_X2_22 im_X2_has se_X2_has hp (RmOk.of (Nat.le_of_ble_eq_true rfl) (Nat.le_of_ble_eq_true rfl) (Nat.le_of_ble_eq_true rfl) (Nat.le_of_ble_eq_true rfl) (Nat.le_of_ble_eq_true rfl)) (kr_V ?_) kx_V
  refine g_if_eq (tgt := 17) dX2_valueAt_5 (by decide) (fun h5 => ?_) (fun h5 => ?_)
  · skip
    refine g_iconst (v := (-1)) dX2_valueAt_17 (by decide) ?_
    refine g_iret dX2_valueAt_18 ?_ (Nat.le_of_ble_eq_true rfl) (Nat.le_of_ble_eq_true rfl)
    first
      | exact ⟨by rw [if_pos (bI_n.mp h5)], rfl⟩
      | exact ⟨by rw [if_neg (by rw [bI_0.mp h5]; decide)], rfl⟩
  · skip
    have hh := hasB_t (bI_n.mp h5)
    have hin : vp_in l 8 := by
      obtain ⟨j, hj, rfl⟩ := nI_of hh.1
      exact vp_in_nI (idx_lt hj (by decide) hh.2.2) (by decide)
    refine g_aload0 dX2_valueAt_8 ?_
    refine g_getf kc3 dX2_valueAt_9 fl_X2_9 (by decide) hp rfl ?_
    refine g_iload1 dX2_valueAt_12 ?_
    refine g_iald dX2_valueAt_13 hv hin ?_
    refine g_goto (tgt := 18) dX2_valueAt_14 (by decide) ?_
    refine g_iret dX2_valueAt_18 ?_ (Nat.le_of_ble_eq_true rfl) (Nat.le_of_ble_eq_true rfl)
    first
      | exact ⟨by rw [if_pos (bI_n.mp h5)], rfl⟩
      | exact ⟨by rw [if_neg (by rw [bI_0.mp h5]; decide)], rfl⟩

abbrev rm_X2_put : Room := { frames := 0, cells := 0, slots := 0, locals := 0 }

set_option maxRecDepth 100000 in
theorem ct_put_no {G : Gx} {w : Wd} {p v : Nat} {x cop : Int32} {g : Nat → Int32} (hp : w p = some (ePg v (nI 8) cop)) (hv : w v = some (eI G 8 g)) : Ct G yX2_put kw_X2_put rm_X2_put [.ref p, .int x] w (PV (.int 0) w) := by
  refine ct_intro RX2 "put" (by decide +kernel) rfl rfl rfl (Nat.le_of_ble_eq_true rfl) [some (.ref p), some (.int x)] rfl (fun C => ?_)
  refine g_aload0 dX2_put_0 ?_
  refine g_getf kc3 dX2_put_1 fl_X2_19 (by decide) hp rfl ?_
  refine g_if_lt_f (tgt := 19) dX2_put_4 (by decide) (by decide) ?_
  refine g_aload0 dX2_put_7 ?_
  refine g_getf kc3 dX2_put_8 fl_X2_19 (by decide) hp rfl ?_
  refine g_aload0 dX2_put_11 ?_
  refine g_getf kc3 dX2_put_12 fl_X2_9 (by decide) hp rfl ?_
  refine g_alenI dX2_put_15 hv ?_
  refine g_icmp_lt_f (tgt := 21) dX2_put_16 (by decide) (by decide) ?_
  refine g_iconst (v := 0) dX2_put_19 (by decide) ?_
  refine g_zret dX2_put_20 (by decide) ?_ (Nat.le_of_ble_eq_true rfl) (Nat.le_of_ble_eq_true rfl)
  exact ⟨rfl, rfl⟩

set_option maxRecDepth 100000 in
theorem ct_put_ok {G : Gx} {w : Wd} {p v n : Nat} {x cop : Int32} {g : Nat → Int32} (hp : w p = some (ePg v (nI n) cop)) (hv : w v = some (eI G 8 g)) (hn : n < 8) (hb : (gH G).size ≤ p) (hb2 : (gH G).size ≤ v) : Ct G yX2_put kw_X2_put rm_X2_put [.ref p, .int x] w (PB (.int 1) (fun w' => w' = up (up w v (eI G 8 (upd g n x))) p (ePg v (nI (n + 1)) cop))) := by
  have hpv : p ≠ v := ne_of_cell hp hv (fun h => nomatch h)
  refine ct_intro RX2 "put" (by decide +kernel) rfl rfl rfl (Nat.le_of_ble_eq_true rfl) [some (.ref p), some (.int x)] rfl (fun C => ?_)
  refine g_aload0 dX2_put_0 ?_
  refine g_getf kc3 dX2_put_1 fl_X2_19 (by decide) hp rfl ?_
  refine g_if_lt_f (tgt := 19) dX2_put_4 (by decide) (nI_pos (by omega)) ?_
  refine g_aload0 dX2_put_7 ?_
  refine g_getf kc3 dX2_put_8 fl_X2_19 (by decide) hp rfl ?_
  refine g_aload0 dX2_put_11 ?_
  refine g_getf kc3 dX2_put_12 fl_X2_9 (by decide) hp rfl ?_
  refine g_alenI dX2_put_15 hv ?_
  refine g_icmp_lt_t (tgt := 21) dX2_put_16 (by decide) (nI_lt hn (by decide)) ?_
  refine g_aload0 dX2_put_21 ?_
  refine g_getf kc3 dX2_put_22 fl_X2_9 (by decide) hp rfl ?_
  refine g_aload0 dX2_put_25 ?_
  refine g_getf kc3 dX2_put_26 fl_X2_19 (by decide) hp rfl ?_
  refine g_iload1 dX2_put_29 ?_
  refine g_iast dX2_put_30 hv hb2 (vp_in_nI hn (by decide)) ?_
  rw [nI_clamp (by omega)]
  refine g_aload0 dX2_put_31 ?_
  refine g_dup dX2_put_32 rfl ?_
  refine g_getf kc3 dX2_put_33 fl_X2_19 (by decide) ((up_n hpv).trans hp) rfl ?_
  refine g_iconst (v := 1) dX2_put_36 (by decide) ?_
  refine g_iadd dX2_put_37 ?_
  rw [show nI n + 1 = nI (n + 1) from nI_1 n]
  refine g_putf (fs' := [.ref v, .int (nI (n + 1)), .int cop]) kc3 dX2_put_38 fl_X2_19 (by decide) rfl ((up_n hpv).trans hp) hb rfl rfl (Nat.le_of_ble_eq_true rfl) rfl ?_
  refine g_iconst (v := 1) dX2_put_41 (by decide) ?_
  refine g_zret dX2_put_42 (by decide) ?_ (Nat.le_of_ble_eq_true rfl) (Nat.le_of_ble_eq_true rfl)
  exact ⟨rfl, rfl⟩

abbrev rm_X2_hasLinesOf : Room := { frames := 2, cells := 0, slots := 0, locals := 42 }

theorem allB_no {f : Nat → Bool} {i n : Nat} (hi : i < n) (h : f i = false) : allB f n = false := allB_f (k := i + 1) (by show (allB f i && f i) = false; rw [h, Bool.and_false]) n hi
theorem allB_yes {f : Nat → Bool} : ∀ {n : Nat}, (∀ k, k < n → f k = true) → allB f n = true
  | 0, _ => rfl
  | n + 1, h => by
    show (allB f n && f n) = true
    rw [allB_yes (fun k hk => h k (by omega)), h n (Nat.lt_succ_self _)]; rfl
set_option maxRecDepth 100000 in
theorem lp_hasLines {G : Gx} {w : Wd} {p1 v1 n1 p2 v2 n2 : Nat} {c1 c2 : Int32} {g1 g2 : Nat → Int32} (hp1 : w p1 = some (ePg v1 (nI n1) c1)) (hv1 : w v1 = some (eI G 8 g1)) (hp2 : w p2 = some (ePg v2 (nI n2) c2)) (hv2 : w v2 = some (eI G 8 g2)) (hn1 : n1 ≤ 8) (hn2 : n2 ≤ 8) (he : n1 = n2) (C : Cx) : ∀ (M i : Nat), n1 - i < M → i ≤ n1 → (∀ k, k < i → g1 k = g2 k) →
    Go G rm_X2_hasLinesOf cX2_hasLinesOf RX2 (some .boolean, "hasLinesOf", []) C (QP G rm_X2_hasLinesOf (PV (.int (bI (allB (fun k => decide (g1 k = g2 k)) n1))) w) C) 15 [some (.ref p1), some (.ref p2), some (.int (nI i))] [] w 0 0 := by
  intro M
  induction M with
  | zero => intro i hM9; exact absurd hM9 (Nat.not_lt_zero _)
  | succ M ih =>
    intro i hi9 hi hall
    refine g_iload2 dX2_hasLinesOf_15 ?_
    refine g_aload0 dX2_hasLinesOf_16 ?_
    refine g_getf kc3 dX2_hasLinesOf_17 fl_X2_19 (by decide) hp1 rfl ?_
    refine g_icmp_ge (tgt := 44) dX2_hasLinesOf_20 (by decide) (fun h20 => ?_) (fun h20 => ?_)
    · skip
      refine g_iconst (v := 1) dX2_hasLinesOf_44 (by decide) ?_
      refine g_zret dX2_hasLinesOf_45 (by decide) ?_ (Nat.le_of_ble_eq_true rfl) (Nat.le_of_ble_eq_true rfl)
      exact ⟨by rw [allB_yes (fun k hk => decide_eq_true (hall k (by have := idx_ge (i := i) (n := n1) (by omega) (by omega) h20; omega)))]; rfl, rfl⟩
    · skip
      have hlt : i < n1 := idx_lt (by omega) (by omega) h20
      refine g_aload0 dX2_hasLinesOf_23 ?_
      refine g_iload2 dX2_hasLinesOf_24 ?_
      refine g_callV1 kc3 (ct_valueAt hp1 hv1) md_X2_valueAt dX2_hasLinesOf_25 ml_X2_26 im_X2_valueAt se_X2_valueAt hp1 (RmOk.of (Nat.le_of_ble_eq_true rfl) (Nat.le_of_ble_eq_true rfl) (Nat.le_of_ble_eq_true rfl) (Nat.le_of_ble_eq_true rfl) (Nat.le_of_ble_eq_true rfl)) (kr_V ?_) kx_V
      refine g_aload1 dX2_hasLinesOf_28 ?_
      refine g_iload2 dX2_hasLinesOf_29 ?_
      refine g_callV1 kc3 (ct_valueAt hp2 hv2) md_X2_valueAt dX2_hasLinesOf_30 ml_X2_26 im_X2_valueAt se_X2_valueAt hp2 (RmOk.of (Nat.le_of_ble_eq_true rfl) (Nat.le_of_ble_eq_true rfl) (Nat.le_of_ble_eq_true rfl) (Nat.le_of_ble_eq_true rfl) (Nat.le_of_ble_eq_true rfl)) (kr_V ?_) kx_V
      rw [if_pos (show hasB (nI n1) (nI i) = true by rw [hasB_n hn1 (by omega)]; exact decide_eq_true hlt), if_pos (show hasB (nI n2) (nI i) = true by rw [hasB_n hn2 (by omega)]; exact decide_eq_true (by omega)), nI_clamp (by omega)]
      refine g_icmp_eq (tgt := 38) dX2_hasLinesOf_33 (by decide) (fun h33 => ?_) (fun h33 => ?_)
      · skip
        refine g_iinc2 (v' := (nI (i + 1))) dX2_hasLinesOf_38 (nI_1 i) ?_
        refine g_goto (tgt := 15) dX2_hasLinesOf_41 (by decide) ?_
        exact ih (i + 1) (by omega) (by omega) (fun k hk => by rcases Nat.lt_succ_iff_lt_or_eq.mp hk with z | z; exact hall k z; rw [z]; exact h33)
      · skip
        refine g_iconst (v := 0) dX2_hasLinesOf_36 (by decide) ?_
        refine g_zret dX2_hasLinesOf_37 (by decide) ?_ (Nat.le_of_ble_eq_true rfl) (Nat.le_of_ble_eq_true rfl)
        exact ⟨by rw [allB_no hlt (decide_eq_false h33)]; rfl, rfl⟩

set_option maxRecDepth 100000 in
theorem ct_hasLines {G : Gx} {w : Wd} {p1 v1 n1 p2 v2 n2 : Nat} {c1 c2 : Int32} {g1 g2 : Nat → Int32} (hp1 : w p1 = some (ePg v1 (nI n1) c1)) (hv1 : w v1 = some (eI G 8 g1)) (hp2 : w p2 = some (ePg v2 (nI n2) c2)) (hv2 : w v2 = some (eI G 8 g2)) (hn1 : n1 ≤ 8) (hn2 : n2 ≤ 8) : Ct G yX2_hasLinesOf kw_X2_hasLinesOf rm_X2_hasLinesOf [.ref p1, .ref p2] w (PV (.int (bI (decide (nI n1 = nI n2) && allB (fun k => decide (g1 k = g2 k)) n1))) w) := by
  refine ct_intro RX2 "hasLinesOf" (by decide +kernel) rfl rfl rfl (Nat.le_of_ble_eq_true rfl) [some (.ref p1), some (.ref p2), none] rfl (fun C => ?_)
  refine g_aload0 dX2_hasLinesOf_0 ?_
  refine g_getf kc3 dX2_hasLinesOf_1 fl_X2_19 (by decide) hp1 rfl ?_
  refine g_aload1 dX2_hasLinesOf_4 ?_
  refine g_getf kc3 dX2_hasLinesOf_5 fl_X2_19 (by decide) hp2 rfl ?_
  refine g_icmp_eq (tgt := 13) dX2_hasLinesOf_8 (by decide) (fun h8 => ?_) (fun h8 => ?_)
  · skip
    refine g_iconst (v := 0) dX2_hasLinesOf_13 (by decide) ?_
    refine g_istore2 dX2_hasLinesOf_14 ?_
    rw [decide_eq_true h8, Bool.true_and]
    exact lp_hasLines hp1 hv1 hp2 hv2 hn1 hn2 ((nI_eq (by omega) (by omega)).mp h8) C (n1 + 1) 0 (by omega) (Nat.zero_le _) (fun k hk => absurd hk (Nat.not_lt_zero k))
  · skip
    refine g_iconst (v := 0) dX2_hasLinesOf_11 (by decide) ?_
    refine g_zret dX2_hasLinesOf_12 (by decide) ?_ (Nat.le_of_ble_eq_true rfl) (Nat.le_of_ble_eq_true rfl)
    exact ⟨by rw [decide_eq_false h8]; rfl, rfl⟩

def fitB (ac kd dy xa xk xd : Int32) : Bool := (decide (xa = -1) || decide (xa = ac)) && ((decide (xk = -1) || decide (xk = kd)) && !decide (dy < xd))
def seeC (lk : Bool) (f l ac gn : Int32) : Bool := decide (gn = 0) && (if ac = -1 then lk else (!decide (ac < f) && !decide (l < ac)))

abbrev rm_X0_fits : Room := { frames := 0, cells := 0, slots := 0, locals := 0 }

set_option maxRecDepth 100000 in
theorem ct_fits {G : Gx} {w : Wd} {d r ls : Nat} {fp ac kd ln gn dy xa xk xd : Int32} (hd : w d = some (eDc r fp ac kd ln gn)) (hr : w r = some (eRn ls dy)) : Ct G yX0_fits kw_X0_fits rm_X0_fits [.ref d, .int xa, .int xk, .int xd] w (PV (.int (bI (fitB ac kd dy xa xk xd))) w) := by
  refine ct_intro RX0 "fits" (by decide +kernel) rfl rfl rfl (Nat.le_of_ble_eq_true rfl) [some (.ref d), some (.int xa), some (.int xk), some (.int xd)] rfl (fun C => ?_)
  refine g_iload1 dX0_fits_0 ?_
  refine g_iconst (v := (-1)) dX0_fits_1 (by decide) ?_
  refine g_icmp_eq (tgt := 13) dX0_fits_2 (by decide) (fun h2 => ?_) (fun h2 => ?_)
  · skip
    refine g_iload2 dX0_fits_13 ?_
    refine g_iconst (v := (-1)) dX0_fits_14 (by decide) ?_
    refine g_icmp_eq (tgt := 26) dX0_fits_15 (by decide) (fun h15 => ?_) (fun h15 => ?_)
    · skip
      refine g_aload0 dX0_fits_26 ?_
      refine g_getf kc1 dX0_fits_27 fl_X0_9 (by decide) hd rfl ?_
      refine g_getf kc5 dX0_fits_30 fl_X0_25 (by decide) hr rfl ?_
      refine g_iload3 dX0_fits_33 ?_
      refine g_icmp_lt (tgt := 41) dX0_fits_34 (by decide) (fun h34 => ?_) (fun h34 => ?_)
      · skip
        refine g_iconst (v := 0) dX0_fits_41 (by decide) ?_
        refine g_zret dX0_fits_42 (by decide) ?_ (Nat.le_of_ble_eq_true rfl) (Nat.le_of_ble_eq_true rfl)
        first
          | exact ⟨by unfold fitB; rw [decide_eq_true h2, decide_eq_true h15, decide_eq_true h34]; rfl, rfl⟩
          | exact ⟨by unfold fitB; rw [decide_eq_true h2, decide_eq_true h15, decide_eq_false h34]; rfl, rfl⟩
          | exact ⟨by unfold fitB; rw [decide_eq_true h2, decide_eq_false h15, decide_eq_true h23, decide_eq_true h34]; rfl, rfl⟩
          | exact ⟨by unfold fitB; rw [decide_eq_true h2, decide_eq_false h15, decide_eq_true h23, decide_eq_false h34]; rfl, rfl⟩
          | exact ⟨by unfold fitB; rw [decide_eq_false h2, decide_eq_true h10, decide_eq_true h15, decide_eq_true h34]; rfl, rfl⟩
          | exact ⟨by unfold fitB; rw [decide_eq_false h2, decide_eq_true h10, decide_eq_true h15, decide_eq_false h34]; rfl, rfl⟩
          | exact ⟨by unfold fitB; rw [decide_eq_false h2, decide_eq_true h10, decide_eq_false h15, decide_eq_true h23, decide_eq_true h34]; rfl, rfl⟩
          | exact ⟨by unfold fitB; rw [decide_eq_false h2, decide_eq_true h10, decide_eq_false h15, decide_eq_true h23, decide_eq_false h34]; rfl, rfl⟩
          | exact ⟨by unfold fitB; rw [decide_eq_false h2, decide_eq_false h10]; rfl, rfl⟩
          | exact ⟨by unfold fitB; rw [decide_eq_true h2, decide_eq_false h15, decide_eq_false h23]; rfl, rfl⟩
          | exact ⟨by unfold fitB; rw [decide_eq_false h2, decide_eq_true h10, decide_eq_false h15, decide_eq_false h23]; rfl, rfl⟩
      · skip
        refine g_iconst (v := 1) dX0_fits_37 (by decide) ?_
        refine g_goto (tgt := 42) dX0_fits_38 (by decide) ?_
        refine g_zret dX0_fits_42 (by decide) ?_ (Nat.le_of_ble_eq_true rfl) (Nat.le_of_ble_eq_true rfl)
        first
          | exact ⟨by unfold fitB; rw [decide_eq_true h2, decide_eq_true h15, decide_eq_true h34]; rfl, rfl⟩
          | exact ⟨by unfold fitB; rw [decide_eq_true h2, decide_eq_true h15, decide_eq_false h34]; rfl, rfl⟩
          | exact ⟨by unfold fitB; rw [decide_eq_true h2, decide_eq_false h15, decide_eq_true h23, decide_eq_true h34]; rfl, rfl⟩
          | exact ⟨by unfold fitB; rw [decide_eq_true h2, decide_eq_false h15, decide_eq_true h23, decide_eq_false h34]; rfl, rfl⟩
          | exact ⟨by unfold fitB; rw [decide_eq_false h2, decide_eq_true h10, decide_eq_true h15, decide_eq_true h34]; rfl, rfl⟩
          | exact ⟨by unfold fitB; rw [decide_eq_false h2, decide_eq_true h10, decide_eq_true h15, decide_eq_false h34]; rfl, rfl⟩
          | exact ⟨by unfold fitB; rw [decide_eq_false h2, decide_eq_true h10, decide_eq_false h15, decide_eq_true h23, decide_eq_true h34]; rfl, rfl⟩
          | exact ⟨by unfold fitB; rw [decide_eq_false h2, decide_eq_true h10, decide_eq_false h15, decide_eq_true h23, decide_eq_false h34]; rfl, rfl⟩
          | exact ⟨by unfold fitB; rw [decide_eq_false h2, decide_eq_false h10]; rfl, rfl⟩
          | exact ⟨by unfold fitB; rw [decide_eq_true h2, decide_eq_false h15, decide_eq_false h23]; rfl, rfl⟩
          | exact ⟨by unfold fitB; rw [decide_eq_false h2, decide_eq_true h10, decide_eq_false h15, decide_eq_false h23]; rfl, rfl⟩
    · skip
      refine g_iload2 dX0_fits_18 ?_
      refine g_aload0 dX0_fits_19 ?_
      refine g_getf kc1 dX0_fits_20 fl_X0_22 (by decide) hd rfl ?_
      refine g_icmp_ne (tgt := 41) dX0_fits_23 (by decide) (fun h23 => ?_) (fun h23 => ?_)
      · skip
        refine g_iconst (v := 0) dX0_fits_41 (by decide) ?_
        refine g_zret dX0_fits_42 (by decide) ?_ (Nat.le_of_ble_eq_true rfl) (Nat.le_of_ble_eq_true rfl)
        first
          | exact ⟨by unfold fitB; rw [decide_eq_true h2, decide_eq_true h15, decide_eq_true h34]; rfl, rfl⟩
          | exact ⟨by unfold fitB; rw [decide_eq_true h2, decide_eq_true h15, decide_eq_false h34]; rfl, rfl⟩
          | exact ⟨by unfold fitB; rw [decide_eq_true h2, decide_eq_false h15, decide_eq_true h23, decide_eq_true h34]; rfl, rfl⟩
          | exact ⟨by unfold fitB; rw [decide_eq_true h2, decide_eq_false h15, decide_eq_true h23, decide_eq_false h34]; rfl, rfl⟩
          | exact ⟨by unfold fitB; rw [decide_eq_false h2, decide_eq_true h10, decide_eq_true h15, decide_eq_true h34]; rfl, rfl⟩
          | exact ⟨by unfold fitB; rw [decide_eq_false h2, decide_eq_true h10, decide_eq_true h15, decide_eq_false h34]; rfl, rfl⟩
          | exact ⟨by unfold fitB; rw [decide_eq_false h2, decide_eq_true h10, decide_eq_false h15, decide_eq_true h23, decide_eq_true h34]; rfl, rfl⟩
          | exact ⟨by unfold fitB; rw [decide_eq_false h2, decide_eq_true h10, decide_eq_false h15, decide_eq_true h23, decide_eq_false h34]; rfl, rfl⟩
          | exact ⟨by unfold fitB; rw [decide_eq_false h2, decide_eq_false h10]; rfl, rfl⟩
          | exact ⟨by unfold fitB; rw [decide_eq_true h2, decide_eq_false h15, decide_eq_false h23]; rfl, rfl⟩
          | exact ⟨by unfold fitB; rw [decide_eq_false h2, decide_eq_true h10, decide_eq_false h15, decide_eq_false h23]; rfl, rfl⟩
      · skip
        refine g_aload0 dX0_fits_26 ?_
        refine g_getf kc1 dX0_fits_27 fl_X0_9 (by decide) hd rfl ?_
        refine g_getf kc5 dX0_fits_30 fl_X0_25 (by decide) hr rfl ?_
        refine g_iload3 dX0_fits_33 ?_
        refine g_icmp_lt (tgt := 41) dX0_fits_34 (by decide) (fun h34 => ?_) (fun h34 => ?_)
        · skip
          refine g_iconst (v := 0) dX0_fits_41 (by decide) ?_
          refine g_zret dX0_fits_42 (by decide) ?_ (Nat.le_of_ble_eq_true rfl) (Nat.le_of_ble_eq_true rfl)
          first
            | exact ⟨by unfold fitB; rw [decide_eq_true h2, decide_eq_true h15, decide_eq_true h34]; rfl, rfl⟩
            | exact ⟨by unfold fitB; rw [decide_eq_true h2, decide_eq_true h15, decide_eq_false h34]; rfl, rfl⟩
            | exact ⟨by unfold fitB; rw [decide_eq_true h2, decide_eq_false h15, decide_eq_true h23, decide_eq_true h34]; rfl, rfl⟩
            | exact ⟨by unfold fitB; rw [decide_eq_true h2, decide_eq_false h15, decide_eq_true h23, decide_eq_false h34]; rfl, rfl⟩
            | exact ⟨by unfold fitB; rw [decide_eq_false h2, decide_eq_true h10, decide_eq_true h15, decide_eq_true h34]; rfl, rfl⟩
            | exact ⟨by unfold fitB; rw [decide_eq_false h2, decide_eq_true h10, decide_eq_true h15, decide_eq_false h34]; rfl, rfl⟩
            | exact ⟨by unfold fitB; rw [decide_eq_false h2, decide_eq_true h10, decide_eq_false h15, decide_eq_true h23, decide_eq_true h34]; rfl, rfl⟩
            | exact ⟨by unfold fitB; rw [decide_eq_false h2, decide_eq_true h10, decide_eq_false h15, decide_eq_true h23, decide_eq_false h34]; rfl, rfl⟩
            | exact ⟨by unfold fitB; rw [decide_eq_false h2, decide_eq_false h10]; rfl, rfl⟩
            | exact ⟨by unfold fitB; rw [decide_eq_true h2, decide_eq_false h15, decide_eq_false h23]; rfl, rfl⟩
            | exact ⟨by unfold fitB; rw [decide_eq_false h2, decide_eq_true h10, decide_eq_false h15, decide_eq_false h23]; rfl, rfl⟩
        · skip
          refine g_iconst (v := 1) dX0_fits_37 (by decide) ?_
          refine g_goto (tgt := 42) dX0_fits_38 (by decide) ?_
          refine g_zret dX0_fits_42 (by decide) ?_ (Nat.le_of_ble_eq_true rfl) (Nat.le_of_ble_eq_true rfl)
          first
            | exact ⟨by unfold fitB; rw [decide_eq_true h2, decide_eq_true h15, decide_eq_true h34]; rfl, rfl⟩
            | exact ⟨by unfold fitB; rw [decide_eq_true h2, decide_eq_true h15, decide_eq_false h34]; rfl, rfl⟩
            | exact ⟨by unfold fitB; rw [decide_eq_true h2, decide_eq_false h15, decide_eq_true h23, decide_eq_true h34]; rfl, rfl⟩
            | exact ⟨by unfold fitB; rw [decide_eq_true h2, decide_eq_false h15, decide_eq_true h23, decide_eq_false h34]; rfl, rfl⟩
            | exact ⟨by unfold fitB; rw [decide_eq_false h2, decide_eq_true h10, decide_eq_true h15, decide_eq_true h34]; rfl, rfl⟩
            | exact ⟨by unfold fitB; rw [decide_eq_false h2, decide_eq_true h10, decide_eq_true h15, decide_eq_false h34]; rfl, rfl⟩
            | exact ⟨by unfold fitB; rw [decide_eq_false h2, decide_eq_true h10, decide_eq_false h15, decide_eq_true h23, decide_eq_true h34]; rfl, rfl⟩
            | exact ⟨by unfold fitB; rw [decide_eq_false h2, decide_eq_true h10, decide_eq_false h15, decide_eq_true h23, decide_eq_false h34]; rfl, rfl⟩
            | exact ⟨by unfold fitB; rw [decide_eq_false h2, decide_eq_false h10]; rfl, rfl⟩
            | exact ⟨by unfold fitB; rw [decide_eq_true h2, decide_eq_false h15, decide_eq_false h23]; rfl, rfl⟩
            | exact ⟨by unfold fitB; rw [decide_eq_false h2, decide_eq_true h10, decide_eq_false h15, decide_eq_false h23]; rfl, rfl⟩
  · skip
    refine g_iload1 dX0_fits_5 ?_
    refine g_aload0 dX0_fits_6 ?_
    refine g_getf kc1 dX0_fits_7 fl_X0_19 (by decide) hd rfl ?_
    refine g_icmp_ne (tgt := 41) dX0_fits_10 (by decide) (fun h10 => ?_) (fun h10 => ?_)
    · skip
      refine g_iconst (v := 0) dX0_fits_41 (by decide) ?_
      refine g_zret dX0_fits_42 (by decide) ?_ (Nat.le_of_ble_eq_true rfl) (Nat.le_of_ble_eq_true rfl)
      first
        | exact ⟨by unfold fitB; rw [decide_eq_true h2, decide_eq_true h15, decide_eq_true h34]; rfl, rfl⟩
        | exact ⟨by unfold fitB; rw [decide_eq_true h2, decide_eq_true h15, decide_eq_false h34]; rfl, rfl⟩
        | exact ⟨by unfold fitB; rw [decide_eq_true h2, decide_eq_false h15, decide_eq_true h23, decide_eq_true h34]; rfl, rfl⟩
        | exact ⟨by unfold fitB; rw [decide_eq_true h2, decide_eq_false h15, decide_eq_true h23, decide_eq_false h34]; rfl, rfl⟩
        | exact ⟨by unfold fitB; rw [decide_eq_false h2, decide_eq_true h10, decide_eq_true h15, decide_eq_true h34]; rfl, rfl⟩
        | exact ⟨by unfold fitB; rw [decide_eq_false h2, decide_eq_true h10, decide_eq_true h15, decide_eq_false h34]; rfl, rfl⟩
        | exact ⟨by unfold fitB; rw [decide_eq_false h2, decide_eq_true h10, decide_eq_false h15, decide_eq_true h23, decide_eq_true h34]; rfl, rfl⟩
        | exact ⟨by unfold fitB; rw [decide_eq_false h2, decide_eq_true h10, decide_eq_false h15, decide_eq_true h23, decide_eq_false h34]; rfl, rfl⟩
        | exact ⟨by unfold fitB; rw [decide_eq_false h2, decide_eq_false h10]; rfl, rfl⟩
        | exact ⟨by unfold fitB; rw [decide_eq_true h2, decide_eq_false h15, decide_eq_false h23]; rfl, rfl⟩
        | exact ⟨by unfold fitB; rw [decide_eq_false h2, decide_eq_true h10, decide_eq_false h15, decide_eq_false h23]; rfl, rfl⟩
    · skip
      refine g_iload2 dX0_fits_13 ?_
      refine g_iconst (v := (-1)) dX0_fits_14 (by decide) ?_
      refine g_icmp_eq (tgt := 26) dX0_fits_15 (by decide) (fun h15 => ?_) (fun h15 => ?_)
      · skip
        refine g_aload0 dX0_fits_26 ?_
        refine g_getf kc1 dX0_fits_27 fl_X0_9 (by decide) hd rfl ?_
        refine g_getf kc5 dX0_fits_30 fl_X0_25 (by decide) hr rfl ?_
        refine g_iload3 dX0_fits_33 ?_
        refine g_icmp_lt (tgt := 41) dX0_fits_34 (by decide) (fun h34 => ?_) (fun h34 => ?_)
        · skip
          refine g_iconst (v := 0) dX0_fits_41 (by decide) ?_
          refine g_zret dX0_fits_42 (by decide) ?_ (Nat.le_of_ble_eq_true rfl) (Nat.le_of_ble_eq_true rfl)
          first
            | exact ⟨by unfold fitB; rw [decide_eq_true h2, decide_eq_true h15, decide_eq_true h34]; rfl, rfl⟩
            | exact ⟨by unfold fitB; rw [decide_eq_true h2, decide_eq_true h15, decide_eq_false h34]; rfl, rfl⟩
            | exact ⟨by unfold fitB; rw [decide_eq_true h2, decide_eq_false h15, decide_eq_true h23, decide_eq_true h34]; rfl, rfl⟩
            | exact ⟨by unfold fitB; rw [decide_eq_true h2, decide_eq_false h15, decide_eq_true h23, decide_eq_false h34]; rfl, rfl⟩
            | exact ⟨by unfold fitB; rw [decide_eq_false h2, decide_eq_true h10, decide_eq_true h15, decide_eq_true h34]; rfl, rfl⟩
            | exact ⟨by unfold fitB; rw [decide_eq_false h2, decide_eq_true h10, decide_eq_true h15, decide_eq_false h34]; rfl, rfl⟩
            | exact ⟨by unfold fitB; rw [decide_eq_false h2, decide_eq_true h10, decide_eq_false h15, decide_eq_true h23, decide_eq_true h34]; rfl, rfl⟩
            | exact ⟨by unfold fitB; rw [decide_eq_false h2, decide_eq_true h10, decide_eq_false h15, decide_eq_true h23, decide_eq_false h34]; rfl, rfl⟩
            | exact ⟨by unfold fitB; rw [decide_eq_false h2, decide_eq_false h10]; rfl, rfl⟩
            | exact ⟨by unfold fitB; rw [decide_eq_true h2, decide_eq_false h15, decide_eq_false h23]; rfl, rfl⟩
            | exact ⟨by unfold fitB; rw [decide_eq_false h2, decide_eq_true h10, decide_eq_false h15, decide_eq_false h23]; rfl, rfl⟩
        · skip
          refine g_iconst (v := 1) dX0_fits_37 (by decide) ?_
          refine g_goto (tgt := 42) dX0_fits_38 (by decide) ?_
          refine g_zret dX0_fits_42 (by decide) ?_ (Nat.le_of_ble_eq_true rfl) (Nat.le_of_ble_eq_true rfl)
          first
            | exact ⟨by unfold fitB; rw [decide_eq_true h2, decide_eq_true h15, decide_eq_true h34]; rfl, rfl⟩
            | exact ⟨by unfold fitB; rw [decide_eq_true h2, decide_eq_true h15, decide_eq_false h34]; rfl, rfl⟩
            | exact ⟨by unfold fitB; rw [decide_eq_true h2, decide_eq_false h15, decide_eq_true h23, decide_eq_true h34]; rfl, rfl⟩
            | exact ⟨by unfold fitB; rw [decide_eq_true h2, decide_eq_false h15, decide_eq_true h23, decide_eq_false h34]; rfl, rfl⟩
            | exact ⟨by unfold fitB; rw [decide_eq_false h2, decide_eq_true h10, decide_eq_true h15, decide_eq_true h34]; rfl, rfl⟩
            | exact ⟨by unfold fitB; rw [decide_eq_false h2, decide_eq_true h10, decide_eq_true h15, decide_eq_false h34]; rfl, rfl⟩
            | exact ⟨by unfold fitB; rw [decide_eq_false h2, decide_eq_true h10, decide_eq_false h15, decide_eq_true h23, decide_eq_true h34]; rfl, rfl⟩
            | exact ⟨by unfold fitB; rw [decide_eq_false h2, decide_eq_true h10, decide_eq_false h15, decide_eq_true h23, decide_eq_false h34]; rfl, rfl⟩
            | exact ⟨by unfold fitB; rw [decide_eq_false h2, decide_eq_false h10]; rfl, rfl⟩
            | exact ⟨by unfold fitB; rw [decide_eq_true h2, decide_eq_false h15, decide_eq_false h23]; rfl, rfl⟩
            | exact ⟨by unfold fitB; rw [decide_eq_false h2, decide_eq_true h10, decide_eq_false h15, decide_eq_false h23]; rfl, rfl⟩
      · skip
        refine g_iload2 dX0_fits_18 ?_
        refine g_aload0 dX0_fits_19 ?_
        refine g_getf kc1 dX0_fits_20 fl_X0_22 (by decide) hd rfl ?_
        refine g_icmp_ne (tgt := 41) dX0_fits_23 (by decide) (fun h23 => ?_) (fun h23 => ?_)
        · skip
          refine g_iconst (v := 0) dX0_fits_41 (by decide) ?_
          refine g_zret dX0_fits_42 (by decide) ?_ (Nat.le_of_ble_eq_true rfl) (Nat.le_of_ble_eq_true rfl)
          first
            | exact ⟨by unfold fitB; rw [decide_eq_true h2, decide_eq_true h15, decide_eq_true h34]; rfl, rfl⟩
            | exact ⟨by unfold fitB; rw [decide_eq_true h2, decide_eq_true h15, decide_eq_false h34]; rfl, rfl⟩
            | exact ⟨by unfold fitB; rw [decide_eq_true h2, decide_eq_false h15, decide_eq_true h23, decide_eq_true h34]; rfl, rfl⟩
            | exact ⟨by unfold fitB; rw [decide_eq_true h2, decide_eq_false h15, decide_eq_true h23, decide_eq_false h34]; rfl, rfl⟩
            | exact ⟨by unfold fitB; rw [decide_eq_false h2, decide_eq_true h10, decide_eq_true h15, decide_eq_true h34]; rfl, rfl⟩
            | exact ⟨by unfold fitB; rw [decide_eq_false h2, decide_eq_true h10, decide_eq_true h15, decide_eq_false h34]; rfl, rfl⟩
            | exact ⟨by unfold fitB; rw [decide_eq_false h2, decide_eq_true h10, decide_eq_false h15, decide_eq_true h23, decide_eq_true h34]; rfl, rfl⟩
            | exact ⟨by unfold fitB; rw [decide_eq_false h2, decide_eq_true h10, decide_eq_false h15, decide_eq_true h23, decide_eq_false h34]; rfl, rfl⟩
            | exact ⟨by unfold fitB; rw [decide_eq_false h2, decide_eq_false h10]; rfl, rfl⟩
            | exact ⟨by unfold fitB; rw [decide_eq_true h2, decide_eq_false h15, decide_eq_false h23]; rfl, rfl⟩
            | exact ⟨by unfold fitB; rw [decide_eq_false h2, decide_eq_true h10, decide_eq_false h15, decide_eq_false h23]; rfl, rfl⟩
        · skip
          refine g_aload0 dX0_fits_26 ?_
          refine g_getf kc1 dX0_fits_27 fl_X0_9 (by decide) hd rfl ?_
          refine g_getf kc5 dX0_fits_30 fl_X0_25 (by decide) hr rfl ?_
          refine g_iload3 dX0_fits_33 ?_
          refine g_icmp_lt (tgt := 41) dX0_fits_34 (by decide) (fun h34 => ?_) (fun h34 => ?_)
          · skip
            refine g_iconst (v := 0) dX0_fits_41 (by decide) ?_
            refine g_zret dX0_fits_42 (by decide) ?_ (Nat.le_of_ble_eq_true rfl) (Nat.le_of_ble_eq_true rfl)
            first
              | exact ⟨by unfold fitB; rw [decide_eq_true h2, decide_eq_true h15, decide_eq_true h34]; rfl, rfl⟩
              | exact ⟨by unfold fitB; rw [decide_eq_true h2, decide_eq_true h15, decide_eq_false h34]; rfl, rfl⟩
              | exact ⟨by unfold fitB; rw [decide_eq_true h2, decide_eq_false h15, decide_eq_true h23, decide_eq_true h34]; rfl, rfl⟩
              | exact ⟨by unfold fitB; rw [decide_eq_true h2, decide_eq_false h15, decide_eq_true h23, decide_eq_false h34]; rfl, rfl⟩
              | exact ⟨by unfold fitB; rw [decide_eq_false h2, decide_eq_true h10, decide_eq_true h15, decide_eq_true h34]; rfl, rfl⟩
              | exact ⟨by unfold fitB; rw [decide_eq_false h2, decide_eq_true h10, decide_eq_true h15, decide_eq_false h34]; rfl, rfl⟩
              | exact ⟨by unfold fitB; rw [decide_eq_false h2, decide_eq_true h10, decide_eq_false h15, decide_eq_true h23, decide_eq_true h34]; rfl, rfl⟩
              | exact ⟨by unfold fitB; rw [decide_eq_false h2, decide_eq_true h10, decide_eq_false h15, decide_eq_true h23, decide_eq_false h34]; rfl, rfl⟩
              | exact ⟨by unfold fitB; rw [decide_eq_false h2, decide_eq_false h10]; rfl, rfl⟩
              | exact ⟨by unfold fitB; rw [decide_eq_true h2, decide_eq_false h15, decide_eq_false h23]; rfl, rfl⟩
              | exact ⟨by unfold fitB; rw [decide_eq_false h2, decide_eq_true h10, decide_eq_false h15, decide_eq_false h23]; rfl, rfl⟩
          · skip
            refine g_iconst (v := 1) dX0_fits_37 (by decide) ?_
            refine g_goto (tgt := 42) dX0_fits_38 (by decide) ?_
            refine g_zret dX0_fits_42 (by decide) ?_ (Nat.le_of_ble_eq_true rfl) (Nat.le_of_ble_eq_true rfl)
            first
              | exact ⟨by unfold fitB; rw [decide_eq_true h2, decide_eq_true h15, decide_eq_true h34]; rfl, rfl⟩
              | exact ⟨by unfold fitB; rw [decide_eq_true h2, decide_eq_true h15, decide_eq_false h34]; rfl, rfl⟩
              | exact ⟨by unfold fitB; rw [decide_eq_true h2, decide_eq_false h15, decide_eq_true h23, decide_eq_true h34]; rfl, rfl⟩
              | exact ⟨by unfold fitB; rw [decide_eq_true h2, decide_eq_false h15, decide_eq_true h23, decide_eq_false h34]; rfl, rfl⟩
              | exact ⟨by unfold fitB; rw [decide_eq_false h2, decide_eq_true h10, decide_eq_true h15, decide_eq_true h34]; rfl, rfl⟩
              | exact ⟨by unfold fitB; rw [decide_eq_false h2, decide_eq_true h10, decide_eq_true h15, decide_eq_false h34]; rfl, rfl⟩
              | exact ⟨by unfold fitB; rw [decide_eq_false h2, decide_eq_true h10, decide_eq_false h15, decide_eq_true h23, decide_eq_true h34]; rfl, rfl⟩
              | exact ⟨by unfold fitB; rw [decide_eq_false h2, decide_eq_true h10, decide_eq_false h15, decide_eq_true h23, decide_eq_false h34]; rfl, rfl⟩
              | exact ⟨by unfold fitB; rw [decide_eq_false h2, decide_eq_false h10]; rfl, rfl⟩
              | exact ⟨by unfold fitB; rw [decide_eq_true h2, decide_eq_false h15, decide_eq_false h23]; rfl, rfl⟩
              | exact ⟨by unfold fitB; rw [decide_eq_false h2, decide_eq_true h10, decide_eq_false h15, decide_eq_false h23]; rfl, rfl⟩

abbrev rm_X3_sees : Room := { frames := 0, cells := 0, slots := 0, locals := 0 }

set_option maxRecDepth 100000 in
theorem ct_csees {G : Gx} {w : Wd} {q d r : Nat} {fp ac kd ln gn f l b : Int32} {lk : Bool} (hq : w q = some (eRd (bI lk) f l b)) (hd : w d = some (eDc r fp ac kd ln gn)) : Ct G yX3_sees kw_X3_sees rm_X3_sees [.ref q, .ref d] w (PV (.int (bI (seeC lk f l ac gn))) w) := by
  refine ct_intro RX3 "sees" (by decide +kernel) rfl rfl rfl (Nat.le_of_ble_eq_true rfl) [some (.ref q), some (.ref d)] rfl (fun C => ?_)
  refine g_aload1 dX3_sees_0 ?_
  refine g_getf kc1 dX3_sees_1 fl_X3_25 (by decide) hd rfl ?_
  refine g_if_eq (tgt := 9) dX3_sees_4 (by decide) (fun h4 => ?_) (fun h4 => ?_)
  · skip
    refine g_aload1 dX3_sees_9 ?_
    refine g_getf kc1 dX3_sees_10 fl_X3_30 (by decide) hd rfl ?_
    refine g_iconst (v := (-1)) dX3_sees_13 (by decide) ?_
    refine g_icmp_ne (tgt := 22) dX3_sees_14 (by decide) (fun h14 => ?_) (fun h14 => ?_)
    · skip
      refine g_aload1 dX3_sees_22 ?_
      refine g_getf kc1 dX3_sees_23 fl_X3_30 (by decide) hd rfl ?_
      refine g_aload0 dX3_sees_26 ?_
      refine g_getf kc4 dX3_sees_27 fl_X3_9 (by decide) hq rfl ?_
      refine g_icmp_lt (tgt := 48) dX3_sees_30 (by decide) (fun h30 => ?_) (fun h30 => ?_)
      · skip
        refine g_iconst (v := 0) dX3_sees_48 (by decide) ?_
        refine g_zret dX3_sees_49 (by decide) ?_ (Nat.le_of_ble_eq_true rfl) (Nat.le_of_ble_eq_true rfl)
        first
          | exact ⟨by unfold seeC; rw [decide_eq_true h4, if_neg h14, decide_eq_true h30]; rfl, rfl⟩
          | exact ⟨by unfold seeC; rw [decide_eq_true h4, if_neg h14, decide_eq_false h30, decide_eq_true h41]; rfl, rfl⟩
          | exact ⟨by unfold seeC; rw [decide_eq_true h4, if_neg h14, decide_eq_false h30, decide_eq_false h41]; rfl, rfl⟩
      · skip
        refine g_aload1 dX3_sees_33 ?_
        refine g_getf kc1 dX3_sees_34 fl_X3_30 (by decide) hd rfl ?_
        refine g_aload0 dX3_sees_37 ?_
        refine g_getf kc4 dX3_sees_38 fl_X3_15 (by decide) hq rfl ?_
        refine g_icmp_gt (tgt := 48) dX3_sees_41 (by decide) (fun h41 => ?_) (fun h41 => ?_)
        · skip
          refine g_iconst (v := 0) dX3_sees_48 (by decide) ?_
          refine g_zret dX3_sees_49 (by decide) ?_ (Nat.le_of_ble_eq_true rfl) (Nat.le_of_ble_eq_true rfl)
          first
            | exact ⟨by unfold seeC; rw [decide_eq_true h4, if_neg h14, decide_eq_true h30]; rfl, rfl⟩
            | exact ⟨by unfold seeC; rw [decide_eq_true h4, if_neg h14, decide_eq_false h30, decide_eq_true h41]; rfl, rfl⟩
            | exact ⟨by unfold seeC; rw [decide_eq_true h4, if_neg h14, decide_eq_false h30, decide_eq_false h41]; rfl, rfl⟩
        · skip
          refine g_iconst (v := 1) dX3_sees_44 (by decide) ?_
          refine g_goto (tgt := 49) dX3_sees_45 (by decide) ?_
          refine g_zret dX3_sees_49 (by decide) ?_ (Nat.le_of_ble_eq_true rfl) (Nat.le_of_ble_eq_true rfl)
          first
            | exact ⟨by unfold seeC; rw [decide_eq_true h4, if_neg h14, decide_eq_true h30]; rfl, rfl⟩
            | exact ⟨by unfold seeC; rw [decide_eq_true h4, if_neg h14, decide_eq_false h30, decide_eq_true h41]; rfl, rfl⟩
            | exact ⟨by unfold seeC; rw [decide_eq_true h4, if_neg h14, decide_eq_false h30, decide_eq_false h41]; rfl, rfl⟩
    · skip
      refine g_aload0 dX3_sees_17 ?_
      refine g_getf kc4 dX3_sees_18 fl_X3_21 (by decide) hq rfl ?_
      refine g_zret dX3_sees_21 (bI_nar _) ?_ (Nat.le_of_ble_eq_true rfl) (Nat.le_of_ble_eq_true rfl)
      exact ⟨by unfold seeC; rw [decide_eq_true h4, if_pos h14]; rfl, rfl⟩
  · skip
    refine g_iconst (v := 0) dX3_sees_7 (by decide) ?_
    refine g_zret dX3_sees_8 (by decide) ?_ (Nat.le_of_ble_eq_true rfl) (Nat.le_of_ble_eq_true rfl)
    exact ⟨by unfold seeC; rw [decide_eq_false h4]; rfl, rfl⟩

