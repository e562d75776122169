/-! The law's small methods. -/

abbrev rm_L_low : Room := { frames := 0, cells := 0, slots := 0, locals := 0 }

abbrev rm_L_cell : Room := { frames := 0, cells := 0, slots := 0, locals := 0 }

abbrev rm_L_lines : Room := { frames := 0, cells := 0, slots := 0, locals := 0 }

abbrev rm_L_isThere : Room := { frames := 0, cells := 0, slots := 0, locals := 0 }

abbrev rm_L_length : Room := { frames := 0, cells := 0, slots := 0, locals := 0 }

set_option maxRecDepth 100000 in
theorem ct_low {G : Gx} {w : Wd} {v : Int32} {m : Nat} (h0 : 0 < m) (hm : m < 2 ^ 31) : Ct G yL_low kw_L_low rm_L_low [.int v, .int (nI m)] w (PV (.int (nI (lowN v m))) w) := by
  refine ct_intro RL "low" (by decide +kernel) rfl rfl rfl (Nat.le_of_ble_eq_true rfl) [some (.int v), some (.int (nI m))] rfl (fun C => ?_)
  refine g_iload0 dL_low_0 ?_
  refine g_iconst (v := 1) dL_low_1 (by decide) ?_
  refine g_iushr dL_low_2 ?_
  refine g_iload1 dL_low_3 ?_
  refine g_irem dL_low_4 (nI_ne0 h0 hm) ?_
  refine g_iret dL_low_5 ?_ (Nat.le_of_ble_eq_true rfl) (Nat.le_of_ble_eq_true rfl)
  exact ⟨by rw [low_eq v h0 hm], rfl⟩

set_option maxRecDepth 100000 in
theorem ct_cell_t {G : Gx} {w : Wd} {b n k : Nat} {f : Nat → Int32} (hw : w b = some (eI G n f)) (hn : n < 2 ^ 31) (hk : k < n) : Ct G yL_cell kw_L_cell rm_L_cell [.ref b, .int (nI k)] w (PV (.int (f k)) w) := by
  refine ct_intro RL "cell" (by decide +kernel) rfl rfl rfl (Nat.le_of_ble_eq_true rfl) [some (.ref b), some (.int (nI k))] rfl (fun C => ?_)
  refine g_iload1 dL_cell_0 ?_
  refine g_aload0 dL_cell_1 ?_
  refine g_alenI dL_cell_2 hw ?_
  refine g_icmp_ge_f (tgt := 12) dL_cell_3 (by decide) (nI_ge hk hn) ?_
  refine g_aload0 dL_cell_6 ?_
  refine g_iload1 dL_cell_7 ?_
  refine g_iald dL_cell_8 hw (vp_in_nI hk hn) ?_
  rw [nI_clamp (by omega)]
  refine g_goto (tgt := 19) dL_cell_9 (by decide) ?_
  refine g_iret dL_cell_19 ?_ (Nat.le_of_ble_eq_true rfl) (Nat.le_of_ble_eq_true rfl)
  exact ⟨rfl, rfl⟩

set_option maxRecDepth 100000 in
theorem ct_cell_f {G : Gx} {w : Wd} {b n k : Nat} {f : Nat → Int32} (hw : w b = some (eI G n f)) (hk : n ≤ k) (hk2 : k < 1000) : Ct G yL_cell kw_L_cell rm_L_cell [.ref b, .int (nI k)] w (PV (.int (1205193187 * (nI k + 6))) w) := by
  refine ct_intro RL "cell" (by decide +kernel) rfl rfl rfl (Nat.le_of_ble_eq_true rfl) [some (.ref b), some (.int (nI k))] rfl (fun C => ?_)
  refine g_iload1 dL_cell_0 ?_
  refine g_aload0 dL_cell_1 ?_
  refine g_alenI dL_cell_2 hw ?_
  refine g_icmp_ge_t (tgt := 12) dL_cell_3 (by decide) (nI_le hk (by omega)) ?_
  refine g_ldcI dL_cell_12 kc_L_7 ?_
  refine g_iload1 dL_cell_14 ?_
  refine g_bipush (v := 6) dL_cell_15 (by decide) ?_
  refine g_iadd dL_cell_17 ?_
  refine g_imul dL_cell_18 ?_
  refine g_iret dL_cell_19 ?_ (Nat.le_of_ble_eq_true rfl) (Nat.le_of_ble_eq_true rfl)
  exact ⟨rfl, rfl⟩

theorem ct_cell {G : Gx} {w : Wd} {b n k : Nat} {f : Nat → Int32} (hw : w b = some (eI G n f)) (hn : n < 2 ^ 31) (hk2 : k < 1000) : ∃ v, Ct G yL_cell kw_L_cell rm_L_cell [.ref b, .int (nI k)] w (PV (.int v) w) := by
  by_cases h : k < n
  · exact ⟨_, ct_cell_t hw hn h⟩
  · exact ⟨_, ct_cell_f hw (by omega) hk2⟩

set_option maxRecDepth 100000 in
theorem ct_lines0 {G : Gx} {w : Wd} {x : Int64} : Ct G yL_lines kw_L_lines rm_L_lines [.long x] w (PV (.int (x &&& 15).toInt32) w) := by
  refine ct_introL RL "lines" (by decide +kernel) rfl rfl (Nat.le_of_ble_eq_true rfl) [some (.long x), none] (Nat.le_of_ble_eq_true rfl) (fun i v h => ?_) (fun C => ?_)
  · match i, h with
    | 0, h => cases h; exact List.mem_cons_self
    | 1, h => cases h
    | n + 2, h => cases h
  refine g_lload0 dL_lines_0 ?_
  refine g_ldc2 dL_lines_1 kl_L_71 ?_
  refine g_land dL_lines_4 ?_
  refine g_l2i dL_lines_5 ?_
  refine g_iret dL_lines_6 ?_ (Nat.le_of_ble_eq_true rfl) (Nat.le_of_ble_eq_true rfl)
  exact ⟨rfl, rfl⟩

theorem ct_lines {G : Gx} {w : Wd} {n a : Nat} {f : Nat → Int32} (hn : n ≤ 8) (h : vOk f a n) : Ct G yL_lines kw_L_lines rm_L_lines [.long (pgv n f a)] w (PV (.int (nI n)) w) := by
  have h1 := ct_lines0 (G := G) (w := w) (x := pgv n f a)
  rw [pgv_lines hn h] at h1
  exact h1

abbrev rm_L_at : Room := { frames := 1, cells := 0, slots := 0, locals := 21 }

set_option maxRecDepth 100000 in
theorem ct_at_t {G : Gx} {w : Wd} {n a l : Nat} {f : Nat → Int32} (hn : n ≤ 8) (h : vOk f a n) (hl : l < n) : Ct G yL_at kw_L_at rm_L_at [.long (pgv n f a), .int (nI l)] w (PV (.int (f (a + l))) w) := by
  refine ct_introL RL "at" (by decide +kernel) rfl rfl (Nat.le_of_ble_eq_true rfl) [some (.long (pgv n f a)), none, some (.int (nI l))] (Nat.le_of_ble_eq_true rfl) (fun i v h => ?_) (fun C => ?_)
  · match i, h with
    | 0, h => cases h; exact List.mem_cons_self
    | 1, h => cases h
    | 2, h => cases h; exact List.mem_cons_of_mem _ List.mem_cons_self
    | n + 3, h => cases h
  refine g_iload2 dL_at_0 ?_
  refine g_lload0 dL_at_1 ?_
  refine g_callS1 (ct_lines hn h) md_L_lines dL_at_2 ml_L_73 st_L_lines (RmOk.of (Nat.le_of_ble_eq_true rfl) (Nat.le_of_ble_eq_true rfl) (Nat.le_of_ble_eq_true rfl) (Nat.le_of_ble_eq_true rfl) (Nat.le_of_ble_eq_true rfl)) (kr_V ?_) kx_V
  refine g_icmp_ge_f (tgt := 24) dL_at_5 (by decide) (nI_ge hl (by omega)) ?_
  refine g_lload0 dL_at_8 ?_
  refine g_iconst (v := 4) dL_at_9 (by decide) ?_
  refine g_bipush (v := 7) dL_at_10 (by decide) ?_
  refine g_iload2 dL_at_12 ?_
  refine g_imul dL_at_13 ?_
  refine g_iadd dL_at_14 ?_
  rw [show (4 : Int32) + 7 * nI l = nI (4 + 7 * l) by rw [show (7 : Int32) = nI 7 from rfl, show (4 : Int32) = nI 4 from rfl, pk_mul, nI_add]]
  refine g_lshr dL_at_15 ?_
  refine g_ldc2 dL_at_16 kl_L_79 ?_
  refine g_land dL_at_19 ?_
  refine g_l2i dL_at_20 ?_
  refine g_goto (tgt := 25) dL_at_21 (by decide) ?_
  refine g_iret dL_at_25 ?_ (Nat.le_of_ble_eq_true rfl) (Nat.le_of_ble_eq_true rfl)
  exact ⟨by rw [pgv_at hn h hl], rfl⟩

set_option maxRecDepth 100000 in
theorem ct_at_f {G : Gx} {w : Wd} {n a l : Nat} {f : Nat → Int32} (hn : n ≤ 8) (h : vOk f a n) (hl : n ≤ l) (hl2 : l < 1000) : Ct G yL_at kw_L_at rm_L_at [.long (pgv n f a), .int (nI l)] w (PV (.int (-1)) w) := by
  refine ct_introL RL "at" (by decide +kernel) rfl rfl (Nat.le_of_ble_eq_true rfl) [some (.long (pgv n f a)), none, some (.int (nI l))] (Nat.le_of_ble_eq_true rfl) (fun i v h => ?_) (fun C => ?_)
  · match i, h with
    | 0, h => cases h; exact List.mem_cons_self
    | 1, h => cases h
    | 2, h => cases h; exact List.mem_cons_of_mem _ List.mem_cons_self
    | n + 3, h => cases h
  refine g_iload2 dL_at_0 ?_
  refine g_lload0 dL_at_1 ?_
  refine g_callS1 (ct_lines hn h) md_L_lines dL_at_2 ml_L_73 st_L_lines (RmOk.of (Nat.le_of_ble_eq_true rfl) (Nat.le_of_ble_eq_true rfl) (Nat.le_of_ble_eq_true rfl) (Nat.le_of_ble_eq_true rfl) (Nat.le_of_ble_eq_true rfl)) (kr_V ?_) kx_V
  refine g_icmp_ge_t (tgt := 24) dL_at_5 (by decide) (nI_le hl (by omega)) ?_
  refine g_iconst (v := (-1)) dL_at_24 (by decide) ?_
  refine g_iret dL_at_25 ?_ (Nat.le_of_ble_eq_true rfl) (Nat.le_of_ble_eq_true rfl)
  exact ⟨rfl, rfl⟩

theorem neg_le0 : ∀ n : Nat, n < 64 → - nI n ≤ 0 := by decide +kernel
theorem pos_0 {n : Nat} (h : 1 ≤ n) (h2 : n < 2 ^ 31) : ¬ nI n ≤ 0 := nI_nle h h2
theorem jd_ln {N : Nat → Nat} {A : Nat → Nat → Int32} {FI : Nat → Nat → Int32} {j : Nat} (hB : JB N) (h : jdR N A FI j) : ∃ ln, 1 ≤ ln ∧ ln < 60 ∧ A 19 j = nI ln ∧ (A 23 j = 0 ∧ FI 6 j = nI ln ∨ A 23 j = 1 ∧ FI 6 j = - nI ln) := by
  obtain ⟨ac, ki, fp, ru, ln, a1, a2, a3, a4, a5, a6, a7, a8, a9, a10, a11, a12⟩ := h
  have := hB.2.2.1
  exact ⟨ln, a4, by omega, a9, a12⟩

set_option maxRecDepth 100000 in
theorem ct_isThere_t {G : Gx} {am : Nat → Nat} {w0 w : Wd} {FJ : Nat → Nat → Int64} {FI : Nat → Nat → Int32} {N : Nat → Nat} {A : Nat → Nat → Int32} {j : Nat} {ln : Nat} (hM : LA G am w0 FJ FI w) (hj : j < 60) (h1 : 1 ≤ ln) (h2 : ln < 60) (e : FI 6 j = nI ln) : Ct G yL_isThere kw_L_isThere rm_L_isThere [.ref (am 6), .int (nI j)] w (PV (.int 1) w) := by
  refine ct_intro RL "isThere" (by decide +kernel) rfl rfl rfl (Nat.le_of_ble_eq_true rfl) [some (.ref (am 6)), some (.int (nI j))] rfl (fun C => ?_)
  refine g_aload0 dL_isThere_0 ?_
  refine g_iload1 dL_isThere_1 ?_
  refine g_jiald (k := 6) hM (by decide) (by decide) dL_isThere_2 (show _ < 60 from by omega) ?_
  rw [e]
  refine g_if_le_f (tgt := 10) dL_isThere_3 (by decide) (pos_0 h1 (by omega)) ?_
  refine g_iconst (v := 1) dL_isThere_6 (by decide) ?_
  refine g_goto (tgt := 11) dL_isThere_7 (by decide) ?_
  refine g_zret dL_isThere_11 (by decide) ?_ (Nat.le_of_ble_eq_true rfl) (Nat.le_of_ble_eq_true rfl)
  exact ⟨rfl, rfl⟩

set_option maxRecDepth 100000 in
theorem ct_isThere_f {G : Gx} {am : Nat → Nat} {w0 w : Wd} {FJ : Nat → Nat → Int64} {FI : Nat → Nat → Int32} {N : Nat → Nat} {A : Nat → Nat → Int32} {j : Nat} {ln : Nat} (hM : LA G am w0 FJ FI w) (hj : j < 60) (h1 : 1 ≤ ln) (h2 : ln < 60) (e : FI 6 j = - nI ln) : Ct G yL_isThere kw_L_isThere rm_L_isThere [.ref (am 6), .int (nI j)] w (PV (.int 0) w) := by
  refine ct_intro RL "isThere" (by decide +kernel) rfl rfl rfl (Nat.le_of_ble_eq_true rfl) [some (.ref (am 6)), some (.int (nI j))] rfl (fun C => ?_)
  refine g_aload0 dL_isThere_0 ?_
  refine g_iload1 dL_isThere_1 ?_
  refine g_jiald (k := 6) hM (by decide) (by decide) dL_isThere_2 (show _ < 60 from by omega) ?_
  rw [e]
  refine g_if_le_t (tgt := 10) dL_isThere_3 (by decide) (neg_le0 _ (by omega)) ?_
  refine g_iconst (v := 0) dL_isThere_10 (by decide) ?_
  refine g_zret dL_isThere_11 (by decide) ?_ (Nat.le_of_ble_eq_true rfl) (Nat.le_of_ble_eq_true rfl)
  exact ⟨rfl, rfl⟩

set_option maxRecDepth 100000 in
theorem ct_length_t {G : Gx} {am : Nat → Nat} {w0 w : Wd} {FJ : Nat → Nat → Int64} {FI : Nat → Nat → Int32} {N : Nat → Nat} {A : Nat → Nat → Int32} {j : Nat} {ln : Nat} (hM : LA G am w0 FJ FI w) (hj : j < 60) (h1 : 1 ≤ ln) (h2 : ln < 60) (e : FI 6 j = nI ln) : Ct G yL_length kw_L_length rm_L_length [.ref (am 6), .int (nI j)] w (PV (.int (nI ln)) w) := by
  refine ct_intro RL "length" (by decide +kernel) rfl rfl rfl (Nat.le_of_ble_eq_true rfl) [some (.ref (am 6)), some (.int (nI j))] rfl (fun C => ?_)
  refine g_aload0 dL_length_0 ?_
  refine g_iload1 dL_length_1 ?_
  refine g_jiald (k := 6) hM (by decide) (by decide) dL_length_2 (show _ < 60 from by omega) ?_
  rw [e]
  refine g_if_le_f (tgt := 12) dL_length_3 (by decide) (pos_0 h1 (by omega)) ?_
  refine g_aload0 dL_length_6 ?_
  refine g_iload1 dL_length_7 ?_
  refine g_jiald (k := 6) hM (by decide) (by decide) dL_length_8 (show _ < 60 from by omega) ?_
  rw [e]
  refine g_goto (tgt := 16) dL_length_9 (by decide) ?_
  refine g_iret dL_length_16 ?_ (Nat.le_of_ble_eq_true rfl) (Nat.le_of_ble_eq_true rfl)
  exact ⟨rfl, rfl⟩

set_option maxRecDepth 100000 in
theorem ct_length_f {G : Gx} {am : Nat → Nat} {w0 w : Wd} {FJ : Nat → Nat → Int64} {FI : Nat → Nat → Int32} {N : Nat → Nat} {A : Nat → Nat → Int32} {j : Nat} {ln : Nat} (hM : LA G am w0 FJ FI w) (hj : j < 60) (h1 : 1 ≤ ln) (h2 : ln < 60) (e : FI 6 j = - nI ln) : Ct G yL_length kw_L_length rm_L_length [.ref (am 6), .int (nI j)] w (PV (.int (nI ln)) w) := by
  refine ct_intro RL "length" (by decide +kernel) rfl rfl rfl (Nat.le_of_ble_eq_true rfl) [some (.ref (am 6)), some (.int (nI j))] rfl (fun C => ?_)
  refine g_aload0 dL_length_0 ?_
  refine g_iload1 dL_length_1 ?_
  refine g_jiald (k := 6) hM (by decide) (by decide) dL_length_2 (show _ < 60 from by omega) ?_
  rw [e]
  refine g_if_le_t (tgt := 12) dL_length_3 (by decide) (neg_le0 _ (by omega)) ?_
  refine g_aload0 dL_length_12 ?_
  refine g_iload1 dL_length_13 ?_
  refine g_jiald (k := 6) hM (by decide) (by decide) dL_length_14 (show _ < 60 from by omega) ?_
  rw [e]
  refine g_ineg dL_length_15 ?_
  refine g_iret dL_length_16 ?_ (Nat.le_of_ble_eq_true rfl) (Nat.le_of_ble_eq_true rfl)
  exact ⟨by rw [Int32.neg_neg], rfl⟩

theorem ct_isThere {G : Gx} {am : Nat → Nat} {w0 w : Wd} {FJ : Nat → Nat → Int64} {FI : Nat → Nat → Int32} {N : Nat → Nat} {A : Nat → Nat → Int32} {j : Nat} (hM : LA G am w0 FJ FI w) (hB : JB N) (hj : j < N 17) (hd : jdR N A FI j) : Ct G yL_isThere kw_L_isThere rm_L_isThere [.ref (am 6), .int (nI j)] w (PV (.int (bI (decide (A 23 j = 0)))) w) := by
  obtain ⟨ln, h1, h2, -, ⟨e1, e2⟩ | ⟨e1, e2⟩⟩ := jd_ln hB hd
  · rw [e1]; exact ct_isThere_t (N := N) (A := A) hM (by have := hB.2.2; omega) h1 h2 e2
  · rw [e1]; exact ct_isThere_f (N := N) (A := A) hM (by have := hB.2.2; omega) h1 h2 e2
theorem ct_length {G : Gx} {am : Nat → Nat} {w0 w : Wd} {FJ : Nat → Nat → Int64} {FI : Nat → Nat → Int32} {N : Nat → Nat} {A : Nat → Nat → Int32} {j : Nat} (hM : LA G am w0 FJ FI w) (hB : JB N) (hj : j < N 17) (hd : jdR N A FI j) : Ct G yL_length kw_L_length rm_L_length [.ref (am 6), .int (nI j)] w (PV (.int (A 19 j)) w) := by
  obtain ⟨ln, h1, h2, e, ⟨e1, e2⟩ | ⟨e1, e2⟩⟩ := jd_ln hB hd
  · rw [e]; exact ct_length_t (N := N) (A := A) hM (by have := hB.2.2; omega) h1 h2 e2
  · rw [e]; exact ct_length_f (N := N) (A := A) hM (by have := hB.2.2; omega) h1 h2 e2

abbrev rm_L_sees : Room := { frames := 1, cells := 0, slots := 0, locals := 21 }

set_option maxRecDepth 100000 in
theorem ct_sees_g {G : Gx} {am : Nat → Nat} {w0 w : Wd} {FJ : Nat → Nat → Int64} {FI : Nat → Nat → Int32} {N : Nat → Nat} {A : Nat → Nat → Int32} {j : Nat} {r : Nat} (hM : LA G am w0 FJ FI w) (hB : JB N) (hj : j < N 17) (hd : jdR N A FI j) (hr : r < 4) (hg : A 23 j = 1) : Ct G yL_sees kw_L_sees rm_L_sees [.ref (am 5), .ref (am 6), .ref (am 7), .int (nI r), .int (nI j)] w (PV (.int 0) w) := by
  obtain ⟨ac, ki, fp, ru, ln, a1, a2, a3, a4, a5, a6, a7, a8, a9, a10, a11, a12⟩ := id hd
  obtain ⟨b1, b2, b3, b4, b5, b6⟩ := hB
  obtain ⟨e1, e2, e3, e4⟩ := pd_d a1 a2 (show fp < 64 by omega) (show ru < 15 by omega)
  have hB : JB N := ⟨b1, b2, b3, b4, b5, b6⟩
  refine ct_intro RL "sees" (by decide +kernel) rfl rfl rfl (Nat.le_of_ble_eq_true rfl) [some (.ref (am 5)), some (.ref (am 6)), some (.ref (am 7)), some (.int (nI r)), some (.int (nI j)), none] rfl (fun C => ?_)
  refine g_aload0 dL_sees_0 ?_
  refine g_iload4 dL_sees_1 ?_
  refine g_jiald (k := 5) hM (by decide) (by decide) dL_sees_3 (show _ < 60 from by omega) ?_
  refine g_bipush (v := 127) dL_sees_4 (by decide) ?_
  refine g_iand dL_sees_6 ?_
  rw [a11, e1]
  refine g_iconst (v := 1) dL_sees_7 (by decide) ?_
  refine g_isub dL_sees_8 ?_
  refine g_istore5 dL_sees_9 ?_
  refine g_aload1 dL_sees_11 ?_
  refine g_iload4 dL_sees_12 ?_
  refine g_callS2 (ct_isThere hM hB hj hd) md_L_isThere dL_sees_14 ml_L_81 st_L_isThere (RmOk.of (Nat.le_of_ble_eq_true rfl) (Nat.le_of_ble_eq_true rfl) (Nat.le_of_ble_eq_true rfl) (Nat.le_of_ble_eq_true rfl) (Nat.le_of_ble_eq_true rfl)) (kr_V ?_) kx_V
  rw [hg]
  refine g_if_eq_t (tgt := 61) dL_sees_17 (by decide) (by decide) ?_
  refine g_iconst (v := 0) dL_sees_61 (by decide) ?_
  refine g_zret dL_sees_62 (by decide) ?_ (Nat.le_of_ble_eq_true rfl) (Nat.le_of_ble_eq_true rfl)
  exact ⟨rfl, rfl⟩

set_option maxRecDepth 100000 in
theorem ct_sees_0 {G : Gx} {am : Nat → Nat} {w0 w : Wd} {FJ : Nat → Nat → Int64} {FI : Nat → Nat → Int32} {N : Nat → Nat} {A : Nat → Nat → Int32} {j : Nat} {r : Nat} (hM : LA G am w0 FJ FI w) (hB : JB N) (hj : j < N 17) (hd : jdR N A FI j) (hr : r < 4) (hg : A 23 j = 0) (h0 : A 20 j = -1) : Ct G yL_sees kw_L_sees rm_L_sees [.ref (am 5), .ref (am 6), .ref (am 7), .int (nI r), .int (nI j)] w (PV (.int (bI (decide (r = 0)))) w) := by
  obtain ⟨ac, ki, fp, ru, ln, a1, a2, a3, a4, a5, a6, a7, a8, a9, a10, a11, a12⟩ := id hd
  obtain ⟨b1, b2, b3, b4, b5, b6⟩ := hB
  obtain ⟨e1, e2, e3, e4⟩ := pd_d a1 a2 (show fp < 64 by omega) (show ru < 15 by omega)
  have hB : JB N := ⟨b1, b2, b3, b4, b5, b6⟩
  refine ct_intro RL "sees" (by decide +kernel) rfl rfl rfl (Nat.le_of_ble_eq_true rfl) [some (.ref (am 5)), some (.ref (am 6)), some (.ref (am 7)), some (.int (nI r)), some (.int (nI j)), none] rfl (fun C => ?_)
  refine g_aload0 dL_sees_0 ?_
  refine g_iload4 dL_sees_1 ?_
  refine g_jiald (k := 5) hM (by decide) (by decide) dL_sees_3 (show _ < 60 from by omega) ?_
  refine g_bipush (v := 127) dL_sees_4 (by decide) ?_
  refine g_iand dL_sees_6 ?_
  rw [a11, e1]
  refine g_iconst (v := 1) dL_sees_7 (by decide) ?_
  refine g_isub dL_sees_8 ?_
  rw [← a6, h0]
  refine g_istore5 dL_sees_9 ?_
  refine g_aload1 dL_sees_11 ?_
  refine g_iload4 dL_sees_12 ?_
  refine g_callS2 (ct_isThere hM hB hj hd) md_L_isThere dL_sees_14 ml_L_81 st_L_isThere (RmOk.of (Nat.le_of_ble_eq_true rfl) (Nat.le_of_ble_eq_true rfl) (Nat.le_of_ble_eq_true rfl) (Nat.le_of_ble_eq_true rfl) (Nat.le_of_ble_eq_true rfl)) (kr_V ?_) kx_V
  rw [hg]
  refine g_if_eq_f (tgt := 61) dL_sees_17 (by decide) (by decide) ?_
  refine g_iload5 dL_sees_20 ?_
  refine g_if_ge_f (tgt := 32) dL_sees_22 (by decide) (by decide) ?_
  refine g_iload3 dL_sees_25 ?_
  refine g_if_ne (tgt := 61) dL_sees_26 (by decide) (fun h26 => ?_) (fun h26 => ?_)
  · skip
    refine g_iconst (v := 0) dL_sees_61 (by decide) ?_
    refine g_zret dL_sees_62 (by decide) ?_ (Nat.le_of_ble_eq_true rfl) (Nat.le_of_ble_eq_true rfl)
    first
      | exact ⟨by rw [decide_eq_false (fun z => h26 (by rw [z]; rfl))]; rfl, rfl⟩
      | exact ⟨by rw [decide_eq_true ((nI_eq (b := 0) (by omega) (by decide)).mp h26)]; rfl, rfl⟩
  · skip
    refine g_goto (tgt := 57) dL_sees_29 (by decide) ?_
    refine g_iconst (v := 1) dL_sees_57 (by decide) ?_
    refine g_goto (tgt := 62) dL_sees_58 (by decide) ?_
    refine g_zret dL_sees_62 (by decide) ?_ (Nat.le_of_ble_eq_true rfl) (Nat.le_of_ble_eq_true rfl)
    first
      | exact ⟨by rw [decide_eq_false (fun z => h26 (by rw [z]; rfl))]; rfl, rfl⟩
      | exact ⟨by rw [decide_eq_true ((nI_eq (b := 0) (by omega) (by decide)).mp h26)]; rfl, rfl⟩

set_option maxRecDepth 100000 in
theorem ct_sees_a {G : Gx} {am : Nat → Nat} {w0 w : Wd} {FJ : Nat → Nat → Int64} {FI : Nat → Nat → Int32} {N : Nat → Nat} {A : Nat → Nat → Int32} {j : Nat} {r : Nat} (hM : LA G am w0 FJ FI w) (hB : JB N) (hj : j < N 17) (hd : jdR N A FI j) (hr : r < 4) (hg : A 23 j = 0) {x f l b : Nat} (hx : x < 100) (h0 : A 20 j = nI x) (hf : f < 100) (hl : l < 100) (hb : b < 9) (ev : FI 7 r = nI (f + 128 * l + 16384 * b)) : Ct G yL_sees kw_L_sees rm_L_sees [.ref (am 5), .ref (am 6), .ref (am 7), .int (nI r), .int (nI j)] w (PV (.int (bI (inb (nI x) (nI f) (nI l)))) w) := by
  obtain ⟨ac, ki, fp, ru, ln, a1, a2, a3, a4, a5, a6, a7, a8, a9, a10, a11, a12⟩ := id hd
  obtain ⟨b1, b2, b3, b4, b5, b6⟩ := hB
  obtain ⟨e1, e2, e3, e4⟩ := pd_d a1 a2 (show fp < 64 by omega) (show ru < 15 by omega)
  have hB : JB N := ⟨b1, b2, b3, b4, b5, b6⟩
  refine ct_intro RL "sees" (by decide +kernel) rfl rfl rfl (Nat.le_of_ble_eq_true rfl) [some (.ref (am 5)), some (.ref (am 6)), some (.ref (am 7)), some (.int (nI r)), some (.int (nI j)), none] rfl (fun C => ?_)
  refine g_aload0 dL_sees_0 ?_
  refine g_iload4 dL_sees_1 ?_
  refine g_jiald (k := 5) hM (by decide) (by decide) dL_sees_3 (show _ < 60 from by omega) ?_
  refine g_bipush (v := 127) dL_sees_4 (by decide) ?_
  refine g_iand dL_sees_6 ?_
  rw [a11, e1]
  refine g_iconst (v := 1) dL_sees_7 (by decide) ?_
  refine g_isub dL_sees_8 ?_
  rw [← a6, h0]
  refine g_istore5 dL_sees_9 ?_
  refine g_aload1 dL_sees_11 ?_
  refine g_iload4 dL_sees_12 ?_
  refine g_callS2 (ct_isThere hM hB hj hd) md_L_isThere dL_sees_14 ml_L_81 st_L_isThere (RmOk.of (Nat.le_of_ble_eq_true rfl) (Nat.le_of_ble_eq_true rfl) (Nat.le_of_ble_eq_true rfl) (Nat.le_of_ble_eq_true rfl) (Nat.le_of_ble_eq_true rfl)) (kr_V ?_) kx_V
  rw [hg]
  refine g_if_eq_f (tgt := 61) dL_sees_17 (by decide) (by decide) ?_
  refine g_iload5 dL_sees_20 ?_
  refine g_if_ge_t (tgt := 32) dL_sees_22 (by decide) (nI_pos' (by omega)) ?_
  refine g_iload5 dL_sees_32 ?_
  refine g_aload2 dL_sees_34 ?_
  refine g_iload3 dL_sees_35 ?_
  refine g_jiald (k := 7) hM (by decide) (by decide) dL_sees_36 (show _ < 4 from by omega) ?_
  rw [ev]
  refine g_bipush (v := 127) dL_sees_37 (by decide) ?_
  refine g_iand dL_sees_39 ?_
  rw [(pd_v hf hl hb).1]
  refine g_icmp_lt (tgt := 61) dL_sees_40 (by decide) (fun h40 => ?_) (fun h40 => ?_)
  · skip
    refine g_iconst (v := 0) dL_sees_61 (by decide) ?_
    refine g_zret dL_sees_62 (by decide) ?_ (Nat.le_of_ble_eq_true rfl) (Nat.le_of_ble_eq_true rfl)
    first
      | exact ⟨by rw [inb_f.mpr (Or.inl h40)]; rfl, rfl⟩
      | exact ⟨by rw [inb_f.mpr (Or.inr (Int32.not_le.mpr h54))]; rfl, rfl⟩
      | exact ⟨by rw [inb_t.mpr ⟨h40, Int32.not_lt.mp h54⟩]; rfl, rfl⟩
  · skip
    refine g_iload5 dL_sees_43 ?_
    refine g_aload2 dL_sees_45 ?_
    refine g_iload3 dL_sees_46 ?_
    refine g_jiald (k := 7) hM (by decide) (by decide) dL_sees_47 (show _ < 4 from by omega) ?_
    rw [ev]
    refine g_bipush (v := 7) dL_sees_48 (by decide) ?_
    refine g_ishr dL_sees_50 ?_
    refine g_bipush (v := 127) dL_sees_51 (by decide) ?_
    refine g_iand dL_sees_53 ?_
    rw [(pd_v hf hl hb).2.1]
    refine g_icmp_gt (tgt := 61) dL_sees_54 (by decide) (fun h54 => ?_) (fun h54 => ?_)
    · skip
      refine g_iconst (v := 0) dL_sees_61 (by decide) ?_
      refine g_zret dL_sees_62 (by decide) ?_ (Nat.le_of_ble_eq_true rfl) (Nat.le_of_ble_eq_true rfl)
      first
        | exact ⟨by rw [inb_f.mpr (Or.inl h40)]; rfl, rfl⟩
        | exact ⟨by rw [inb_f.mpr (Or.inr (Int32.not_le.mpr h54))]; rfl, rfl⟩
        | exact ⟨by rw [inb_t.mpr ⟨h40, Int32.not_lt.mp h54⟩]; rfl, rfl⟩
    · skip
      refine g_iconst (v := 1) dL_sees_57 (by decide) ?_
      refine g_goto (tgt := 62) dL_sees_58 (by decide) ?_
      refine g_zret dL_sees_62 (by decide) ?_ (Nat.le_of_ble_eq_true rfl) (Nat.le_of_ble_eq_true rfl)
      first
        | exact ⟨by rw [inb_f.mpr (Or.inl h40)]; rfl, rfl⟩
        | exact ⟨by rw [inb_f.mpr (Or.inr (Int32.not_le.mpr h54))]; rfl, rfl⟩
        | exact ⟨by rw [inb_t.mpr ⟨h40, Int32.not_lt.mp h54⟩]; rfl, rfl⟩

theorem ct_sees {G : Gx} {am : Nat → Nat} {w0 w : Wd} {FJ : Nat → Nat → Int64} {FI : Nat → Nat → Int32} {N : Nat → Nat} {A : Nat → Nat → Int32} {j : Nat} {r : Nat} (hM : LA G am w0 FJ FI w) (hB : JB N) (hj : j < N 17) (hd : jdR N A FI j) (hr : r < 4) (hV : JV A FI) : Ct G yL_sees kw_L_sees rm_L_sees [.ref (am 5), .ref (am 6), .ref (am 7), .int (nI r), .int (nI j)] w (PV (.int (bI (seeb A r j))) w) := by
  obtain ⟨ac, ki, fp, ru, ln, a1, a2, a3, a4, a5, a6, a7, a8, a9, a10, a11, a12⟩ := id hd
  obtain ⟨f, l, b, c1, c2, c3, c4, c5, c6, c7⟩ := hV r hr
  unfold seeb
  rcases a12 with ⟨g, -⟩ | ⟨g, -⟩
  · rw [g, decide_eq_true (rfl : (0 : Int32) = 0), Bool.and_true]
    cases ac with
    | zero =>
      have h0 : A 20 j = -1 := a6.trans (by decide)
      rw [if_pos h0]
      have h9 := ct_sees_0 hM hB hj hd hr g h0
      rw [show decide (nI r = 0) = decide (r = 0) from decide_eq_decide.mpr ⟨fun z => (nI_eq (b := 0) (by omega) (by decide)).mp z, fun z => by rw [z]; rfl⟩]
      exact h9
    | succ x =>
      have h0 : A 20 j = nI x := a6.trans (nI_pred x)
      rw [if_neg (by rw [h0]; exact ne_m1 (by omega)), h0, c4, c5]
      exact ct_sees_a hM hB hj hd hr g (by omega) h0 c1 c2 c3 c7
  · rw [g, decide_eq_false (show ¬ (1 : Int32) = 0 by decide), Bool.and_false]
    exact ct_sees_g hM hB hj hd hr g

