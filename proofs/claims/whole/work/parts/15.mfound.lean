/-! The reference: reprint, found, read, clear, bundle. -/
theorem g_top {G : Gx} {R : Room} {cc : ByteArray} {own : String} {Y : Yx} {C : Cx} {Q : State → Prop} {pc : Nat} {L : List (Option Value)} {st : List Value} {w : Wd} {c k : Nat} {x y : Int32} (h : x = y) (h2 : Go G R cc own Y C Q pc L (.int y :: st) w c k) : Go G R cc own Y C Q pc L (.int x :: st) w c k := h ▸ h2
/-- c copies more of the pages from f + pg to f + i -/
def rpA (A : Nat → Nat → Int32) (f pg i : Nat) (c : Int32) : Nat → Nat → Int32 := fun j => if j = 12 then (fun q => if f + pg ≤ q ∧ q < f + i then A 12 q + c else A 12 q) else A j
theorem rpA_n {A : Nat → Nat → Int32} {f pg i j : Nat} {c : Int32} (h : j ≠ 12) : rpA A f pg i c j = A j := if_neg h
theorem rpA_0 {A : Nat → Nat → Int32} {f pg : Nat} {c : Int32} : rpA A f pg pg c = A := by
  funext j q
  unfold rpA
  by_cases h : j = 12
  · rw [if_pos h, h]
    show (if _ then _ else _) = _
    rw [if_neg (by omega)]
  · rw [if_neg h]
theorem rpA_s {A : Nat → Nat → Int32} {f pg i : Nat} {c : Int32} (hi : pg ≤ i) : updA (rpA A f pg i c) 12 (f + i) (rpA A f pg i c 12 (f + i) + c) = rpA A f pg (i + 1) c := by
  funext j q
  unfold updA
  by_cases h : j = 12
  · subst h
    rw [if_pos rfl]
    unfold upd rpA
    rw [if_pos rfl, if_pos rfl]
    show (if q = f + i then (if _ then _ else _) + c else (if _ then _ else _)) = (if _ then _ else _)
    by_cases hq : q = f + i
    · rw [if_pos hq, if_neg (by omega), if_pos (by omega), hq]
    · rw [if_neg hq]
      by_cases h2 : f + pg ≤ q ∧ q < f + i
      · rw [if_pos h2, if_pos (by omega)]
      · rw [if_neg h2, if_neg (by omega)]
  · rw [if_neg h, rpA_n h, rpA_n h]

abbrev rm_X6_reprint : Room := { frames := 3, cells := 0, slots := 0, locals := 65 }

set_option maxRecDepth 100000 in
theorem mt_reprint_a {G : Gx} {w w0 : Wd} {am : Nat → Nat} {th : Int32} {N : Nat → Nat} {A : Nat → Nat → Int32} (hM : Mz G am w0 (tI th N) A w) {r pg c : Int32} (ct : ∀ {w : Wd}, Mz G am w0 (tI th N) A w → Ct G yX6_isPage kw_X6_isPage rm_X6_isPage [.ref (am 0), .int r, .int pg] w (PV (.int (bI false)) w)) : Ct G yX6_reprint kw_X6_reprint rm_X6_reprint [.ref (am 0), .int r, .int pg, .int c] w (PB (.int (0)) (Mz G am w0 (tI 1 N) A)) := by
  refine ct_intro RX6 "reprint" (by decide +kernel) rfl rfl rfl (Nat.le_of_ble_eq_true rfl) [some (.ref (am 0)), some (.int r), some (.int pg), some (.int c), none] rfl (fun C => ?_)
  refine g_aload0 dX6_reprint_0 ?_
  refine g_aload0 dX6_reprint_1 ?_
  refine g_iload1 dX6_reprint_2 ?_
  refine g_iload2 dX6_reprint_3 ?_
  refine g_callV2 kc7 (ct hM) md_X6_isPage dX6_reprint_4 ml_X6_129 im_X6_isPage se_X6_isPage hM.1 (RmOk.of (Nat.le_of_ble_eq_true rfl) (Nat.le_of_ble_eq_true rfl) (Nat.le_of_ble_eq_true rfl) (Nat.le_of_ble_eq_true rfl) (Nat.le_of_ble_eq_true rfl)) (kr_V ?_) kx_V
  refine g_if_ne_f (tgt := 14) dX6_reprint_7 (by decide) rfl ?_
  refine g_iconst (v := 1) dX6_reprint_10 (by decide) ?_
  refine g_goto (tgt := 29) dX6_reprint_11 (by decide) ?_
  refine g_mput0 hM dX6_reprint_29 fl_X6_74 (fun w1 hM => ?_)
  refine g_aload0 dX6_reprint_32 ?_
  refine g_getf kc7 dX6_reprint_33 fl_X6_74 (by decide) hM.1 (show _ = some (Value.int (1)) from rfl) ?_
  refine g_if_le_f (tgt := 41) dX6_reprint_36 (by decide) (by decide) ?_
  refine g_iconst (v := 0) dX6_reprint_39 (by decide) ?_
  refine g_iret dX6_reprint_40 ?_ (Nat.le_of_ble_eq_true rfl) (Nat.le_of_ble_eq_true rfl)
  exact ⟨rfl, hM⟩

set_option maxRecDepth 100000 in
theorem mt_reprint_b {G : Gx} {w w0 : Wd} {am : Nat → Nat} {th : Int32} {N : Nat → Nat} {A : Nat → Nat → Int32} (hM : Mz G am w0 (tI th N) A w) {r pg : Nat} {c : Int32} (ct : ∀ {w : Wd}, Mz G am w0 (tI th N) A w → Ct G yX6_isPage kw_X6_isPage rm_X6_isPage [.ref (am 0), .int (nI r), .int (nI pg)] w (PV (.int (bI true)) w)) (h : inb c 1 9 = false) : Ct G yX6_reprint kw_X6_reprint rm_X6_reprint [.ref (am 0), .int (nI r), .int (nI pg), .int c] w (PB (.int (0)) (Mz G am w0 (tI 2 N) A)) := by
  refine ct_intro RX6 "reprint" (by decide +kernel) rfl rfl rfl (Nat.le_of_ble_eq_true rfl) [some (.ref (am 0)), some (.int (nI r)), some (.int (nI pg)), some (.int c), none] rfl (fun C => ?_)
  refine g_aload0 dX6_reprint_0 ?_
  refine g_aload0 dX6_reprint_1 ?_
  refine g_iload1 dX6_reprint_2 ?_
  refine g_iload2 dX6_reprint_3 ?_
  refine g_callV2 kc7 (ct hM) md_X6_isPage dX6_reprint_4 ml_X6_129 im_X6_isPage se_X6_isPage hM.1 (RmOk.of (Nat.le_of_ble_eq_true rfl) (Nat.le_of_ble_eq_true rfl) (Nat.le_of_ble_eq_true rfl) (Nat.le_of_ble_eq_true rfl) (Nat.le_of_ble_eq_true rfl)) (kr_V ?_) kx_V
  refine g_if_ne_t (tgt := 14) dX6_reprint_7 (by decide) (by decide) ?_
  refine g_iload3 dX6_reprint_14 ?_
  refine g_iconst (v := 1) dX6_reprint_15 (by decide) ?_
  refine g_bipush (v := 9) dX6_reprint_16 (by decide) ?_
  refine g_callS3 ct_in md_X6_in dX6_reprint_18 ml_X6_81 st_X6_in (RmOk.of (Nat.le_of_ble_eq_true rfl) (Nat.le_of_ble_eq_true rfl) (Nat.le_of_ble_eq_true rfl) (Nat.le_of_ble_eq_true rfl) (Nat.le_of_ble_eq_true rfl)) (kr_V ?_) kx_V
  refine g_if_eq_t (tgt := 28) dX6_reprint_21 (by decide) (bI_0.mpr h) ?_
  refine g_iconst (v := 2) dX6_reprint_28 (by decide) ?_
  refine g_mput0 hM dX6_reprint_29 fl_X6_74 (fun w1 hM => ?_)
  refine g_aload0 dX6_reprint_32 ?_
  refine g_getf kc7 dX6_reprint_33 fl_X6_74 (by decide) hM.1 (show _ = some (Value.int (2)) from rfl) ?_
  refine g_if_le_f (tgt := 41) dX6_reprint_36 (by decide) (by decide) ?_
  refine g_iconst (v := 0) dX6_reprint_39 (by decide) ?_
  refine g_iret dX6_reprint_40 ?_ (Nat.le_of_ble_eq_true rfl) (Nat.le_of_ble_eq_true rfl)
  exact ⟨rfl, hM⟩

set_option maxRecDepth 100000 in
theorem lp_reprint {G : Gx} {w0 : Wd} {am : Nat → Nat} {N : Nat → Nat} {A : Nat → Nat → Int32} {r pg c f n : Nat} (hr : r < 15) (hn : A 16 r = nI n) (hf : A 15 r = nI f) (hfn : f + n ≤ 120) (C : Cx) : ∀ (M i : Nat), n - i < M → ∀ (w : Wd), pg ≤ i → i ≤ n → Mz G am w0 (tI 0 N) (rpA A f pg i (nI c)) w →
    Go G rm_X6_reprint cX6_reprint RX6 ((Option.some FieldType.int), "reprint", []) C (QP G rm_X6_reprint (PB (.int (nI (c * (n - pg)))) (Mz G am w0 (tI 0 N) (rpA A f pg n (nI c)))) C) 44 [some (.ref (am 0)), some (.int (nI r)), some (.int (nI pg)), some (.int (nI c)), some (.int (nI i))] [] w 0 0 := by
  intro M
  induction M with
  | zero => intro i hM9; exact absurd hM9 (Nat.not_lt_zero _)
  | succ M ih =>
    intro i hi9 w hpi hi hM
    refine g_iload4 dX6_reprint_44 ?_
    refine g_aload0 dX6_reprint_46 ?_
    refine g_getf kc7 dX6_reprint_47 fl_X6_37 (by decide) hM.1 rfl ?_
    refine g_iload1 dX6_reprint_50 ?_
    refine g_miald (k := 16) (n := 15) hM rfl (by decide) (fun _ => rfl) dX6_reprint_51 (by omega) (by decide) ?_
    rw [rpA_n (by decide), hn]
    refine g_icmp_ge (tgt := 79) dX6_reprint_52 (by decide) (fun h52 => ?_) (fun h52 => ?_)
    · skip
      have hin : i = n := Nat.le_antisymm hi (idx_ge (by omega) (by omega) h52)
      rw [hin] at hM
      refine g_iload3 dX6_reprint_79 ?_
      refine g_aload0 dX6_reprint_80 ?_
      refine g_getf kc7 dX6_reprint_81 fl_X6_37 (by decide) hM.1 rfl ?_
      refine g_iload1 dX6_reprint_84 ?_
      refine g_miald (k := 16) (n := 15) hM rfl (by decide) (fun _ => rfl) dX6_reprint_85 (by omega) (by decide) ?_
      rw [rpA_n (by decide), hn]
      refine g_iload2 dX6_reprint_86 ?_
      refine g_isub dX6_reprint_87 ?_
      rw [pk_sub (by omega)]
      refine g_imul dX6_reprint_88 ?_
      rw [pk_mul]
      refine g_iret dX6_reprint_89 ?_ (Nat.le_of_ble_eq_true rfl) (Nat.le_of_ble_eq_true rfl)
      exact ⟨rfl, hM⟩
    · skip
      have hlt : i < n := idx_lt (by omega) (by omega) h52
      refine g_aload0 dX6_reprint_55 ?_
      refine g_getf kc7 dX6_reprint_56 fl_X6_28 (by decide) hM.1 rfl ?_
      refine g_aload0 dX6_reprint_59 ?_
      refine g_getf kc7 dX6_reprint_60 fl_X6_34 (by decide) hM.1 rfl ?_
      refine g_iload1 dX6_reprint_63 ?_
      refine g_miald (k := 15) (n := 15) hM rfl (by decide) (fun _ => rfl) dX6_reprint_64 (by omega) (by decide) ?_
      rw [rpA_n (by decide), hf]
      refine g_iload4 dX6_reprint_65 ?_
      refine g_iadd dX6_reprint_67 ?_
      rw [nI_add]
      refine g_dup2 dX6_reprint_68 rfl rfl ?_
      refine g_miald (k := 12) (n := 121) hM rfl (by decide) (fun _ => rfl) dX6_reprint_69 (by omega) (by decide) ?_
      refine g_iload3 dX6_reprint_70 ?_
      refine g_iadd dX6_reprint_71 ?_
      refine g_miast (k := 12) (n := 121) hM rfl (by decide) (fun _ => rfl) dX6_reprint_72 (by omega) (by decide) (fun w1 hM => ?_)
      rw [rpA_s hpi] at hM
      refine g_iinc4 (v' := (nI (i + 1))) dX6_reprint_73 (nI_1 i) ?_
      refine g_goto (tgt := 44) dX6_reprint_76 (by decide) ?_
      exact ih (i + 1) (by omega) _ (by omega) (by omega) hM

set_option maxRecDepth 100000 in
theorem mt_reprint_c {G : Gx} {w w0 : Wd} {am : Nat → Nat} {th : Int32} {N : Nat → Nat} {A : Nat → Nat → Int32} (hM : Mz G am w0 (tI th N) A w) {r pg c f n : Nat} (ct : ∀ {w : Wd}, Mz G am w0 (tI th N) A w → Ct G yX6_isPage kw_X6_isPage rm_X6_isPage [.ref (am 0), .int (nI r), .int (nI pg)] w (PV (.int (bI true)) w)) (h : inb (nI c) 1 9 = true) (hr : r < 15) (hn : A 16 r = nI n) (hf : A 15 r = nI f) (hfn : f + n ≤ 120) (hp : pg ≤ n) : Ct G yX6_reprint kw_X6_reprint rm_X6_reprint [.ref (am 0), .int (nI r), .int (nI pg), .int (nI c)] w (PB (.int (nI (c * (n - pg)))) (Mz G am w0 (tI 0 N) (rpA A f pg n (nI c)))) := by
  refine ct_intro RX6 "reprint" (by decide +kernel) rfl rfl rfl (Nat.le_of_ble_eq_true rfl) [some (.ref (am 0)), some (.int (nI r)), some (.int (nI pg)), some (.int (nI c)), none] rfl (fun C => ?_)
  refine g_aload0 dX6_reprint_0 ?_
  refine g_aload0 dX6_reprint_1 ?_
  refine g_iload1 dX6_reprint_2 ?_
  refine g_iload2 dX6_reprint_3 ?_
  refine g_callV2 kc7 (ct hM) md_X6_isPage dX6_reprint_4 ml_X6_129 im_X6_isPage se_X6_isPage hM.1 (RmOk.of (Nat.le_of_ble_eq_true rfl) (Nat.le_of_ble_eq_true rfl) (Nat.le_of_ble_eq_true rfl) (Nat.le_of_ble_eq_true rfl) (Nat.le_of_ble_eq_true rfl)) (kr_V ?_) kx_V
  refine g_if_ne_t (tgt := 14) dX6_reprint_7 (by decide) (by decide) ?_
  refine g_iload3 dX6_reprint_14 ?_
  refine g_iconst (v := 1) dX6_reprint_15 (by decide) ?_
  refine g_bipush (v := 9) dX6_reprint_16 (by decide) ?_
  refine g_callS3 ct_in md_X6_in dX6_reprint_18 ml_X6_81 st_X6_in (RmOk.of (Nat.le_of_ble_eq_true rfl) (Nat.le_of_ble_eq_true rfl) (Nat.le_of_ble_eq_true rfl) (Nat.le_of_ble_eq_true rfl) (Nat.le_of_ble_eq_true rfl)) (kr_V ?_) kx_V
  refine g_if_eq_f (tgt := 28) dX6_reprint_21 (by decide) (bI_n.mpr h) ?_
  refine g_iconst (v := 0) dX6_reprint_24 (by decide) ?_
  refine g_goto (tgt := 29) dX6_reprint_25 (by decide) ?_
  refine g_mput0 hM dX6_reprint_29 fl_X6_74 (fun w1 hM => ?_)
  refine g_aload0 dX6_reprint_32 ?_
  refine g_getf kc7 dX6_reprint_33 fl_X6_74 (by decide) hM.1 (show _ = some (Value.int (0)) from rfl) ?_
  refine g_if_le_t (tgt := 41) dX6_reprint_36 (by decide) (by decide) ?_
  refine g_iload2 dX6_reprint_41 ?_
  refine g_istore4 dX6_reprint_42 ?_
  exact lp_reprint hr hn hf hfn C (n - pg + 1) pg (by omega) _ (Nat.le_refl _) hp (hM.to rfl rpA_0.symm)

/-- whether the reader finds the document -/
def fdP (A : Nat → Nat → Int32) (r : Nat) (ac ki dy : Int32) (d : Nat) : Bool := seeb A r d && ((decide (ac = -1) || decide (A 20 d = ac)) && ((decide (ki = -1) || decide (A 21 d = ki)) && !decide (A 22 d < dy)))
/-- the one of the last c documents of nd that comes behind b others and has the index idx -/
def fC (P : Nat → Bool) (idx : Int32) (nd : Nat) : Nat → Nat → Int32
  | 0, _ => -1
  | c + 1, b => if P (nd - (c + 1)) = true then (if nI b = idx then nI (nd - (c + 1)) else fC P idx nd c (b + 1)) else fC P idx nd c b

abbrev rm_X6_found : Room := { frames := 2, cells := 0, slots := 0, locals := 45 }

set_option maxRecDepth 100000 in
theorem mt_found_a1 {G : Gx} {w w0 : Wd} {am : Nat → Nat} {th : Int32} {N : Nat → Nat} {A : Nat → Nat → Int32} (hM : Mz G am w0 (tI th N) A w) {r ac ki dy ix : Int32}  (h : inb r 0 3 = false) : Ct G yX6_found kw_X6_found rm_X6_found [.ref (am 0), .int r, .int ac, .int ki, .int dy, .int ix] w (PB (.int (0)) (Mz G am w0 (tI 1 N) A)) := by
  refine ct_intro RX6 "found" (by decide +kernel) rfl rfl rfl (Nat.le_of_ble_eq_true rfl) [some (.ref (am 0)), some (.int r), some (.int ac), some (.int ki), some (.int dy), some (.int ix), none, none, none, none, none] rfl (fun C => ?_)
  refine g_iload1 dX6_found_0 ?_
  refine g_callS1 ct_isReader md_X6_isReader dX6_found_1 ml_X6_135 st_X6_isReader (RmOk.of (Nat.le_of_ble_eq_true rfl) (Nat.le_of_ble_eq_true rfl) (Nat.le_of_ble_eq_true rfl) (Nat.le_of_ble_eq_true rfl) (Nat.le_of_ble_eq_true rfl)) (kr_V ?_) kx_V
  refine g_if_eq_t (tgt := 42) dX6_found_4 (by decide) (bI_0.mpr h) ?_
  refine g_iconst (v := 0) dX6_found_42 (by decide) ?_
  refine g_istore6 dX6_found_43 ?_
  refine g_aload0 dX6_found_45 ?_
  refine g_iload6 dX6_found_46 ?_
  refine g_if_eq_t (tgt := 55) dX6_found_48 (by decide) (by decide) ?_
  refine g_iconst (v := 1) dX6_found_55 (by decide) ?_
  refine g_mput0 hM dX6_found_56 fl_X6_74 (fun w1 hM => ?_)
  refine g_aload0 dX6_found_59 ?_
  refine g_getf kc7 dX6_found_60 fl_X6_74 (by decide) hM.1 (show _ = some (Value.int (1)) from rfl) ?_
  refine g_if_le_f (tgt := 68) dX6_found_63 (by decide) (by decide) ?_
  refine g_iconst (v := 0) dX6_found_66 (by decide) ?_
  refine g_iret dX6_found_67 ?_ (Nat.le_of_ble_eq_true rfl) (Nat.le_of_ble_eq_true rfl)
  exact ⟨rfl, hM⟩

set_option maxRecDepth 100000 in
theorem mt_found_a2 {G : Gx} {w w0 : Wd} {am : Nat → Nat} {th : Int32} {N : Nat → Nat} {A : Nat → Nat → Int32} (hM : Mz G am w0 (tI th N) A w) {r ac ki dy ix : Int32} (h0 : inb r 0 3 = true) (h : inb ac (-1) 99 = false) : Ct G yX6_found kw_X6_found rm_X6_found [.ref (am 0), .int r, .int ac, .int ki, .int dy, .int ix] w (PB (.int (0)) (Mz G am w0 (tI 1 N) A)) := by
  refine ct_intro RX6 "found" (by decide +kernel) rfl rfl rfl (Nat.le_of_ble_eq_true rfl) [some (.ref (am 0)), some (.int r), some (.int ac), some (.int ki), some (.int dy), some (.int ix), none, none, none, none, none] rfl (fun C => ?_)
  refine g_iload1 dX6_found_0 ?_
  refine g_callS1 ct_isReader md_X6_isReader dX6_found_1 ml_X6_135 st_X6_isReader (RmOk.of (Nat.le_of_ble_eq_true rfl) (Nat.le_of_ble_eq_true rfl) (Nat.le_of_ble_eq_true rfl) (Nat.le_of_ble_eq_true rfl) (Nat.le_of_ble_eq_true rfl)) (kr_V ?_) kx_V
  refine g_if_eq_f (tgt := 42) dX6_found_4 (by decide) (bI_n.mpr h0) ?_
  refine g_iload2 dX6_found_7 ?_
  refine g_iconst (v := (-1)) dX6_found_8 (by decide) ?_
  refine g_bipush (v := 99) dX6_found_9 (by decide) ?_
  refine g_callS3 ct_in md_X6_in dX6_found_11 ml_X6_81 st_X6_in (RmOk.of (Nat.le_of_ble_eq_true rfl) (Nat.le_of_ble_eq_true rfl) (Nat.le_of_ble_eq_true rfl) (Nat.le_of_ble_eq_true rfl) (Nat.le_of_ble_eq_true rfl)) (kr_V ?_) kx_V
  refine g_if_eq_t (tgt := 42) dX6_found_14 (by decide) (bI_0.mpr h) ?_
  refine g_iconst (v := 0) dX6_found_42 (by decide) ?_
  refine g_istore6 dX6_found_43 ?_
  refine g_aload0 dX6_found_45 ?_
  refine g_iload6 dX6_found_46 ?_
  refine g_if_eq_t (tgt := 55) dX6_found_48 (by decide) (by decide) ?_
  refine g_iconst (v := 1) dX6_found_55 (by decide) ?_
  refine g_mput0 hM dX6_found_56 fl_X6_74 (fun w1 hM => ?_)
  refine g_aload0 dX6_found_59 ?_
  refine g_getf kc7 dX6_found_60 fl_X6_74 (by decide) hM.1 (show _ = some (Value.int (1)) from rfl) ?_
  refine g_if_le_f (tgt := 68) dX6_found_63 (by decide) (by decide) ?_
  refine g_iconst (v := 0) dX6_found_66 (by decide) ?_
  refine g_iret dX6_found_67 ?_ (Nat.le_of_ble_eq_true rfl) (Nat.le_of_ble_eq_true rfl)
  exact ⟨rfl, hM⟩

set_option maxRecDepth 100000 in
theorem mt_found_a3 {G : Gx} {w w0 : Wd} {am : Nat → Nat} {th : Int32} {N : Nat → Nat} {A : Nat → Nat → Int32} (hM : Mz G am w0 (tI th N) A w) {r ac ki dy ix : Int32} (h0 : inb r 0 3 = true) (h1 : inb ac (-1) 99 = true) (h : inb ki (-1) 3 = false) : Ct G yX6_found kw_X6_found rm_X6_found [.ref (am 0), .int r, .int ac, .int ki, .int dy, .int ix] w (PB (.int (0)) (Mz G am w0 (tI 1 N) A)) := by
  refine ct_intro RX6 "found" (by decide +kernel) rfl rfl rfl (Nat.le_of_ble_eq_true rfl) [some (.ref (am 0)), some (.int r), some (.int ac), some (.int ki), some (.int dy), some (.int ix), none, none, none, none, none] rfl (fun C => ?_)
  refine g_iload1 dX6_found_0 ?_
  refine g_callS1 ct_isReader md_X6_isReader dX6_found_1 ml_X6_135 st_X6_isReader (RmOk.of (Nat.le_of_ble_eq_true rfl) (Nat.le_of_ble_eq_true rfl) (Nat.le_of_ble_eq_true rfl) (Nat.le_of_ble_eq_true rfl) (Nat.le_of_ble_eq_true rfl)) (kr_V ?_) kx_V
  refine g_if_eq_f (tgt := 42) dX6_found_4 (by decide) (bI_n.mpr h0) ?_
  refine g_iload2 dX6_found_7 ?_
  refine g_iconst (v := (-1)) dX6_found_8 (by decide) ?_
  refine g_bipush (v := 99) dX6_found_9 (by decide) ?_
  refine g_callS3 ct_in md_X6_in dX6_found_11 ml_X6_81 st_X6_in (RmOk.of (Nat.le_of_ble_eq_true rfl) (Nat.le_of_ble_eq_true rfl) (Nat.le_of_ble_eq_true rfl) (Nat.le_of_ble_eq_true rfl) (Nat.le_of_ble_eq_true rfl)) (kr_V ?_) kx_V
  refine g_if_eq_f (tgt := 42) dX6_found_14 (by decide) (bI_n.mpr h1) ?_
  refine g_iload3 dX6_found_17 ?_
  refine g_iconst (v := (-1)) dX6_found_18 (by decide) ?_
  refine g_iconst (v := 3) dX6_found_19 (by decide) ?_
  refine g_callS3 ct_in md_X6_in dX6_found_20 ml_X6_81 st_X6_in (RmOk.of (Nat.le_of_ble_eq_true rfl) (Nat.le_of_ble_eq_true rfl) (Nat.le_of_ble_eq_true rfl) (Nat.le_of_ble_eq_true rfl) (Nat.le_of_ble_eq_true rfl)) (kr_V ?_) kx_V
  refine g_if_eq_t (tgt := 42) dX6_found_23 (by decide) (bI_0.mpr h) ?_
  refine g_iconst (v := 0) dX6_found_42 (by decide) ?_
  refine g_istore6 dX6_found_43 ?_
  refine g_aload0 dX6_found_45 ?_
  refine g_iload6 dX6_found_46 ?_
  refine g_if_eq_t (tgt := 55) dX6_found_48 (by decide) (by decide) ?_
  refine g_iconst (v := 1) dX6_found_55 (by decide) ?_
  refine g_mput0 hM dX6_found_56 fl_X6_74 (fun w1 hM => ?_)
  refine g_aload0 dX6_found_59 ?_
  refine g_getf kc7 dX6_found_60 fl_X6_74 (by decide) hM.1 (show _ = some (Value.int (1)) from rfl) ?_
  refine g_if_le_f (tgt := 68) dX6_found_63 (by decide) (by decide) ?_
  refine g_iconst (v := 0) dX6_found_66 (by decide) ?_
  refine g_iret dX6_found_67 ?_ (Nat.le_of_ble_eq_true rfl) (Nat.le_of_ble_eq_true rfl)
  exact ⟨rfl, hM⟩

set_option maxRecDepth 100000 in
theorem mt_found_a4 {G : Gx} {w w0 : Wd} {am : Nat → Nat} {th : Int32} {N : Nat → Nat} {A : Nat → Nat → Int32} (hM : Mz G am w0 (tI th N) A w) {r ac ki dy ix : Int32} (h0 : inb r 0 3 = true) (h1 : inb ac (-1) 99 = true) (h2 : inb ki (-1) 3 = true) (h : inb dy 0 9999 = false) : Ct G yX6_found kw_X6_found rm_X6_found [.ref (am 0), .int r, .int ac, .int ki, .int dy, .int ix] w (PB (.int (0)) (Mz G am w0 (tI 1 N) A)) := by
  refine ct_intro RX6 "found" (by decide +kernel) rfl rfl rfl (Nat.le_of_ble_eq_true rfl) [some (.ref (am 0)), some (.int r), some (.int ac), some (.int ki), some (.int dy), some (.int ix), none, none, none, none, none] rfl (fun C => ?_)
  refine g_iload1 dX6_found_0 ?_
  refine g_callS1 ct_isReader md_X6_isReader dX6_found_1 ml_X6_135 st_X6_isReader (RmOk.of (Nat.le_of_ble_eq_true rfl) (Nat.le_of_ble_eq_true rfl) (Nat.le_of_ble_eq_true rfl) (Nat.le_of_ble_eq_true rfl) (Nat.le_of_ble_eq_true rfl)) (kr_V ?_) kx_V
  refine g_if_eq_f (tgt := 42) dX6_found_4 (by decide) (bI_n.mpr h0) ?_
  refine g_iload2 dX6_found_7 ?_
  refine g_iconst (v := (-1)) dX6_found_8 (by decide) ?_
  refine g_bipush (v := 99) dX6_found_9 (by decide) ?_
  refine g_callS3 ct_in md_X6_in dX6_found_11 ml_X6_81 st_X6_in (RmOk.of (Nat.le_of_ble_eq_true rfl) (Nat.le_of_ble_eq_true rfl) (Nat.le_of_ble_eq_true rfl) (Nat.le_of_ble_eq_true rfl) (Nat.le_of_ble_eq_true rfl)) (kr_V ?_) kx_V
  refine g_if_eq_f (tgt := 42) dX6_found_14 (by decide) (bI_n.mpr h1) ?_
  refine g_iload3 dX6_found_17 ?_
  refine g_iconst (v := (-1)) dX6_found_18 (by decide) ?_
  refine g_iconst (v := 3) dX6_found_19 (by decide) ?_
  refine g_callS3 ct_in md_X6_in dX6_found_20 ml_X6_81 st_X6_in (RmOk.of (Nat.le_of_ble_eq_true rfl) (Nat.le_of_ble_eq_true rfl) (Nat.le_of_ble_eq_true rfl) (Nat.le_of_ble_eq_true rfl) (Nat.le_of_ble_eq_true rfl)) (kr_V ?_) kx_V
  refine g_if_eq_f (tgt := 42) dX6_found_23 (by decide) (bI_n.mpr h2) ?_
  refine g_iload4 dX6_found_26 ?_
  refine g_iconst (v := 0) dX6_found_28 (by decide) ?_
  refine g_sipush (v := 9999) dX6_found_29 (by decide) ?_
  refine g_callS3 ct_in md_X6_in dX6_found_32 ml_X6_81 st_X6_in (RmOk.of (Nat.le_of_ble_eq_true rfl) (Nat.le_of_ble_eq_true rfl) (Nat.le_of_ble_eq_true rfl) (Nat.le_of_ble_eq_true rfl) (Nat.le_of_ble_eq_true rfl)) (kr_V ?_) kx_V
  refine g_if_eq_t (tgt := 42) dX6_found_35 (by decide) (bI_0.mpr h) ?_
  refine g_iconst (v := 0) dX6_found_42 (by decide) ?_
  refine g_istore6 dX6_found_43 ?_
  refine g_aload0 dX6_found_45 ?_
  refine g_iload6 dX6_found_46 ?_
  refine g_if_eq_t (tgt := 55) dX6_found_48 (by decide) (by decide) ?_
  refine g_iconst (v := 1) dX6_found_55 (by decide) ?_
  refine g_mput0 hM dX6_found_56 fl_X6_74 (fun w1 hM => ?_)
  refine g_aload0 dX6_found_59 ?_
  refine g_getf kc7 dX6_found_60 fl_X6_74 (by decide) hM.1 (show _ = some (Value.int (1)) from rfl) ?_
  refine g_if_le_f (tgt := 68) dX6_found_63 (by decide) (by decide) ?_
  refine g_iconst (v := 0) dX6_found_66 (by decide) ?_
  refine g_iret dX6_found_67 ?_ (Nat.le_of_ble_eq_true rfl) (Nat.le_of_ble_eq_true rfl)
  exact ⟨rfl, hM⟩

set_option maxRecDepth 100000 in
theorem lp_found {G : Gx} {w0 : Wd} {am : Nat → Nat} {N : Nat → Nat} {A : Nat → Nat → Int32} {w : Wd} {r : Nat} {ac ki dy ix : Int32} (hM : Mz G am w0 (tI 0 N) A w) (hr : r < 4) (hd : N 17 ≤ 120) {y6 : Option Value} (C : Cx) : ∀ (M i : Nat), N 17 - i < M → ∀ (b : Nat) (fv : Int32) (y : Option Value), i ≤ N 17 → b ≤ i → ((fv = -1 ∧ (fC (fdP A r ac ki dy) ix (N 17) (N 17) 0) = fC (fdP A r ac ki dy) ix (N 17) (N 17 - i) b) ∨ (fv = (fC (fdP A r ac ki dy) ix (N 17) (N 17) 0) ∧ ∃ b0 : Nat, b0 < b ∧ ix = nI b0)) →
    Go G rm_X6_found cX6_found RX6 ((Option.some FieldType.int), "found", []) C (QP G rm_X6_found (PB (.int (if (fC (fdP A r ac ki dy) ix (N 17) (N 17) 0) = -1 then 0 else (fC (fdP A r ac ki dy) ix (N 17) (N 17) 0))) (Mz G am w0 (tI (if (fC (fdP A r ac ki dy) ix (N 17) (N 17) 0) = -1 then 2 else 0) N) A)) C) 77 [some (.ref (am 0)), some (.int (nI r)), some (.int ac), some (.int ki), some (.int dy), some (.int ix), y6, some (.int (nI b)), some (.int fv), some (.int (nI i)), y] [] w 0 0 := by
  intro M
  induction M with
  | zero => intro i hM9; exact absurd hM9 (Nat.not_lt_zero _)
  | succ M ih =>
    intro i hi9 b fv y hi hb hinv
    refine g_iload9 dX6_found_77 ?_
    refine g_aload0 dX6_found_79 ?_
    refine g_getf kc7 dX6_found_80 fl_X6_107 (by decide) hM.1 (show _ = some (Value.int (nI (N 17))) from rfl) ?_
    refine g_icmp_ge (tgt := 189) dX6_found_83 (by decide) (fun h83 => ?_) (fun h83 => ?_)
    · skip
      have hin : i = N 17 := Nat.le_antisymm hi (idx_ge (by omega) (by omega) h83)
      have hT : fv = (fC (fdP A r ac ki dy) ix (N 17) (N 17) 0) := by
        rcases hinv with ⟨q1, q2⟩ | ⟨q1, -⟩
        · rw [q1, q2, hin, Nat.sub_self]; rfl
        · exact q1
      rw [← hT]
      refine g_aload0 dX6_found_189 ?_
      refine g_iload8 dX6_found_190 ?_
      refine g_iconst (v := (-1)) dX6_found_192 (by decide) ?_
      refine g_icmp_ne (tgt := 200) dX6_found_193 (by decide) (fun h193 => ?_) (fun h193 => ?_)
      · skip
        refine g_iconst (v := 0) dX6_found_200 (by decide) ?_
        first | refine g_top (y := if fv = -1 then 2 else 0) (if_pos h193).symm ?_ | refine g_top (y := if fv = -1 then 2 else 0) (if_neg h193).symm ?_
        refine g_mput0 hM dX6_found_201 fl_X6_74 (fun w1 hM => ?_)
        refine g_aload0 dX6_found_204 ?_
        refine g_getf kc7 dX6_found_205 fl_X6_74 (by decide) hM.1 (show _ = some (Value.int ((if fv = -1 then 2 else 0))) from rfl) ?_
        refine g_if_le (tgt := 215) dX6_found_208 (by decide) (fun h208 => ?_) (fun h208 => ?_)
        · skip
          have h193b : ¬ fv = -1 := fun z => by rw [if_pos z] at h208; exact absurd h208 (by decide)
          refine g_iload8 dX6_found_215 ?_
          refine g_iret dX6_found_217 ?_ (Nat.le_of_ble_eq_true rfl) (Nat.le_of_ble_eq_true rfl)
          first
            | exact ⟨by rw [if_pos h193b], hM⟩
            | exact ⟨by rw [if_neg h193b], hM⟩
        · skip
          have h193b : fv = -1 := Classical.byContradiction fun z => by rw [if_neg z] at h208; exact absurd h208 (by decide)
          refine g_iconst (v := 0) dX6_found_211 (by decide) ?_
          refine g_goto (tgt := 217) dX6_found_212 (by decide) ?_
          refine g_iret dX6_found_217 ?_ (Nat.le_of_ble_eq_true rfl) (Nat.le_of_ble_eq_true rfl)
          first
            | exact ⟨by rw [if_pos h193b], hM⟩
            | exact ⟨by rw [if_neg h193b], hM⟩
      · skip
        refine g_iconst (v := 2) dX6_found_196 (by decide) ?_
        refine g_goto (tgt := 201) dX6_found_197 (by decide) ?_
        first | refine g_top (y := if fv = -1 then 2 else 0) (if_pos h193).symm ?_ | refine g_top (y := if fv = -1 then 2 else 0) (if_neg h193).symm ?_
        refine g_mput0 hM dX6_found_201 fl_X6_74 (fun w1 hM => ?_)
        refine g_aload0 dX6_found_204 ?_
        refine g_getf kc7 dX6_found_205 fl_X6_74 (by decide) hM.1 (show _ = some (Value.int ((if fv = -1 then 2 else 0))) from rfl) ?_
        refine g_if_le (tgt := 215) dX6_found_208 (by decide) (fun h208 => ?_) (fun h208 => ?_)
        · skip
          have h193b : ¬ fv = -1 := fun z => by rw [if_pos z] at h208; exact absurd h208 (by decide)
          refine g_iload8 dX6_found_215 ?_
          refine g_iret dX6_found_217 ?_ (Nat.le_of_ble_eq_true rfl) (Nat.le_of_ble_eq_true rfl)
          first
            | exact ⟨by rw [if_pos h193b], hM⟩
            | exact ⟨by rw [if_neg h193b], hM⟩
        · skip
          have h193b : fv = -1 := Classical.byContradiction fun z => by rw [if_neg z] at h208; exact absurd h208 (by decide)
          refine g_iconst (v := 0) dX6_found_211 (by decide) ?_
          refine g_goto (tgt := 217) dX6_found_212 (by decide) ?_
          refine g_iret dX6_found_217 ?_ (Nat.le_of_ble_eq_true rfl) (Nat.le_of_ble_eq_true rfl)
          first
            | exact ⟨by rw [if_pos h193b], hM⟩
            | exact ⟨by rw [if_neg h193b], hM⟩
    · skip
      have hlt : i < N 17 := idx_lt (by omega) (by omega) h83
      have hsplit : N 17 - i = (N 17 - (i + 1)) + 1 := by omega
      have hidx : N 17 - (N 17 - (i + 1) + 1) = i := by omega
      have kj : ∀ x : Int32, x = bI (fdP A r ac ki dy i) → Go G rm_X6_found cX6_found RX6 (some .int, "found", []) C (QP G rm_X6_found (PB (.int (if (fC (fdP A r ac ki dy) ix (N 17) (N 17) 0) = -1 then 0 else (fC (fdP A r ac ki dy) ix (N 17) (N 17) 0))) (Mz G am w0 (tI (if (fC (fdP A r ac ki dy) ix (N 17) (N 17) 0) = -1 then 2 else 0) N) A)) C) 145 [some (.ref (am 0)), some (.int (nI r)), some (.int ac), some (.int ki), some (.int dy), some (.int ix), y6, some (.int (nI b)), some (.int fv), some (.int (nI i)), y] [.int x] w 0 0 := by
        intro x hx
        subst hx
        cases hP : fdP A r ac ki dy i with
        | false =>
          simp only [bI, Bool.false_eq_true, if_false]
          refine g_istore10 dX6_found_145 ?_
          refine g_iload10 dX6_found_147 ?_
          refine g_if_eq_t (tgt := 164) dX6_found_149 (by decide) (by decide) ?_
          refine g_iload8 dX6_found_164 ?_
          refine g_istore8 dX6_found_166 ?_
          refine g_iload7 dX6_found_168 ?_
          refine g_iload10 dX6_found_170 ?_
          refine g_if_eq_t (tgt := 179) dX6_found_172 (by decide) (by decide) ?_
          refine g_iconst (v := 0) dX6_found_179 (by decide) ?_
          skip
          refine g_iadd dX6_found_180 ?_
          first | rw [show nI b + 1 = nI (b + 1) from nI_1 _] | rw [show nI b + 0 = nI b from nI_add b 0]
          refine g_istore7 dX6_found_181 ?_
          refine g_iinc9 (v' := (nI (i + 1))) dX6_found_183 (nI_1 i) ?_
          refine g_goto (tgt := 77) dX6_found_186 (by decide) ?_
          refine ih (i + 1) (by omega) b fv _ (by omega) (by omega) ?_
          rcases hinv with ⟨q1, q2⟩ | ⟨q1, b0, q2, q3⟩
          · refine Or.inl ⟨q1, ?_⟩
            rw [q2, hsplit]
            show (if _ then (if _ then _ else _) else _) = _
            rw [hidx, if_neg (by rw [hP]; decide)]
          · exact Or.inr ⟨q1, b0, q2, q3⟩
        | true =>
          simp only [bI, if_true]
          refine g_istore10 dX6_found_145 ?_
          refine g_iload10 dX6_found_147 ?_
          refine g_if_eq_f (tgt := 164) dX6_found_149 (by decide) (by decide) ?_
          refine g_iload7 dX6_found_152 ?_
          refine g_iload5 dX6_found_154 ?_
          refine g_icmp_ne (tgt := 164) dX6_found_156 (by decide) (fun h156 => ?_) (fun h156 => ?_)
          · skip
            refine g_iload8 dX6_found_164 ?_
            refine g_istore8 dX6_found_166 ?_
            refine g_iload7 dX6_found_168 ?_
            refine g_iload10 dX6_found_170 ?_
            refine g_if_eq_f (tgt := 179) dX6_found_172 (by decide) (by decide) ?_
            refine g_iconst (v := 1) dX6_found_175 (by decide) ?_
            refine g_goto (tgt := 180) dX6_found_176 (by decide) ?_
            skip
            refine g_iadd dX6_found_180 ?_
            first | rw [show nI b + 1 = nI (b + 1) from nI_1 _] | rw [show nI b + 0 = nI b from nI_add b 0]
            refine g_istore7 dX6_found_181 ?_
            refine g_iinc9 (v' := (nI (i + 1))) dX6_found_183 (nI_1 i) ?_
            refine g_goto (tgt := 77) dX6_found_186 (by decide) ?_
            first
              | (refine ih (i + 1) (by omega) (b + 1) (nI i) _ (by omega) (by omega) (Or.inr ⟨?_, b, Nat.lt_succ_self _, h156.symm⟩)
                 rcases hinv with ⟨q1, q2⟩ | ⟨q1, b0, q2, q3⟩
                 · rw [q2, hsplit]
                   show nI i = (if _ then (if _ then _ else _) else _)
                   rw [hidx, if_pos hP, if_pos h156]
                 · exact absurd ((nI_eq (by omega) (by omega)).mp (h156.trans q3)) (by omega))
              | (refine ih (i + 1) (by omega) (b + 1) fv _ (by omega) (by omega) ?_
                 rcases hinv with ⟨q1, q2⟩ | ⟨q1, b0, q2, q3⟩
                 · refine Or.inl ⟨q1, ?_⟩
                   rw [q2, hsplit]
                   show (if _ then (if _ then _ else _) else _) = _
                   rw [hidx, if_pos hP, if_neg h156]
                 · exact Or.inr ⟨q1, b0, by omega, q3⟩)
          · skip
            refine g_iload9 dX6_found_159 ?_
            refine g_goto (tgt := 166) dX6_found_161 (by decide) ?_
            refine g_istore8 dX6_found_166 ?_
            refine g_iload7 dX6_found_168 ?_
            refine g_iload10 dX6_found_170 ?_
            refine g_if_eq_f (tgt := 179) dX6_found_172 (by decide) (by decide) ?_
            refine g_iconst (v := 1) dX6_found_175 (by decide) ?_
            refine g_goto (tgt := 180) dX6_found_176 (by decide) ?_
            skip
            refine g_iadd dX6_found_180 ?_
            first | rw [show nI b + 1 = nI (b + 1) from nI_1 _] | rw [show nI b + 0 = nI b from nI_add b 0]
            refine g_istore7 dX6_found_181 ?_
            refine g_iinc9 (v' := (nI (i + 1))) dX6_found_183 (nI_1 i) ?_
            refine g_goto (tgt := 77) dX6_found_186 (by decide) ?_
            first
              | (refine ih (i + 1) (by omega) (b + 1) (nI i) _ (by omega) (by omega) (Or.inr ⟨?_, b, Nat.lt_succ_self _, h156.symm⟩)
                 rcases hinv with ⟨q1, q2⟩ | ⟨q1, b0, q2, q3⟩
                 · rw [q2, hsplit]
                   show nI i = (if _ then (if _ then _ else _) else _)
                   rw [hidx, if_pos hP, if_pos h156]
                 · exact absurd ((nI_eq (by omega) (by omega)).mp (h156.trans q3)) (by omega))
              | (refine ih (i + 1) (by omega) (b + 1) fv _ (by omega) (by omega) ?_
                 rcases hinv with ⟨q1, q2⟩ | ⟨q1, b0, q2, q3⟩
                 · refine Or.inl ⟨q1, ?_⟩
                   rw [q2, hsplit]
                   show (if _ then (if _ then _ else _) else _) = _
                   rw [hidx, if_pos hP, if_neg h156]
                 · exact Or.inr ⟨q1, b0, by omega, q3⟩)
      refine g_aload0 dX6_found_86 ?_
      refine g_iload1 dX6_found_87 ?_
      refine g_iload9 dX6_found_88 ?_
      refine g_callV2 kc7 (mt_sees hM hr (by omega)) md_X6_sees dX6_found_90 ml_X6_138 im_X6_sees se_X6_sees hM.1 (RmOk.of (Nat.le_of_ble_eq_true rfl) (Nat.le_of_ble_eq_true rfl) (Nat.le_of_ble_eq_true rfl) (Nat.le_of_ble_eq_true rfl) (Nat.le_of_ble_eq_true rfl)) (kr_V ?_) kx_V
      refine g_if_eq (tgt := 144) dX6_found_93 (by decide) (fun h93 => ?_) (fun h93 => ?_)
      · skip
        replace h93 := bI_0.mp h93
        refine g_iconst (v := 0) dX6_found_144 (by decide) ?_
        exact kj _ (by simp [fdP, bI, h83, h93])
      · skip
        replace h93 := bI_n.mp h93
        refine g_iload2 dX6_found_96 ?_
        refine g_iconst (v := (-1)) dX6_found_97 (by decide) ?_
        refine g_icmp_eq (tgt := 112) dX6_found_98 (by decide) (fun h98 => ?_) (fun h98 => ?_)
        · skip
          refine g_iload3 dX6_found_112 ?_
          refine g_iconst (v := (-1)) dX6_found_113 (by decide) ?_
          refine g_icmp_eq (tgt := 128) dX6_found_114 (by decide) (fun h114 => ?_) (fun h114 => ?_)
          · skip
            refine g_aload0 dX6_found_128 ?_
            refine g_getf kc7 dX6_found_129 fl_X6_52 (by decide) hM.1 rfl ?_
            refine g_iload9 dX6_found_132 ?_
            refine g_miald (k := 22) (n := 120) hM rfl (by decide) (fun _ => rfl) dX6_found_134 (by omega) (by decide) ?_
            refine g_iload4 dX6_found_135 ?_
            refine g_icmp_lt (tgt := 144) dX6_found_137 (by decide) (fun h137 => ?_) (fun h137 => ?_)
            · skip
              refine g_iconst (v := 0) dX6_found_144 (by decide) ?_
              exact kj _ (by simp [fdP, bI, h83, h93, h98, h114, h137])
            · skip
              refine g_iconst (v := 1) dX6_found_140 (by decide) ?_
              refine g_goto (tgt := 145) dX6_found_141 (by decide) ?_
              exact kj _ (by simp [fdP, bI, h83, h93, h98, h114, h137])
          · skip
            refine g_aload0 dX6_found_117 ?_
            refine g_getf kc7 dX6_found_118 fl_X6_49 (by decide) hM.1 rfl ?_
            refine g_iload9 dX6_found_121 ?_
            refine g_miald (k := 21) (n := 120) hM rfl (by decide) (fun _ => rfl) dX6_found_123 (by omega) (by decide) ?_
            refine g_iload3 dX6_found_124 ?_
            refine g_icmp_ne (tgt := 144) dX6_found_125 (by decide) (fun h125 => ?_) (fun h125 => ?_)
            · skip
              refine g_iconst (v := 0) dX6_found_144 (by decide) ?_
              exact kj _ (by simp [fdP, bI, h83, h93, h98, h114, h125])
            · skip
              refine g_aload0 dX6_found_128 ?_
              refine g_getf kc7 dX6_found_129 fl_X6_52 (by decide) hM.1 rfl ?_
              refine g_iload9 dX6_found_132 ?_
              refine g_miald (k := 22) (n := 120) hM rfl (by decide) (fun _ => rfl) dX6_found_134 (by omega) (by decide) ?_
              refine g_iload4 dX6_found_135 ?_
              refine g_icmp_lt (tgt := 144) dX6_found_137 (by decide) (fun h137 => ?_) (fun h137 => ?_)
              · skip
                refine g_iconst (v := 0) dX6_found_144 (by decide) ?_
                exact kj _ (by simp [fdP, bI, h83, h93, h98, h114, h125, h137])
              · skip
                refine g_iconst (v := 1) dX6_found_140 (by decide) ?_
                refine g_goto (tgt := 145) dX6_found_141 (by decide) ?_
                exact kj _ (by simp [fdP, bI, h83, h93, h98, h114, h125, h137])
        · skip
          refine g_aload0 dX6_found_101 ?_
          refine g_getf kc7 dX6_found_102 fl_X6_46 (by decide) hM.1 rfl ?_
          refine g_iload9 dX6_found_105 ?_
          refine g_miald (k := 20) (n := 120) hM rfl (by decide) (fun _ => rfl) dX6_found_107 (by omega) (by decide) ?_
          refine g_iload2 dX6_found_108 ?_
          refine g_icmp_ne (tgt := 144) dX6_found_109 (by decide) (fun h109 => ?_) (fun h109 => ?_)
          · skip
            refine g_iconst (v := 0) dX6_found_144 (by decide) ?_
            exact kj _ (by simp [fdP, bI, h83, h93, h98, h109])
          · skip
            refine g_iload3 dX6_found_112 ?_
            refine g_iconst (v := (-1)) dX6_found_113 (by decide) ?_
            refine g_icmp_eq (tgt := 128) dX6_found_114 (by decide) (fun h114 => ?_) (fun h114 => ?_)
            · skip
              refine g_aload0 dX6_found_128 ?_
              refine g_getf kc7 dX6_found_129 fl_X6_52 (by decide) hM.1 rfl ?_
              refine g_iload9 dX6_found_132 ?_
              refine g_miald (k := 22) (n := 120) hM rfl (by decide) (fun _ => rfl) dX6_found_134 (by omega) (by decide) ?_
              refine g_iload4 dX6_found_135 ?_
              refine g_icmp_lt (tgt := 144) dX6_found_137 (by decide) (fun h137 => ?_) (fun h137 => ?_)
              · skip
                refine g_iconst (v := 0) dX6_found_144 (by decide) ?_
                exact kj _ (by simp [fdP, bI, h83, h93, h98, h109, h114, h137])
              · skip
                refine g_iconst (v := 1) dX6_found_140 (by decide) ?_
                refine g_goto (tgt := 145) dX6_found_141 (by decide) ?_
                exact kj _ (by simp [fdP, bI, h83, h93, h98, h109, h114, h137])
            · skip
              refine g_aload0 dX6_found_117 ?_
              refine g_getf kc7 dX6_found_118 fl_X6_49 (by decide) hM.1 rfl ?_
              refine g_iload9 dX6_found_121 ?_
              refine g_miald (k := 21) (n := 120) hM rfl (by decide) (fun _ => rfl) dX6_found_123 (by omega) (by decide) ?_
              refine g_iload3 dX6_found_124 ?_
              refine g_icmp_ne (tgt := 144) dX6_found_125 (by decide) (fun h125 => ?_) (fun h125 => ?_)
              · skip
                refine g_iconst (v := 0) dX6_found_144 (by decide) ?_
                exact kj _ (by simp [fdP, bI, h83, h93, h98, h109, h114, h125])
              · skip
                refine g_aload0 dX6_found_128 ?_
                refine g_getf kc7 dX6_found_129 fl_X6_52 (by decide) hM.1 rfl ?_
                refine g_iload9 dX6_found_132 ?_
                refine g_miald (k := 22) (n := 120) hM rfl (by decide) (fun _ => rfl) dX6_found_134 (by omega) (by decide) ?_
                refine g_iload4 dX6_found_135 ?_
                refine g_icmp_lt (tgt := 144) dX6_found_137 (by decide) (fun h137 => ?_) (fun h137 => ?_)
                · skip
                  refine g_iconst (v := 0) dX6_found_144 (by decide) ?_
                  exact kj _ (by simp [fdP, bI, h83, h93, h98, h109, h114, h125, h137])
                · skip
                  refine g_iconst (v := 1) dX6_found_140 (by decide) ?_
                  refine g_goto (tgt := 145) dX6_found_141 (by decide) ?_
                  exact kj _ (by simp [fdP, bI, h83, h93, h98, h109, h114, h125, h137])

set_option maxRecDepth 100000 in
theorem mt_found_b {G : Gx} {w w0 : Wd} {am : Nat → Nat} {th : Int32} {N : Nat → Nat} {A : Nat → Nat → Int32} (hM : Mz G am w0 (tI th N) A w) {r : Nat} {ac ki dy ix : Int32} (h0 : inb (nI r) 0 3 = true) (h1 : inb ac (-1) 99 = true) (h2 : inb ki (-1) 3 = true) (h3 : inb dy 0 9999 = true) (hr : r < 4) (hd : N 17 ≤ 120) : Ct G yX6_found kw_X6_found rm_X6_found [.ref (am 0), .int (nI r), .int ac, .int ki, .int dy, .int ix] w (PB (.int (if (fC (fdP A r ac ki dy) ix (N 17) (N 17) 0) = -1 then 0 else (fC (fdP A r ac ki dy) ix (N 17) (N 17) 0))) (Mz G am w0 (tI (if (fC (fdP A r ac ki dy) ix (N 17) (N 17) 0) = -1 then 2 else 0) N) A)) := by
  refine ct_intro RX6 "found" (by decide +kernel) rfl rfl rfl (Nat.le_of_ble_eq_true rfl) [some (.ref (am 0)), some (.int (nI r)), some (.int ac), some (.int ki), some (.int dy), some (.int ix), none, none, none, none, none] rfl (fun C => ?_)
  refine g_iload1 dX6_found_0 ?_
  refine g_callS1 ct_isReader md_X6_isReader dX6_found_1 ml_X6_135 st_X6_isReader (RmOk.of (Nat.le_of_ble_eq_true rfl) (Nat.le_of_ble_eq_true rfl) (Nat.le_of_ble_eq_true rfl) (Nat.le_of_ble_eq_true rfl) (Nat.le_of_ble_eq_true rfl)) (kr_V ?_) kx_V
  refine g_if_eq_f (tgt := 42) dX6_found_4 (by decide) (bI_n.mpr h0) ?_
  refine g_iload2 dX6_found_7 ?_
  refine g_iconst (v := (-1)) dX6_found_8 (by decide) ?_
  refine g_bipush (v := 99) dX6_found_9 (by decide) ?_
  refine g_callS3 ct_in md_X6_in dX6_found_11 ml_X6_81 st_X6_in (RmOk.of (Nat.le_of_ble_eq_true rfl) (Nat.le_of_ble_eq_true rfl) (Nat.le_of_ble_eq_true rfl) (Nat.le_of_ble_eq_true rfl) (Nat.le_of_ble_eq_true rfl)) (kr_V ?_) kx_V
  refine g_if_eq_f (tgt := 42) dX6_found_14 (by decide) (bI_n.mpr h1) ?_
  refine g_iload3 dX6_found_17 ?_
  refine g_iconst (v := (-1)) dX6_found_18 (by decide) ?_
  refine g_iconst (v := 3) dX6_found_19 (by decide) ?_
  refine g_callS3 ct_in md_X6_in dX6_found_20 ml_X6_81 st_X6_in (RmOk.of (Nat.le_of_ble_eq_true rfl) (Nat.le_of_ble_eq_true rfl) (Nat.le_of_ble_eq_true rfl) (Nat.le_of_ble_eq_true rfl) (Nat.le_of_ble_eq_true rfl)) (kr_V ?_) kx_V
  refine g_if_eq_f (tgt := 42) dX6_found_23 (by decide) (bI_n.mpr h2) ?_
  refine g_iload4 dX6_found_26 ?_
  refine g_iconst (v := 0) dX6_found_28 (by decide) ?_
  refine g_sipush (v := 9999) dX6_found_29 (by decide) ?_
  refine g_callS3 ct_in md_X6_in dX6_found_32 ml_X6_81 st_X6_in (RmOk.of (Nat.le_of_ble_eq_true rfl) (Nat.le_of_ble_eq_true rfl) (Nat.le_of_ble_eq_true rfl) (Nat.le_of_ble_eq_true rfl) (Nat.le_of_ble_eq_true rfl)) (kr_V ?_) kx_V
  refine g_if_eq_f (tgt := 42) dX6_found_35 (by decide) (bI_n.mpr h3) ?_
  refine g_iconst (v := 1) dX6_found_38 (by decide) ?_
  refine g_goto (tgt := 43) dX6_found_39 (by decide) ?_
  refine g_istore6 dX6_found_43 ?_
  refine g_aload0 dX6_found_45 ?_
  refine g_iload6 dX6_found_46 ?_
  refine g_if_eq_f (tgt := 55) dX6_found_48 (by decide) (by decide) ?_
  refine g_iconst (v := 0) dX6_found_51 (by decide) ?_
  refine g_goto (tgt := 56) dX6_found_52 (by decide) ?_
  refine g_mput0 hM dX6_found_56 fl_X6_74 (fun w1 hM => ?_)
  refine g_aload0 dX6_found_59 ?_
  refine g_getf kc7 dX6_found_60 fl_X6_74 (by decide) hM.1 (show _ = some (Value.int (0)) from rfl) ?_
  refine g_if_le_t (tgt := 68) dX6_found_63 (by decide) (by decide) ?_
  refine g_iconst (v := 0) dX6_found_68 (by decide) ?_
  refine g_istore7 dX6_found_69 ?_
  refine g_iconst (v := (-1)) dX6_found_71 (by decide) ?_
  refine g_istore8 dX6_found_72 ?_
  refine g_iconst (v := 0) dX6_found_74 (by decide) ?_
  refine g_istore9 dX6_found_75 ?_
  exact lp_found hM hr hd C (N 17 + 1) 0 (by omega) 0 (-1) none (Nat.zero_le _) (Nat.zero_le _) (Or.inl ⟨rfl, rfl⟩)

