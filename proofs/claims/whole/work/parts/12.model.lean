/-! The reference: rows for its fields; contracts of its methods without loops. -/
theorem tI_0 {th t : Int32} {N : Nat → Nat} : upd (tI th N) 0 t = tI t N := by
  funext j
  unfold upd tI
  by_cases h : j = 0
  · rw [if_pos h, if_pos h]
  · rw [if_neg h, if_neg h, if_neg h]
theorem tI_k {t : Int32} {N : Nat → Nat} {k v : Nat} (hk : k ≠ 0) : upd (tI t N) k (nI v) = tI t (updN N k v) := by
  funext j
  unfold upd tI updN
  by_cases h : j = k
  · subst h
    rw [if_pos rfl, if_neg hk, if_pos rfl]
  · rw [if_neg h]
    by_cases h0 : j = 0
    · rw [if_pos h0, if_pos h0]
    · rw [if_neg h0, if_neg h0, if_neg h]
section ModelRows2
variable {G : Gx} {R : Room} {cc : ByteArray} {own : String} {Y : Yx} {C : Cx} {Q : State → Prop} {pc : Nat} {L : List (Option Value)} {st : List Value} {w w0 : Wd} {c kk : Nat} {am : Nat → Nat} {th : Int32} {N : Nat → Nat} {A : Nat → Nat → Int32}
theorem g_mput0 {idx : Nat} {x : Int32} (hM : Mz G am w0 (tI th N) A w) (d : decode cc pc = .ok (.putfield idx, 3)) (hl : FL own idx TX6 0) (h : ∀ w1, Mz G am w0 (tI x N) A w1 → Go G R cc own Y C Q (pc + 3) L st w1 c kk) : Go G R cc own Y C Q pc L (.int x :: .ref (am 0) :: st) w c kk :=
  g_mput hM d hl (by decide) rfl rfl rfl (fun w1 h1 => h w1 (h1.to tI_0 rfl))
theorem g_mputN {idx k v : Nat} (hM : Mz G am w0 (tI th N) A w) (d : decode cc pc = .ok (.putfield idx, 3)) (hl : FL own idx TX6 k) (hlt : k < 29 ∧ k ≠ 0) (hfin : (TX6 k).2.2.2 = false) (hty : tyX6 k = .int) (hfs : (mfs am (tI th N)).set k (.int (nI v)) = mfs am (upd (tI th N) k (nI v))) (h : ∀ w1, Mz G am w0 (tI th (updN N k v)) A w1 → Go G R cc own Y C Q (pc + 3) L st w1 c kk) : Go G R cc own Y C Q pc L (.int (nI v) :: .ref (am 0) :: st) w c kk :=
  g_mput hM d hl hlt.1 hfin hty hfs (fun w1 h1 => h w1 (h1.to (tI_k hlt.2) rfl))
end ModelRows2

abbrev rm_X6_in : Room := { frames := 0, cells := 0, slots := 0, locals := 0 }

set_option maxRecDepth 100000 in
theorem ct_in {G : Gx} {w : Wd} {v lo hi : Int32} : Ct G yX6_in kw_X6_in rm_X6_in [.int v, .int lo, .int hi] w (PV (.int (bI (inb v lo hi))) w) := by
  refine ct_intro RX6 "in" (by decide +kernel) rfl rfl rfl (Nat.le_of_ble_eq_true rfl) [some (.int v), some (.int lo), some (.int hi)] rfl (fun C => ?_)
  refine g_iload0 dX6_in_0 ?_
  refine g_iload1 dX6_in_1 ?_
  refine g_icmp_lt (tgt := 14) dX6_in_2 (by decide) (fun h1 => ?_) (fun h1 => ?_)
  · skip
    refine g_iconst (v := 0) dX6_in_14 (by decide) ?_
    refine g_zret dX6_in_15 (by decide) ?_ (Nat.le_of_ble_eq_true rfl) (Nat.le_of_ble_eq_true rfl)
    first | exact ⟨by rw [inb_f.mpr (Or.inl h1)]; rfl, rfl⟩ | exact ⟨by rw [inb_f.mpr (Or.inr (Int32.not_le.mpr h2))]; rfl, rfl⟩ | exact ⟨by rw [inb_t.mpr ⟨h1, Int32.not_lt.mp h2⟩]; rfl, rfl⟩
  · skip
    refine g_iload0 dX6_in_5 ?_
    refine g_iload2 dX6_in_6 ?_
    refine g_icmp_gt (tgt := 14) dX6_in_7 (by decide) (fun h2 => ?_) (fun h2 => ?_)
    · skip
      refine g_iconst (v := 0) dX6_in_14 (by decide) ?_
      refine g_zret dX6_in_15 (by decide) ?_ (Nat.le_of_ble_eq_true rfl) (Nat.le_of_ble_eq_true rfl)
      first | exact ⟨by rw [inb_f.mpr (Or.inl h1)]; rfl, rfl⟩ | exact ⟨by rw [inb_f.mpr (Or.inr (Int32.not_le.mpr h2))]; rfl, rfl⟩ | exact ⟨by rw [inb_t.mpr ⟨h1, Int32.not_lt.mp h2⟩]; rfl, rfl⟩
    · skip
      refine g_iconst (v := 1) dX6_in_10 (by decide) ?_
      refine g_goto (tgt := 15) dX6_in_11 (by decide) ?_
      refine g_zret dX6_in_15 (by decide) ?_ (Nat.le_of_ble_eq_true rfl) (Nat.le_of_ble_eq_true rfl)
      first | exact ⟨by rw [inb_f.mpr (Or.inl h1)]; rfl, rfl⟩ | exact ⟨by rw [inb_f.mpr (Or.inr (Int32.not_le.mpr h2))]; rfl, rfl⟩ | exact ⟨by rw [inb_t.mpr ⟨h1, Int32.not_lt.mp h2⟩]; rfl, rfl⟩

abbrev rm_X6_isRun : Room := { frames := 1, cells := 0, slots := 0, locals := 22 }

set_option maxRecDepth 100000 in
theorem ct_isRun {G : Gx} {w w0 : Wd} {am : Nat → Nat} {th : Int32} {N : Nat → Nat} {A : Nat → Nat → Int32} (hM : Mz G am w0 (tI th N) A w) {r : Int32} : Ct G yX6_isRun kw_X6_isRun rm_X6_isRun [.ref (am 0), .int r] w (PV (.int (bI (inb r 0 (nI (N 13) - 1)))) w) := by
  refine ct_intro RX6 "isRun" (by decide +kernel) rfl rfl rfl (Nat.le_of_ble_eq_true rfl) [some (.ref (am 0)), some (.int r)] rfl (fun C => ?_)
  refine g_iload1 dX6_isRun_0 ?_
  refine g_iconst (v := 0) dX6_isRun_1 (by decide) ?_
  refine g_aload0 dX6_isRun_2 ?_
  refine g_getf kc7 dX6_isRun_3 fl_X6_78 (by decide) hM.1 (show _ = some (Value.int (nI (N 13))) from rfl) ?_
  refine g_iconst (v := 1) dX6_isRun_6 (by decide) ?_
  refine g_isub dX6_isRun_7 ?_
  refine g_callS3 ct_in md_X6_in dX6_isRun_8 ml_X6_81 st_X6_in (RmOk.of (Nat.le_of_ble_eq_true rfl) (Nat.le_of_ble_eq_true rfl) (Nat.le_of_ble_eq_true rfl) (Nat.le_of_ble_eq_true rfl) (Nat.le_of_ble_eq_true rfl)) (kr_V ?_) kx_V
  refine g_zret dX6_isRun_11 (bI_nar _) ?_ (Nat.le_of_ble_eq_true rfl) (Nat.le_of_ble_eq_true rfl)
  exact ⟨rfl, rfl⟩

abbrev rm_X6_pass : Room := { frames := 1, cells := 0, slots := 0, locals := 22 }

set_option maxRecDepth 100000 in
theorem mt_pass_a {G : Gx} {w w0 : Wd} {am : Nat → Nat} {th : Int32} {N : Nat → Nat} {A : Nat → Nat → Int32} (hM : Mz G am w0 (tI th N) A w) {d : Int32} (h : inb d 1 1000 = false) : Ct G yX6_pass kw_X6_pass rm_X6_pass [.ref (am 0), .int d] w (PB (.int (0)) (Mz G am w0 (tI 1 N) A)) := by
  refine ct_intro RX6 "pass" (by decide +kernel) rfl rfl rfl (Nat.le_of_ble_eq_true rfl) [some (.ref (am 0)), some (.int d)] rfl (fun C => ?_)
  refine g_aload0 dX6_pass_0 ?_
  refine g_iload1 dX6_pass_1 ?_
  refine g_iconst (v := 1) dX6_pass_2 (by decide) ?_
  refine g_sipush (v := 1000) dX6_pass_3 (by decide) ?_
  refine g_callS3 ct_in md_X6_in dX6_pass_6 ml_X6_81 st_X6_in (RmOk.of (Nat.le_of_ble_eq_true rfl) (Nat.le_of_ble_eq_true rfl) (Nat.le_of_ble_eq_true rfl) (Nat.le_of_ble_eq_true rfl) (Nat.le_of_ble_eq_true rfl)) (kr_V ?_) kx_V
  refine g_if_ne_f (tgt := 16) dX6_pass_9 (by decide) (bI_0.mpr h) ?_
  refine g_iconst (v := 1) dX6_pass_12 (by decide) ?_
  refine g_goto (tgt := 33) dX6_pass_13 (by decide) ?_
  refine g_mput0 hM dX6_pass_33 fl_X6_74 (fun w1 hM => ?_)
  refine g_aload0 dX6_pass_36 ?_
  refine g_getf kc7 dX6_pass_37 fl_X6_74 (by decide) hM.1 (show _ = some (Value.int (1)) from rfl) ?_
  refine g_if_le_f (tgt := 45) dX6_pass_40 (by decide) (by decide) ?_
  refine g_iconst (v := 0) dX6_pass_43 (by decide) ?_
  refine g_iret dX6_pass_44 ?_ (Nat.le_of_ble_eq_true rfl) (Nat.le_of_ble_eq_true rfl)
  exact ⟨rfl, hM⟩

set_option maxRecDepth 100000 in
theorem mt_pass_b {G : Gx} {w w0 : Wd} {am : Nat → Nat} {th : Int32} {N : Nat → Nat} {A : Nat → Nat → Int32} (hM : Mz G am w0 (tI th N) A w) {d : Int32} (h : inb d 1 1000 = true) (h2 : ¬ nI (N 1) + d ≤ 9999) : Ct G yX6_pass kw_X6_pass rm_X6_pass [.ref (am 0), .int d] w (PB (.int (0)) (Mz G am w0 (tI 2 N) A)) := by
  refine ct_intro RX6 "pass" (by decide +kernel) rfl rfl rfl (Nat.le_of_ble_eq_true rfl) [some (.ref (am 0)), some (.int d)] rfl (fun C => ?_)
  refine g_aload0 dX6_pass_0 ?_
  refine g_iload1 dX6_pass_1 ?_
  refine g_iconst (v := 1) dX6_pass_2 (by decide) ?_
  refine g_sipush (v := 1000) dX6_pass_3 (by decide) ?_
  refine g_callS3 ct_in md_X6_in dX6_pass_6 ml_X6_81 st_X6_in (RmOk.of (Nat.le_of_ble_eq_true rfl) (Nat.le_of_ble_eq_true rfl) (Nat.le_of_ble_eq_true rfl) (Nat.le_of_ble_eq_true rfl) (Nat.le_of_ble_eq_true rfl)) (kr_V ?_) kx_V
  refine g_if_ne_t (tgt := 16) dX6_pass_9 (by decide) (bI_n.mpr h) ?_
  refine g_aload0 dX6_pass_16 ?_
  refine g_getf kc7 dX6_pass_17 fl_X6_85 (by decide) hM.1 (show _ = some (Value.int (nI (N 1))) from rfl) ?_
  refine g_iload1 dX6_pass_20 ?_
  refine g_iadd dX6_pass_21 ?_
  refine g_sipush (v := 9999) dX6_pass_22 (by decide) ?_
  refine g_icmp_le_f (tgt := 32) dX6_pass_25 (by decide) h2 ?_
  refine g_iconst (v := 2) dX6_pass_28 (by decide) ?_
  refine g_goto (tgt := 33) dX6_pass_29 (by decide) ?_
  refine g_mput0 hM dX6_pass_33 fl_X6_74 (fun w1 hM => ?_)
  refine g_aload0 dX6_pass_36 ?_
  refine g_getf kc7 dX6_pass_37 fl_X6_74 (by decide) hM.1 (show _ = some (Value.int (2)) from rfl) ?_
  refine g_if_le_f (tgt := 45) dX6_pass_40 (by decide) (by decide) ?_
  refine g_iconst (v := 0) dX6_pass_43 (by decide) ?_
  refine g_iret dX6_pass_44 ?_ (Nat.le_of_ble_eq_true rfl) (Nat.le_of_ble_eq_true rfl)
  exact ⟨rfl, hM⟩

set_option maxRecDepth 100000 in
theorem mt_pass_c {G : Gx} {w w0 : Wd} {am : Nat → Nat} {th : Int32} {N : Nat → Nat} {A : Nat → Nat → Int32} (hM : Mz G am w0 (tI th N) A w) {j : Nat} (h : inb (nI j) 1 1000 = true) (h2 : nI (N 1) + nI j ≤ 9999) : Ct G yX6_pass kw_X6_pass rm_X6_pass [.ref (am 0), .int (nI j)] w (PB (.int (nI (N 1 + j))) (Mz G am w0 (tI 0 (updN N 1 (N 1 + j))) A)) := by
  refine ct_intro RX6 "pass" (by decide +kernel) rfl rfl rfl (Nat.le_of_ble_eq_true rfl) [some (.ref (am 0)), some (.int (nI j))] rfl (fun C => ?_)
  refine g_aload0 dX6_pass_0 ?_
  refine g_iload1 dX6_pass_1 ?_
  refine g_iconst (v := 1) dX6_pass_2 (by decide) ?_
  refine g_sipush (v := 1000) dX6_pass_3 (by decide) ?_
  refine g_callS3 ct_in md_X6_in dX6_pass_6 ml_X6_81 st_X6_in (RmOk.of (Nat.le_of_ble_eq_true rfl) (Nat.le_of_ble_eq_true rfl) (Nat.le_of_ble_eq_true rfl) (Nat.le_of_ble_eq_true rfl) (Nat.le_of_ble_eq_true rfl)) (kr_V ?_) kx_V
  refine g_if_ne_t (tgt := 16) dX6_pass_9 (by decide) (bI_n.mpr h) ?_
  refine g_aload0 dX6_pass_16 ?_
  refine g_getf kc7 dX6_pass_17 fl_X6_85 (by decide) hM.1 (show _ = some (Value.int (nI (N 1))) from rfl) ?_
  refine g_iload1 dX6_pass_20 ?_
  refine g_iadd dX6_pass_21 ?_
  refine g_sipush (v := 9999) dX6_pass_22 (by decide) ?_
  refine g_icmp_le_t (tgt := 32) dX6_pass_25 (by decide) h2 ?_
  refine g_iconst (v := 0) dX6_pass_32 (by decide) ?_
  refine g_mput0 hM dX6_pass_33 fl_X6_74 (fun w1 hM => ?_)
  refine g_aload0 dX6_pass_36 ?_
  refine g_getf kc7 dX6_pass_37 fl_X6_74 (by decide) hM.1 (show _ = some (Value.int (0)) from rfl) ?_
  refine g_if_le_t (tgt := 45) dX6_pass_40 (by decide) (by decide) ?_
  refine g_aload0 dX6_pass_45 ?_
  refine g_dup dX6_pass_46 rfl ?_
  refine g_getf kc7 dX6_pass_47 fl_X6_85 (by decide) hM.1 (show _ = some (Value.int (nI (N 1))) from rfl) ?_
  refine g_iload1 dX6_pass_50 ?_
  refine g_iadd dX6_pass_51 ?_
  rw [nI_add]
  refine g_mputN (k := 1) hM dX6_pass_52 fl_X6_85 (by decide) rfl rfl rfl (fun w1 hM => ?_)
  refine g_aload0 dX6_pass_55 ?_
  refine g_getf kc7 dX6_pass_56 fl_X6_85 (by decide) hM.1 (show _ = some (Value.int (nI (N 1 + j))) from rfl) ?_
  refine g_iret dX6_pass_59 ?_ (Nat.le_of_ble_eq_true rfl) (Nat.le_of_ble_eq_true rfl)
  exact ⟨rfl, hM⟩

abbrev rm_X6_format : Room := { frames := 1, cells := 0, slots := 0, locals := 22 }

set_option maxRecDepth 100000 in
theorem mt_format_a1 {G : Gx} {w w0 : Wd} {am : Nat → Nat} {th : Int32} {N : Nat → Nat} {A : Nat → Nat → Int32} (hM : Mz G am w0 (tI th N) A w) {dy ac ki : Int32} (h : inb dy 0 9999 = false) : Ct G yX6_format kw_X6_format rm_X6_format [.ref (am 0), .int dy, .int ac, .int ki] w (PB (.int (0)) (Mz G am w0 (tI 1 N) A)) := by
  refine ct_intro RX6 "format" (by decide +kernel) rfl rfl rfl (Nat.le_of_ble_eq_true rfl) [some (.ref (am 0)), some (.int dy), some (.int ac), some (.int ki), none] rfl (fun C => ?_)
  refine g_iload1 dX6_format_0 ?_
  refine g_iconst (v := 0) dX6_format_1 (by decide) ?_
  refine g_sipush (v := 9999) dX6_format_2 (by decide) ?_
  refine g_callS3 ct_in md_X6_in dX6_format_5 ml_X6_81 st_X6_in (RmOk.of (Nat.le_of_ble_eq_true rfl) (Nat.le_of_ble_eq_true rfl) (Nat.le_of_ble_eq_true rfl) (Nat.le_of_ble_eq_true rfl) (Nat.le_of_ble_eq_true rfl)) (kr_V ?_) kx_V
  refine g_if_eq_t (tgt := 35) dX6_format_8 (by decide) (bI_0.mpr h) ?_
  refine g_iconst (v := 0) dX6_format_35 (by decide) ?_
  refine g_istore4 dX6_format_36 ?_
  refine g_aload0 dX6_format_38 ?_
  refine g_iload4 dX6_format_39 ?_
  refine g_if_ne_f (tgt := 48) dX6_format_41 (by decide) rfl ?_
  refine g_iconst (v := 1) dX6_format_44 (by decide) ?_
  refine g_goto (tgt := 62) dX6_format_45 (by decide) ?_
  refine g_mput0 hM dX6_format_62 fl_X6_74 (fun w1 hM => ?_)
  refine g_aload0 dX6_format_65 ?_
  refine g_getf kc7 dX6_format_66 fl_X6_74 (by decide) hM.1 (show _ = some (Value.int (1)) from rfl) ?_
  refine g_if_le_f (tgt := 74) dX6_format_69 (by decide) (by decide) ?_
  refine g_iconst (v := 0) dX6_format_72 (by decide) ?_
  refine g_iret dX6_format_73 ?_ (Nat.le_of_ble_eq_true rfl) (Nat.le_of_ble_eq_true rfl)
  exact ⟨rfl, hM⟩

set_option maxRecDepth 100000 in
theorem mt_format_a2 {G : Gx} {w w0 : Wd} {am : Nat → Nat} {th : Int32} {N : Nat → Nat} {A : Nat → Nat → Int32} (hM : Mz G am w0 (tI th N) A w) {dy ac ki : Int32} (h0 : inb dy 0 9999 = true) (h : inb ac 0 7 = false) : Ct G yX6_format kw_X6_format rm_X6_format [.ref (am 0), .int dy, .int ac, .int ki] w (PB (.int (0)) (Mz G am w0 (tI 1 N) A)) := by
  refine ct_intro RX6 "format" (by decide +kernel) rfl rfl rfl (Nat.le_of_ble_eq_true rfl) [some (.ref (am 0)), some (.int dy), some (.int ac), some (.int ki), none] rfl (fun C => ?_)
  refine g_iload1 dX6_format_0 ?_
  refine g_iconst (v := 0) dX6_format_1 (by decide) ?_
  refine g_sipush (v := 9999) dX6_format_2 (by decide) ?_
  refine g_callS3 ct_in md_X6_in dX6_format_5 ml_X6_81 st_X6_in (RmOk.of (Nat.le_of_ble_eq_true rfl) (Nat.le_of_ble_eq_true rfl) (Nat.le_of_ble_eq_true rfl) (Nat.le_of_ble_eq_true rfl) (Nat.le_of_ble_eq_true rfl)) (kr_V ?_) kx_V
  refine g_if_eq_f (tgt := 35) dX6_format_8 (by decide) (bI_n.mpr h0) ?_
  refine g_iload2 dX6_format_11 ?_
  refine g_iconst (v := 0) dX6_format_12 (by decide) ?_
  refine g_bipush (v := 7) dX6_format_13 (by decide) ?_
  refine g_callS3 ct_in md_X6_in dX6_format_15 ml_X6_81 st_X6_in (RmOk.of (Nat.le_of_ble_eq_true rfl) (Nat.le_of_ble_eq_true rfl) (Nat.le_of_ble_eq_true rfl) (Nat.le_of_ble_eq_true rfl) (Nat.le_of_ble_eq_true rfl)) (kr_V ?_) kx_V
  refine g_if_eq_t (tgt := 35) dX6_format_18 (by decide) (bI_0.mpr h) ?_
  refine g_iconst (v := 0) dX6_format_35 (by decide) ?_
  refine g_istore4 dX6_format_36 ?_
  refine g_aload0 dX6_format_38 ?_
  refine g_iload4 dX6_format_39 ?_
  refine g_if_ne_f (tgt := 48) dX6_format_41 (by decide) rfl ?_
  refine g_iconst (v := 1) dX6_format_44 (by decide) ?_
  refine g_goto (tgt := 62) dX6_format_45 (by decide) ?_
  refine g_mput0 hM dX6_format_62 fl_X6_74 (fun w1 hM => ?_)
  refine g_aload0 dX6_format_65 ?_
  refine g_getf kc7 dX6_format_66 fl_X6_74 (by decide) hM.1 (show _ = some (Value.int (1)) from rfl) ?_
  refine g_if_le_f (tgt := 74) dX6_format_69 (by decide) (by decide) ?_
  refine g_iconst (v := 0) dX6_format_72 (by decide) ?_
  refine g_iret dX6_format_73 ?_ (Nat.le_of_ble_eq_true rfl) (Nat.le_of_ble_eq_true rfl)
  exact ⟨rfl, hM⟩

set_option maxRecDepth 100000 in
theorem mt_format_a3 {G : Gx} {w w0 : Wd} {am : Nat → Nat} {th : Int32} {N : Nat → Nat} {A : Nat → Nat → Int32} (hM : Mz G am w0 (tI th N) A w) {dy ac ki : Int32} (h0 : inb dy 0 9999 = true) (h1 : inb ac 0 7 = true) (h : inb ki 0 7 = false) : Ct G yX6_format kw_X6_format rm_X6_format [.ref (am 0), .int dy, .int ac, .int ki] w (PB (.int (0)) (Mz G am w0 (tI 1 N) A)) := by
  refine ct_intro RX6 "format" (by decide +kernel) rfl rfl rfl (Nat.le_of_ble_eq_true rfl) [some (.ref (am 0)), some (.int dy), some (.int ac), some (.int ki), none] rfl (fun C => ?_)
  refine g_iload1 dX6_format_0 ?_
  refine g_iconst (v := 0) dX6_format_1 (by decide) ?_
  refine g_sipush (v := 9999) dX6_format_2 (by decide) ?_
  refine g_callS3 ct_in md_X6_in dX6_format_5 ml_X6_81 st_X6_in (RmOk.of (Nat.le_of_ble_eq_true rfl) (Nat.le_of_ble_eq_true rfl) (Nat.le_of_ble_eq_true rfl) (Nat.le_of_ble_eq_true rfl) (Nat.le_of_ble_eq_true rfl)) (kr_V ?_) kx_V
  refine g_if_eq_f (tgt := 35) dX6_format_8 (by decide) (bI_n.mpr h0) ?_
  refine g_iload2 dX6_format_11 ?_
  refine g_iconst (v := 0) dX6_format_12 (by decide) ?_
  refine g_bipush (v := 7) dX6_format_13 (by decide) ?_
  refine g_callS3 ct_in md_X6_in dX6_format_15 ml_X6_81 st_X6_in (RmOk.of (Nat.le_of_ble_eq_true rfl) (Nat.le_of_ble_eq_true rfl) (Nat.le_of_ble_eq_true rfl) (Nat.le_of_ble_eq_true rfl) (Nat.le_of_ble_eq_true rfl)) (kr_V ?_) kx_V
  refine g_if_eq_f (tgt := 35) dX6_format_18 (by decide) (bI_n.mpr h1) ?_
  refine g_iload3 dX6_format_21 ?_
  refine g_iconst (v := 0) dX6_format_22 (by decide) ?_
  refine g_bipush (v := 7) dX6_format_23 (by decide) ?_
  refine g_callS3 ct_in md_X6_in dX6_format_25 ml_X6_81 st_X6_in (RmOk.of (Nat.le_of_ble_eq_true rfl) (Nat.le_of_ble_eq_true rfl) (Nat.le_of_ble_eq_true rfl) (Nat.le_of_ble_eq_true rfl) (Nat.le_of_ble_eq_true rfl)) (kr_V ?_) kx_V
  refine g_if_eq_t (tgt := 35) dX6_format_28 (by decide) (bI_0.mpr h) ?_
  refine g_iconst (v := 0) dX6_format_35 (by decide) ?_
  refine g_istore4 dX6_format_36 ?_
  refine g_aload0 dX6_format_38 ?_
  refine g_iload4 dX6_format_39 ?_
  refine g_if_ne_f (tgt := 48) dX6_format_41 (by decide) rfl ?_
  refine g_iconst (v := 1) dX6_format_44 (by decide) ?_
  refine g_goto (tgt := 62) dX6_format_45 (by decide) ?_
  refine g_mput0 hM dX6_format_62 fl_X6_74 (fun w1 hM => ?_)
  refine g_aload0 dX6_format_65 ?_
  refine g_getf kc7 dX6_format_66 fl_X6_74 (by decide) hM.1 (show _ = some (Value.int (1)) from rfl) ?_
  refine g_if_le_f (tgt := 74) dX6_format_69 (by decide) (by decide) ?_
  refine g_iconst (v := 0) dX6_format_72 (by decide) ?_
  refine g_iret dX6_format_73 ?_ (Nat.le_of_ble_eq_true rfl) (Nat.le_of_ble_eq_true rfl)
  exact ⟨rfl, hM⟩

set_option maxRecDepth 100000 in
theorem mt_format_b {G : Gx} {w w0 : Wd} {am : Nat → Nat} {th : Int32} {N : Nat → Nat} {A : Nat → Nat → Int32} (hM : Mz G am w0 (tI th N) A w) {dy ac ki : Int32} (h0 : inb dy 0 9999 = true) (h1 : inb ac 0 7 = true) (h2 : inb ki 0 7 = true) (h : N 2 = 10) : Ct G yX6_format kw_X6_format rm_X6_format [.ref (am 0), .int dy, .int ac, .int ki] w (PB (.int (0)) (Mz G am w0 (tI 2 N) A)) := by
  refine ct_intro RX6 "format" (by decide +kernel) rfl rfl rfl (Nat.le_of_ble_eq_true rfl) [some (.ref (am 0)), some (.int dy), some (.int ac), some (.int ki), none] rfl (fun C => ?_)
  refine g_iload1 dX6_format_0 ?_
  refine g_iconst (v := 0) dX6_format_1 (by decide) ?_
  refine g_sipush (v := 9999) dX6_format_2 (by decide) ?_
  refine g_callS3 ct_in md_X6_in dX6_format_5 ml_X6_81 st_X6_in (RmOk.of (Nat.le_of_ble_eq_true rfl) (Nat.le_of_ble_eq_true rfl) (Nat.le_of_ble_eq_true rfl) (Nat.le_of_ble_eq_true rfl) (Nat.le_of_ble_eq_true rfl)) (kr_V ?_) kx_V
  refine g_if_eq_f (tgt := 35) dX6_format_8 (by decide) (bI_n.mpr h0) ?_
  refine g_iload2 dX6_format_11 ?_
  refine g_iconst (v := 0) dX6_format_12 (by decide) ?_
  refine g_bipush (v := 7) dX6_format_13 (by decide) ?_
  refine g_callS3 ct_in md_X6_in dX6_format_15 ml_X6_81 st_X6_in (RmOk.of (Nat.le_of_ble_eq_true rfl) (Nat.le_of_ble_eq_true rfl) (Nat.le_of_ble_eq_true rfl) (Nat.le_of_ble_eq_true rfl) (Nat.le_of_ble_eq_true rfl)) (kr_V ?_) kx_V
  refine g_if_eq_f (tgt := 35) dX6_format_18 (by decide) (bI_n.mpr h1) ?_
  refine g_iload3 dX6_format_21 ?_
  refine g_iconst (v := 0) dX6_format_22 (by decide) ?_
  refine g_bipush (v := 7) dX6_format_23 (by decide) ?_
  refine g_callS3 ct_in md_X6_in dX6_format_25 ml_X6_81 st_X6_in (RmOk.of (Nat.le_of_ble_eq_true rfl) (Nat.le_of_ble_eq_true rfl) (Nat.le_of_ble_eq_true rfl) (Nat.le_of_ble_eq_true rfl) (Nat.le_of_ble_eq_true rfl)) (kr_V ?_) kx_V
  refine g_if_eq_f (tgt := 35) dX6_format_28 (by decide) (bI_n.mpr h2) ?_
  refine g_iconst (v := 1) dX6_format_31 (by decide) ?_
  refine g_goto (tgt := 36) dX6_format_32 (by decide) ?_
  refine g_istore4 dX6_format_36 ?_
  refine g_aload0 dX6_format_38 ?_
  refine g_iload4 dX6_format_39 ?_
  refine g_if_ne_t (tgt := 48) dX6_format_41 (by decide) (by decide) ?_
  refine g_aload0 dX6_format_48 ?_
  refine g_getf kc7 dX6_format_49 fl_X6_88 (by decide) hM.1 (show _ = some (Value.int (nI (N 2))) from rfl) ?_
  refine g_bipush (v := 10) dX6_format_52 (by decide) ?_
  refine g_icmp_ne_f (tgt := 61) dX6_format_54 (by decide) (by rw [h]; rfl) ?_
  refine g_iconst (v := 2) dX6_format_57 (by decide) ?_
  refine g_goto (tgt := 62) dX6_format_58 (by decide) ?_
  refine g_mput0 hM dX6_format_62 fl_X6_74 (fun w1 hM => ?_)
  refine g_aload0 dX6_format_65 ?_
  refine g_getf kc7 dX6_format_66 fl_X6_74 (by decide) hM.1 (show _ = some (Value.int (2)) from rfl) ?_
  refine g_if_le_f (tgt := 74) dX6_format_69 (by decide) (by decide) ?_
  refine g_iconst (v := 0) dX6_format_72 (by decide) ?_
  refine g_iret dX6_format_73 ?_ (Nat.le_of_ble_eq_true rfl) (Nat.le_of_ble_eq_true rfl)
  exact ⟨rfl, hM⟩

set_option maxRecDepth 100000 in
theorem mt_format_c {G : Gx} {w w0 : Wd} {am : Nat → Nat} {th : Int32} {N : Nat → Nat} {A : Nat → Nat → Int32} (hM : Mz G am w0 (tI th N) A w) {dy ac ki : Int32} (h0 : inb dy 0 9999 = true) (h1 : inb ac 0 7 = true) (h2 : inb ki 0 7 = true) (h : N 2 < 10) : Ct G yX6_format kw_X6_format rm_X6_format [.ref (am 0), .int dy, .int ac, .int ki] w (PB (.int (nI (N 2 + 1))) (Mz G am w0 (tI 0 (updN N 2 (N 2 + 1))) (updA (updA (updA A 3 (N 2) dy) 4 (N 2) ac) 5 (N 2) ki))) := by
  refine ct_intro RX6 "format" (by decide +kernel) rfl rfl rfl (Nat.le_of_ble_eq_true rfl) [some (.ref (am 0)), some (.int dy), some (.int ac), some (.int ki), none] rfl (fun C => ?_)
  refine g_iload1 dX6_format_0 ?_
  refine g_iconst (v := 0) dX6_format_1 (by decide) ?_
  refine g_sipush (v := 9999) dX6_format_2 (by decide) ?_
  refine g_callS3 ct_in md_X6_in dX6_format_5 ml_X6_81 st_X6_in (RmOk.of (Nat.le_of_ble_eq_true rfl) (Nat.le_of_ble_eq_true rfl) (Nat.le_of_ble_eq_true rfl) (Nat.le_of_ble_eq_true rfl) (Nat.le_of_ble_eq_true rfl)) (kr_V ?_) kx_V
  refine g_if_eq_f (tgt := 35) dX6_format_8 (by decide) (bI_n.mpr h0) ?_
  refine g_iload2 dX6_format_11 ?_
  refine g_iconst (v := 0) dX6_format_12 (by decide) ?_
  refine g_bipush (v := 7) dX6_format_13 (by decide) ?_
  refine g_callS3 ct_in md_X6_in dX6_format_15 ml_X6_81 st_X6_in (RmOk.of (Nat.le_of_ble_eq_true rfl) (Nat.le_of_ble_eq_true rfl) (Nat.le_of_ble_eq_true rfl) (Nat.le_of_ble_eq_true rfl) (Nat.le_of_ble_eq_true rfl)) (kr_V ?_) kx_V
  refine g_if_eq_f (tgt := 35) dX6_format_18 (by decide) (bI_n.mpr h1) ?_
  refine g_iload3 dX6_format_21 ?_
  refine g_iconst (v := 0) dX6_format_22 (by decide) ?_
  refine g_bipush (v := 7) dX6_format_23 (by decide) ?_
  refine g_callS3 ct_in md_X6_in dX6_format_25 ml_X6_81 st_X6_in (RmOk.of (Nat.le_of_ble_eq_true rfl) (Nat.le_of_ble_eq_true rfl) (Nat.le_of_ble_eq_true rfl) (Nat.le_of_ble_eq_true rfl) (Nat.le_of_ble_eq_true rfl)) (kr_V ?_) kx_V
  refine g_if_eq_f (tgt := 35) dX6_format_28 (by decide) (bI_n.mpr h2) ?_
  refine g_iconst (v := 1) dX6_format_31 (by decide) ?_
  refine g_goto (tgt := 36) dX6_format_32 (by decide) ?_
  refine g_istore4 dX6_format_36 ?_
  refine g_aload0 dX6_format_38 ?_
  refine g_iload4 dX6_format_39 ?_
  refine g_if_ne_t (tgt := 48) dX6_format_41 (by decide) (by decide) ?_
  refine g_aload0 dX6_format_48 ?_
  refine g_getf kc7 dX6_format_49 fl_X6_88 (by decide) hM.1 (show _ = some (Value.int (nI (N 2))) from rfl) ?_
  refine g_bipush (v := 10) dX6_format_52 (by decide) ?_
  refine g_icmp_ne_t (tgt := 61) dX6_format_54 (by decide) (fun z => absurd ((nI_eq (b := 10) (by omega) (by decide)).mp z) (by omega)) ?_
  refine g_iconst (v := 0) dX6_format_61 (by decide) ?_
  refine g_mput0 hM dX6_format_62 fl_X6_74 (fun w1 hM => ?_)
  refine g_aload0 dX6_format_65 ?_
  refine g_getf kc7 dX6_format_66 fl_X6_74 (by decide) hM.1 (show _ = some (Value.int (0)) from rfl) ?_
  refine g_if_le_t (tgt := 74) dX6_format_69 (by decide) (by decide) ?_
  refine g_aload0 dX6_format_74 ?_
  refine g_getf kc7 dX6_format_75 fl_X6_7 (by decide) hM.1 rfl ?_
  refine g_aload0 dX6_format_78 ?_
  refine g_getf kc7 dX6_format_79 fl_X6_88 (by decide) hM.1 (show _ = some (Value.int (nI (N 2))) from rfl) ?_
  refine g_iload1 dX6_format_82 ?_
  refine g_miast (k := 3) (n := 10) hM rfl (by decide) (fun _ => rfl) dX6_format_83 (by omega) (by decide) (fun w1 hM => ?_)
  refine g_aload0 dX6_format_84 ?_
  refine g_getf kc7 dX6_format_85 fl_X6_13 (by decide) hM.1 rfl ?_
  refine g_aload0 dX6_format_88 ?_
  refine g_getf kc7 dX6_format_89 fl_X6_88 (by decide) hM.1 (show _ = some (Value.int (nI (N 2))) from rfl) ?_
  refine g_iload2 dX6_format_92 ?_
  refine g_miast (k := 4) (n := 10) hM rfl (by decide) (fun _ => rfl) dX6_format_93 (by omega) (by decide) (fun w1 hM => ?_)
  refine g_aload0 dX6_format_94 ?_
  refine g_getf kc7 dX6_format_95 fl_X6_16 (by decide) hM.1 rfl ?_
  refine g_aload0 dX6_format_98 ?_
  refine g_getf kc7 dX6_format_99 fl_X6_88 (by decide) hM.1 (show _ = some (Value.int (nI (N 2))) from rfl) ?_
  refine g_iload3 dX6_format_102 ?_
  refine g_miast (k := 5) (n := 10) hM rfl (by decide) (fun _ => rfl) dX6_format_103 (by omega) (by decide) (fun w1 hM => ?_)
  refine g_aload0 dX6_format_104 ?_
  refine g_dup dX6_format_105 rfl ?_
  refine g_getf kc7 dX6_format_106 fl_X6_88 (by decide) hM.1 (show _ = some (Value.int (nI (N 2))) from rfl) ?_
  refine g_iconst (v := 1) dX6_format_109 (by decide) ?_
  refine g_iadd dX6_format_110 ?_
  rw [show nI (N 2) + 1 = nI (N 2 + 1) from nI_1 _]
  refine g_mputN (k := 2) hM dX6_format_111 fl_X6_88 (by decide) rfl rfl rfl (fun w1 hM => ?_)
  refine g_aload0 dX6_format_114 ?_
  refine g_getf kc7 dX6_format_115 fl_X6_88 (by decide) hM.1 (show _ = some (Value.int (nI (N 2 + 1))) from rfl) ?_
  refine g_iret dX6_format_118 ?_ (Nat.le_of_ble_eq_true rfl) (Nat.le_of_ble_eq_true rfl)
  exact ⟨rfl, hM⟩

abbrev rm_X6_line : Room := { frames := 1, cells := 0, slots := 0, locals := 22 }

set_option maxRecDepth 100000 in
theorem mt_line_a {G : Gx} {w w0 : Wd} {am : Nat → Nat} {th : Int32} {N : Nat → Nat} {A : Nat → Nat → Int32} (hM : Mz G am w0 (tI th N) A w) {v : Int32} (h : inb v 0 99 = false) : Ct G yX6_line kw_X6_line rm_X6_line [.ref (am 0), .int v] w (PB (.int (0)) (Mz G am w0 (tI 1 N) A)) := by
  refine ct_intro RX6 "line" (by decide +kernel) rfl rfl rfl (Nat.le_of_ble_eq_true rfl) [some (.ref (am 0)), some (.int v)] rfl (fun C => ?_)
  refine g_aload0 dX6_line_0 ?_
  refine g_iload1 dX6_line_1 ?_
  refine g_iconst (v := 0) dX6_line_2 (by decide) ?_
  refine g_bipush (v := 99) dX6_line_3 (by decide) ?_
  refine g_callS3 ct_in md_X6_in dX6_line_5 ml_X6_81 st_X6_in (RmOk.of (Nat.le_of_ble_eq_true rfl) (Nat.le_of_ble_eq_true rfl) (Nat.le_of_ble_eq_true rfl) (Nat.le_of_ble_eq_true rfl) (Nat.le_of_ble_eq_true rfl)) (kr_V ?_) kx_V
  refine g_if_ne_f (tgt := 15) dX6_line_8 (by decide) (bI_0.mpr h) ?_
  refine g_iconst (v := 1) dX6_line_11 (by decide) ?_
  refine g_goto (tgt := 29) dX6_line_12 (by decide) ?_
  refine g_mput0 hM dX6_line_29 fl_X6_74 (fun w1 hM => ?_)
  refine g_aload0 dX6_line_32 ?_
  refine g_getf kc7 dX6_line_33 fl_X6_74 (by decide) hM.1 (show _ = some (Value.int (1)) from rfl) ?_
  refine g_if_le_f (tgt := 41) dX6_line_36 (by decide) (by decide) ?_
  refine g_iconst (v := 0) dX6_line_39 (by decide) ?_
  refine g_iret dX6_line_40 ?_ (Nat.le_of_ble_eq_true rfl) (Nat.le_of_ble_eq_true rfl)
  exact ⟨rfl, hM⟩

set_option maxRecDepth 100000 in
theorem mt_line_b {G : Gx} {w w0 : Wd} {am : Nat → Nat} {th : Int32} {N : Nat → Nat} {A : Nat → Nat → Int32} (hM : Mz G am w0 (tI th N) A w) {v : Int32} (h : inb v 0 99 = true) (h2 : N 10 = 8) : Ct G yX6_line kw_X6_line rm_X6_line [.ref (am 0), .int v] w (PB (.int (0)) (Mz G am w0 (tI 2 N) A)) := by
  refine ct_intro RX6 "line" (by decide +kernel) rfl rfl rfl (Nat.le_of_ble_eq_true rfl) [some (.ref (am 0)), some (.int v)] rfl (fun C => ?_)
  refine g_aload0 dX6_line_0 ?_
  refine g_iload1 dX6_line_1 ?_
  refine g_iconst (v := 0) dX6_line_2 (by decide) ?_
  refine g_bipush (v := 99) dX6_line_3 (by decide) ?_
  refine g_callS3 ct_in md_X6_in dX6_line_5 ml_X6_81 st_X6_in (RmOk.of (Nat.le_of_ble_eq_true rfl) (Nat.le_of_ble_eq_true rfl) (Nat.le_of_ble_eq_true rfl) (Nat.le_of_ble_eq_true rfl) (Nat.le_of_ble_eq_true rfl)) (kr_V ?_) kx_V
  refine g_if_ne_t (tgt := 15) dX6_line_8 (by decide) (bI_n.mpr h) ?_
  refine g_aload0 dX6_line_15 ?_
  refine g_getf kc7 dX6_line_16 fl_X6_91 (by decide) hM.1 (show _ = some (Value.int (nI (N 10))) from rfl) ?_
  refine g_bipush (v := 8) dX6_line_19 (by decide) ?_
  refine g_icmp_ne_f (tgt := 28) dX6_line_21 (by decide) (by rw [h2]; rfl) ?_
  refine g_iconst (v := 2) dX6_line_24 (by decide) ?_
  refine g_goto (tgt := 29) dX6_line_25 (by decide) ?_
  refine g_mput0 hM dX6_line_29 fl_X6_74 (fun w1 hM => ?_)
  refine g_aload0 dX6_line_32 ?_
  refine g_getf kc7 dX6_line_33 fl_X6_74 (by decide) hM.1 (show _ = some (Value.int (2)) from rfl) ?_
  refine g_if_le_f (tgt := 41) dX6_line_36 (by decide) (by decide) ?_
  refine g_iconst (v := 0) dX6_line_39 (by decide) ?_
  refine g_iret dX6_line_40 ?_ (Nat.le_of_ble_eq_true rfl) (Nat.le_of_ble_eq_true rfl)
  exact ⟨rfl, hM⟩

set_option maxRecDepth 100000 in
theorem mt_line_c {G : Gx} {w w0 : Wd} {am : Nat → Nat} {th : Int32} {N : Nat → Nat} {A : Nat → Nat → Int32} (hM : Mz G am w0 (tI th N) A w) {v : Int32} (h : inb v 0 99 = true) (h2 : N 10 < 8) : Ct G yX6_line kw_X6_line rm_X6_line [.ref (am 0), .int v] w (PB (.int (nI (N 10 + 1))) (Mz G am w0 (tI 0 (updN N 10 (N 10 + 1))) (updA A 11 (N 10) v))) := by
  refine ct_intro RX6 "line" (by decide +kernel) rfl rfl rfl (Nat.le_of_ble_eq_true rfl) [some (.ref (am 0)), some (.int v)] rfl (fun C => ?_)
  refine g_aload0 dX6_line_0 ?_
  refine g_iload1 dX6_line_1 ?_
  refine g_iconst (v := 0) dX6_line_2 (by decide) ?_
  refine g_bipush (v := 99) dX6_line_3 (by decide) ?_
  refine g_callS3 ct_in md_X6_in dX6_line_5 ml_X6_81 st_X6_in (RmOk.of (Nat.le_of_ble_eq_true rfl) (Nat.le_of_ble_eq_true rfl) (Nat.le_of_ble_eq_true rfl) (Nat.le_of_ble_eq_true rfl) (Nat.le_of_ble_eq_true rfl)) (kr_V ?_) kx_V
  refine g_if_ne_t (tgt := 15) dX6_line_8 (by decide) (bI_n.mpr h) ?_
  refine g_aload0 dX6_line_15 ?_
  refine g_getf kc7 dX6_line_16 fl_X6_91 (by decide) hM.1 (show _ = some (Value.int (nI (N 10))) from rfl) ?_
  refine g_bipush (v := 8) dX6_line_19 (by decide) ?_
  refine g_icmp_ne_t (tgt := 28) dX6_line_21 (by decide) (fun z => absurd ((nI_eq (b := 8) (by omega) (by decide)).mp z) (by omega)) ?_
  refine g_iconst (v := 0) dX6_line_28 (by decide) ?_
  refine g_mput0 hM dX6_line_29 fl_X6_74 (fun w1 hM => ?_)
  refine g_aload0 dX6_line_32 ?_
  refine g_getf kc7 dX6_line_33 fl_X6_74 (by decide) hM.1 (show _ = some (Value.int (0)) from rfl) ?_
  refine g_if_le_t (tgt := 41) dX6_line_36 (by decide) (by decide) ?_
  refine g_aload0 dX6_line_41 ?_
  refine g_getf kc7 dX6_line_42 fl_X6_25 (by decide) hM.1 rfl ?_
  refine g_aload0 dX6_line_45 ?_
  refine g_getf kc7 dX6_line_46 fl_X6_91 (by decide) hM.1 (show _ = some (Value.int (nI (N 10))) from rfl) ?_
  refine g_iload1 dX6_line_49 ?_
  refine g_miast (k := 11) (n := 8) hM rfl (by decide) (fun _ => rfl) dX6_line_50 (by omega) (by decide) (fun w1 hM => ?_)
  refine g_aload0 dX6_line_51 ?_
  refine g_dup dX6_line_52 rfl ?_
  refine g_getf kc7 dX6_line_53 fl_X6_91 (by decide) hM.1 (show _ = some (Value.int (nI (N 10))) from rfl) ?_
  refine g_iconst (v := 1) dX6_line_56 (by decide) ?_
  refine g_iadd dX6_line_57 ?_
  rw [show nI (N 10) + 1 = nI (N 10 + 1) from nI_1 _]
  refine g_mputN (k := 10) hM dX6_line_58 fl_X6_91 (by decide) rfl rfl rfl (fun w1 hM => ?_)
  refine g_aload0 dX6_line_61 ?_
  refine g_getf kc7 dX6_line_62 fl_X6_91 (by decide) hM.1 (show _ = some (Value.int (nI (N 10 + 1))) from rfl) ?_
  refine g_iret dX6_line_65 ?_ (Nat.le_of_ble_eq_true rfl) (Nat.le_of_ble_eq_true rfl)
  exact ⟨rfl, hM⟩

/-- line k of page p, -1 if the page does not have it -/
def lno (A : Nat → Nat → Int32) (p k : Nat) : Int32 := if nI k < A 8 p then A 9 (8 * p + k) else -1
abbrev rm_X6_lineOf : Room := { frames := 0, cells := 0, slots := 0, locals := 0 }

set_option maxRecDepth 100000 in
theorem mt_lineOf {G : Gx} {w w0 : Wd} {am : Nat → Nat} {th : Int32} {N : Nat → Nat} {A : Nat → Nat → Int32} (hM : Mz G am w0 (tI th N) A w) {p k : Nat} (hp : p < 121) (hk : k < 8) : Ct G yX6_lineOf kw_X6_lineOf rm_X6_lineOf [.ref (am 0), .int (nI p), .int (nI k)] w (PV (.int (lno A p k)) w) := by
  refine ct_intro RX6 "lineOf" (by decide +kernel) rfl rfl rfl (Nat.le_of_ble_eq_true rfl) [some (.ref (am 0)), some (.int (nI p)), some (.int (nI k))] rfl (fun C => ?_)
  refine g_iload2 dX6_lineOf_0 ?_
  refine g_aload0 dX6_lineOf_1 ?_
  refine g_getf kc7 dX6_lineOf_2 fl_X6_19 (by decide) hM.1 rfl ?_
  refine g_iload1 dX6_lineOf_5 ?_
  refine g_miald (k := 8) (n := 121) hM rfl (by decide) (fun _ => rfl) dX6_lineOf_6 (by omega) (by decide) ?_
  refine g_icmp_ge (tgt := 24) dX6_lineOf_7 (by decide) (fun h7 => ?_) (fun h7 => ?_)
  · skip
    refine g_iconst (v := (-1)) dX6_lineOf_24 (by decide) ?_
    refine g_iret dX6_lineOf_25 ?_ (Nat.le_of_ble_eq_true rfl) (Nat.le_of_ble_eq_true rfl)
    first | exact ⟨by unfold lno; rw [if_neg (Int32.not_lt.mpr h7)], rfl⟩ | exact ⟨by unfold lno; rw [if_pos (Int32.not_le.mp h7)], rfl⟩
  · skip
    refine g_aload0 dX6_lineOf_10 ?_
    refine g_getf kc7 dX6_lineOf_11 fl_X6_22 (by decide) hM.1 rfl ?_
    refine g_bipush (v := 8) dX6_lineOf_14 (by decide) ?_
    refine g_iload1 dX6_lineOf_16 ?_
    refine g_imul dX6_lineOf_17 ?_
    refine g_iload2 dX6_lineOf_18 ?_
    refine g_iadd dX6_lineOf_19 ?_
    rw [show (8 : Int32) * nI p + nI k = nI (8 * p + k) by rw [show (8 : Int32) = nI 8 from rfl, pk_mul, nI_add]]
    refine g_miald (k := 9) (n := 968) hM rfl (by decide) (fun _ => rfl) dX6_lineOf_20 (by omega) (by decide) ?_
    refine g_goto (tgt := 25) dX6_lineOf_21 (by decide) ?_
    refine g_iret dX6_lineOf_25 ?_ (Nat.le_of_ble_eq_true rfl) (Nat.le_of_ble_eq_true rfl)
    first | exact ⟨by unfold lno; rw [if_neg (Int32.not_lt.mpr h7)], rfl⟩ | exact ⟨by unfold lno; rw [if_pos (Int32.not_le.mp h7)], rfl⟩

abbrev rm_X6_thrown : Room := { frames := 0, cells := 0, slots := 0, locals := 0 }

set_option maxRecDepth 100000 in
theorem mt_thrown {G : Gx} {w w0 : Wd} {am : Nat → Nat} {th : Int32} {N : Nat → Nat} {A : Nat → Nat → Int32} (hM : Mz G am w0 (tI th N) A w)  : Ct G yX6_thrown kw_X6_thrown rm_X6_thrown [.ref (am 0)] w (PV (.int th) w) := by
  refine ct_intro RX6 "thrown" (by decide +kernel) rfl rfl rfl (Nat.le_of_ble_eq_true rfl) [some (.ref (am 0))] rfl (fun C => ?_)
  refine g_aload0 dX6_thrown_0 ?_
  refine g_getf kc7 dX6_thrown_1 fl_X6_74 (by decide) hM.1 (show _ = some (Value.int (th)) from rfl) ?_
  refine g_iret dX6_thrown_4 ?_ (Nat.le_of_ble_eq_true rfl) (Nat.le_of_ble_eq_true rfl)
  exact ⟨rfl, rfl⟩

abbrev rm_X6_documents : Room := { frames := 0, cells := 0, slots := 0, locals := 0 }

set_option maxRecDepth 100000 in
theorem mt_documents {G : Gx} {w w0 : Wd} {am : Nat → Nat} {th : Int32} {N : Nat → Nat} {A : Nat → Nat → Int32} (hM : Mz G am w0 (tI th N) A w)  : Ct G yX6_documents kw_X6_documents rm_X6_documents [.ref (am 0)] w (PB (.int (nI (N 17))) (Mz G am w0 (tI 0 N) A)) := by
  refine ct_intro RX6 "documents" (by decide +kernel) rfl rfl rfl (Nat.le_of_ble_eq_true rfl) [some (.ref (am 0))] rfl (fun C => ?_)
  refine g_aload0 dX6_documents_0 ?_
  refine g_iconst (v := 0) dX6_documents_1 (by decide) ?_
  refine g_mput0 hM dX6_documents_2 fl_X6_74 (fun w1 hM => ?_)
  refine g_aload0 dX6_documents_5 ?_
  refine g_getf kc7 dX6_documents_6 fl_X6_107 (by decide) hM.1 (show _ = some (Value.int (nI (N 17))) from rfl) ?_
  refine g_iret dX6_documents_9 ?_ (Nat.le_of_ble_eq_true rfl) (Nat.le_of_ble_eq_true rfl)
  exact ⟨rfl, hM⟩

abbrev rm_X6_pages : Room := { frames := 2, cells := 0, slots := 0, locals := 43 }

set_option maxRecDepth 100000 in
theorem mt_pages_a {G : Gx} {w w0 : Wd} {am : Nat → Nat} {th : Int32} {N : Nat → Nat} {A : Nat → Nat → Int32} (hM : Mz G am w0 (tI th N) A w) {r : Int32} (h : inb r 0 (nI (N 13) - 1) = false) : Ct G yX6_pages kw_X6_pages rm_X6_pages [.ref (am 0), .int r] w (PB (.int (0)) (Mz G am w0 (tI 1 N) A)) := by
  refine ct_intro RX6 "pages" (by decide +kernel) rfl rfl rfl (Nat.le_of_ble_eq_true rfl) [some (.ref (am 0)), some (.int r)] rfl (fun C => ?_)
  refine g_aload0 dX6_pages_0 ?_
  refine g_aload0 dX6_pages_1 ?_
  refine g_iload1 dX6_pages_2 ?_
  refine g_callV1 kc7 (ct_isRun hM) md_X6_isRun dX6_pages_3 ml_X6_121 im_X6_isRun se_X6_isRun hM.1 (RmOk.of (Nat.le_of_ble_eq_true rfl) (Nat.le_of_ble_eq_true rfl) (Nat.le_of_ble_eq_true rfl) (Nat.le_of_ble_eq_true rfl) (Nat.le_of_ble_eq_true rfl)) (kr_V ?_) kx_V
  refine g_if_eq_t (tgt := 13) dX6_pages_6 (by decide) (bI_0.mpr h) ?_
  refine g_iconst (v := 1) dX6_pages_13 (by decide) ?_
  refine g_mput0 hM dX6_pages_14 fl_X6_74 (fun w1 hM => ?_)
  refine g_aload0 dX6_pages_17 ?_
  refine g_getf kc7 dX6_pages_18 fl_X6_74 (by decide) hM.1 (show _ = some (Value.int (1)) from rfl) ?_
  refine g_if_le_f (tgt := 28) dX6_pages_21 (by decide) (by decide) ?_
  refine g_iconst (v := 0) dX6_pages_24 (by decide) ?_
  refine g_goto (tgt := 34) dX6_pages_25 (by decide) ?_
  refine g_iret dX6_pages_34 ?_ (Nat.le_of_ble_eq_true rfl) (Nat.le_of_ble_eq_true rfl)
  exact ⟨rfl, hM⟩

set_option maxRecDepth 100000 in
theorem mt_pages_b {G : Gx} {w w0 : Wd} {am : Nat → Nat} {th : Int32} {N : Nat → Nat} {A : Nat → Nat → Int32} (hM : Mz G am w0 (tI th N) A w) {r : Nat} (h : inb (nI r) 0 (nI (N 13) - 1) = true) (hr : r < 15) : Ct G yX6_pages kw_X6_pages rm_X6_pages [.ref (am 0), .int (nI r)] w (PB (.int (A 16 r)) (Mz G am w0 (tI 0 N) A)) := by
  refine ct_intro RX6 "pages" (by decide +kernel) rfl rfl rfl (Nat.le_of_ble_eq_true rfl) [some (.ref (am 0)), some (.int (nI r))] rfl (fun C => ?_)
  refine g_aload0 dX6_pages_0 ?_
  refine g_aload0 dX6_pages_1 ?_
  refine g_iload1 dX6_pages_2 ?_
  refine g_callV1 kc7 (ct_isRun hM) md_X6_isRun dX6_pages_3 ml_X6_121 im_X6_isRun se_X6_isRun hM.1 (RmOk.of (Nat.le_of_ble_eq_true rfl) (Nat.le_of_ble_eq_true rfl) (Nat.le_of_ble_eq_true rfl) (Nat.le_of_ble_eq_true rfl) (Nat.le_of_ble_eq_true rfl)) (kr_V ?_) kx_V
  refine g_if_eq_f (tgt := 13) dX6_pages_6 (by decide) (bI_n.mpr h) ?_
  refine g_iconst (v := 0) dX6_pages_9 (by decide) ?_
  refine g_goto (tgt := 14) dX6_pages_10 (by decide) ?_
  refine g_mput0 hM dX6_pages_14 fl_X6_74 (fun w1 hM => ?_)
  refine g_aload0 dX6_pages_17 ?_
  refine g_getf kc7 dX6_pages_18 fl_X6_74 (by decide) hM.1 (show _ = some (Value.int (0)) from rfl) ?_
  refine g_if_le_t (tgt := 28) dX6_pages_21 (by decide) (by decide) ?_
  refine g_aload0 dX6_pages_28 ?_
  refine g_getf kc7 dX6_pages_29 fl_X6_37 (by decide) hM.1 rfl ?_
  refine g_iload1 dX6_pages_32 ?_
  refine g_miald (k := 16) (n := 15) hM rfl (by decide) (fun _ => rfl) dX6_pages_33 (by omega) (by decide) ?_
  refine g_iret dX6_pages_34 ?_ (Nat.le_of_ble_eq_true rfl) (Nat.le_of_ble_eq_true rfl)
  exact ⟨rfl, hM⟩

abbrev rm_X6_isPage : Room := { frames := 2, cells := 0, slots := 0, locals := 43 }

set_option maxRecDepth 100000 in
theorem mt_isPage_a {G : Gx} {w w0 : Wd} {am : Nat → Nat} {th : Int32} {N : Nat → Nat} {A : Nat → Nat → Int32} (hM : Mz G am w0 (tI th N) A w) {r pg : Int32} (h : inb r 0 (nI (N 13) - 1) = false) : Ct G yX6_isPage kw_X6_isPage rm_X6_isPage [.ref (am 0), .int r, .int pg] w (PV (.int (bI false)) w) := by
  refine ct_intro RX6 "isPage" (by decide +kernel) rfl rfl rfl (Nat.le_of_ble_eq_true rfl) [some (.ref (am 0)), some (.int r), some (.int pg)] rfl (fun C => ?_)
  refine g_aload0 dX6_isPage_0 ?_
  refine g_iload1 dX6_isPage_1 ?_
  refine g_callV1 kc7 (ct_isRun hM) md_X6_isRun dX6_isPage_2 ml_X6_121 im_X6_isRun se_X6_isRun hM.1 (RmOk.of (Nat.le_of_ble_eq_true rfl) (Nat.le_of_ble_eq_true rfl) (Nat.le_of_ble_eq_true rfl) (Nat.le_of_ble_eq_true rfl) (Nat.le_of_ble_eq_true rfl)) (kr_V ?_) kx_V
  refine g_if_eq_t (tgt := 28) dX6_isPage_5 (by decide) (bI_0.mpr h) ?_
  refine g_iconst (v := 0) dX6_isPage_28 (by decide) ?_
  refine g_zret dX6_isPage_29 (by decide) ?_ (Nat.le_of_ble_eq_true rfl) (Nat.le_of_ble_eq_true rfl)
  exact ⟨rfl, rfl⟩

set_option maxRecDepth 100000 in
theorem mt_isPage_b {G : Gx} {w w0 : Wd} {am : Nat → Nat} {th : Int32} {N : Nat → Nat} {A : Nat → Nat → Int32} (hM : Mz G am w0 (tI th N) A w) {r : Nat} {pg : Int32} (h : inb (nI r) 0 (nI (N 13) - 1) = true) (hr : r < 15) : Ct G yX6_isPage kw_X6_isPage rm_X6_isPage [.ref (am 0), .int (nI r), .int pg] w (PV (.int (bI (inb pg 0 (A 16 r - 1)))) w) := by
  refine ct_intro RX6 "isPage" (by decide +kernel) rfl rfl rfl (Nat.le_of_ble_eq_true rfl) [some (.ref (am 0)), some (.int (nI r)), some (.int pg)] rfl (fun C => ?_)
  refine g_aload0 dX6_isPage_0 ?_
  refine g_iload1 dX6_isPage_1 ?_
  refine g_callV1 kc7 (ct_isRun hM) md_X6_isRun dX6_isPage_2 ml_X6_121 im_X6_isRun se_X6_isRun hM.1 (RmOk.of (Nat.le_of_ble_eq_true rfl) (Nat.le_of_ble_eq_true rfl) (Nat.le_of_ble_eq_true rfl) (Nat.le_of_ble_eq_true rfl) (Nat.le_of_ble_eq_true rfl)) (kr_V ?_) kx_V
  refine g_if_eq_f (tgt := 28) dX6_isPage_5 (by decide) (bI_n.mpr h) ?_
  refine g_iload2 dX6_isPage_8 ?_
  refine g_iconst (v := 0) dX6_isPage_9 (by decide) ?_
  refine g_aload0 dX6_isPage_10 ?_
  refine g_getf kc7 dX6_isPage_11 fl_X6_37 (by decide) hM.1 rfl ?_
  refine g_iload1 dX6_isPage_14 ?_
  refine g_miald (k := 16) (n := 15) hM rfl (by decide) (fun _ => rfl) dX6_isPage_15 (by omega) (by decide) ?_
  refine g_iconst (v := 1) dX6_isPage_16 (by decide) ?_
  refine g_isub dX6_isPage_17 ?_
  refine g_callS3 ct_in md_X6_in dX6_isPage_18 ml_X6_81 st_X6_in (RmOk.of (Nat.le_of_ble_eq_true rfl) (Nat.le_of_ble_eq_true rfl) (Nat.le_of_ble_eq_true rfl) (Nat.le_of_ble_eq_true rfl) (Nat.le_of_ble_eq_true rfl)) (kr_V ?_) kx_V
  refine g_if_eq (tgt := 28) dX6_isPage_21 (by decide) (fun h21 => ?_) (fun h21 => ?_)
  · skip
    refine g_iconst (v := 0) dX6_isPage_28 (by decide) ?_
    refine g_zret dX6_isPage_29 (by decide) ?_ (Nat.le_of_ble_eq_true rfl) (Nat.le_of_ble_eq_true rfl)
    first | exact ⟨by rw [bI_0.mp h21]; rfl, rfl⟩ | exact ⟨by rw [bI_n.mp h21]; rfl, rfl⟩
  · skip
    refine g_iconst (v := 1) dX6_isPage_24 (by decide) ?_
    refine g_goto (tgt := 29) dX6_isPage_25 (by decide) ?_
    refine g_zret dX6_isPage_29 (by decide) ?_ (Nat.le_of_ble_eq_true rfl) (Nat.le_of_ble_eq_true rfl)
    first | exact ⟨by rw [bI_0.mp h21]; rfl, rfl⟩ | exact ⟨by rw [bI_n.mp h21]; rfl, rfl⟩

abbrev rm_X6_copies : Room := { frames := 3, cells := 0, slots := 0, locals := 65 }

set_option maxRecDepth 100000 in
theorem mt_copies_a {G : Gx} {w w0 : Wd} {am : Nat → Nat} {th : Int32} {N : Nat → Nat} {A : Nat → Nat → Int32} (hM : Mz G am w0 (tI th N) A w) {r pg : Int32} (ct : ∀ {w : Wd}, Mz G am w0 (tI th N) A w → Ct G yX6_isPage kw_X6_isPage rm_X6_isPage [.ref (am 0), .int r, .int pg] w (PV (.int (bI false)) w)) : Ct G yX6_copies kw_X6_copies rm_X6_copies [.ref (am 0), .int r, .int pg] w (PB (.int (0)) (Mz G am w0 (tI 1 N) A)) := by
  refine ct_intro RX6 "copies" (by decide +kernel) rfl rfl rfl (Nat.le_of_ble_eq_true rfl) [some (.ref (am 0)), some (.int r), some (.int pg)] rfl (fun C => ?_)
  refine g_aload0 dX6_copies_0 ?_
  refine g_aload0 dX6_copies_1 ?_
  refine g_iload1 dX6_copies_2 ?_
  refine g_iload2 dX6_copies_3 ?_
  refine g_callV2 kc7 (ct hM) md_X6_isPage dX6_copies_4 ml_X6_129 im_X6_isPage se_X6_isPage hM.1 (RmOk.of (Nat.le_of_ble_eq_true rfl) (Nat.le_of_ble_eq_true rfl) (Nat.le_of_ble_eq_true rfl) (Nat.le_of_ble_eq_true rfl) (Nat.le_of_ble_eq_true rfl)) (kr_V ?_) kx_V
  refine g_if_eq_t (tgt := 14) dX6_copies_7 (by decide) rfl ?_
  refine g_iconst (v := 1) dX6_copies_14 (by decide) ?_
  refine g_mput0 hM dX6_copies_15 fl_X6_74 (fun w1 hM => ?_)
  refine g_aload0 dX6_copies_18 ?_
  refine g_getf kc7 dX6_copies_19 fl_X6_74 (by decide) hM.1 (show _ = some (Value.int (1)) from rfl) ?_
  refine g_if_le_f (tgt := 29) dX6_copies_22 (by decide) (by decide) ?_
  refine g_iconst (v := 0) dX6_copies_25 (by decide) ?_
  refine g_goto (tgt := 42) dX6_copies_26 (by decide) ?_
  refine g_iret dX6_copies_42 ?_ (Nat.le_of_ble_eq_true rfl) (Nat.le_of_ble_eq_true rfl)
  exact ⟨rfl, hM⟩

set_option maxRecDepth 100000 in
theorem mt_copies_b {G : Gx} {w w0 : Wd} {am : Nat → Nat} {th : Int32} {N : Nat → Nat} {A : Nat → Nat → Int32} (hM : Mz G am w0 (tI th N) A w) {r pg f : Nat} (ct : ∀ {w : Wd}, Mz G am w0 (tI th N) A w → Ct G yX6_isPage kw_X6_isPage rm_X6_isPage [.ref (am 0), .int (nI r), .int (nI pg)] w (PV (.int (bI true)) w)) (hr : r < 15) (hf : A 15 r = nI f) (hp : f + pg < 121) : Ct G yX6_copies kw_X6_copies rm_X6_copies [.ref (am 0), .int (nI r), .int (nI pg)] w (PB (.int (A 12 (f + pg))) (Mz G am w0 (tI 0 N) A)) := by
  refine ct_intro RX6 "copies" (by decide +kernel) rfl rfl rfl (Nat.le_of_ble_eq_true rfl) [some (.ref (am 0)), some (.int (nI r)), some (.int (nI pg))] rfl (fun C => ?_)
  refine g_aload0 dX6_copies_0 ?_
  refine g_aload0 dX6_copies_1 ?_
  refine g_iload1 dX6_copies_2 ?_
  refine g_iload2 dX6_copies_3 ?_
  refine g_callV2 kc7 (ct hM) md_X6_isPage dX6_copies_4 ml_X6_129 im_X6_isPage se_X6_isPage hM.1 (RmOk.of (Nat.le_of_ble_eq_true rfl) (Nat.le_of_ble_eq_true rfl) (Nat.le_of_ble_eq_true rfl) (Nat.le_of_ble_eq_true rfl) (Nat.le_of_ble_eq_true rfl)) (kr_V ?_) kx_V
  refine g_if_eq_f (tgt := 14) dX6_copies_7 (by decide) (by decide) ?_
  refine g_iconst (v := 0) dX6_copies_10 (by decide) ?_
  refine g_goto (tgt := 15) dX6_copies_11 (by decide) ?_
  refine g_mput0 hM dX6_copies_15 fl_X6_74 (fun w1 hM => ?_)
  refine g_aload0 dX6_copies_18 ?_
  refine g_getf kc7 dX6_copies_19 fl_X6_74 (by decide) hM.1 (show _ = some (Value.int (0)) from rfl) ?_
  refine g_if_le_t (tgt := 29) dX6_copies_22 (by decide) (by decide) ?_
  refine g_aload0 dX6_copies_29 ?_
  refine g_getf kc7 dX6_copies_30 fl_X6_28 (by decide) hM.1 rfl ?_
  refine g_aload0 dX6_copies_33 ?_
  refine g_getf kc7 dX6_copies_34 fl_X6_34 (by decide) hM.1 rfl ?_
  refine g_iload1 dX6_copies_37 ?_
  refine g_miald (k := 15) (n := 15) hM rfl (by decide) (fun _ => rfl) dX6_copies_38 (by omega) (by decide) ?_
  refine g_iload2 dX6_copies_39 ?_
  refine g_iadd dX6_copies_40 ?_
  rw [hf, nI_add]
  refine g_miald (k := 12) (n := 121) hM rfl (by decide) (fun _ => rfl) dX6_copies_41 (by omega) (by decide) ?_
  refine g_iret dX6_copies_42 ?_ (Nat.le_of_ble_eq_true rfl) (Nat.le_of_ble_eq_true rfl)
  exact ⟨rfl, hM⟩

abbrev rm_X6_asks : Room := { frames := 1, cells := 0, slots := 0, locals := 22 }

set_option maxRecDepth 100000 in
theorem mt_asks_a {G : Gx} {w w0 : Wd} {am : Nat → Nat} {th : Int32} {N : Nat → Nat} {A : Nat → Nat → Int32} (hM : Mz G am w0 (tI th N) A w) {d : Int32} (h : inb d 0 (nI (N 17) - 1) = false) : Ct G yX6_asks kw_X6_asks rm_X6_asks [.ref (am 0), .int d] w (PB (.int (0)) (Mz G am w0 (tI 1 N) A)) := by
  refine ct_intro RX6 "asks" (by decide +kernel) rfl rfl rfl (Nat.le_of_ble_eq_true rfl) [some (.ref (am 0)), some (.int d)] rfl (fun C => ?_)
  refine g_aload0 dX6_asks_0 ?_
  refine g_iload1 dX6_asks_1 ?_
  refine g_iconst (v := 0) dX6_asks_2 (by decide) ?_
  refine g_aload0 dX6_asks_3 ?_
  refine g_getf kc7 dX6_asks_4 fl_X6_107 (by decide) hM.1 (show _ = some (Value.int (nI (N 17))) from rfl) ?_
  refine g_iconst (v := 1) dX6_asks_7 (by decide) ?_
  refine g_isub dX6_asks_8 ?_
  refine g_callS3 ct_in md_X6_in dX6_asks_9 ml_X6_81 st_X6_in (RmOk.of (Nat.le_of_ble_eq_true rfl) (Nat.le_of_ble_eq_true rfl) (Nat.le_of_ble_eq_true rfl) (Nat.le_of_ble_eq_true rfl) (Nat.le_of_ble_eq_true rfl)) (kr_V ?_) kx_V
  refine g_if_eq_t (tgt := 19) dX6_asks_12 (by decide) (bI_0.mpr h) ?_
  refine g_iconst (v := 1) dX6_asks_19 (by decide) ?_
  refine g_mput0 hM dX6_asks_20 fl_X6_74 (fun w1 hM => ?_)
  refine g_aload0 dX6_asks_23 ?_
  refine g_getf kc7 dX6_asks_24 fl_X6_74 (by decide) hM.1 (show _ = some (Value.int (1)) from rfl) ?_
  refine g_if_ne_t (tgt := 34) dX6_asks_27 (by decide) (by decide) ?_
  refine g_iconst (v := 0) dX6_asks_34 (by decide) ?_
  refine g_zret dX6_asks_35 (by decide) ?_ (Nat.le_of_ble_eq_true rfl) (Nat.le_of_ble_eq_true rfl)
  exact ⟨rfl, hM⟩

set_option maxRecDepth 100000 in
theorem mt_asks_b {G : Gx} {w w0 : Wd} {am : Nat → Nat} {th : Int32} {N : Nat → Nat} {A : Nat → Nat → Int32} (hM : Mz G am w0 (tI th N) A w) {d : Int32} (h : inb d 0 (nI (N 17) - 1) = true) : Ct G yX6_asks kw_X6_asks rm_X6_asks [.ref (am 0), .int d] w (PB (.int (1)) (Mz G am w0 (tI 0 N) A)) := by
  refine ct_intro RX6 "asks" (by decide +kernel) rfl rfl rfl (Nat.le_of_ble_eq_true rfl) [some (.ref (am 0)), some (.int d)] rfl (fun C => ?_)
  refine g_aload0 dX6_asks_0 ?_
  refine g_iload1 dX6_asks_1 ?_
  refine g_iconst (v := 0) dX6_asks_2 (by decide) ?_
  refine g_aload0 dX6_asks_3 ?_
  refine g_getf kc7 dX6_asks_4 fl_X6_107 (by decide) hM.1 (show _ = some (Value.int (nI (N 17))) from rfl) ?_
  refine g_iconst (v := 1) dX6_asks_7 (by decide) ?_
  refine g_isub dX6_asks_8 ?_
  refine g_callS3 ct_in md_X6_in dX6_asks_9 ml_X6_81 st_X6_in (RmOk.of (Nat.le_of_ble_eq_true rfl) (Nat.le_of_ble_eq_true rfl) (Nat.le_of_ble_eq_true rfl) (Nat.le_of_ble_eq_true rfl) (Nat.le_of_ble_eq_true rfl)) (kr_V ?_) kx_V
  refine g_if_eq_f (tgt := 19) dX6_asks_12 (by decide) (bI_n.mpr h) ?_
  refine g_iconst (v := 0) dX6_asks_15 (by decide) ?_
  refine g_goto (tgt := 20) dX6_asks_16 (by decide) ?_
  refine g_mput0 hM dX6_asks_20 fl_X6_74 (fun w1 hM => ?_)
  refine g_aload0 dX6_asks_23 ?_
  refine g_getf kc7 dX6_asks_24 fl_X6_74 (by decide) hM.1 (show _ = some (Value.int (0)) from rfl) ?_
  refine g_if_ne_f (tgt := 34) dX6_asks_27 (by decide) rfl ?_
  refine g_iconst (v := 1) dX6_asks_30 (by decide) ?_
  refine g_goto (tgt := 35) dX6_asks_31 (by decide) ?_
  refine g_zret dX6_asks_35 (by decide) ?_ (Nat.le_of_ble_eq_true rfl) (Nat.le_of_ble_eq_true rfl)
  exact ⟨rfl, hM⟩

abbrev rm_X6_account : Room := { frames := 2, cells := 0, slots := 0, locals := 43 }

set_option maxRecDepth 100000 in
theorem mt_account_a {G : Gx} {w w0 : Wd} {am : Nat → Nat} {th : Int32} {N : Nat → Nat} {A : Nat → Nat → Int32} (hM : Mz G am w0 (tI th N) A w) {d : Int32} (h : inb d 0 (nI (N 17) - 1) = false) : Ct G yX6_account kw_X6_account rm_X6_account [.ref (am 0), .int d] w (PB (.int (0)) (Mz G am w0 (tI 1 N) A)) := by
  refine ct_intro RX6 "account" (by decide +kernel) rfl rfl rfl (Nat.le_of_ble_eq_true rfl) [some (.ref (am 0)), some (.int d)] rfl (fun C => ?_)
  refine g_aload0 dX6_account_0 ?_
  refine g_iload1 dX6_account_1 ?_
  refine g_callV1 kc7 (mt_asks_a hM h) md_X6_asks dX6_account_2 ml_X6_132 im_X6_asks se_X6_asks hM.1 (RmOk.of (Nat.le_of_ble_eq_true rfl) (Nat.le_of_ble_eq_true rfl) (Nat.le_of_ble_eq_true rfl) (Nat.le_of_ble_eq_true rfl) (Nat.le_of_ble_eq_true rfl)) (kr_B (fun w1 hM => ?_)) kx_B
  refine g_if_eq_t (tgt := 17) dX6_account_5 (by decide) rfl ?_
  refine g_iconst (v := 0) dX6_account_17 (by decide) ?_
  refine g_iret dX6_account_18 ?_ (Nat.le_of_ble_eq_true rfl) (Nat.le_of_ble_eq_true rfl)
  exact ⟨rfl, hM⟩

set_option maxRecDepth 100000 in
theorem mt_account_b {G : Gx} {w w0 : Wd} {am : Nat → Nat} {th : Int32} {N : Nat → Nat} {A : Nat → Nat → Int32} (hM : Mz G am w0 (tI th N) A w) {d : Nat} (h : inb (nI d) 0 (nI (N 17) - 1) = true) (hd : d < 120) : Ct G yX6_account kw_X6_account rm_X6_account [.ref (am 0), .int (nI d)] w (PB (.int (A 20 d)) (Mz G am w0 (tI 0 N) A)) := by
  refine ct_intro RX6 "account" (by decide +kernel) rfl rfl rfl (Nat.le_of_ble_eq_true rfl) [some (.ref (am 0)), some (.int (nI d))] rfl (fun C => ?_)
  refine g_aload0 dX6_account_0 ?_
  refine g_iload1 dX6_account_1 ?_
  refine g_callV1 kc7 (mt_asks_b hM h) md_X6_asks dX6_account_2 ml_X6_132 im_X6_asks se_X6_asks hM.1 (RmOk.of (Nat.le_of_ble_eq_true rfl) (Nat.le_of_ble_eq_true rfl) (Nat.le_of_ble_eq_true rfl) (Nat.le_of_ble_eq_true rfl) (Nat.le_of_ble_eq_true rfl)) (kr_B (fun w1 hM => ?_)) kx_B
  refine g_if_eq_f (tgt := 17) dX6_account_5 (by decide) (by decide) ?_
  refine g_aload0 dX6_account_8 ?_
  refine g_getf kc7 dX6_account_9 fl_X6_46 (by decide) hM.1 rfl ?_
  refine g_iload1 dX6_account_12 ?_
  refine g_miald (k := 20) (n := 120) hM rfl (by decide) (fun _ => rfl) dX6_account_13 (by omega) (by decide) ?_
  refine g_goto (tgt := 18) dX6_account_14 (by decide) ?_
  refine g_iret dX6_account_18 ?_ (Nat.le_of_ble_eq_true rfl) (Nat.le_of_ble_eq_true rfl)
  exact ⟨rfl, hM⟩

abbrev rm_X6_kind : Room := { frames := 2, cells := 0, slots := 0, locals := 43 }

set_option maxRecDepth 100000 in
theorem mt_kind_a {G : Gx} {w w0 : Wd} {am : Nat → Nat} {th : Int32} {N : Nat → Nat} {A : Nat → Nat → Int32} (hM : Mz G am w0 (tI th N) A w) {d : Int32} (h : inb d 0 (nI (N 17) - 1) = false) : Ct G yX6_kind kw_X6_kind rm_X6_kind [.ref (am 0), .int d] w (PB (.int (0)) (Mz G am w0 (tI 1 N) A)) := by
  refine ct_intro RX6 "kind" (by decide +kernel) rfl rfl rfl (Nat.le_of_ble_eq_true rfl) [some (.ref (am 0)), some (.int d)] rfl (fun C => ?_)
  refine g_aload0 dX6_kind_0 ?_
  refine g_iload1 dX6_kind_1 ?_
  refine g_callV1 kc7 (mt_asks_a hM h) md_X6_asks dX6_kind_2 ml_X6_132 im_X6_asks se_X6_asks hM.1 (RmOk.of (Nat.le_of_ble_eq_true rfl) (Nat.le_of_ble_eq_true rfl) (Nat.le_of_ble_eq_true rfl) (Nat.le_of_ble_eq_true rfl) (Nat.le_of_ble_eq_true rfl)) (kr_B (fun w1 hM => ?_)) kx_B
  refine g_if_eq_t (tgt := 17) dX6_kind_5 (by decide) rfl ?_
  refine g_iconst (v := 0) dX6_kind_17 (by decide) ?_
  refine g_iret dX6_kind_18 ?_ (Nat.le_of_ble_eq_true rfl) (Nat.le_of_ble_eq_true rfl)
  exact ⟨rfl, hM⟩

set_option maxRecDepth 100000 in
theorem mt_kind_b {G : Gx} {w w0 : Wd} {am : Nat → Nat} {th : Int32} {N : Nat → Nat} {A : Nat → Nat → Int32} (hM : Mz G am w0 (tI th N) A w) {d : Nat} (h : inb (nI d) 0 (nI (N 17) - 1) = true) (hd : d < 120) : Ct G yX6_kind kw_X6_kind rm_X6_kind [.ref (am 0), .int (nI d)] w (PB (.int (A 21 d)) (Mz G am w0 (tI 0 N) A)) := by
  refine ct_intro RX6 "kind" (by decide +kernel) rfl rfl rfl (Nat.le_of_ble_eq_true rfl) [some (.ref (am 0)), some (.int (nI d))] rfl (fun C => ?_)
  refine g_aload0 dX6_kind_0 ?_
  refine g_iload1 dX6_kind_1 ?_
  refine g_callV1 kc7 (mt_asks_b hM h) md_X6_asks dX6_kind_2 ml_X6_132 im_X6_asks se_X6_asks hM.1 (RmOk.of (Nat.le_of_ble_eq_true rfl) (Nat.le_of_ble_eq_true rfl) (Nat.le_of_ble_eq_true rfl) (Nat.le_of_ble_eq_true rfl) (Nat.le_of_ble_eq_true rfl)) (kr_B (fun w1 hM => ?_)) kx_B
  refine g_if_eq_f (tgt := 17) dX6_kind_5 (by decide) (by decide) ?_
  refine g_aload0 dX6_kind_8 ?_
  refine g_getf kc7 dX6_kind_9 fl_X6_49 (by decide) hM.1 rfl ?_
  refine g_iload1 dX6_kind_12 ?_
  refine g_miald (k := 21) (n := 120) hM rfl (by decide) (fun _ => rfl) dX6_kind_13 (by omega) (by decide) ?_
  refine g_goto (tgt := 18) dX6_kind_14 (by decide) ?_
  refine g_iret dX6_kind_18 ?_ (Nat.le_of_ble_eq_true rfl) (Nat.le_of_ble_eq_true rfl)
  exact ⟨rfl, hM⟩

abbrev rm_X6_length : Room := { frames := 2, cells := 0, slots := 0, locals := 43 }

set_option maxRecDepth 100000 in
theorem mt_length_a {G : Gx} {w w0 : Wd} {am : Nat → Nat} {th : Int32} {N : Nat → Nat} {A : Nat → Nat → Int32} (hM : Mz G am w0 (tI th N) A w) {d : Int32} (h : inb d 0 (nI (N 17) - 1) = false) : Ct G yX6_length kw_X6_length rm_X6_length [.ref (am 0), .int d] w (PB (.int (0)) (Mz G am w0 (tI 1 N) A)) := by
  refine ct_intro RX6 "length" (by decide +kernel) rfl rfl rfl (Nat.le_of_ble_eq_true rfl) [some (.ref (am 0)), some (.int d)] rfl (fun C => ?_)
  refine g_aload0 dX6_length_0 ?_
  refine g_iload1 dX6_length_1 ?_
  refine g_callV1 kc7 (mt_asks_a hM h) md_X6_asks dX6_length_2 ml_X6_132 im_X6_asks se_X6_asks hM.1 (RmOk.of (Nat.le_of_ble_eq_true rfl) (Nat.le_of_ble_eq_true rfl) (Nat.le_of_ble_eq_true rfl) (Nat.le_of_ble_eq_true rfl) (Nat.le_of_ble_eq_true rfl)) (kr_B (fun w1 hM => ?_)) kx_B
  refine g_if_eq_t (tgt := 17) dX6_length_5 (by decide) rfl ?_
  refine g_iconst (v := 0) dX6_length_17 (by decide) ?_
  refine g_iret dX6_length_18 ?_ (Nat.le_of_ble_eq_true rfl) (Nat.le_of_ble_eq_true rfl)
  exact ⟨rfl, hM⟩

set_option maxRecDepth 100000 in
theorem mt_length_b {G : Gx} {w w0 : Wd} {am : Nat → Nat} {th : Int32} {N : Nat → Nat} {A : Nat → Nat → Int32} (hM : Mz G am w0 (tI th N) A w) {d : Nat} (h : inb (nI d) 0 (nI (N 17) - 1) = true) (hd : d < 120) : Ct G yX6_length kw_X6_length rm_X6_length [.ref (am 0), .int (nI d)] w (PB (.int (A 19 d)) (Mz G am w0 (tI 0 N) A)) := by
  refine ct_intro RX6 "length" (by decide +kernel) rfl rfl rfl (Nat.le_of_ble_eq_true rfl) [some (.ref (am 0)), some (.int (nI d))] rfl (fun C => ?_)
  refine g_aload0 dX6_length_0 ?_
  refine g_iload1 dX6_length_1 ?_
  refine g_callV1 kc7 (mt_asks_b hM h) md_X6_asks dX6_length_2 ml_X6_132 im_X6_asks se_X6_asks hM.1 (RmOk.of (Nat.le_of_ble_eq_true rfl) (Nat.le_of_ble_eq_true rfl) (Nat.le_of_ble_eq_true rfl) (Nat.le_of_ble_eq_true rfl) (Nat.le_of_ble_eq_true rfl)) (kr_B (fun w1 hM => ?_)) kx_B
  refine g_if_eq_f (tgt := 17) dX6_length_5 (by decide) (by decide) ?_
  refine g_aload0 dX6_length_8 ?_
  refine g_getf kc7 dX6_length_9 fl_X6_43 (by decide) hM.1 rfl ?_
  refine g_iload1 dX6_length_12 ?_
  refine g_miald (k := 19) (n := 120) hM rfl (by decide) (fun _ => rfl) dX6_length_13 (by omega) (by decide) ?_
  refine g_goto (tgt := 18) dX6_length_14 (by decide) ?_
  refine g_iret dX6_length_18 ?_ (Nat.le_of_ble_eq_true rfl) (Nat.le_of_ble_eq_true rfl)
  exact ⟨rfl, hM⟩

abbrev rm_X6_isThere : Room := { frames := 2, cells := 0, slots := 0, locals := 43 }

set_option maxRecDepth 100000 in
theorem mt_isThere_a {G : Gx} {w w0 : Wd} {am : Nat → Nat} {th : Int32} {N : Nat → Nat} {A : Nat → Nat → Int32} (hM : Mz G am w0 (tI th N) A w) {d : Int32} (h : inb d 0 (nI (N 17) - 1) = false) : Ct G yX6_isThere kw_X6_isThere rm_X6_isThere [.ref (am 0), .int d] w (PB (.int (0)) (Mz G am w0 (tI 1 N) A)) := by
  refine ct_intro RX6 "isThere" (by decide +kernel) rfl rfl rfl (Nat.le_of_ble_eq_true rfl) [some (.ref (am 0)), some (.int d)] rfl (fun C => ?_)
  refine g_aload0 dX6_isThere_0 ?_
  refine g_iload1 dX6_isThere_1 ?_
  refine g_callV1 kc7 (mt_asks_a hM h) md_X6_asks dX6_isThere_2 ml_X6_132 im_X6_asks se_X6_asks hM.1 (RmOk.of (Nat.le_of_ble_eq_true rfl) (Nat.le_of_ble_eq_true rfl) (Nat.le_of_ble_eq_true rfl) (Nat.le_of_ble_eq_true rfl) (Nat.le_of_ble_eq_true rfl)) (kr_B (fun w1 hM => ?_)) kx_B
  refine g_if_eq_t (tgt := 21) dX6_isThere_5 (by decide) rfl ?_
  refine g_iconst (v := 0) dX6_isThere_21 (by decide) ?_
  refine g_zret dX6_isThere_22 (by decide) ?_ (Nat.le_of_ble_eq_true rfl) (Nat.le_of_ble_eq_true rfl)
  exact ⟨rfl, hM⟩

set_option maxRecDepth 100000 in
theorem mt_isThere_b {G : Gx} {w w0 : Wd} {am : Nat → Nat} {th : Int32} {N : Nat → Nat} {A : Nat → Nat → Int32} (hM : Mz G am w0 (tI th N) A w) {d : Nat} (h : inb (nI d) 0 (nI (N 17) - 1) = true) (hd : d < 120) : Ct G yX6_isThere kw_X6_isThere rm_X6_isThere [.ref (am 0), .int (nI d)] w (PB (.int (bI (decide (A 23 d = 0)))) (Mz G am w0 (tI 0 N) A)) := by
  refine ct_intro RX6 "isThere" (by decide +kernel) rfl rfl rfl (Nat.le_of_ble_eq_true rfl) [some (.ref (am 0)), some (.int (nI d))] rfl (fun C => ?_)
  refine g_aload0 dX6_isThere_0 ?_
  refine g_iload1 dX6_isThere_1 ?_
  refine g_callV1 kc7 (mt_asks_b hM h) md_X6_asks dX6_isThere_2 ml_X6_132 im_X6_asks se_X6_asks hM.1 (RmOk.of (Nat.le_of_ble_eq_true rfl) (Nat.le_of_ble_eq_true rfl) (Nat.le_of_ble_eq_true rfl) (Nat.le_of_ble_eq_true rfl) (Nat.le_of_ble_eq_true rfl)) (kr_B (fun w1 hM => ?_)) kx_B
  refine g_if_eq_f (tgt := 21) dX6_isThere_5 (by decide) (by decide) ?_
  refine g_aload0 dX6_isThere_8 ?_
  refine g_getf kc7 dX6_isThere_9 fl_X6_55 (by decide) hM.1 rfl ?_
  refine g_iload1 dX6_isThere_12 ?_
  refine g_mzald (k := 23) (n := 120) hM rfl (by decide) (fun _ => rfl) dX6_isThere_13 (by omega) (by decide) ?_
  refine g_if_ne (tgt := 21) dX6_isThere_14 (by decide) (fun h14 => ?_) (fun h14 => ?_)
  · skip
    refine g_iconst (v := 0) dX6_isThere_21 (by decide) ?_
    refine g_zret dX6_isThere_22 (by decide) ?_ (Nat.le_of_ble_eq_true rfl) (Nat.le_of_ble_eq_true rfl)
    first | exact ⟨by rw [decide_eq_false h14]; rfl, hM⟩ | exact ⟨by rw [decide_eq_true h14]; rfl, hM⟩
  · skip
    refine g_iconst (v := 1) dX6_isThere_17 (by decide) ?_
    refine g_goto (tgt := 22) dX6_isThere_18 (by decide) ?_
    refine g_zret dX6_isThere_22 (by decide) ?_ (Nat.le_of_ble_eq_true rfl) (Nat.le_of_ble_eq_true rfl)
    first | exact ⟨by rw [decide_eq_false h14]; rfl, hM⟩ | exact ⟨by rw [decide_eq_true h14]; rfl, hM⟩

abbrev rm_X6_isReader : Room := { frames := 1, cells := 0, slots := 0, locals := 22 }

set_option maxRecDepth 100000 in
theorem ct_isReader {G : Gx} {w : Wd}  {r : Int32} : Ct G yX6_isReader kw_X6_isReader rm_X6_isReader [.int r] w (PV (.int (bI (inb r 0 3))) w) := by
  refine ct_intro RX6 "isReader" (by decide +kernel) rfl rfl rfl (Nat.le_of_ble_eq_true rfl) [some (.int r)] rfl (fun C => ?_)
  refine g_iload0 dX6_isReader_0 ?_
  refine g_iconst (v := 0) dX6_isReader_1 (by decide) ?_
  refine g_iconst (v := 3) dX6_isReader_2 (by decide) ?_
  refine g_callS3 ct_in md_X6_in dX6_isReader_3 ml_X6_81 st_X6_in (RmOk.of (Nat.le_of_ble_eq_true rfl) (Nat.le_of_ble_eq_true rfl) (Nat.le_of_ble_eq_true rfl) (Nat.le_of_ble_eq_true rfl) (Nat.le_of_ble_eq_true rfl)) (kr_V ?_) kx_V
  refine g_zret dX6_isReader_6 (bI_nar _) ?_ (Nat.le_of_ble_eq_true rfl) (Nat.le_of_ble_eq_true rfl)
  exact ⟨rfl, rfl⟩

/-- whether the reader r sees the document d -/
def seeb (A : Nat → Nat → Int32) (r d : Nat) : Bool := (if A 20 d = -1 then decide (nI r = 0) else inb (A 20 d) (A 24 r) (A 25 r)) && decide (A 23 d = 0)
abbrev rm_X6_sees : Room := { frames := 1, cells := 0, slots := 0, locals := 22 }

set_option maxRecDepth 100000 in
theorem mt_sees {G : Gx} {w w0 : Wd} {am : Nat → Nat} {th : Int32} {N : Nat → Nat} {A : Nat → Nat → Int32} (hM : Mz G am w0 (tI th N) A w) {r d : Nat} (hr : r < 4) (hd : d < 120) : Ct G yX6_sees kw_X6_sees rm_X6_sees [.ref (am 0), .int (nI r), .int (nI d)] w (PV (.int (bI (seeb A r d))) w) := by
  refine ct_intro RX6 "sees" (by decide +kernel) rfl rfl rfl (Nat.le_of_ble_eq_true rfl) [some (.ref (am 0)), some (.int (nI r)), some (.int (nI d)), none] rfl (fun C => ?_)
  refine g_aload0 dX6_sees_0 ?_
  refine g_getf kc7 dX6_sees_1 fl_X6_46 (by decide) hM.1 rfl ?_
  refine g_iload2 dX6_sees_4 ?_
  refine g_miald (k := 20) (n := 120) hM rfl (by decide) (fun _ => rfl) dX6_sees_5 (by omega) (by decide) ?_
  refine g_iconst (v := (-1)) dX6_sees_6 (by decide) ?_
  refine g_icmp_ne (tgt := 22) dX6_sees_7 (by decide) (fun h7 => ?_) (fun h7 => ?_)
  · skip
    refine g_aload0 dX6_sees_22 ?_
    refine g_getf kc7 dX6_sees_23 fl_X6_46 (by decide) hM.1 rfl ?_
    refine g_iload2 dX6_sees_26 ?_
    refine g_miald (k := 20) (n := 120) hM rfl (by decide) (fun _ => rfl) dX6_sees_27 (by omega) (by decide) ?_
    refine g_aload0 dX6_sees_28 ?_
    refine g_getf kc7 dX6_sees_29 fl_X6_59 (by decide) hM.1 rfl ?_
    refine g_iload1 dX6_sees_32 ?_
    refine g_miald (k := 24) (n := 4) hM rfl (by decide) (fun _ => rfl) dX6_sees_33 (by omega) (by decide) ?_
    refine g_aload0 dX6_sees_34 ?_
    refine g_getf kc7 dX6_sees_35 fl_X6_62 (by decide) hM.1 rfl ?_
    refine g_iload1 dX6_sees_38 ?_
    refine g_miald (k := 25) (n := 4) hM rfl (by decide) (fun _ => rfl) dX6_sees_39 (by omega) (by decide) ?_
    refine g_callS3 ct_in md_X6_in dX6_sees_40 ml_X6_81 st_X6_in (RmOk.of (Nat.le_of_ble_eq_true rfl) (Nat.le_of_ble_eq_true rfl) (Nat.le_of_ble_eq_true rfl) (Nat.le_of_ble_eq_true rfl) (Nat.le_of_ble_eq_true rfl)) (kr_V ?_) kx_V
    refine g_istore3 dX6_sees_43 ?_
    refine g_iload3 dX6_sees_44 ?_
    refine g_if_eq (tgt := 61) dX6_sees_45 (by decide) (fun h45 => ?_) (fun h45 => ?_)
    · skip
      refine g_iconst (v := 0) dX6_sees_61 (by decide) ?_
      refine g_zret dX6_sees_62 (by decide) ?_ (Nat.le_of_ble_eq_true rfl) (Nat.le_of_ble_eq_true rfl)
      first
        | exact ⟨by unfold seeb; rw [if_neg h7, bI_0.mp h45]; rfl, rfl⟩
        | exact ⟨by unfold seeb; rw [if_neg h7, bI_n.mp h45, decide_eq_false h54]; rfl, rfl⟩
        | exact ⟨by unfold seeb; rw [if_neg h7, bI_n.mp h45, decide_eq_true h54]; rfl, rfl⟩
        | exact ⟨by unfold seeb; rw [if_pos h7, decide_eq_false h11]; rfl, rfl⟩
        | exact ⟨by unfold seeb; rw [if_pos h7, decide_eq_true h11, decide_eq_false h54]; rfl, rfl⟩
        | exact ⟨by unfold seeb; rw [if_pos h7, decide_eq_true h11, decide_eq_true h54]; rfl, rfl⟩
        | exact absurd h45 (by decide)
    · skip
      refine g_aload0 dX6_sees_48 ?_
      refine g_getf kc7 dX6_sees_49 fl_X6_55 (by decide) hM.1 rfl ?_
      refine g_iload2 dX6_sees_52 ?_
      refine g_mzald (k := 23) (n := 120) hM rfl (by decide) (fun _ => rfl) dX6_sees_53 (by omega) (by decide) ?_
      refine g_if_ne (tgt := 61) dX6_sees_54 (by decide) (fun h54 => ?_) (fun h54 => ?_)
      · skip
        refine g_iconst (v := 0) dX6_sees_61 (by decide) ?_
        refine g_zret dX6_sees_62 (by decide) ?_ (Nat.le_of_ble_eq_true rfl) (Nat.le_of_ble_eq_true rfl)
        first
          | exact ⟨by unfold seeb; rw [if_neg h7, bI_0.mp h45]; rfl, rfl⟩
          | exact ⟨by unfold seeb; rw [if_neg h7, bI_n.mp h45, decide_eq_false h54]; rfl, rfl⟩
          | exact ⟨by unfold seeb; rw [if_neg h7, bI_n.mp h45, decide_eq_true h54]; rfl, rfl⟩
          | exact ⟨by unfold seeb; rw [if_pos h7, decide_eq_false h11]; rfl, rfl⟩
          | exact ⟨by unfold seeb; rw [if_pos h7, decide_eq_true h11, decide_eq_false h54]; rfl, rfl⟩
          | exact ⟨by unfold seeb; rw [if_pos h7, decide_eq_true h11, decide_eq_true h54]; rfl, rfl⟩
          | exact absurd h45 (by decide)
      · skip
        refine g_iconst (v := 1) dX6_sees_57 (by decide) ?_
        refine g_goto (tgt := 62) dX6_sees_58 (by decide) ?_
        refine g_zret dX6_sees_62 (by decide) ?_ (Nat.le_of_ble_eq_true rfl) (Nat.le_of_ble_eq_true rfl)
        first
          | exact ⟨by unfold seeb; rw [if_neg h7, bI_0.mp h45]; rfl, rfl⟩
          | exact ⟨by unfold seeb; rw [if_neg h7, bI_n.mp h45, decide_eq_false h54]; rfl, rfl⟩
          | exact ⟨by unfold seeb; rw [if_neg h7, bI_n.mp h45, decide_eq_true h54]; rfl, rfl⟩
          | exact ⟨by unfold seeb; rw [if_pos h7, decide_eq_false h11]; rfl, rfl⟩
          | exact ⟨by unfold seeb; rw [if_pos h7, decide_eq_true h11, decide_eq_false h54]; rfl, rfl⟩
          | exact ⟨by unfold seeb; rw [if_pos h7, decide_eq_true h11, decide_eq_true h54]; rfl, rfl⟩
          | exact absurd h45 (by decide)
  · skip
    refine g_iload1 dX6_sees_10 ?_
    refine g_if_ne (tgt := 18) dX6_sees_11 (by decide) (fun h11 => ?_) (fun h11 => ?_)
    · skip
      refine g_iconst (v := 0) dX6_sees_18 (by decide) ?_
      refine g_goto (tgt := 43) dX6_sees_19 (by decide) ?_
      refine g_istore3 dX6_sees_43 ?_
      refine g_iload3 dX6_sees_44 ?_
      refine g_if_eq (tgt := 61) dX6_sees_45 (by decide) (fun h45 => ?_) (fun h45 => ?_)
      · skip
        refine g_iconst (v := 0) dX6_sees_61 (by decide) ?_
        refine g_zret dX6_sees_62 (by decide) ?_ (Nat.le_of_ble_eq_true rfl) (Nat.le_of_ble_eq_true rfl)
        first
          | exact ⟨by unfold seeb; rw [if_neg h7, bI_0.mp h45]; rfl, rfl⟩
          | exact ⟨by unfold seeb; rw [if_neg h7, bI_n.mp h45, decide_eq_false h54]; rfl, rfl⟩
          | exact ⟨by unfold seeb; rw [if_neg h7, bI_n.mp h45, decide_eq_true h54]; rfl, rfl⟩
          | exact ⟨by unfold seeb; rw [if_pos h7, decide_eq_false h11]; rfl, rfl⟩
          | exact ⟨by unfold seeb; rw [if_pos h7, decide_eq_true h11, decide_eq_false h54]; rfl, rfl⟩
          | exact ⟨by unfold seeb; rw [if_pos h7, decide_eq_true h11, decide_eq_true h54]; rfl, rfl⟩
          | exact absurd h45 (by decide)
      · skip
        refine g_aload0 dX6_sees_48 ?_
        refine g_getf kc7 dX6_sees_49 fl_X6_55 (by decide) hM.1 rfl ?_
        refine g_iload2 dX6_sees_52 ?_
        refine g_mzald (k := 23) (n := 120) hM rfl (by decide) (fun _ => rfl) dX6_sees_53 (by omega) (by decide) ?_
        refine g_if_ne (tgt := 61) dX6_sees_54 (by decide) (fun h54 => ?_) (fun h54 => ?_)
        · skip
          refine g_iconst (v := 0) dX6_sees_61 (by decide) ?_
          refine g_zret dX6_sees_62 (by decide) ?_ (Nat.le_of_ble_eq_true rfl) (Nat.le_of_ble_eq_true rfl)
          first
            | exact ⟨by unfold seeb; rw [if_neg h7, bI_0.mp h45]; rfl, rfl⟩
            | exact ⟨by unfold seeb; rw [if_neg h7, bI_n.mp h45, decide_eq_false h54]; rfl, rfl⟩
            | exact ⟨by unfold seeb; rw [if_neg h7, bI_n.mp h45, decide_eq_true h54]; rfl, rfl⟩
            | exact ⟨by unfold seeb; rw [if_pos h7, decide_eq_false h11]; rfl, rfl⟩
            | exact ⟨by unfold seeb; rw [if_pos h7, decide_eq_true h11, decide_eq_false h54]; rfl, rfl⟩
            | exact ⟨by unfold seeb; rw [if_pos h7, decide_eq_true h11, decide_eq_true h54]; rfl, rfl⟩
            | exact absurd h45 (by decide)
        · skip
          refine g_iconst (v := 1) dX6_sees_57 (by decide) ?_
          refine g_goto (tgt := 62) dX6_sees_58 (by decide) ?_
          refine g_zret dX6_sees_62 (by decide) ?_ (Nat.le_of_ble_eq_true rfl) (Nat.le_of_ble_eq_true rfl)
          first
            | exact ⟨by unfold seeb; rw [if_neg h7, bI_0.mp h45]; rfl, rfl⟩
            | exact ⟨by unfold seeb; rw [if_neg h7, bI_n.mp h45, decide_eq_false h54]; rfl, rfl⟩
            | exact ⟨by unfold seeb; rw [if_neg h7, bI_n.mp h45, decide_eq_true h54]; rfl, rfl⟩
            | exact ⟨by unfold seeb; rw [if_pos h7, decide_eq_false h11]; rfl, rfl⟩
            | exact ⟨by unfold seeb; rw [if_pos h7, decide_eq_true h11, decide_eq_false h54]; rfl, rfl⟩
            | exact ⟨by unfold seeb; rw [if_pos h7, decide_eq_true h11, decide_eq_true h54]; rfl, rfl⟩
            | exact absurd h45 (by decide)
    · skip
      refine g_iconst (v := 1) dX6_sees_14 (by decide) ?_
      refine g_goto (tgt := 43) dX6_sees_15 (by decide) ?_
      refine g_istore3 dX6_sees_43 ?_
      refine g_iload3 dX6_sees_44 ?_
      refine g_if_eq (tgt := 61) dX6_sees_45 (by decide) (fun h45 => ?_) (fun h45 => ?_)
      · skip
        refine g_iconst (v := 0) dX6_sees_61 (by decide) ?_
        refine g_zret dX6_sees_62 (by decide) ?_ (Nat.le_of_ble_eq_true rfl) (Nat.le_of_ble_eq_true rfl)
        first
          | exact ⟨by unfold seeb; rw [if_neg h7, bI_0.mp h45]; rfl, rfl⟩
          | exact ⟨by unfold seeb; rw [if_neg h7, bI_n.mp h45, decide_eq_false h54]; rfl, rfl⟩
          | exact ⟨by unfold seeb; rw [if_neg h7, bI_n.mp h45, decide_eq_true h54]; rfl, rfl⟩
          | exact ⟨by unfold seeb; rw [if_pos h7, decide_eq_false h11]; rfl, rfl⟩
          | exact ⟨by unfold seeb; rw [if_pos h7, decide_eq_true h11, decide_eq_false h54]; rfl, rfl⟩
          | exact ⟨by unfold seeb; rw [if_pos h7, decide_eq_true h11, decide_eq_true h54]; rfl, rfl⟩
          | exact absurd h45 (by decide)
      · skip
        refine g_aload0 dX6_sees_48 ?_
        refine g_getf kc7 dX6_sees_49 fl_X6_55 (by decide) hM.1 rfl ?_
        refine g_iload2 dX6_sees_52 ?_
        refine g_mzald (k := 23) (n := 120) hM rfl (by decide) (fun _ => rfl) dX6_sees_53 (by omega) (by decide) ?_
        refine g_if_ne (tgt := 61) dX6_sees_54 (by decide) (fun h54 => ?_) (fun h54 => ?_)
        · skip
          refine g_iconst (v := 0) dX6_sees_61 (by decide) ?_
          refine g_zret dX6_sees_62 (by decide) ?_ (Nat.le_of_ble_eq_true rfl) (Nat.le_of_ble_eq_true rfl)
          first
            | exact ⟨by unfold seeb; rw [if_neg h7, bI_0.mp h45]; rfl, rfl⟩
            | exact ⟨by unfold seeb; rw [if_neg h7, bI_n.mp h45, decide_eq_false h54]; rfl, rfl⟩
            | exact ⟨by unfold seeb; rw [if_neg h7, bI_n.mp h45, decide_eq_true h54]; rfl, rfl⟩
            | exact ⟨by unfold seeb; rw [if_pos h7, decide_eq_false h11]; rfl, rfl⟩
            | exact ⟨by unfold seeb; rw [if_pos h7, decide_eq_true h11, decide_eq_false h54]; rfl, rfl⟩
            | exact ⟨by unfold seeb; rw [if_pos h7, decide_eq_true h11, decide_eq_true h54]; rfl, rfl⟩
            | exact absurd h45 (by decide)
        · skip
          refine g_iconst (v := 1) dX6_sees_57 (by decide) ?_
          refine g_goto (tgt := 62) dX6_sees_58 (by decide) ?_
          refine g_zret dX6_sees_62 (by decide) ?_ (Nat.le_of_ble_eq_true rfl) (Nat.le_of_ble_eq_true rfl)
          first
            | exact ⟨by unfold seeb; rw [if_neg h7, bI_0.mp h45]; rfl, rfl⟩
            | exact ⟨by unfold seeb; rw [if_neg h7, bI_n.mp h45, decide_eq_false h54]; rfl, rfl⟩
            | exact ⟨by unfold seeb; rw [if_neg h7, bI_n.mp h45, decide_eq_true h54]; rfl, rfl⟩
            | exact ⟨by unfold seeb; rw [if_pos h7, decide_eq_false h11]; rfl, rfl⟩
            | exact ⟨by unfold seeb; rw [if_pos h7, decide_eq_true h11, decide_eq_false h54]; rfl, rfl⟩
            | exact ⟨by unfold seeb; rw [if_pos h7, decide_eq_true h11, decide_eq_true h54]; rfl, rfl⟩
            | exact absurd h45 (by decide)

abbrev rm_X6_view : Room := { frames := 2, cells := 0, slots := 0, locals := 42 }

set_option maxRecDepth 100000 in
theorem mt_view_a1 {G : Gx} {w w0 : Wd} {am : Nat → Nat} {th : Int32} {N : Nat → Nat} {A : Nat → Nat → Int32} (hM : Mz G am w0 (tI th N) A w) {r f l b : Int32}  (h : inb r 0 3 = false) : Ct G yX6_view kw_X6_view rm_X6_view [.ref (am 0), .int r, .int f, .int l, .int b] w (PN (Mz G am w0 (tI 1 N) A)) := by
  refine ct_intro RX6 "view" (by decide +kernel) rfl rfl rfl (Nat.le_of_ble_eq_true rfl) [some (.ref (am 0)), some (.int r), some (.int f), some (.int l), some (.int b), none] rfl (fun C => ?_)
  refine g_iload1 dX6_view_0 ?_
  refine g_callS1 ct_isReader md_X6_isReader dX6_view_1 ml_X6_135 st_X6_isReader (RmOk.of (Nat.le_of_ble_eq_true rfl) (Nat.le_of_ble_eq_true rfl) (Nat.le_of_ble_eq_true rfl) (Nat.le_of_ble_eq_true rfl) (Nat.le_of_ble_eq_true rfl)) (kr_V ?_) kx_V
  refine g_if_eq_t (tgt := 42) dX6_view_4 (by decide) (bI_0.mpr h) ?_
  refine g_iconst (v := 0) dX6_view_42 (by decide) ?_
  refine g_istore5 dX6_view_43 ?_
  refine g_aload0 dX6_view_45 ?_
  refine g_iload5 dX6_view_46 ?_
  refine g_if_eq_t (tgt := 55) dX6_view_48 (by decide) rfl ?_
  refine g_iconst (v := 1) dX6_view_55 (by decide) ?_
  refine g_mput0 hM dX6_view_56 fl_X6_74 (fun w1 hM => ?_)
  refine g_aload0 dX6_view_59 ?_
  refine g_getf kc7 dX6_view_60 fl_X6_74 (by decide) hM.1 (show _ = some (Value.int (1)) from rfl) ?_
  refine g_if_ne_t (tgt := 88) dX6_view_63 (by decide) (by decide) ?_
  refine g_vret dX6_view_88 ?_ (Nat.le_of_ble_eq_true rfl) (Nat.le_of_ble_eq_true rfl)
  exact ⟨rfl, hM⟩

set_option maxRecDepth 100000 in
theorem mt_view_a2 {G : Gx} {w w0 : Wd} {am : Nat → Nat} {th : Int32} {N : Nat → Nat} {A : Nat → Nat → Int32} (hM : Mz G am w0 (tI th N) A w) {r f l b : Int32} (h0 : inb r 0 3 = true) (h : inb f 0 99 = false) : Ct G yX6_view kw_X6_view rm_X6_view [.ref (am 0), .int r, .int f, .int l, .int b] w (PN (Mz G am w0 (tI 1 N) A)) := by
  refine ct_intro RX6 "view" (by decide +kernel) rfl rfl rfl (Nat.le_of_ble_eq_true rfl) [some (.ref (am 0)), some (.int r), some (.int f), some (.int l), some (.int b), none] rfl (fun C => ?_)
  refine g_iload1 dX6_view_0 ?_
  refine g_callS1 ct_isReader md_X6_isReader dX6_view_1 ml_X6_135 st_X6_isReader (RmOk.of (Nat.le_of_ble_eq_true rfl) (Nat.le_of_ble_eq_true rfl) (Nat.le_of_ble_eq_true rfl) (Nat.le_of_ble_eq_true rfl) (Nat.le_of_ble_eq_true rfl)) (kr_V ?_) kx_V
  refine g_if_eq_f (tgt := 42) dX6_view_4 (by decide) (bI_n.mpr h0) ?_
  refine g_iload2 dX6_view_7 ?_
  refine g_iconst (v := 0) dX6_view_8 (by decide) ?_
  refine g_bipush (v := 99) dX6_view_9 (by decide) ?_
  refine g_callS3 ct_in md_X6_in dX6_view_11 ml_X6_81 st_X6_in (RmOk.of (Nat.le_of_ble_eq_true rfl) (Nat.le_of_ble_eq_true rfl) (Nat.le_of_ble_eq_true rfl) (Nat.le_of_ble_eq_true rfl) (Nat.le_of_ble_eq_true rfl)) (kr_V ?_) kx_V
  refine g_if_eq_t (tgt := 42) dX6_view_14 (by decide) (bI_0.mpr h) ?_
  refine g_iconst (v := 0) dX6_view_42 (by decide) ?_
  refine g_istore5 dX6_view_43 ?_
  refine g_aload0 dX6_view_45 ?_
  refine g_iload5 dX6_view_46 ?_
  refine g_if_eq_t (tgt := 55) dX6_view_48 (by decide) rfl ?_
  refine g_iconst (v := 1) dX6_view_55 (by decide) ?_
  refine g_mput0 hM dX6_view_56 fl_X6_74 (fun w1 hM => ?_)
  refine g_aload0 dX6_view_59 ?_
  refine g_getf kc7 dX6_view_60 fl_X6_74 (by decide) hM.1 (show _ = some (Value.int (1)) from rfl) ?_
  refine g_if_ne_t (tgt := 88) dX6_view_63 (by decide) (by decide) ?_
  refine g_vret dX6_view_88 ?_ (Nat.le_of_ble_eq_true rfl) (Nat.le_of_ble_eq_true rfl)
  exact ⟨rfl, hM⟩

set_option maxRecDepth 100000 in
theorem mt_view_a3 {G : Gx} {w w0 : Wd} {am : Nat → Nat} {th : Int32} {N : Nat → Nat} {A : Nat → Nat → Int32} (hM : Mz G am w0 (tI th N) A w) {r f l b : Int32} (h0 : inb r 0 3 = true) (h1 : inb f 0 99 = true) (h : inb l f 99 = false) : Ct G yX6_view kw_X6_view rm_X6_view [.ref (am 0), .int r, .int f, .int l, .int b] w (PN (Mz G am w0 (tI 1 N) A)) := by
  refine ct_intro RX6 "view" (by decide +kernel) rfl rfl rfl (Nat.le_of_ble_eq_true rfl) [some (.ref (am 0)), some (.int r), some (.int f), some (.int l), some (.int b), none] rfl (fun C => ?_)
  refine g_iload1 dX6_view_0 ?_
  refine g_callS1 ct_isReader md_X6_isReader dX6_view_1 ml_X6_135 st_X6_isReader (RmOk.of (Nat.le_of_ble_eq_true rfl) (Nat.le_of_ble_eq_true rfl) (Nat.le_of_ble_eq_true rfl) (Nat.le_of_ble_eq_true rfl) (Nat.le_of_ble_eq_true rfl)) (kr_V ?_) kx_V
  refine g_if_eq_f (tgt := 42) dX6_view_4 (by decide) (bI_n.mpr h0) ?_
  refine g_iload2 dX6_view_7 ?_
  refine g_iconst (v := 0) dX6_view_8 (by decide) ?_
  refine g_bipush (v := 99) dX6_view_9 (by decide) ?_
  refine g_callS3 ct_in md_X6_in dX6_view_11 ml_X6_81 st_X6_in (RmOk.of (Nat.le_of_ble_eq_true rfl) (Nat.le_of_ble_eq_true rfl) (Nat.le_of_ble_eq_true rfl) (Nat.le_of_ble_eq_true rfl) (Nat.le_of_ble_eq_true rfl)) (kr_V ?_) kx_V
  refine g_if_eq_f (tgt := 42) dX6_view_14 (by decide) (bI_n.mpr h1) ?_
  refine g_iload3 dX6_view_17 ?_
  refine g_iload2 dX6_view_18 ?_
  refine g_bipush (v := 99) dX6_view_19 (by decide) ?_
  refine g_callS3 ct_in md_X6_in dX6_view_21 ml_X6_81 st_X6_in (RmOk.of (Nat.le_of_ble_eq_true rfl) (Nat.le_of_ble_eq_true rfl) (Nat.le_of_ble_eq_true rfl) (Nat.le_of_ble_eq_true rfl) (Nat.le_of_ble_eq_true rfl)) (kr_V ?_) kx_V
  refine g_if_eq_t (tgt := 42) dX6_view_24 (by decide) (bI_0.mpr h) ?_
  refine g_iconst (v := 0) dX6_view_42 (by decide) ?_
  refine g_istore5 dX6_view_43 ?_
  refine g_aload0 dX6_view_45 ?_
  refine g_iload5 dX6_view_46 ?_
  refine g_if_eq_t (tgt := 55) dX6_view_48 (by decide) rfl ?_
  refine g_iconst (v := 1) dX6_view_55 (by decide) ?_
  refine g_mput0 hM dX6_view_56 fl_X6_74 (fun w1 hM => ?_)
  refine g_aload0 dX6_view_59 ?_
  refine g_getf kc7 dX6_view_60 fl_X6_74 (by decide) hM.1 (show _ = some (Value.int (1)) from rfl) ?_
  refine g_if_ne_t (tgt := 88) dX6_view_63 (by decide) (by decide) ?_
  refine g_vret dX6_view_88 ?_ (Nat.le_of_ble_eq_true rfl) (Nat.le_of_ble_eq_true rfl)
  exact ⟨rfl, hM⟩

set_option maxRecDepth 100000 in
theorem mt_view_a4 {G : Gx} {w w0 : Wd} {am : Nat → Nat} {th : Int32} {N : Nat → Nat} {A : Nat → Nat → Int32} (hM : Mz G am w0 (tI th N) A w) {r f l b : Int32} (h0 : inb r 0 3 = true) (h1 : inb f 0 99 = true) (h2 : inb l f 99 = true) (h : inb b (-1) 7 = false) : Ct G yX6_view kw_X6_view rm_X6_view [.ref (am 0), .int r, .int f, .int l, .int b] w (PN (Mz G am w0 (tI 1 N) A)) := by
  refine ct_intro RX6 "view" (by decide +kernel) rfl rfl rfl (Nat.le_of_ble_eq_true rfl) [some (.ref (am 0)), some (.int r), some (.int f), some (.int l), some (.int b), none] rfl (fun C => ?_)
  refine g_iload1 dX6_view_0 ?_
  refine g_callS1 ct_isReader md_X6_isReader dX6_view_1 ml_X6_135 st_X6_isReader (RmOk.of (Nat.le_of_ble_eq_true rfl) (Nat.le_of_ble_eq_true rfl) (Nat.le_of_ble_eq_true rfl) (Nat.le_of_ble_eq_true rfl) (Nat.le_of_ble_eq_true rfl)) (kr_V ?_) kx_V
  refine g_if_eq_f (tgt := 42) dX6_view_4 (by decide) (bI_n.mpr h0) ?_
  refine g_iload2 dX6_view_7 ?_
  refine g_iconst (v := 0) dX6_view_8 (by decide) ?_
  refine g_bipush (v := 99) dX6_view_9 (by decide) ?_
  refine g_callS3 ct_in md_X6_in dX6_view_11 ml_X6_81 st_X6_in (RmOk.of (Nat.le_of_ble_eq_true rfl) (Nat.le_of_ble_eq_true rfl) (Nat.le_of_ble_eq_true rfl) (Nat.le_of_ble_eq_true rfl) (Nat.le_of_ble_eq_true rfl)) (kr_V ?_) kx_V
  refine g_if_eq_f (tgt := 42) dX6_view_14 (by decide) (bI_n.mpr h1) ?_
  refine g_iload3 dX6_view_17 ?_
  refine g_iload2 dX6_view_18 ?_
  refine g_bipush (v := 99) dX6_view_19 (by decide) ?_
  refine g_callS3 ct_in md_X6_in dX6_view_21 ml_X6_81 st_X6_in (RmOk.of (Nat.le_of_ble_eq_true rfl) (Nat.le_of_ble_eq_true rfl) (Nat.le_of_ble_eq_true rfl) (Nat.le_of_ble_eq_true rfl) (Nat.le_of_ble_eq_true rfl)) (kr_V ?_) kx_V
  refine g_if_eq_f (tgt := 42) dX6_view_24 (by decide) (bI_n.mpr h2) ?_
  refine g_iload4 dX6_view_27 ?_
  refine g_iconst (v := (-1)) dX6_view_29 (by decide) ?_
  refine g_bipush (v := 7) dX6_view_30 (by decide) ?_
  refine g_callS3 ct_in md_X6_in dX6_view_32 ml_X6_81 st_X6_in (RmOk.of (Nat.le_of_ble_eq_true rfl) (Nat.le_of_ble_eq_true rfl) (Nat.le_of_ble_eq_true rfl) (Nat.le_of_ble_eq_true rfl) (Nat.le_of_ble_eq_true rfl)) (kr_V ?_) kx_V
  refine g_if_eq_t (tgt := 42) dX6_view_35 (by decide) (bI_0.mpr h) ?_
  refine g_iconst (v := 0) dX6_view_42 (by decide) ?_
  refine g_istore5 dX6_view_43 ?_
  refine g_aload0 dX6_view_45 ?_
  refine g_iload5 dX6_view_46 ?_
  refine g_if_eq_t (tgt := 55) dX6_view_48 (by decide) rfl ?_
  refine g_iconst (v := 1) dX6_view_55 (by decide) ?_
  refine g_mput0 hM dX6_view_56 fl_X6_74 (fun w1 hM => ?_)
  refine g_aload0 dX6_view_59 ?_
  refine g_getf kc7 dX6_view_60 fl_X6_74 (by decide) hM.1 (show _ = some (Value.int (1)) from rfl) ?_
  refine g_if_ne_t (tgt := 88) dX6_view_63 (by decide) (by decide) ?_
  refine g_vret dX6_view_88 ?_ (Nat.le_of_ble_eq_true rfl) (Nat.le_of_ble_eq_true rfl)
  exact ⟨rfl, hM⟩

set_option maxRecDepth 100000 in
theorem mt_view_b {G : Gx} {w w0 : Wd} {am : Nat → Nat} {th : Int32} {N : Nat → Nat} {A : Nat → Nat → Int32} (hM : Mz G am w0 (tI th N) A w) {r : Nat} {f l b : Int32} (h0 : inb (nI r) 0 3 = true) (h1 : inb f 0 99 = true) (h2 : inb l f 99 = true) (h3 : inb b (-1) 7 = true) (hr : r < 4) : Ct G yX6_view kw_X6_view rm_X6_view [.ref (am 0), .int (nI r), .int f, .int l, .int b] w (PN (Mz G am w0 (tI 0 N) (updA (updA (updA A 24 r f) 25 r l) 26 r b))) := by
  refine ct_intro RX6 "view" (by decide +kernel) rfl rfl rfl (Nat.le_of_ble_eq_true rfl) [some (.ref (am 0)), some (.int (nI r)), some (.int f), some (.int l), some (.int b), none] rfl (fun C => ?_)
  refine g_iload1 dX6_view_0 ?_
  refine g_callS1 ct_isReader md_X6_isReader dX6_view_1 ml_X6_135 st_X6_isReader (RmOk.of (Nat.le_of_ble_eq_true rfl) (Nat.le_of_ble_eq_true rfl) (Nat.le_of_ble_eq_true rfl) (Nat.le_of_ble_eq_true rfl) (Nat.le_of_ble_eq_true rfl)) (kr_V ?_) kx_V
  refine g_if_eq_f (tgt := 42) dX6_view_4 (by decide) (bI_n.mpr h0) ?_
  refine g_iload2 dX6_view_7 ?_
  refine g_iconst (v := 0) dX6_view_8 (by decide) ?_
  refine g_bipush (v := 99) dX6_view_9 (by decide) ?_
  refine g_callS3 ct_in md_X6_in dX6_view_11 ml_X6_81 st_X6_in (RmOk.of (Nat.le_of_ble_eq_true rfl) (Nat.le_of_ble_eq_true rfl) (Nat.le_of_ble_eq_true rfl) (Nat.le_of_ble_eq_true rfl) (Nat.le_of_ble_eq_true rfl)) (kr_V ?_) kx_V
  refine g_if_eq_f (tgt := 42) dX6_view_14 (by decide) (bI_n.mpr h1) ?_
  refine g_iload3 dX6_view_17 ?_
  refine g_iload2 dX6_view_18 ?_
  refine g_bipush (v := 99) dX6_view_19 (by decide) ?_
  refine g_callS3 ct_in md_X6_in dX6_view_21 ml_X6_81 st_X6_in (RmOk.of (Nat.le_of_ble_eq_true rfl) (Nat.le_of_ble_eq_true rfl) (Nat.le_of_ble_eq_true rfl) (Nat.le_of_ble_eq_true rfl) (Nat.le_of_ble_eq_true rfl)) (kr_V ?_) kx_V
  refine g_if_eq_f (tgt := 42) dX6_view_24 (by decide) (bI_n.mpr h2) ?_
  refine g_iload4 dX6_view_27 ?_
  refine g_iconst (v := (-1)) dX6_view_29 (by decide) ?_
  refine g_bipush (v := 7) dX6_view_30 (by decide) ?_
  refine g_callS3 ct_in md_X6_in dX6_view_32 ml_X6_81 st_X6_in (RmOk.of (Nat.le_of_ble_eq_true rfl) (Nat.le_of_ble_eq_true rfl) (Nat.le_of_ble_eq_true rfl) (Nat.le_of_ble_eq_true rfl) (Nat.le_of_ble_eq_true rfl)) (kr_V ?_) kx_V
  refine g_if_eq_f (tgt := 42) dX6_view_35 (by decide) (bI_n.mpr h3) ?_
  refine g_iconst (v := 1) dX6_view_38 (by decide) ?_
  refine g_goto (tgt := 43) dX6_view_39 (by decide) ?_
  refine g_istore5 dX6_view_43 ?_
  refine g_aload0 dX6_view_45 ?_
  refine g_iload5 dX6_view_46 ?_
  refine g_if_eq_f (tgt := 55) dX6_view_48 (by decide) (by decide) ?_
  refine g_iconst (v := 0) dX6_view_51 (by decide) ?_
  refine g_goto (tgt := 56) dX6_view_52 (by decide) ?_
  refine g_mput0 hM dX6_view_56 fl_X6_74 (fun w1 hM => ?_)
  refine g_aload0 dX6_view_59 ?_
  refine g_getf kc7 dX6_view_60 fl_X6_74 (by decide) hM.1 (show _ = some (Value.int (0)) from rfl) ?_
  refine g_if_ne_f (tgt := 88) dX6_view_63 (by decide) rfl ?_
  refine g_aload0 dX6_view_66 ?_
  refine g_getf kc7 dX6_view_67 fl_X6_59 (by decide) hM.1 rfl ?_
  refine g_iload1 dX6_view_70 ?_
  refine g_iload2 dX6_view_71 ?_
  refine g_miast (k := 24) (n := 4) hM rfl (by decide) (fun _ => rfl) dX6_view_72 (by omega) (by decide) (fun w1 hM => ?_)
  refine g_aload0 dX6_view_73 ?_
  refine g_getf kc7 dX6_view_74 fl_X6_62 (by decide) hM.1 rfl ?_
  refine g_iload1 dX6_view_77 ?_
  refine g_iload3 dX6_view_78 ?_
  refine g_miast (k := 25) (n := 4) hM rfl (by decide) (fun _ => rfl) dX6_view_79 (by omega) (by decide) (fun w1 hM => ?_)
  refine g_aload0 dX6_view_80 ?_
  refine g_getf kc7 dX6_view_81 fl_X6_65 (by decide) hM.1 rfl ?_
  refine g_iload1 dX6_view_84 ?_
  refine g_iload4 dX6_view_85 ?_
  refine g_miast (k := 26) (n := 4) hM rfl (by decide) (fun _ => rfl) dX6_view_87 (by omega) (by decide) (fun w1 hM => ?_)
  refine g_vret dX6_view_88 ?_ (Nat.le_of_ble_eq_true rfl) (Nat.le_of_ble_eq_true rfl)
  exact ⟨rfl, hM⟩

abbrev rm_X6_span : Room := { frames := 1, cells := 0, slots := 0, locals := 22 }

set_option maxRecDepth 100000 in
theorem mt_span_a1 {G : Gx} {w w0 : Wd} {am : Nat → Nat} {th : Int32} {N : Nat → Nat} {A : Nat → Nat → Int32} (hM : Mz G am w0 (tI th N) A w) {k d : Int32} (h : inb k 0 3 = false) : Ct G yX6_span kw_X6_span rm_X6_span [.ref (am 0), .int k, .int d] w (PB (.int (0)) (Mz G am w0 (tI 1 N) A)) := by
  refine ct_intro RX6 "span" (by decide +kernel) rfl rfl rfl (Nat.le_of_ble_eq_true rfl) [some (.ref (am 0)), some (.int k), some (.int d), none] rfl (fun C => ?_)
  refine g_aload0 dX6_span_0 ?_
  refine g_iload1 dX6_span_1 ?_
  refine g_iconst (v := 0) dX6_span_2 (by decide) ?_
  refine g_iconst (v := 3) dX6_span_3 (by decide) ?_
  refine g_callS3 ct_in md_X6_in dX6_span_4 ml_X6_81 st_X6_in (RmOk.of (Nat.le_of_ble_eq_true rfl) (Nat.le_of_ble_eq_true rfl) (Nat.le_of_ble_eq_true rfl) (Nat.le_of_ble_eq_true rfl) (Nat.le_of_ble_eq_true rfl)) (kr_V ?_) kx_V
  refine g_if_eq_t (tgt := 25) dX6_span_7 (by decide) (bI_0.mpr h) ?_
  refine g_iconst (v := 1) dX6_span_25 (by decide) ?_
  refine g_mput0 hM dX6_span_26 fl_X6_74 (fun w1 hM => ?_)
  refine g_aload0 dX6_span_29 ?_
  refine g_getf kc7 dX6_span_30 fl_X6_74 (by decide) hM.1 (show _ = some (Value.int (1)) from rfl) ?_
  refine g_if_le_f (tgt := 38) dX6_span_33 (by decide) (by decide) ?_
  refine g_iconst (v := 0) dX6_span_36 (by decide) ?_
  refine g_iret dX6_span_37 ?_ (Nat.le_of_ble_eq_true rfl) (Nat.le_of_ble_eq_true rfl)
  exact ⟨rfl, hM⟩

set_option maxRecDepth 100000 in
theorem mt_span_a2 {G : Gx} {w w0 : Wd} {am : Nat → Nat} {th : Int32} {N : Nat → Nat} {A : Nat → Nat → Int32} (hM : Mz G am w0 (tI th N) A w) {k d : Int32} (h0 : inb k 0 3 = true) (h : inb d 0 9999 = false) : Ct G yX6_span kw_X6_span rm_X6_span [.ref (am 0), .int k, .int d] w (PB (.int (0)) (Mz G am w0 (tI 1 N) A)) := by
  refine ct_intro RX6 "span" (by decide +kernel) rfl rfl rfl (Nat.le_of_ble_eq_true rfl) [some (.ref (am 0)), some (.int k), some (.int d), none] rfl (fun C => ?_)
  refine g_aload0 dX6_span_0 ?_
  refine g_iload1 dX6_span_1 ?_
  refine g_iconst (v := 0) dX6_span_2 (by decide) ?_
  refine g_iconst (v := 3) dX6_span_3 (by decide) ?_
  refine g_callS3 ct_in md_X6_in dX6_span_4 ml_X6_81 st_X6_in (RmOk.of (Nat.le_of_ble_eq_true rfl) (Nat.le_of_ble_eq_true rfl) (Nat.le_of_ble_eq_true rfl) (Nat.le_of_ble_eq_true rfl) (Nat.le_of_ble_eq_true rfl)) (kr_V ?_) kx_V
  refine g_if_eq_f (tgt := 25) dX6_span_7 (by decide) (bI_n.mpr h0) ?_
  refine g_iload2 dX6_span_10 ?_
  refine g_iconst (v := 0) dX6_span_11 (by decide) ?_
  refine g_sipush (v := 9999) dX6_span_12 (by decide) ?_
  refine g_callS3 ct_in md_X6_in dX6_span_15 ml_X6_81 st_X6_in (RmOk.of (Nat.le_of_ble_eq_true rfl) (Nat.le_of_ble_eq_true rfl) (Nat.le_of_ble_eq_true rfl) (Nat.le_of_ble_eq_true rfl) (Nat.le_of_ble_eq_true rfl)) (kr_V ?_) kx_V
  refine g_if_eq_t (tgt := 25) dX6_span_18 (by decide) (bI_0.mpr h) ?_
  refine g_iconst (v := 1) dX6_span_25 (by decide) ?_
  refine g_mput0 hM dX6_span_26 fl_X6_74 (fun w1 hM => ?_)
  refine g_aload0 dX6_span_29 ?_
  refine g_getf kc7 dX6_span_30 fl_X6_74 (by decide) hM.1 (show _ = some (Value.int (1)) from rfl) ?_
  refine g_if_le_f (tgt := 38) dX6_span_33 (by decide) (by decide) ?_
  refine g_iconst (v := 0) dX6_span_36 (by decide) ?_
  refine g_iret dX6_span_37 ?_ (Nat.le_of_ble_eq_true rfl) (Nat.le_of_ble_eq_true rfl)
  exact ⟨rfl, hM⟩

set_option maxRecDepth 100000 in
theorem mt_span_b {G : Gx} {w w0 : Wd} {am : Nat → Nat} {th : Int32} {N : Nat → Nat} {A : Nat → Nat → Int32} (hM : Mz G am w0 (tI th N) A w) {k : Nat} {d : Int32} (h0 : inb (nI k) 0 3 = true) (h : inb d 0 9999 = true) (hk : k < 4) : Ct G yX6_span kw_X6_span rm_X6_span [.ref (am 0), .int (nI k), .int d] w (PB (.int (A 27 k)) (Mz G am w0 (tI 0 N) (updA A 27 k d))) := by
  refine ct_intro RX6 "span" (by decide +kernel) rfl rfl rfl (Nat.le_of_ble_eq_true rfl) [some (.ref (am 0)), some (.int (nI k)), some (.int d), none] rfl (fun C => ?_)
  refine g_aload0 dX6_span_0 ?_
  refine g_iload1 dX6_span_1 ?_
  refine g_iconst (v := 0) dX6_span_2 (by decide) ?_
  refine g_iconst (v := 3) dX6_span_3 (by decide) ?_
  refine g_callS3 ct_in md_X6_in dX6_span_4 ml_X6_81 st_X6_in (RmOk.of (Nat.le_of_ble_eq_true rfl) (Nat.le_of_ble_eq_true rfl) (Nat.le_of_ble_eq_true rfl) (Nat.le_of_ble_eq_true rfl) (Nat.le_of_ble_eq_true rfl)) (kr_V ?_) kx_V
  refine g_if_eq_f (tgt := 25) dX6_span_7 (by decide) (bI_n.mpr h0) ?_
  refine g_iload2 dX6_span_10 ?_
  refine g_iconst (v := 0) dX6_span_11 (by decide) ?_
  refine g_sipush (v := 9999) dX6_span_12 (by decide) ?_
  refine g_callS3 ct_in md_X6_in dX6_span_15 ml_X6_81 st_X6_in (RmOk.of (Nat.le_of_ble_eq_true rfl) (Nat.le_of_ble_eq_true rfl) (Nat.le_of_ble_eq_true rfl) (Nat.le_of_ble_eq_true rfl) (Nat.le_of_ble_eq_true rfl)) (kr_V ?_) kx_V
  refine g_if_eq_f (tgt := 25) dX6_span_18 (by decide) (bI_n.mpr h) ?_
  refine g_iconst (v := 0) dX6_span_21 (by decide) ?_
  refine g_goto (tgt := 26) dX6_span_22 (by decide) ?_
  refine g_mput0 hM dX6_span_26 fl_X6_74 (fun w1 hM => ?_)
  refine g_aload0 dX6_span_29 ?_
  refine g_getf kc7 dX6_span_30 fl_X6_74 (by decide) hM.1 (show _ = some (Value.int (0)) from rfl) ?_
  refine g_if_le_t (tgt := 38) dX6_span_33 (by decide) (by decide) ?_
  refine g_aload0 dX6_span_38 ?_
  refine g_getf kc7 dX6_span_39 fl_X6_68 (by decide) hM.1 rfl ?_
  refine g_iload1 dX6_span_42 ?_
  refine g_miald (k := 27) (n := 4) hM rfl (by decide) (fun _ => rfl) dX6_span_43 (by omega) (by decide) ?_
  refine g_istore3 dX6_span_44 ?_
  refine g_aload0 dX6_span_45 ?_
  refine g_getf kc7 dX6_span_46 fl_X6_68 (by decide) hM.1 rfl ?_
  refine g_iload1 dX6_span_49 ?_
  refine g_iload2 dX6_span_50 ?_
  refine g_miast (k := 27) (n := 4) hM rfl (by decide) (fun _ => rfl) dX6_span_51 (by omega) (by decide) (fun w1 hM => ?_)
  refine g_iload3 dX6_span_52 ?_
  refine g_iret dX6_span_53 ?_ (Nat.le_of_ble_eq_true rfl) (Nat.le_of_ble_eq_true rfl)
  exact ⟨rfl, hM⟩

abbrev rm_X6_hold : Room := { frames := 1, cells := 0, slots := 0, locals := 22 }

set_option maxRecDepth 100000 in
theorem mt_hold_a {G : Gx} {w w0 : Wd} {am : Nat → Nat} {th : Int32} {N : Nat → Nat} {A : Nat → Nat → Int32} (hM : Mz G am w0 (tI th N) A w) {a b : Int32} (h : inb a 0 99 = false) : Ct G yX6_hold kw_X6_hold rm_X6_hold [.ref (am 0), .int a, .int b] w (PB (.int (0)) (Mz G am w0 (tI 1 N) A)) := by
  refine ct_intro RX6 "hold" (by decide +kernel) rfl rfl rfl (Nat.le_of_ble_eq_true rfl) [some (.ref (am 0)), some (.int a), some (.int b), none] rfl (fun C => ?_)
  refine g_aload0 dX6_hold_0 ?_
  refine g_iload1 dX6_hold_1 ?_
  refine g_iconst (v := 0) dX6_hold_2 (by decide) ?_
  refine g_bipush (v := 99) dX6_hold_3 (by decide) ?_
  refine g_callS3 ct_in md_X6_in dX6_hold_5 ml_X6_81 st_X6_in (RmOk.of (Nat.le_of_ble_eq_true rfl) (Nat.le_of_ble_eq_true rfl) (Nat.le_of_ble_eq_true rfl) (Nat.le_of_ble_eq_true rfl) (Nat.le_of_ble_eq_true rfl)) (kr_V ?_) kx_V
  refine g_if_eq_t (tgt := 15) dX6_hold_8 (by decide) (bI_0.mpr h) ?_
  refine g_iconst (v := 1) dX6_hold_15 (by decide) ?_
  refine g_mput0 hM dX6_hold_16 fl_X6_74 (fun w1 hM => ?_)
  refine g_aload0 dX6_hold_19 ?_
  refine g_getf kc7 dX6_hold_20 fl_X6_74 (by decide) hM.1 (show _ = some (Value.int (1)) from rfl) ?_
  refine g_if_le_f (tgt := 28) dX6_hold_23 (by decide) (by decide) ?_
  refine g_iconst (v := 0) dX6_hold_26 (by decide) ?_
  refine g_zret dX6_hold_27 (by decide) ?_ (Nat.le_of_ble_eq_true rfl) (Nat.le_of_ble_eq_true rfl)
  exact ⟨rfl, hM⟩

set_option maxRecDepth 100000 in
theorem mt_hold_b {G : Gx} {w w0 : Wd} {am : Nat → Nat} {th : Int32} {N : Nat → Nat} {A : Nat → Nat → Int32} (hM : Mz G am w0 (tI th N) A w) {a : Nat} {b : Int32} (h : inb (nI a) 0 99 = true) (ha : a < 100) (hb : narrow .boolean (.int b) = .int b) (hz : narrow .boolean (.int (A 28 a)) = .int (A 28 a)) : Ct G yX6_hold kw_X6_hold rm_X6_hold [.ref (am 0), .int (nI a), .int b] w (PB (.int (A 28 a)) (Mz G am w0 (tI 0 N) (updA A 28 a b))) := by
  refine ct_intro RX6 "hold" (by decide +kernel) rfl rfl rfl (Nat.le_of_ble_eq_true rfl) [some (.ref (am 0)), some (.int (nI a)), some (.int b), none] rfl (fun C => ?_)
  refine g_aload0 dX6_hold_0 ?_
  refine g_iload1 dX6_hold_1 ?_
  refine g_iconst (v := 0) dX6_hold_2 (by decide) ?_
  refine g_bipush (v := 99) dX6_hold_3 (by decide) ?_
  refine g_callS3 ct_in md_X6_in dX6_hold_5 ml_X6_81 st_X6_in (RmOk.of (Nat.le_of_ble_eq_true rfl) (Nat.le_of_ble_eq_true rfl) (Nat.le_of_ble_eq_true rfl) (Nat.le_of_ble_eq_true rfl) (Nat.le_of_ble_eq_true rfl)) (kr_V ?_) kx_V
  refine g_if_eq_f (tgt := 15) dX6_hold_8 (by decide) (bI_n.mpr h) ?_
  refine g_iconst (v := 0) dX6_hold_11 (by decide) ?_
  refine g_goto (tgt := 16) dX6_hold_12 (by decide) ?_
  refine g_mput0 hM dX6_hold_16 fl_X6_74 (fun w1 hM => ?_)
  refine g_aload0 dX6_hold_19 ?_
  refine g_getf kc7 dX6_hold_20 fl_X6_74 (by decide) hM.1 (show _ = some (Value.int (0)) from rfl) ?_
  refine g_if_le_t (tgt := 28) dX6_hold_23 (by decide) (by decide) ?_
  refine g_aload0 dX6_hold_28 ?_
  refine g_getf kc7 dX6_hold_29 fl_X6_71 (by decide) hM.1 rfl ?_
  refine g_iload1 dX6_hold_32 ?_
  refine g_mzald (k := 28) (n := 100) hM rfl (by decide) (fun _ => rfl) dX6_hold_33 (by omega) (by decide) ?_
  refine g_istore3 dX6_hold_34 ?_
  refine g_aload0 dX6_hold_35 ?_
  refine g_getf kc7 dX6_hold_36 fl_X6_71 (by decide) hM.1 rfl ?_
  refine g_iload1 dX6_hold_39 ?_
  refine g_iload2 dX6_hold_40 ?_
  refine g_mzast (k := 28) (n := 100) hM rfl (by decide) (fun _ => rfl) dX6_hold_41 (by omega) (by decide) hb (fun w1 hM => ?_)
  refine g_iload3 dX6_hold_42 ?_
  refine g_zret dX6_hold_43 hz ?_ (Nat.le_of_ble_eq_true rfl) (Nat.le_of_ble_eq_true rfl)
  exact ⟨rfl, hM⟩

