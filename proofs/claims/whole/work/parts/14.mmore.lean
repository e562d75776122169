/-! The reference: end, twice, reprint, found, read, clear, bundle. -/
theorem go_mono {G : Gx} {R : Room} {cc : ByteArray} {own : String} {Y : Yx} {C : Cx} {pc : Nat} {L : List (Option Value)} {st : List Value} {w : Wd} {c k : Nat} {P P' : RV → Wd → Prop} (h : Go G R cc own Y C (QP G R P C) pc L st w c k) (hp : ∀ r w', P r w' → P' r w') : Go G R cc own Y C (QP G R P' C) pc L st w c k := by
  obtain ⟨p, e, s, m, args, below, meth, cd⟩ := C
  intro O H ls locs hR hS hL T hT X
  obtain ⟨t, a1, o, b1, b2, b3⟩ := h O H ls locs hR hS hL T hT X
  refine ⟨t, a1, o, b1, b2, ?_⟩
  rcases b3 with ⟨⟨v, w', g1, g2, g3⟩, g4⟩ | ⟨q, g1, E, ce, Lc, ⟨w', g2, g3⟩, g4⟩
  · exact Or.inl ⟨⟨v, w', g1, hp _ _ g2, g3⟩, g4⟩
  · exact Or.inr ⟨q, g1, E, ce, Lc, ⟨w', hp _ _ g2, g3⟩, g4⟩

abbrev rm_X6_end : Room := { frames := 3, cells := 0, slots := 0, locals := 71 }

set_option maxRecDepth 100000 in
theorem mt_end_a0 {G : Gx} {w w0 : Wd} {am : Nat → Nat} {th : Int32} {N : Nat → Nat} {A : Nat → Nat → Int32} (hM : Mz G am w0 (tI th N) A w) (hb : N 6 + N 7 ≤ 120) (h10 : N 10 ≤ 8) (hr : N 13 ≤ 15) (h0 : N 10 = 0) (h7 : N 7 = 0) : Ct G yX6_end kw_X6_end rm_X6_end [.ref (am 0)] w (PB (.int (0)) (Mz G am w0 (tI 1 N) A)) := by
  refine ct_intro RX6 "end" (by decide +kernel) rfl rfl rfl (Nat.le_of_ble_eq_true rfl) [some (.ref (am 0)), none] rfl (fun C => ?_)
  refine g_aload0 dX6_end_0 ?_
  refine g_getf kc7 dX6_end_1 fl_X6_97 (by decide) hM.1 (show _ = some (Value.int (nI (N 7))) from rfl) ?_
  refine g_aload0 dX6_end_4 ?_
  refine g_getf kc7 dX6_end_5 fl_X6_91 (by decide) hM.1 (show _ = some (Value.int (nI (N 10))) from rfl) ?_
  refine g_if_le_t (tgt := 15) dX6_end_8 (by decide) (by rw [h0]; decide) ?_
  refine g_iconst (v := 0) dX6_end_15 (by decide) ?_
  refine g_iadd dX6_end_16 ?_
  rw [show nI (N 7) + 0 = nI (N 7) from nI_add (N 7) 0]
  refine g_istore1 dX6_end_17 ?_
  refine g_aload0 dX6_end_18 ?_
  refine g_iload1 dX6_end_19 ?_
  refine g_if_eq_t (tgt := 43) dX6_end_20 (by decide) (by rw [h7]; rfl) ?_
  refine g_iconst (v := 1) dX6_end_43 (by decide) ?_
  refine g_goto (tgt := 48) dX6_end_44 (by decide) ?_
  refine g_mput0 hM dX6_end_48 fl_X6_74 (fun w1 hM => ?_)
  refine g_aload0 dX6_end_51 ?_
  refine g_getf kc7 dX6_end_52 fl_X6_74 (by decide) hM.1 (show _ = some (Value.int (1)) from rfl) ?_
  refine g_if_le_f (tgt := 60) dX6_end_55 (by decide) (by decide) ?_
  refine g_iconst (v := 0) dX6_end_58 (by decide) ?_
  refine g_iret dX6_end_59 ?_ (Nat.le_of_ble_eq_true rfl) (Nat.le_of_ble_eq_true rfl)
  exact ⟨rfl, hM⟩

set_option maxRecDepth 100000 in
theorem mt_end_a1n {G : Gx} {w w0 : Wd} {am : Nat → Nat} {th : Int32} {N : Nat → Nat} {A : Nat → Nat → Int32} (hM : Mz G am w0 (tI th N) A w) (hb : N 6 + N 7 ≤ 120) (h10 : N 10 ≤ 8) (hr : N 13 ≤ 15) (h0 : N 10 = 0) (h7 : 0 < N 7) (h13 : N 13 = 15) : Ct G yX6_end kw_X6_end rm_X6_end [.ref (am 0)] w (PB (.int (0)) (Mz G am w0 (tI 1 N) A)) := by
  refine ct_intro RX6 "end" (by decide +kernel) rfl rfl rfl (Nat.le_of_ble_eq_true rfl) [some (.ref (am 0)), none] rfl (fun C => ?_)
  refine g_aload0 dX6_end_0 ?_
  refine g_getf kc7 dX6_end_1 fl_X6_97 (by decide) hM.1 (show _ = some (Value.int (nI (N 7))) from rfl) ?_
  refine g_aload0 dX6_end_4 ?_
  refine g_getf kc7 dX6_end_5 fl_X6_91 (by decide) hM.1 (show _ = some (Value.int (nI (N 10))) from rfl) ?_
  refine g_if_le_t (tgt := 15) dX6_end_8 (by decide) (by rw [h0]; decide) ?_
  refine g_iconst (v := 0) dX6_end_15 (by decide) ?_
  refine g_iadd dX6_end_16 ?_
  rw [show nI (N 7) + 0 = nI (N 7) from nI_add (N 7) 0]
  refine g_istore1 dX6_end_17 ?_
  refine g_aload0 dX6_end_18 ?_
  refine g_iload1 dX6_end_19 ?_
  refine g_if_eq_f (tgt := 43) dX6_end_20 (by decide) (nI_ne0 (by omega) (by omega)) ?_
  refine g_aload0 dX6_end_23 ?_
  refine g_getf kc7 dX6_end_24 fl_X6_78 (by decide) hM.1 (show _ = some (Value.int (nI (N 13))) from rfl) ?_
  refine g_bipush (v := 15) dX6_end_27 (by decide) ?_
  refine g_icmp_eq_t (tgt := 43) dX6_end_29 (by decide) (by rw [h13]; rfl) ?_
  refine g_iconst (v := 1) dX6_end_43 (by decide) ?_
  refine g_goto (tgt := 48) dX6_end_44 (by decide) ?_
  refine g_mput0 hM dX6_end_48 fl_X6_74 (fun w1 hM => ?_)
  refine g_aload0 dX6_end_51 ?_
  refine g_getf kc7 dX6_end_52 fl_X6_74 (by decide) hM.1 (show _ = some (Value.int (1)) from rfl) ?_
  refine g_if_le_f (tgt := 60) dX6_end_55 (by decide) (by decide) ?_
  refine g_iconst (v := 0) dX6_end_58 (by decide) ?_
  refine g_iret dX6_end_59 ?_ (Nat.le_of_ble_eq_true rfl) (Nat.le_of_ble_eq_true rfl)
  exact ⟨rfl, hM⟩

set_option maxRecDepth 100000 in
theorem mt_end_a2n {G : Gx} {w w0 : Wd} {am : Nat → Nat} {th : Int32} {N : Nat → Nat} {A : Nat → Nat → Int32} (hM : Mz G am w0 (tI th N) A w) (hb : N 6 + N 7 ≤ 120) (h10 : N 10 ≤ 8) (hr : N 13 ≤ 15) (h0 : N 10 = 0) (h7 : 0 < N 7) (h13 : N 13 < 15) (h6 : 120 < N 6 + (N 7)) : Ct G yX6_end kw_X6_end rm_X6_end [.ref (am 0)] w (PB (.int (0)) (Mz G am w0 (tI 1 N) A)) := by
  refine ct_intro RX6 "end" (by decide +kernel) rfl rfl rfl (Nat.le_of_ble_eq_true rfl) [some (.ref (am 0)), none] rfl (fun C => ?_)
  refine g_aload0 dX6_end_0 ?_
  refine g_getf kc7 dX6_end_1 fl_X6_97 (by decide) hM.1 (show _ = some (Value.int (nI (N 7))) from rfl) ?_
  refine g_aload0 dX6_end_4 ?_
  refine g_getf kc7 dX6_end_5 fl_X6_91 (by decide) hM.1 (show _ = some (Value.int (nI (N 10))) from rfl) ?_
  refine g_if_le_t (tgt := 15) dX6_end_8 (by decide) (by rw [h0]; decide) ?_
  refine g_iconst (v := 0) dX6_end_15 (by decide) ?_
  refine g_iadd dX6_end_16 ?_
  rw [show nI (N 7) + 0 = nI (N 7) from nI_add (N 7) 0]
  refine g_istore1 dX6_end_17 ?_
  refine g_aload0 dX6_end_18 ?_
  refine g_iload1 dX6_end_19 ?_
  refine g_if_eq_f (tgt := 43) dX6_end_20 (by decide) (nI_ne0 (by omega) (by omega)) ?_
  refine g_aload0 dX6_end_23 ?_
  refine g_getf kc7 dX6_end_24 fl_X6_78 (by decide) hM.1 (show _ = some (Value.int (nI (N 13))) from rfl) ?_
  refine g_bipush (v := 15) dX6_end_27 (by decide) ?_
  refine g_icmp_eq_f (tgt := 43) dX6_end_29 (by decide) (fun z => absurd ((nI_eq (b := 15) (by omega) (by decide)).mp z) (by omega)) ?_
  refine g_aload0 dX6_end_32 ?_
  refine g_getf kc7 dX6_end_33 fl_X6_94 (by decide) hM.1 (show _ = some (Value.int (nI (N 6))) from rfl) ?_
  refine g_iload1 dX6_end_36 ?_
  refine g_iadd dX6_end_37 ?_
  rw [nI_add]
  refine g_bipush (v := 120) dX6_end_38 (by decide) ?_
  refine g_icmp_le_f (tgt := 47) dX6_end_40 (by decide) (fun z => absurd ((nI_leI (b := 120) (by omega) (by decide)).mp z) (by omega)) ?_
  refine g_iconst (v := 1) dX6_end_43 (by decide) ?_
  refine g_goto (tgt := 48) dX6_end_44 (by decide) ?_
  refine g_mput0 hM dX6_end_48 fl_X6_74 (fun w1 hM => ?_)
  refine g_aload0 dX6_end_51 ?_
  refine g_getf kc7 dX6_end_52 fl_X6_74 (by decide) hM.1 (show _ = some (Value.int (1)) from rfl) ?_
  refine g_if_le_f (tgt := 60) dX6_end_55 (by decide) (by decide) ?_
  refine g_iconst (v := 0) dX6_end_58 (by decide) ?_
  refine g_iret dX6_end_59 ?_ (Nat.le_of_ble_eq_true rfl) (Nat.le_of_ble_eq_true rfl)
  exact ⟨rfl, hM⟩

set_option maxRecDepth 100000 in
theorem mt_end_a1y {G : Gx} {w w0 : Wd} {am : Nat → Nat} {th : Int32} {N : Nat → Nat} {A : Nat → Nat → Int32} (hM : Mz G am w0 (tI th N) A w) (hb : N 6 + N 7 ≤ 120) (h10 : N 10 ≤ 8) (hr : N 13 ≤ 15) (h0 : 0 < N 10) (h13 : N 13 = 15) : Ct G yX6_end kw_X6_end rm_X6_end [.ref (am 0)] w (PB (.int (0)) (Mz G am w0 (tI 1 N) A)) := by
  refine ct_intro RX6 "end" (by decide +kernel) rfl rfl rfl (Nat.le_of_ble_eq_true rfl) [some (.ref (am 0)), none] rfl (fun C => ?_)
  refine g_aload0 dX6_end_0 ?_
  refine g_getf kc7 dX6_end_1 fl_X6_97 (by decide) hM.1 (show _ = some (Value.int (nI (N 7))) from rfl) ?_
  refine g_aload0 dX6_end_4 ?_
  refine g_getf kc7 dX6_end_5 fl_X6_91 (by decide) hM.1 (show _ = some (Value.int (nI (N 10))) from rfl) ?_
  refine g_if_le_f (tgt := 15) dX6_end_8 (by decide) (fun z => absurd ((nI_leI (b := 0) (by omega) (by decide)).mp z) (by omega)) ?_
  refine g_iconst (v := 1) dX6_end_11 (by decide) ?_
  refine g_goto (tgt := 16) dX6_end_12 (by decide) ?_
  refine g_iadd dX6_end_16 ?_
  rw [show nI (N 7) + 1 = nI (N 7 + 1) from nI_1 _]
  refine g_istore1 dX6_end_17 ?_
  refine g_aload0 dX6_end_18 ?_
  refine g_iload1 dX6_end_19 ?_
  refine g_if_eq_f (tgt := 43) dX6_end_20 (by decide) (nI_ne0 (by omega) (by omega)) ?_
  refine g_aload0 dX6_end_23 ?_
  refine g_getf kc7 dX6_end_24 fl_X6_78 (by decide) hM.1 (show _ = some (Value.int (nI (N 13))) from rfl) ?_
  refine g_bipush (v := 15) dX6_end_27 (by decide) ?_
  refine g_icmp_eq_t (tgt := 43) dX6_end_29 (by decide) (by rw [h13]; rfl) ?_
  refine g_iconst (v := 1) dX6_end_43 (by decide) ?_
  refine g_goto (tgt := 48) dX6_end_44 (by decide) ?_
  refine g_mput0 hM dX6_end_48 fl_X6_74 (fun w1 hM => ?_)
  refine g_aload0 dX6_end_51 ?_
  refine g_getf kc7 dX6_end_52 fl_X6_74 (by decide) hM.1 (show _ = some (Value.int (1)) from rfl) ?_
  refine g_if_le_f (tgt := 60) dX6_end_55 (by decide) (by decide) ?_
  refine g_iconst (v := 0) dX6_end_58 (by decide) ?_
  refine g_iret dX6_end_59 ?_ (Nat.le_of_ble_eq_true rfl) (Nat.le_of_ble_eq_true rfl)
  exact ⟨rfl, hM⟩

set_option maxRecDepth 100000 in
theorem mt_end_a2y {G : Gx} {w w0 : Wd} {am : Nat → Nat} {th : Int32} {N : Nat → Nat} {A : Nat → Nat → Int32} (hM : Mz G am w0 (tI th N) A w) (hb : N 6 + N 7 ≤ 120) (h10 : N 10 ≤ 8) (hr : N 13 ≤ 15) (h0 : 0 < N 10) (h13 : N 13 < 15) (h6 : 120 < N 6 + (N 7 + 1)) : Ct G yX6_end kw_X6_end rm_X6_end [.ref (am 0)] w (PB (.int (0)) (Mz G am w0 (tI 1 N) A)) := by
  refine ct_intro RX6 "end" (by decide +kernel) rfl rfl rfl (Nat.le_of_ble_eq_true rfl) [some (.ref (am 0)), none] rfl (fun C => ?_)
  refine g_aload0 dX6_end_0 ?_
  refine g_getf kc7 dX6_end_1 fl_X6_97 (by decide) hM.1 (show _ = some (Value.int (nI (N 7))) from rfl) ?_
  refine g_aload0 dX6_end_4 ?_
  refine g_getf kc7 dX6_end_5 fl_X6_91 (by decide) hM.1 (show _ = some (Value.int (nI (N 10))) from rfl) ?_
  refine g_if_le_f (tgt := 15) dX6_end_8 (by decide) (fun z => absurd ((nI_leI (b := 0) (by omega) (by decide)).mp z) (by omega)) ?_
  refine g_iconst (v := 1) dX6_end_11 (by decide) ?_
  refine g_goto (tgt := 16) dX6_end_12 (by decide) ?_
  refine g_iadd dX6_end_16 ?_
  rw [show nI (N 7) + 1 = nI (N 7 + 1) from nI_1 _]
  refine g_istore1 dX6_end_17 ?_
  refine g_aload0 dX6_end_18 ?_
  refine g_iload1 dX6_end_19 ?_
  refine g_if_eq_f (tgt := 43) dX6_end_20 (by decide) (nI_ne0 (by omega) (by omega)) ?_
  refine g_aload0 dX6_end_23 ?_
  refine g_getf kc7 dX6_end_24 fl_X6_78 (by decide) hM.1 (show _ = some (Value.int (nI (N 13))) from rfl) ?_
  refine g_bipush (v := 15) dX6_end_27 (by decide) ?_
  refine g_icmp_eq_f (tgt := 43) dX6_end_29 (by decide) (fun z => absurd ((nI_eq (b := 15) (by omega) (by decide)).mp z) (by omega)) ?_
  refine g_aload0 dX6_end_32 ?_
  refine g_getf kc7 dX6_end_33 fl_X6_94 (by decide) hM.1 (show _ = some (Value.int (nI (N 6))) from rfl) ?_
  refine g_iload1 dX6_end_36 ?_
  refine g_iadd dX6_end_37 ?_
  rw [nI_add]
  refine g_bipush (v := 120) dX6_end_38 (by decide) ?_
  refine g_icmp_le_f (tgt := 47) dX6_end_40 (by decide) (fun z => absurd ((nI_leI (b := 120) (by omega) (by decide)).mp z) (by omega)) ?_
  refine g_iconst (v := 1) dX6_end_43 (by decide) ?_
  refine g_goto (tgt := 48) dX6_end_44 (by decide) ?_
  refine g_mput0 hM dX6_end_48 fl_X6_74 (fun w1 hM => ?_)
  refine g_aload0 dX6_end_51 ?_
  refine g_getf kc7 dX6_end_52 fl_X6_74 (by decide) hM.1 (show _ = some (Value.int (1)) from rfl) ?_
  refine g_if_le_f (tgt := 60) dX6_end_55 (by decide) (by decide) ?_
  refine g_iconst (v := 0) dX6_end_58 (by decide) ?_
  refine g_iret dX6_end_59 ?_ (Nat.le_of_ble_eq_true rfl) (Nat.le_of_ble_eq_true rfl)
  exact ⟨rfl, hM⟩

/-- the numbers behind the end of a run: its pages S stand ready, none open but what is left out -/
def edA (N : Nat → Nat) (A : Nat → Nat → Int32) : Nat → Nat → Int32 := updA (updA (updA A 14 (N 13) (nI (N 1))) 15 (N 13) (nI (N 6))) 16 (N 13) (nI (N 7))
def edN (N : Nat → Nat) : Nat → Nat := updN (updN (updN N 6 (N 6 + N 7)) 7 0) 13 (N 13 + 1)
def edS (la ka : Nat) (S : SS) : SS := (edN (ptL la ka (S.1 6) (S.1 7) S).1, edA (ptL la ka (S.1 6) (S.1 7) S).1 (ptL la ka (S.1 6) (S.1 7) S).2)

set_option maxRecDepth 100000 in
theorem end_tail {G : Gx} {w w0 : Wd} {am : Nat → Nat} {N1 : Nat → Nat} {A1 : Nat → Nat → Int32} {z : Option Value} (hM : Mz G am w0 (tI 0 N1) A1 w) (h13 : N1 13 < 15) (C : Cx) :
    Go G rm_X6_end cX6_end RX6 (some .int, "end", []) C (QP G rm_X6_end (PB (.int (nI (N1 13))) (Mz G am w0 (tI 0 (edN N1)) (edA N1 A1))) C) 75 [some (.ref (am 0)), z] [] w 0 0 := by
  refine g_aload0 dX6_end_75 ?_
  refine g_getf kc7 dX6_end_76 fl_X6_31 (by decide) hM.1 rfl ?_
  refine g_aload0 dX6_end_79 ?_
  refine g_getf kc7 dX6_end_80 fl_X6_78 (by decide) hM.1 (show _ = some (Value.int (nI (N1 13))) from rfl) ?_
  refine g_aload0 dX6_end_83 ?_
  refine g_getf kc7 dX6_end_84 fl_X6_85 (by decide) hM.1 (show _ = some (Value.int (nI (N1 1))) from rfl) ?_
  refine g_miast (k := 14) (n := 15) hM rfl (by decide) (fun _ => rfl) dX6_end_87 (by omega) (by decide) (fun w1 hM => ?_)
  refine g_aload0 dX6_end_88 ?_
  refine g_getf kc7 dX6_end_89 fl_X6_34 (by decide) hM.1 rfl ?_
  refine g_aload0 dX6_end_92 ?_
  refine g_getf kc7 dX6_end_93 fl_X6_78 (by decide) hM.1 (show _ = some (Value.int (nI (N1 13))) from rfl) ?_
  refine g_aload0 dX6_end_96 ?_
  refine g_getf kc7 dX6_end_97 fl_X6_94 (by decide) hM.1 (show _ = some (Value.int (nI (N1 6))) from rfl) ?_
  refine g_miast (k := 15) (n := 15) hM rfl (by decide) (fun _ => rfl) dX6_end_100 (by omega) (by decide) (fun w1 hM => ?_)
  refine g_aload0 dX6_end_101 ?_
  refine g_getf kc7 dX6_end_102 fl_X6_37 (by decide) hM.1 rfl ?_
  refine g_aload0 dX6_end_105 ?_
  refine g_getf kc7 dX6_end_106 fl_X6_78 (by decide) hM.1 (show _ = some (Value.int (nI (N1 13))) from rfl) ?_
  refine g_aload0 dX6_end_109 ?_
  refine g_getf kc7 dX6_end_110 fl_X6_97 (by decide) hM.1 (show _ = some (Value.int (nI (N1 7))) from rfl) ?_
  refine g_miast (k := 16) (n := 15) hM rfl (by decide) (fun _ => rfl) dX6_end_113 (by omega) (by decide) (fun w1 hM => ?_)
  refine g_aload0 dX6_end_114 ?_
  refine g_dup dX6_end_115 rfl ?_
  refine g_getf kc7 dX6_end_116 fl_X6_94 (by decide) hM.1 (show _ = some (Value.int (nI (N1 6))) from rfl) ?_
  refine g_aload0 dX6_end_119 ?_
  refine g_getf kc7 dX6_end_120 fl_X6_97 (by decide) hM.1 (show _ = some (Value.int (nI (N1 7))) from rfl) ?_
  refine g_iadd dX6_end_123 ?_
  rw [nI_add]
  refine g_mputN (k := 6) hM dX6_end_124 fl_X6_94 (by decide) rfl rfl rfl (fun w1 hM => ?_)
  refine g_aload0 dX6_end_127 ?_
  refine g_iconst (v := 0) dX6_end_128 (by decide) ?_
  rw [show (0 : Int32) = nI 0 from rfl]
  refine g_mputN (k := 7) hM dX6_end_129 fl_X6_97 (by decide) rfl rfl rfl (fun w1 hM => ?_)
  refine g_aload0 dX6_end_132 ?_
  refine g_dup dX6_end_133 rfl ?_
  refine g_getf kc7 dX6_end_134 fl_X6_78 (by decide) hM.1 (show _ = some (Value.int (nI (N1 13))) from rfl) ?_
  refine g_iconst (v := 1) dX6_end_137 (by decide) ?_
  refine g_iadd dX6_end_138 ?_
  rw [show nI (N1 13) + 1 = nI (N1 13 + 1) from nI_1 _]
  refine g_mputN (k := 13) hM dX6_end_139 fl_X6_78 (by decide) rfl rfl rfl (fun w1 hM => ?_)
  refine g_aload0 dX6_end_142 ?_
  refine g_getf kc7 dX6_end_143 fl_X6_78 (by decide) hM.1 (show _ = some (Value.int (nI (N1 13 + 1))) from rfl) ?_
  refine g_iconst (v := 1) dX6_end_146 (by decide) ?_
  refine g_isub dX6_end_147 ?_
  rw [nI_pred]
  refine g_iret dX6_end_148 ?_ (Nat.le_of_ble_eq_true rfl) (Nat.le_of_ble_eq_true rfl)
  exact ⟨rfl, hM⟩

set_option maxRecDepth 100000 in
theorem mt_end_n {G : Gx} {w w0 : Wd} {am : Nat → Nat} {th : Int32} {N : Nat → Nat} {A : Nat → Nat → Int32} (hM : Mz G am w0 (tI th N) A w) (hb : N 6 + N 7 ≤ 120) (h10 : N 10 ≤ 8) (hr : N 13 ≤ 15) (h0 : N 10 = 0) (h7 : 0 < N 7) (h13 : N 13 < 15) {la ka : Nat} (hla : la < 8) (hka : ka < 8) (h2 : N 2 ≤ 10) (hfm : fmOk N A la ka) (hdk : N 17 ≤ N 6)  : Ct G yX6_end kw_X6_end rm_X6_end [.ref (am 0)] w (PB (.int (nI (N 13))) (Mz G am w0 (tI 0 (edS la ka (N, A)).1) (edS la ka (N, A)).2)) := by
  refine ct_intro RX6 "end" (by decide +kernel) rfl rfl rfl (Nat.le_of_ble_eq_true rfl) [some (.ref (am 0)), none] rfl (fun C => ?_)
  refine g_aload0 dX6_end_0 ?_
  refine g_getf kc7 dX6_end_1 fl_X6_97 (by decide) hM.1 (show _ = some (Value.int (nI (N 7))) from rfl) ?_
  refine g_aload0 dX6_end_4 ?_
  refine g_getf kc7 dX6_end_5 fl_X6_91 (by decide) hM.1 (show _ = some (Value.int (nI (N 10))) from rfl) ?_
  refine g_if_le_t (tgt := 15) dX6_end_8 (by decide) (by rw [h0]; decide) ?_
  refine g_iconst (v := 0) dX6_end_15 (by decide) ?_
  refine g_iadd dX6_end_16 ?_
  rw [show nI (N 7) + 0 = nI (N 7) from nI_add (N 7) 0]
  refine g_istore1 dX6_end_17 ?_
  refine g_aload0 dX6_end_18 ?_
  refine g_iload1 dX6_end_19 ?_
  refine g_if_eq_f (tgt := 43) dX6_end_20 (by decide) (nI_ne0 (by omega) (by omega)) ?_
  refine g_aload0 dX6_end_23 ?_
  refine g_getf kc7 dX6_end_24 fl_X6_78 (by decide) hM.1 (show _ = some (Value.int (nI (N 13))) from rfl) ?_
  refine g_bipush (v := 15) dX6_end_27 (by decide) ?_
  refine g_icmp_eq_f (tgt := 43) dX6_end_29 (by decide) (fun z => absurd ((nI_eq (b := 15) (by omega) (by decide)).mp z) (by omega)) ?_
  refine g_aload0 dX6_end_32 ?_
  refine g_getf kc7 dX6_end_33 fl_X6_94 (by decide) hM.1 (show _ = some (Value.int (nI (N 6))) from rfl) ?_
  refine g_iload1 dX6_end_36 ?_
  refine g_iadd dX6_end_37 ?_
  rw [nI_add]
  refine g_bipush (v := 120) dX6_end_38 (by decide) ?_
  refine g_icmp_le_t (tgt := 47) dX6_end_40 (by decide) ((nI_leI (b := 120) (by omega) (by decide)).mpr (by omega)) ?_
  refine g_iconst (v := 0) dX6_end_47 (by decide) ?_
  refine g_mput0 hM dX6_end_48 fl_X6_74 (fun w1 hM => ?_)
  refine g_aload0 dX6_end_51 ?_
  refine g_getf kc7 dX6_end_52 fl_X6_74 (by decide) hM.1 (show _ = some (Value.int (0)) from rfl) ?_
  refine g_if_le_t (tgt := 60) dX6_end_55 (by decide) (by decide) ?_
  refine g_aload0 dX6_end_60 ?_
  refine g_getf kc7 dX6_end_61 fl_X6_91 (by decide) hM.1 (show _ = some (Value.int (nI (N 10))) from rfl) ?_
  refine g_if_le_t (tgt := 71) dX6_end_64 (by decide) (by rw [h0]; decide) ?_
  refine g_aload0 dX6_end_71 ?_
  refine g_callV0 kc7 (ct_puts hM h2 hfm hla hka hb hdk) md_X6_putsTogether dX6_end_72 ml_X6_118 im_X6_putsTogether se_X6_putsTogether hM.1 (RmOk.of (Nat.le_of_ble_eq_true rfl) (Nat.le_of_ble_eq_true rfl) (Nat.le_of_ble_eq_true rfl) (Nat.le_of_ble_eq_true rfl) (Nat.le_of_ble_eq_true rfl)) (kr_N (fun w1 hM => ?_)) kx_N
  have e13 : (ptL la ka (N 6) (N 7) (N, A)).1 13 = N 13 := ptL_N (k := 13) (by decide) (N 7)
  have h9 := end_tail hM (by rw [e13]; exact h13) C (z := some (.int (nI (N 7))))
  rw [e13] at h9
  exact h9

theorem ePA_n {N : Nat → Nat} {A : Nat → Nat → Int32} {k : Nat} (h8 : k ≠ 8) (h9 : k ≠ 9) (h12 : k ≠ 12) : ePA N A k = A k := by
  unfold ePA updA
  rw [if_neg h12, cpy9_n h9, if_neg h8]
theorem fmS_congr {A B : Nat → Nat → Int32} {dy : Int32} (h : A 3 = B 3) : ∀ n, fmS A dy n = fmS B dy n
  | 0 => rfl
  | n + 1 => by
    unfold fmS
    rw [fmS_congr h n, h]
theorem fmOk_eP {N : Nat → Nat} {A : Nat → Nat → Int32} {la ka : Nat} (h : fmOk N A la ka) : fmOk (ePN N) (ePA N A) la ka := by
  have e : fmS (ePA N A) (nI (ePN N 1)) (ePN N 2) = fmS A (nI (N 1)) (N 2) := fmS_congr (ePA_n (by decide) (by decide) (by decide)) (N 2)
  unfold fmOk
  rw [e, ePA_n (k := 4) (by decide) (by decide) (by decide), ePA_n (k := 5) (by decide) (by decide) (by decide)]
  exact h

set_option maxRecDepth 100000 in
theorem mt_end_y {G : Gx} {w w0 : Wd} {am : Nat → Nat} {th : Int32} {N : Nat → Nat} {A : Nat → Nat → Int32} (hM : Mz G am w0 (tI th N) A w) (hb : N 6 + N 7 ≤ 120) (h10 : N 10 ≤ 8) (hr : N 13 ≤ 15) (h0 : 0 < N 10) (h13 : N 13 < 15) (h6 : N 6 + (N 7 + 1) ≤ 120) {la ka : Nat} (hla : la < 8) (hka : ka < 8) (h2 : N 2 ≤ 10) (hfm : fmOk N A la ka) (hdk : N 17 ≤ N 6)  : Ct G yX6_end kw_X6_end rm_X6_end [.ref (am 0)] w (PB (.int (nI (N 13))) (Mz G am w0 (tI 0 (edS la ka (ePN N, ePA N A)).1) (edS la ka (ePN N, ePA N A)).2)) := by
  have hfm2 := fmOk_eP hfm
  refine ct_intro RX6 "end" (by decide +kernel) rfl rfl rfl (Nat.le_of_ble_eq_true rfl) [some (.ref (am 0)), none] rfl (fun C => ?_)
  refine g_aload0 dX6_end_0 ?_
  refine g_getf kc7 dX6_end_1 fl_X6_97 (by decide) hM.1 (show _ = some (Value.int (nI (N 7))) from rfl) ?_
  refine g_aload0 dX6_end_4 ?_
  refine g_getf kc7 dX6_end_5 fl_X6_91 (by decide) hM.1 (show _ = some (Value.int (nI (N 10))) from rfl) ?_
  refine g_if_le_f (tgt := 15) dX6_end_8 (by decide) (fun z => absurd ((nI_leI (b := 0) (by omega) (by decide)).mp z) (by omega)) ?_
  refine g_iconst (v := 1) dX6_end_11 (by decide) ?_
  refine g_goto (tgt := 16) dX6_end_12 (by decide) ?_
  refine g_iadd dX6_end_16 ?_
  rw [show nI (N 7) + 1 = nI (N 7 + 1) from nI_1 _]
  refine g_istore1 dX6_end_17 ?_
  refine g_aload0 dX6_end_18 ?_
  refine g_iload1 dX6_end_19 ?_
  refine g_if_eq_f (tgt := 43) dX6_end_20 (by decide) (nI_ne0 (by omega) (by omega)) ?_
  refine g_aload0 dX6_end_23 ?_
  refine g_getf kc7 dX6_end_24 fl_X6_78 (by decide) hM.1 (show _ = some (Value.int (nI (N 13))) from rfl) ?_
  refine g_bipush (v := 15) dX6_end_27 (by decide) ?_
  refine g_icmp_eq_f (tgt := 43) dX6_end_29 (by decide) (fun z => absurd ((nI_eq (b := 15) (by omega) (by decide)).mp z) (by omega)) ?_
  refine g_aload0 dX6_end_32 ?_
  refine g_getf kc7 dX6_end_33 fl_X6_94 (by decide) hM.1 (show _ = some (Value.int (nI (N 6))) from rfl) ?_
  refine g_iload1 dX6_end_36 ?_
  refine g_iadd dX6_end_37 ?_
  rw [nI_add]
  refine g_bipush (v := 120) dX6_end_38 (by decide) ?_
  refine g_icmp_le_t (tgt := 47) dX6_end_40 (by decide) ((nI_leI (b := 120) (by omega) (by decide)).mpr (by omega)) ?_
  refine g_iconst (v := 0) dX6_end_47 (by decide) ?_
  refine g_mput0 hM dX6_end_48 fl_X6_74 (fun w1 hM => ?_)
  refine g_aload0 dX6_end_51 ?_
  refine g_getf kc7 dX6_end_52 fl_X6_74 (by decide) hM.1 (show _ = some (Value.int (0)) from rfl) ?_
  refine g_if_le_t (tgt := 60) dX6_end_55 (by decide) (by decide) ?_
  refine g_aload0 dX6_end_60 ?_
  refine g_getf kc7 dX6_end_61 fl_X6_91 (by decide) hM.1 (show _ = some (Value.int (nI (N 10))) from rfl) ?_
  refine g_if_le_f (tgt := 71) dX6_end_64 (by decide) (fun z => absurd ((nI_leI (b := 0) (by omega) (by decide)).mp z) (by omega)) ?_
  refine g_aload0 dX6_end_67 ?_
  refine g_callV0 kc7 (ct_endsPage hM (by omega) h10) md_X6_endsPage dX6_end_68 ml_X6_100 im_X6_endsPage se_X6_endsPage hM.1 (RmOk.of (Nat.le_of_ble_eq_true rfl) (Nat.le_of_ble_eq_true rfl) (Nat.le_of_ble_eq_true rfl) (Nat.le_of_ble_eq_true rfl) (Nat.le_of_ble_eq_true rfl)) (kr_N (fun w1 hM => ?_)) kx_N
  refine g_aload0 dX6_end_71 ?_
  refine g_callV0 kc7 (ct_puts hM (show ePN N 2 ≤ 10 from h2) hfm2 hla hka (show N 6 + (N 7 + 1) ≤ 120 from h6) (show N 17 ≤ N 6 from hdk)) md_X6_putsTogether dX6_end_72 ml_X6_118 im_X6_putsTogether se_X6_putsTogether hM.1 (RmOk.of (Nat.le_of_ble_eq_true rfl) (Nat.le_of_ble_eq_true rfl) (Nat.le_of_ble_eq_true rfl) (Nat.le_of_ble_eq_true rfl) (Nat.le_of_ble_eq_true rfl)) (kr_N (fun w1 hM => ?_)) kx_N
  have e13 : (ptL la ka (N 6) (N 7 + 1) (ePN N, ePA N A)).1 13 = N 13 := ptL_N (k := 13) (by decide) (N 7 + 1)
  have h9 := end_tail hM (by exact (by rw [e13]; exact h13 : (ptL la ka (N 6) (N 7 + 1) (ePN N, ePA N A)).1 13 < 15)) C (z := some (.int (nI (N 7 + 1))))
  rw [show (ptL la ka (ePN N 6) (ePN N 7) (ePN N, ePA N A)).1 13 = N 13 from e13] at h9
  exact h9

def allB (f : Nat → Bool) : Nat → Bool
  | 0 => true
  | n + 1 => allB f n && f n
theorem allB_f {f : Nat → Bool} {k : Nat} (h : allB f k = false) : ∀ n, k ≤ n → allB f n = false
  | n, hn => by
    induction n with
    | zero => rw [show k = 0 by omega] at h; exact h
    | succ n ih =>
      by_cases hk : k = n + 1
      · rw [← hk]; exact h
      · show (allB f n && f n) = false
        rw [ih (by omega)]
        rfl
/-- two pages hold the same lines -/
def pgE (A : Nat → Nat → Int32) (a b : Nat) : Bool := decide (A 8 a = A 8 b) && allB (fun k => decide (lno A a k = lno A b k)) (A 8 a).toNatClampNeg
theorem pgE_at {A : Nat → Nat → Int32} {a b sa : Nat} (hsa : A 8 a = nI sa) (h : sa < 2 ^ 31) : pgE A a b = (decide (A 8 a = A 8 b) && allB (fun k => decide (lno A a k = lno A b k)) sa) := by
  unfold pgE
  rw [show (A 8 a).toNatClampNeg = sa by rw [hsa]; exact nI_clamp h]
/-- two runs are alike -/
def ruE (A : Nat → Nat → Int32) (r1 r2 : Nat) : Bool := (decide (A 14 r1 = A 14 r2) && decide (A 16 r1 = A 16 r2)) && allB (fun p => pgE A ((A 15 r1).toNatClampNeg + p) ((A 15 r2).toNatClampNeg + p)) (A 16 r1).toNatClampNeg

abbrev rm_X6_areAlike : Room := { frames := 1, cells := 0, slots := 0, locals := 22 }

set_option maxRecDepth 100000 in
theorem lp_lines {G : Gx} {w0 : Wd} {am : Nat → Nat} {th : Int32} {N : Nat → Nat} {A : Nat → Nat → Int32} {w : Wd} {r1 r2 a b sa p : Nat} {P : RV → Wd → Prop} (hM : Mz G am w0 (tI th N) A w) (hsa : A 8 a = nI sa) (hs8 : sa ≤ 8) (ha : a < 121) (hb : b < 121) (kk : ∀ (C : Cx) (x : Int32), x = bI (pgE A a b) → ∀ y : Option Value, Go G rm_X6_areAlike cX6_areAlike RX6 (some .boolean, "areAlike", []) C (QP G rm_X6_areAlike P C) 149 [some (.ref (am 0)), some (.int (nI r1)), some (.int (nI r2)), some (.int x), some (.int (nI p)), some (.int (nI a)), some (.int (nI b)), y] [] w 0 0) (C : Cx) : ∀ (M i : Nat), sa - i < M → i ≤ sa →
    Go G rm_X6_areAlike cX6_areAlike RX6 ((Option.some FieldType.boolean), "areAlike", []) C (QP G rm_X6_areAlike P C) 102 [some (.ref (am 0)), some (.int (nI r1)), some (.int (nI r2)), some (.int (bI (decide (A 8 a = A 8 b) && allB (fun k => decide (lno A a k = lno A b k)) i))), some (.int (nI p)), some (.int (nI a)), some (.int (nI b)), some (.int (nI i))] [] w 0 0 := by
  intro M
  induction M with
  | zero => intro i hM9; exact absurd hM9 (Nat.not_lt_zero _)
  | succ M ih =>
    intro i hi9 hi
    refine g_iload7 dX6_areAlike_102 ?_
    refine g_aload0 dX6_areAlike_104 ?_
    refine g_getf kc7 dX6_areAlike_105 fl_X6_19 (by decide) hM.1 rfl ?_
    refine g_iload5 dX6_areAlike_108 ?_
    refine g_miald (k := 8) (n := 121) hM rfl (by decide) (fun _ => rfl) dX6_areAlike_110 (by omega) (by decide) ?_
    refine g_icmp_ge (tgt := 149) dX6_areAlike_111 (by decide) (fun h111 => ?_) (fun h111 => ?_)
    · skip
      first
        | (have hin : i = sa := Nat.le_antisymm hi (idx_ge (by omega) (by omega) (by rw [← hsa]; exact h111))
           refine kk C _ (congrArg bI ?_) _
           rw [pgE_at hsa (by omega), ← hin])
        | (refine kk C _ (congrArg bI ?_) _
           have hX := bI_0.mp h115
           rw [pgE_at hsa (by omega), hX]
           by_cases h1 : A 8 a = A 8 b
           · rw [decide_eq_true h1, Bool.true_and] at hX ⊢
             exact (allB_f hX sa hi).symm
           · rw [decide_eq_false h1]; rfl)
      skip
    · skip
      refine g_iload3 dX6_areAlike_114 ?_
      refine g_if_eq (tgt := 149) dX6_areAlike_115 (by decide) (fun h115 => ?_) (fun h115 => ?_)
      · skip
        first
          | (have hin : i = sa := Nat.le_antisymm hi (idx_ge (by omega) (by omega) (by rw [← hsa]; exact h111))
             refine kk C _ (congrArg bI ?_) _
             rw [pgE_at hsa (by omega), ← hin])
          | (refine kk C _ (congrArg bI ?_) _
             have hX := bI_0.mp h115
             rw [pgE_at hsa (by omega), hX]
             by_cases h1 : A 8 a = A 8 b
             · rw [decide_eq_true h1, Bool.true_and] at hX ⊢
               exact (allB_f hX sa hi).symm
             · rw [decide_eq_false h1]; rfl)
        skip
      · skip
        have hlt : i < sa := idx_lt (by omega) (by omega) (by rw [← hsa]; exact h111)
        have hX := bI_n.mp h115
        refine g_aload0 dX6_areAlike_118 ?_
        refine g_iload5 dX6_areAlike_119 ?_
        refine g_iload7 dX6_areAlike_121 ?_
        refine g_callV2 kc7 (mt_lineOf hM ha (by omega)) md_X6_lineOf dX6_areAlike_123 ml_X6_103 im_X6_lineOf se_X6_lineOf hM.1 (RmOk.of (Nat.le_of_ble_eq_true rfl) (Nat.le_of_ble_eq_true rfl) (Nat.le_of_ble_eq_true rfl) (Nat.le_of_ble_eq_true rfl) (Nat.le_of_ble_eq_true rfl)) (kr_V ?_) kx_V
        refine g_aload0 dX6_areAlike_126 ?_
        refine g_iload6 dX6_areAlike_127 ?_
        refine g_iload7 dX6_areAlike_129 ?_
        refine g_callV2 kc7 (mt_lineOf hM hb (by omega)) md_X6_lineOf dX6_areAlike_131 ml_X6_103 im_X6_lineOf se_X6_lineOf hM.1 (RmOk.of (Nat.le_of_ble_eq_true rfl) (Nat.le_of_ble_eq_true rfl) (Nat.le_of_ble_eq_true rfl) (Nat.le_of_ble_eq_true rfl) (Nat.le_of_ble_eq_true rfl)) (kr_V ?_) kx_V
        refine g_icmp_ne (tgt := 141) dX6_areAlike_134 (by decide) (fun h134 => ?_) (fun h134 => ?_)
        · skip
          refine g_iconst (v := 0) dX6_areAlike_141 (by decide) ?_
          refine g_istore3 dX6_areAlike_142 ?_
          refine g_iinc7 (v' := (nI (i + 1))) dX6_areAlike_143 (nI_1 i) ?_
          refine g_goto (tgt := 102) dX6_areAlike_146 (by decide) ?_
          first
            | (have e : (decide (A 8 a = A 8 b) && allB (fun k => decide (lno A a k = lno A b k)) (i + 1)) = true := by
                 show (decide (A 8 a = A 8 b) && (allB (fun k => decide (lno A a k = lno A b k)) i && decide (lno A a i = lno A b i))) = true
                 rw [← Bool.and_assoc, hX, decide_eq_true h134]; rfl
               have h9 := ih (i + 1) (by omega) (by omega)
               rw [e] at h9
               exact h9)
            | (have e : (decide (A 8 a = A 8 b) && allB (fun k => decide (lno A a k = lno A b k)) (i + 1)) = false := by
                 show (decide (A 8 a = A 8 b) && (allB (fun k => decide (lno A a k = lno A b k)) i && decide (lno A a i = lno A b i))) = false
                 rw [← Bool.and_assoc, hX, decide_eq_false h134]; rfl
               have h9 := ih (i + 1) (by omega) (by omega)
               rw [e] at h9
               exact h9)
        · skip
          refine g_iconst (v := 1) dX6_areAlike_137 (by decide) ?_
          refine g_goto (tgt := 142) dX6_areAlike_138 (by decide) ?_
          refine g_istore3 dX6_areAlike_142 ?_
          refine g_iinc7 (v' := (nI (i + 1))) dX6_areAlike_143 (nI_1 i) ?_
          refine g_goto (tgt := 102) dX6_areAlike_146 (by decide) ?_
          first
            | (have e : (decide (A 8 a = A 8 b) && allB (fun k => decide (lno A a k = lno A b k)) (i + 1)) = true := by
                 show (decide (A 8 a = A 8 b) && (allB (fun k => decide (lno A a k = lno A b k)) i && decide (lno A a i = lno A b i))) = true
                 rw [← Bool.and_assoc, hX, decide_eq_true h134]; rfl
               have h9 := ih (i + 1) (by omega) (by omega)
               rw [e] at h9
               exact h9)
            | (have e : (decide (A 8 a = A 8 b) && allB (fun k => decide (lno A a k = lno A b k)) (i + 1)) = false := by
                 show (decide (A 8 a = A 8 b) && (allB (fun k => decide (lno A a k = lno A b k)) i && decide (lno A a i = lno A b i))) = false
                 rw [← Bool.and_assoc, hX, decide_eq_false h134]; rfl
               have h9 := ih (i + 1) (by omega) (by omega)
               rw [e] at h9
               exact h9)

theorem ruE_at {A : Nat → Nat → Int32} {r1 r2 f1 f2 n : Nat} (h1 : A 15 r1 = nI f1) (h2 : A 15 r2 = nI f2) (hn : A 16 r1 = nI n) (b1 : f1 < 2 ^ 31) (b2 : f2 < 2 ^ 31) (b3 : n < 2 ^ 31) : ruE A r1 r2 = ((decide (A 14 r1 = A 14 r2) && decide (A 16 r1 = A 16 r2)) && allB (fun p => pgE A (f1 + p) (f2 + p)) n) := by
  unfold ruE
  rw [show (A 16 r1).toNatClampNeg = n by rw [hn]; exact nI_clamp b3, show (A 15 r1).toNatClampNeg = f1 by rw [h1]; exact nI_clamp b1, show (A 15 r2).toNatClampNeg = f2 by rw [h2]; exact nI_clamp b2]

set_option maxRecDepth 100000 in
theorem lp_pages {G : Gx} {w0 : Wd} {am : Nat → Nat} {th : Int32} {N : Nat → Nat} {A : Nat → Nat → Int32} {w : Wd} {r1 r2 f1 f2 n : Nat} (hM : Mz G am w0 (tI th N) A w) (h1 : A 15 r1 = nI f1) (h2 : A 15 r2 = nI f2) (hn : A 16 r1 = nI n) (hr1 : r1 < 15) (hr2 : r2 < 15) (hf1 : f1 + n ≤ 120) (hf2 : A 16 r1 = A 16 r2 → f2 + n ≤ 120) (hz : ∀ p, p < f1 + n → ∃ s, s ≤ 8 ∧ A 8 p = nI s) (hb2 : f2 < 2 ^ 31) {b0 : Bool} (hb0 : b0 = (decide (A 14 r1 = A 14 r2) && decide (A 16 r1 = A 16 r2))) : ∀ (M : Nat) (C : Cx) (i : Nat), n - i < M → ∀ y5 y6 y7 : Option Value, i ≤ n →
    Go G rm_X6_areAlike cX6_areAlike RX6 (some .boolean, "areAlike", []) C (QP G rm_X6_areAlike (PV (.int (bI (ruE A r1 r2))) w) C) 39 [some (.ref (am 0)), some (.int (nI r1)), some (.int (nI r2)), some (.int (bI (b0 && allB (fun p => pgE A (f1 + p) (f2 + p)) i))), some (.int (nI i)), y5, y6, y7] [] w 0 0 := by
  intro M
  induction M with
  | zero => intro C i hM9; exact absurd hM9 (Nat.not_lt_zero _)
  | succ M ih =>
    intro C i hi9 y5 y6 y7 hi
    refine g_iload4 dX6_areAlike_39 ?_
    refine g_aload0 dX6_areAlike_41 ?_
    refine g_getf kc7 dX6_areAlike_42 fl_X6_37 (by decide) hM.1 rfl ?_
    refine g_iload1 dX6_areAlike_45 ?_
    refine g_miald (k := 16) (n := 15) hM rfl (by decide) (fun _ => rfl) dX6_areAlike_46 (by omega) (by decide) ?_
    rw [hn]
    refine g_icmp_ge (tgt := 155) dX6_areAlike_47 (by decide) (fun h47 => ?_) (fun h47 => ?_)
    · skip
      skip
      refine g_iload3 dX6_areAlike_155 ?_
      refine g_zret dX6_areAlike_156 (bI_nar _) ?_ (Nat.le_of_ble_eq_true rfl) (Nat.le_of_ble_eq_true rfl)
      first
        | (have hin : i = n := Nat.le_antisymm hi (idx_ge (by omega) (by omega) h47)
           exact ⟨by rw [ruE_at h1 h2 hn (by omega) hb2 (by omega), ← hb0, ← hin], rfl⟩)
        | (have hX := bI_0.mp h51
           refine ⟨?_, rfl⟩
           rw [ruE_at h1 h2 hn (by omega) hb2 (by omega), ← hb0, hX]
           congr 3
           cases b0 with
           | true =>
             rw [Bool.true_and] at hX ⊢
             exact congrArg bI (allB_f hX n hi).symm
           | false => rfl)
    · skip
      refine g_iload3 dX6_areAlike_50 ?_
      refine g_if_eq (tgt := 155) dX6_areAlike_51 (by decide) (fun h51 => ?_) (fun h51 => ?_)
      · skip
        skip
        refine g_iload3 dX6_areAlike_155 ?_
        refine g_zret dX6_areAlike_156 (bI_nar _) ?_ (Nat.le_of_ble_eq_true rfl) (Nat.le_of_ble_eq_true rfl)
        first
          | (have hin : i = n := Nat.le_antisymm hi (idx_ge (by omega) (by omega) h47)
             exact ⟨by rw [ruE_at h1 h2 hn (by omega) hb2 (by omega), ← hb0, ← hin], rfl⟩)
          | (have hX := bI_0.mp h51
             refine ⟨?_, rfl⟩
             rw [ruE_at h1 h2 hn (by omega) hb2 (by omega), ← hb0, hX]
             congr 3
             cases b0 with
             | true =>
               rw [Bool.true_and] at hX ⊢
               exact congrArg bI (allB_f hX n hi).symm
             | false => rfl)
      · skip
        have hlt : i < n := idx_lt (by omega) (by omega) h47
        have hX := bI_n.mp h51
        have hq : A 16 r1 = A 16 r2 := by
          have h9 : (decide (A 14 r1 = A 14 r2) && decide (A 16 r1 = A 16 r2)) = true := by
            rw [← hb0]
            exact (Bool.and_eq_true_iff.mp hX).1
          exact of_decide_eq_true (Bool.and_eq_true_iff.mp h9).2
        have hfn := hf2 hq
        obtain ⟨sa, hs8, hsa⟩ := hz (f1 + i) (by omega)
        refine g_aload0 dX6_areAlike_54 ?_
        refine g_getf kc7 dX6_areAlike_55 fl_X6_34 (by decide) hM.1 rfl ?_
        refine g_iload1 dX6_areAlike_58 ?_
        refine g_miald (k := 15) (n := 15) hM rfl (by decide) (fun _ => rfl) dX6_areAlike_59 (by omega) (by decide) ?_
        refine g_iload4 dX6_areAlike_60 ?_
        rw [h1]
        refine g_iadd dX6_areAlike_62 ?_
        rw [nI_add]
        refine g_istore5 dX6_areAlike_63 ?_
        refine g_aload0 dX6_areAlike_65 ?_
        refine g_getf kc7 dX6_areAlike_66 fl_X6_34 (by decide) hM.1 rfl ?_
        refine g_iload2 dX6_areAlike_69 ?_
        refine g_miald (k := 15) (n := 15) hM rfl (by decide) (fun _ => rfl) dX6_areAlike_70 (by omega) (by decide) ?_
        refine g_iload4 dX6_areAlike_71 ?_
        rw [h2]
        refine g_iadd dX6_areAlike_73 ?_
        rw [nI_add]
        refine g_istore6 dX6_areAlike_74 ?_
        have kk : ∀ (C : Cx) (x : Int32), x = bI (pgE A (f1 + i) (f2 + i)) → ∀ y : Option Value, Go G rm_X6_areAlike cX6_areAlike RX6 (some .boolean, "areAlike", []) C (QP G rm_X6_areAlike (PV (.int (bI (ruE A r1 r2))) w) C) 149 [some (.ref (am 0)), some (.int (nI r1)), some (.int (nI r2)), some (.int x), some (.int (nI i)), some (.int (nI (f1 + i))), some (.int (nI (f2 + i))), y] [] w 0 0 := by
          intro C x hx y
          refine g_iinc4 (v' := nI (i + 1)) dX6_areAlike_149 (nI_1 i) ?_
          refine g_goto (tgt := 39) dX6_areAlike_152 (by decide) ?_
          have h9 := ih C (i + 1) (by omega) (some (.int (nI (f1 + i)))) (some (.int (nI (f2 + i)))) y (by omega)
          have e9 : (b0 && allB (fun p => pgE A (f1 + p) (f2 + p)) (i + 1)) = pgE A (f1 + i) (f2 + i) := by
            show (b0 && (allB (fun p => pgE A (f1 + p) (f2 + p)) i && pgE A (f1 + i) (f2 + i))) = _
            rw [← Bool.and_assoc, hX, Bool.true_and]
          rw [e9, ← hx] at h9
          exact h9
        refine g_aload0 dX6_areAlike_76 ?_
        refine g_getf kc7 dX6_areAlike_77 fl_X6_19 (by decide) hM.1 rfl ?_
        refine g_iload5 dX6_areAlike_80 ?_
        refine g_miald (k := 8) (n := 121) hM rfl (by decide) (fun _ => rfl) dX6_areAlike_82 (by omega) (by decide) ?_
        refine g_aload0 dX6_areAlike_83 ?_
        refine g_getf kc7 dX6_areAlike_84 fl_X6_19 (by decide) hM.1 rfl ?_
        refine g_iload6 dX6_areAlike_87 ?_
        refine g_miald (k := 8) (n := 121) hM rfl (by decide) (fun _ => rfl) dX6_areAlike_89 (by omega) (by decide) ?_
        refine g_icmp_ne (tgt := 97) dX6_areAlike_90 (by decide) (fun h90 => ?_) (fun h90 => ?_)
        · skip
          refine g_iconst (v := 0) dX6_areAlike_97 (by decide) ?_
          refine g_istore3 dX6_areAlike_98 ?_
          refine g_iconst (v := 0) dX6_areAlike_99 (by decide) ?_
          refine g_istore7 dX6_areAlike_100 ?_
          first
            | (have e0 : bI (decide (A 8 (f1 + i) = A 8 (f2 + i)) && allB (fun k => decide (lno A (f1 + i) k = lno A (f2 + i) k)) 0) = 0 := by rw [decide_eq_false h90]; rfl
               have h9 := lp_lines (r1 := r1) (r2 := r2) (p := i) hM hsa hs8 (by omega) (by omega) kk C (sa + 1) 0 (by omega) (Nat.zero_le _)
               rw [e0] at h9
               exact h9)
            | (have e0 : bI (decide (A 8 (f1 + i) = A 8 (f2 + i)) && allB (fun k => decide (lno A (f1 + i) k = lno A (f2 + i) k)) 0) = 1 := by rw [decide_eq_true h90]; rfl
               have h9 := lp_lines (r1 := r1) (r2 := r2) (p := i) hM hsa hs8 (by omega) (by omega) kk C (sa + 1) 0 (by omega) (Nat.zero_le _)
               rw [e0] at h9
               exact h9)
        · skip
          refine g_iconst (v := 1) dX6_areAlike_93 (by decide) ?_
          refine g_goto (tgt := 98) dX6_areAlike_94 (by decide) ?_
          refine g_istore3 dX6_areAlike_98 ?_
          refine g_iconst (v := 0) dX6_areAlike_99 (by decide) ?_
          refine g_istore7 dX6_areAlike_100 ?_
          first
            | (have e0 : bI (decide (A 8 (f1 + i) = A 8 (f2 + i)) && allB (fun k => decide (lno A (f1 + i) k = lno A (f2 + i) k)) 0) = 0 := by rw [decide_eq_false h90]; rfl
               have h9 := lp_lines (r1 := r1) (r2 := r2) (p := i) hM hsa hs8 (by omega) (by omega) kk C (sa + 1) 0 (by omega) (Nat.zero_le _)
               rw [e0] at h9
               exact h9)
            | (have e0 : bI (decide (A 8 (f1 + i) = A 8 (f2 + i)) && allB (fun k => decide (lno A (f1 + i) k = lno A (f2 + i) k)) 0) = 1 := by rw [decide_eq_true h90]; rfl
               have h9 := lp_lines (r1 := r1) (r2 := r2) (p := i) hM hsa hs8 (by omega) (by omega) kk C (sa + 1) 0 (by omega) (Nat.zero_le _)
               rw [e0] at h9
               exact h9)

set_option maxRecDepth 100000 in
theorem ct_areAlike {G : Gx} {w w0 : Wd} {am : Nat → Nat} {th : Int32} {N : Nat → Nat} {A : Nat → Nat → Int32} (hM : Mz G am w0 (tI th N) A w) {r1 r2 f1 f2 n : Nat} (h1 : A 15 r1 = nI f1) (h2 : A 15 r2 = nI f2) (hn : A 16 r1 = nI n) (hr1 : r1 < 15) (hr2 : r2 < 15) (hf1 : f1 + n ≤ 120) (hf2 : A 16 r1 = A 16 r2 → f2 + n ≤ 120) (hz : ∀ p, p < f1 + n → ∃ s, s ≤ 8 ∧ A 8 p = nI s) (hb2 : f2 < 2 ^ 31) : Ct G yX6_areAlike kw_X6_areAlike rm_X6_areAlike [.ref (am 0), .int (nI r1), .int (nI r2)] w (PV (.int (bI (ruE A r1 r2))) w) := by
  refine ct_intro RX6 "areAlike" (by decide +kernel) rfl rfl rfl (Nat.le_of_ble_eq_true rfl) [some (.ref (am 0)), some (.int (nI r1)), some (.int (nI r2)), none, none, none, none, none] rfl (fun C => ?_)
  refine g_aload0 dX6_areAlike_0 ?_
  refine g_getf kc7 dX6_areAlike_1 fl_X6_31 (by decide) hM.1 rfl ?_
  refine g_iload1 dX6_areAlike_4 ?_
  refine g_miald (k := 14) (n := 15) hM rfl (by decide) (fun _ => rfl) dX6_areAlike_5 (by omega) (by decide) ?_
  refine g_aload0 dX6_areAlike_6 ?_
  refine g_getf kc7 dX6_areAlike_7 fl_X6_31 (by decide) hM.1 rfl ?_
  refine g_iload2 dX6_areAlike_10 ?_
  refine g_miald (k := 14) (n := 15) hM rfl (by decide) (fun _ => rfl) dX6_areAlike_11 (by omega) (by decide) ?_
  refine g_icmp_ne (tgt := 34) dX6_areAlike_12 (by decide) (fun h12 => ?_) (fun h12 => ?_)
  · skip
    refine g_iconst (v := 0) dX6_areAlike_34 (by decide) ?_
    refine g_istore3 dX6_areAlike_35 ?_
    refine g_iconst (v := 0) dX6_areAlike_36 (by decide) ?_
    refine g_istore4 dX6_areAlike_37 ?_
    first
      | (have e0 : bI ((decide (A 14 r1 = A 14 r2) && decide (A 16 r1 = A 16 r2)) && allB (fun p => pgE A (f1 + p) (f2 + p)) 0) = 1 := by rw [decide_eq_true h12, decide_eq_true h27]; rfl
         have h9 := lp_pages hM h1 h2 hn hr1 hr2 hf1 hf2 hz hb2 rfl (n + 1) C 0 (by omega) none none none (Nat.zero_le _)
         rw [e0] at h9
         exact h9)
      | (have e0 : bI ((decide (A 14 r1 = A 14 r2) && decide (A 16 r1 = A 16 r2)) && allB (fun p => pgE A (f1 + p) (f2 + p)) 0) = 0 := by rw [decide_eq_true h12, decide_eq_false h27]; rfl
         have h9 := lp_pages hM h1 h2 hn hr1 hr2 hf1 hf2 hz hb2 rfl (n + 1) C 0 (by omega) none none none (Nat.zero_le _)
         rw [e0] at h9
         exact h9)
      | (have e0 : bI ((decide (A 14 r1 = A 14 r2) && decide (A 16 r1 = A 16 r2)) && allB (fun p => pgE A (f1 + p) (f2 + p)) 0) = 0 := by rw [decide_eq_false h12]; rfl
         have h9 := lp_pages hM h1 h2 hn hr1 hr2 hf1 hf2 hz hb2 rfl (n + 1) C 0 (by omega) none none none (Nat.zero_le _)
         rw [e0] at h9
         exact h9)
  · skip
    refine g_aload0 dX6_areAlike_15 ?_
    refine g_getf kc7 dX6_areAlike_16 fl_X6_37 (by decide) hM.1 rfl ?_
    refine g_iload1 dX6_areAlike_19 ?_
    refine g_miald (k := 16) (n := 15) hM rfl (by decide) (fun _ => rfl) dX6_areAlike_20 (by omega) (by decide) ?_
    refine g_aload0 dX6_areAlike_21 ?_
    refine g_getf kc7 dX6_areAlike_22 fl_X6_37 (by decide) hM.1 rfl ?_
    refine g_iload2 dX6_areAlike_25 ?_
    refine g_miald (k := 16) (n := 15) hM rfl (by decide) (fun _ => rfl) dX6_areAlike_26 (by omega) (by decide) ?_
    refine g_icmp_ne (tgt := 34) dX6_areAlike_27 (by decide) (fun h27 => ?_) (fun h27 => ?_)
    · skip
      refine g_iconst (v := 0) dX6_areAlike_34 (by decide) ?_
      refine g_istore3 dX6_areAlike_35 ?_
      refine g_iconst (v := 0) dX6_areAlike_36 (by decide) ?_
      refine g_istore4 dX6_areAlike_37 ?_
      first
        | (have e0 : bI ((decide (A 14 r1 = A 14 r2) && decide (A 16 r1 = A 16 r2)) && allB (fun p => pgE A (f1 + p) (f2 + p)) 0) = 1 := by rw [decide_eq_true h12, decide_eq_true h27]; rfl
           have h9 := lp_pages hM h1 h2 hn hr1 hr2 hf1 hf2 hz hb2 rfl (n + 1) C 0 (by omega) none none none (Nat.zero_le _)
           rw [e0] at h9
           exact h9)
        | (have e0 : bI ((decide (A 14 r1 = A 14 r2) && decide (A 16 r1 = A 16 r2)) && allB (fun p => pgE A (f1 + p) (f2 + p)) 0) = 0 := by rw [decide_eq_true h12, decide_eq_false h27]; rfl
           have h9 := lp_pages hM h1 h2 hn hr1 hr2 hf1 hf2 hz hb2 rfl (n + 1) C 0 (by omega) none none none (Nat.zero_le _)
           rw [e0] at h9
           exact h9)
        | (have e0 : bI ((decide (A 14 r1 = A 14 r2) && decide (A 16 r1 = A 16 r2)) && allB (fun p => pgE A (f1 + p) (f2 + p)) 0) = 0 := by rw [decide_eq_false h12]; rfl
           have h9 := lp_pages hM h1 h2 hn hr1 hr2 hf1 hf2 hz hb2 rfl (n + 1) C 0 (by omega) none none none (Nat.zero_le _)
           rw [e0] at h9
           exact h9)
    · skip
      refine g_iconst (v := 1) dX6_areAlike_30 (by decide) ?_
      refine g_goto (tgt := 35) dX6_areAlike_31 (by decide) ?_
      refine g_istore3 dX6_areAlike_35 ?_
      refine g_iconst (v := 0) dX6_areAlike_36 (by decide) ?_
      refine g_istore4 dX6_areAlike_37 ?_
      first
        | (have e0 : bI ((decide (A 14 r1 = A 14 r2) && decide (A 16 r1 = A 16 r2)) && allB (fun p => pgE A (f1 + p) (f2 + p)) 0) = 1 := by rw [decide_eq_true h12, decide_eq_true h27]; rfl
           have h9 := lp_pages hM h1 h2 hn hr1 hr2 hf1 hf2 hz hb2 rfl (n + 1) C 0 (by omega) none none none (Nat.zero_le _)
           rw [e0] at h9
           exact h9)
        | (have e0 : bI ((decide (A 14 r1 = A 14 r2) && decide (A 16 r1 = A 16 r2)) && allB (fun p => pgE A (f1 + p) (f2 + p)) 0) = 0 := by rw [decide_eq_true h12, decide_eq_false h27]; rfl
           have h9 := lp_pages hM h1 h2 hn hr1 hr2 hf1 hf2 hz hb2 rfl (n + 1) C 0 (by omega) none none none (Nat.zero_le _)
           rw [e0] at h9
           exact h9)
        | (have e0 : bI ((decide (A 14 r1 = A 14 r2) && decide (A 16 r1 = A 16 r2)) && allB (fun p => pgE A (f1 + p) (f2 + p)) 0) = 0 := by rw [decide_eq_false h12]; rfl
           have h9 := lp_pages hM h1 h2 hn hr1 hr2 hf1 hf2 hz hb2 rfl (n + 1) C 0 (by omega) none none none (Nat.zero_le _)
           rw [e0] at h9
           exact h9)

theorem dec1 (x : Int32) : x + Int32.ofInt (-1) = x - 1 := by rw [Int32.sub_eq_add_neg]; rfl
/-- the first of the runs below n that f tells, as the reference looks for it: from the last on -/
def fdn (f : Nat → Bool) (n : Nat) : Nat → Int32
  | 0 => -1
  | c + 1 => if f (n - (c + 1)) then nI (n - (c + 1)) else fdn f n c
/-- what the runs keep to -/
def WfR (N : Nat → Nat) (A : Nat → Nat → Int32) : Prop := ∀ r, r < N 13 → ∃ f n : Nat, A 15 r = nI f ∧ A 16 r = nI n ∧ 1 ≤ n ∧ f + n ≤ N 6

abbrev rm_X6_twice : Room := { frames := 2, cells := 0, slots := 0, locals := 49 }

set_option maxRecDepth 100000 in
theorem mt_twice_a {G : Gx} {w w0 : Wd} {am : Nat → Nat} {th : Int32} {N : Nat → Nat} {A : Nat → Nat → Int32} (hM : Mz G am w0 (tI th N) A w) {r : Int32} (h : inb r 0 (nI (N 13) - 1) = false) : Ct G yX6_twice kw_X6_twice rm_X6_twice [.ref (am 0), .int r] w (PB (.int (0)) (Mz G am w0 (tI 1 N) A)) := by
  refine ct_intro RX6 "twice" (by decide +kernel) rfl rfl rfl (Nat.le_of_ble_eq_true rfl) [some (.ref (am 0)), some (.int r), none, none] rfl (fun C => ?_)
  refine g_aload0 dX6_twice_0 ?_
  refine g_aload0 dX6_twice_1 ?_
  refine g_iload1 dX6_twice_2 ?_
  refine g_callV1 kc7 (ct_isRun hM) md_X6_isRun dX6_twice_3 ml_X6_121 im_X6_isRun se_X6_isRun hM.1 (RmOk.of (Nat.le_of_ble_eq_true rfl) (Nat.le_of_ble_eq_true rfl) (Nat.le_of_ble_eq_true rfl) (Nat.le_of_ble_eq_true rfl) (Nat.le_of_ble_eq_true rfl)) (kr_V ?_) kx_V
  refine g_if_eq_t (tgt := 13) dX6_twice_6 (by decide) (bI_0.mpr h) ?_
  refine g_iconst (v := 1) dX6_twice_13 (by decide) ?_
  refine g_mput0 hM dX6_twice_14 fl_X6_74 (fun w1 hM => ?_)
  refine g_iconst (v := (-1)) dX6_twice_17 (by decide) ?_
  refine g_istore2 dX6_twice_18 ?_
  refine g_iload1 dX6_twice_19 ?_
  refine g_iconst (v := 1) dX6_twice_20 (by decide) ?_
  refine g_isub dX6_twice_21 ?_
  refine g_istore3 dX6_twice_22 ?_
  skip
  refine g_iload3 dX6_twice_23 ?_
  refine g_if_lt (tgt := 55) dX6_twice_24 (by decide) (fun h24 => ?_) (fun h24 => ?_)
  · skip
    refine g_aload0 dX6_twice_55 ?_
    refine g_getf kc7 dX6_twice_56 fl_X6_74 (by decide) hM.1 (show _ = some (Value.int (1)) from rfl) ?_
    refine g_if_le_f (tgt := 66) dX6_twice_59 (by decide) (by decide) ?_
    refine g_iconst (v := 0) dX6_twice_62 (by decide) ?_
    refine g_goto (tgt := 67) dX6_twice_63 (by decide) ?_
    refine g_iret dX6_twice_67 ?_ (Nat.le_of_ble_eq_true rfl) (Nat.le_of_ble_eq_true rfl)
    exact ⟨rfl, hM⟩
  · skip
    refine g_aload0 dX6_twice_27 ?_
    refine g_getf kc7 dX6_twice_28 fl_X6_74 (by decide) hM.1 (show _ = some (Value.int (1)) from rfl) ?_
    refine g_if_ne_t (tgt := 55) dX6_twice_31 (by decide) (by decide) ?_
    refine g_aload0 dX6_twice_55 ?_
    refine g_getf kc7 dX6_twice_56 fl_X6_74 (by decide) hM.1 (show _ = some (Value.int (1)) from rfl) ?_
    refine g_if_le_f (tgt := 66) dX6_twice_59 (by decide) (by decide) ?_
    refine g_iconst (v := 0) dX6_twice_62 (by decide) ?_
    refine g_goto (tgt := 67) dX6_twice_63 (by decide) ?_
    refine g_iret dX6_twice_67 ?_ (Nat.le_of_ble_eq_true rfl) (Nat.le_of_ble_eq_true rfl)
    exact ⟨rfl, hM⟩

set_option maxRecDepth 100000 in
theorem lp_twice {G : Gx} {w0 : Wd} {am : Nat → Nat} {N : Nat → Nat} {A : Nat → Nat → Int32} {w : Wd} {r : Nat} (hM : Mz G am w0 (tI 0 N) A w) (hr : r < N 13) (hN : N 13 ≤ 15) (h6 : N 6 ≤ 120) (hW : WfR N A) (hz : ∀ p, p < N 6 → ∃ s, s ≤ 8 ∧ A 8 p = nI s) (C : Cx) : ∀ (M i : Nat), r - i < M → i ≤ r →
    Go G rm_X6_twice cX6_twice RX6 ((Option.some FieldType.int), "twice", []) C (QP G rm_X6_twice (PV (.int (fdn (fun j => ruE A j r) r r)) w) C) 23 [some (.ref (am 0)), some (.int (nI r)), some (.int (fdn (fun j => ruE A j r) r i)), some (.int (nI (r - i) - 1))] [] w 0 0 := by
  intro M
  induction M with
  | zero => intro i hM9; exact absurd hM9 (Nat.not_lt_zero _)
  | succ M ih =>
    intro i hi9 hi
    refine g_iload3 dX6_twice_23 ?_
    refine g_if_lt (tgt := 55) dX6_twice_24 (by decide) (fun h24 => ?_) (fun h24 => ?_)
    · skip
      have hin : i = r := by
        cases Nat.lt_or_ge i r with
        | inl z => exact absurd h24 (by rw [show r - i = (r - i - 1) + 1 by omega, nI_pred]; exact nI_pos (by omega))
        | inr z => omega
      rw [hin]
      refine g_aload0 dX6_twice_55 ?_
      refine g_getf kc7 dX6_twice_56 fl_X6_74 (by decide) hM.1 (show _ = some (Value.int (0)) from rfl) ?_
      refine g_if_le_t (tgt := 66) dX6_twice_59 (by decide) (by decide) ?_
      refine g_iload2 dX6_twice_66 ?_
      refine g_iret dX6_twice_67 ?_ (Nat.le_of_ble_eq_true rfl) (Nat.le_of_ble_eq_true rfl)
      exact ⟨rfl, rfl⟩
    · skip
      have hin : i < r := by
        cases Nat.lt_or_ge i r with
        | inl z => exact z
        | inr z =>
          have e9 : i = r := by omega
          subst e9
          exact absurd (show nI 0 - 1 < (0 : Int32) from by decide) (by rw [Nat.sub_self] at h24; exact h24)
      have hj : r - i = (r - i - 1) + 1 := by omega
      obtain ⟨f1, n1, q1, q2, -, q4⟩ := hW (r - i - 1) (by omega)
      obtain ⟨f2, n2, p1, p2, -, p4⟩ := hW r hr
      have e9 : nI (r - i) - 1 = nI (r - i - 1) := by rw [hj]; exact nI_pred _
      rw [e9]
      refine g_aload0 dX6_twice_27 ?_
      refine g_getf kc7 dX6_twice_28 fl_X6_74 (by decide) hM.1 (show _ = some (Value.int (0)) from rfl) ?_
      refine g_if_ne_f (tgt := 55) dX6_twice_31 (by decide) rfl ?_
      refine g_aload0 dX6_twice_34 ?_
      refine g_iload3 dX6_twice_35 ?_
      refine g_iload1 dX6_twice_36 ?_
      refine g_callV2 kc7 (ct_areAlike hM q1 p1 q2 (by omega) (by omega) (by omega) (fun e => by have e7 : n1 = n2 := (nI_eq (by omega) (by omega)).mp (by rw [← q2, ← p2]; exact e); omega) (fun p hp => hz p (by omega)) (by omega)) md_X6_areAlike dX6_twice_37 ml_X6_125 im_X6_areAlike se_X6_areAlike hM.1 (RmOk.of (Nat.le_of_ble_eq_true rfl) (Nat.le_of_ble_eq_true rfl) (Nat.le_of_ble_eq_true rfl) (Nat.le_of_ble_eq_true rfl) (Nat.le_of_ble_eq_true rfl)) (kr_V ?_) kx_V
      refine g_if_eq (tgt := 47) dX6_twice_40 (by decide) (fun h40 => ?_) (fun h40 => ?_)
      · skip
        refine g_iload2 dX6_twice_47 ?_
        refine g_istore2 dX6_twice_48 ?_
        refine g_iinc3 (v' := (nI (r - i - 1) - 1)) dX6_twice_49 (dec1 _) ?_
        refine g_goto (tgt := 23) dX6_twice_52 (by decide) ?_
        first
          | (have e : fdn (fun j => ruE A j r) r (i + 1) = nI (r - i - 1) := by
               show (if ruE A (r - (i + 1)) r = true then nI (r - (i + 1)) else _) = _
               rw [if_pos (by rw [show r - (i + 1) = r - i - 1 by omega]; exact bI_n.mp h40), show r - (i + 1) = r - i - 1 by omega]
             have h9 := ih (i + 1) (by omega) (by omega)
             rw [e, show r - (i + 1) = r - i - 1 by omega] at h9
             exact h9)
          | (have e : fdn (fun j => ruE A j r) r (i + 1) = fdn (fun j => ruE A j r) r i := by
               show (if ruE A (r - (i + 1)) r = true then nI (r - (i + 1)) else _) = _
               rw [if_neg (by rw [show r - (i + 1) = r - i - 1 by omega, bI_0.mp h40]; decide)]
             have h9 := ih (i + 1) (by omega) (by omega)
             rw [e, show r - (i + 1) = r - i - 1 by omega] at h9
             exact h9)
      · skip
        refine g_iload3 dX6_twice_43 ?_
        refine g_goto (tgt := 48) dX6_twice_44 (by decide) ?_
        refine g_istore2 dX6_twice_48 ?_
        refine g_iinc3 (v' := (nI (r - i - 1) - 1)) dX6_twice_49 (dec1 _) ?_
        refine g_goto (tgt := 23) dX6_twice_52 (by decide) ?_
        first
          | (have e : fdn (fun j => ruE A j r) r (i + 1) = nI (r - i - 1) := by
               show (if ruE A (r - (i + 1)) r = true then nI (r - (i + 1)) else _) = _
               rw [if_pos (by rw [show r - (i + 1) = r - i - 1 by omega]; exact bI_n.mp h40), show r - (i + 1) = r - i - 1 by omega]
             have h9 := ih (i + 1) (by omega) (by omega)
             rw [e, show r - (i + 1) = r - i - 1 by omega] at h9
             exact h9)
          | (have e : fdn (fun j => ruE A j r) r (i + 1) = fdn (fun j => ruE A j r) r i := by
               show (if ruE A (r - (i + 1)) r = true then nI (r - (i + 1)) else _) = _
               rw [if_neg (by rw [show r - (i + 1) = r - i - 1 by omega, bI_0.mp h40]; decide)]
             have h9 := ih (i + 1) (by omega) (by omega)
             rw [e, show r - (i + 1) = r - i - 1 by omega] at h9
             exact h9)

set_option maxRecDepth 100000 in
theorem mt_twice_b {G : Gx} {w w0 : Wd} {am : Nat → Nat} {th : Int32} {N : Nat → Nat} {A : Nat → Nat → Int32} (hM : Mz G am w0 (tI th N) A w) {r : Nat} (h : inb (nI r) 0 (nI (N 13) - 1) = true) (hr : r < N 13) (hN : N 13 ≤ 15) (h6 : N 6 ≤ 120) (hW : WfR N A) (hz : ∀ p, p < N 6 → ∃ s, s ≤ 8 ∧ A 8 p = nI s) : Ct G yX6_twice kw_X6_twice rm_X6_twice [.ref (am 0), .int (nI r)] w (PB (.int (fdn (fun j => ruE A j r) r r)) (Mz G am w0 (tI 0 N) A)) := by
  refine ct_intro RX6 "twice" (by decide +kernel) rfl rfl rfl (Nat.le_of_ble_eq_true rfl) [some (.ref (am 0)), some (.int (nI r)), none, none] rfl (fun C => ?_)
  refine g_aload0 dX6_twice_0 ?_
  refine g_aload0 dX6_twice_1 ?_
  refine g_iload1 dX6_twice_2 ?_
  refine g_callV1 kc7 (ct_isRun hM) md_X6_isRun dX6_twice_3 ml_X6_121 im_X6_isRun se_X6_isRun hM.1 (RmOk.of (Nat.le_of_ble_eq_true rfl) (Nat.le_of_ble_eq_true rfl) (Nat.le_of_ble_eq_true rfl) (Nat.le_of_ble_eq_true rfl) (Nat.le_of_ble_eq_true rfl)) (kr_V ?_) kx_V
  refine g_if_eq_f (tgt := 13) dX6_twice_6 (by decide) (bI_n.mpr h) ?_
  refine g_iconst (v := 0) dX6_twice_9 (by decide) ?_
  refine g_goto (tgt := 14) dX6_twice_10 (by decide) ?_
  refine g_mput0 hM dX6_twice_14 fl_X6_74 (fun w1 hM => ?_)
  refine g_iconst (v := (-1)) dX6_twice_17 (by decide) ?_
  refine g_istore2 dX6_twice_18 ?_
  refine g_iload1 dX6_twice_19 ?_
  refine g_iconst (v := 1) dX6_twice_20 (by decide) ?_
  refine g_isub dX6_twice_21 ?_
  refine g_istore3 dX6_twice_22 ?_
  exact go_mono (lp_twice hM hr hN h6 hW hz C (r + 1) 0 (by omega) (Nat.zero_le _)) (fun rv w9 h9 => ⟨h9.1, by rw [h9.2]; exact hM⟩)

