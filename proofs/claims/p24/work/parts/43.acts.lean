/-! acts: pass, format, reprint, view, span, hold, clear. -/
theorem inb_out {n : Nat} (h : n < 2 ^ 31) : inb (nI n) 0 (nI n - 1) = false := by
  cases hb : inb (nI n) 0 (nI n - 1) with
  | false => rfl
  | true =>
    obtain ⟨j, hj, e⟩ := (inb_lt h).mp hb
    have := (nI_eq h (by omega)).mp e
    omega
theorem inb_m1 {x : Int32} : inb (-1) 0 x = false := inb_f.mpr (Or.inl (by decide))
theorem inb_19 : ∀ c : Nat, c ≤ 1000 → 1 ≤ c → inb (nI c) 1 1000 = true := by decide +kernel
theorem inb_b : ∀ b : Nat, b < 9 → inb (nI b - 1) (-1) 7 = true := by decide +kernel
theorem inb_rg {a b c : Nat} (h1 : b ≤ a) (h2 : a ≤ c) (h3 : c < 2 ^ 31) : inb (nI a) (nI b) (nI c) = true := inb_t.mpr ⟨nI_nlt h1 (by omega), nI_le h2 h3⟩

abbrev rm_L_acts : Room := { frames := 9, cells := 130, slots := 1900, locals := 239 }

set_option maxRecDepth 100000 in
theorem ac_p0 {G : Gx} {C : Cx} {X : Nat → Prop} {am : Nat → Nat} {w : Wd} {kp : Nat} {FJ : Nat → Nat → Int64} {FI : Nat → Nat → Int32} {N : Nat → Nat} {A : Nat → Nat → Int32} {y z : Int32} (hI : Inv0 G X w kp N A w) (hZ : LAZ G X am) (hM : LA G am w FJ FI w) (hJ : JJ N A FJ FI) {D : Nat} (h1 : 1 ≤ D) (h2 : D ≤ 1000) (h : 9999 < N 1 + D) : Go G rm_L_acts cL_acts RL ((some .boolean), "acts", []) C (QP G rm_L_acts (PB (.int 1) (St G X am kp)) C) 35 [some (.ref kp), some (.int (nI 0)), some (.int y), some (.int z), some (.ref (am 2)), some (.ref (am 3)), some (.ref (am 4)), some (.ref (am 5)), some (.ref (am 6)), some (.ref (am 7)), some (.ref (am 8)), some (.ref (am 9)), some (.ref (am 10)), none, none, none, none, none] [.int (nI D)] w 0 0 := by
  have hJ0 := hJ
  obtain ⟨⟨G0, G1, G2, G3, G4, G5⟩, ⟨b1, b2, b3, b4, b5, b6⟩, hO, hP, hF, hR, hD, hV, hS, hT⟩ := hJ0
  have hb := hI.g0
  obtain ⟨fs0, hb0⟩ := hI.g0
  refine g_istore13 dL_acts_35 ?_
  refine g_aload0 dL_acts_37 ?_
  refine g_iconst (v := 0) dL_acts_38 (by decide) ?_
  refine g_callSW2 (lw_pass_IAE hb (kn_pass_a hI (by decide))) md_L_pass dL_acts_39 ml_L_109 st_L_pass (RmOk.of (Nat.le_of_ble_eq_true rfl) (Nat.le_of_ble_eq_true rfl) (Nat.le_of_ble_eq_true rfl) (Nat.le_of_ble_eq_true rfl) (Nat.le_of_ble_eq_true rfl)) (kr_V ?_) kx_V
  refine g_bipush (v := (-71)) dL_acts_42 (by decide) ?_
  refine g_icmp_ne_f (tgt := 59) dL_acts_44 (by decide) (by decide) ?_
  refine g_aload0 dL_acts_47 ?_
  refine g_sipush (v := 1001) dL_acts_48 (by decide) ?_
  refine g_callSW2 (lw_pass_IAE hb (kn_pass_a hI (by decide))) md_L_pass dL_acts_51 ml_L_109 st_L_pass (RmOk.of (Nat.le_of_ble_eq_true rfl) (Nat.le_of_ble_eq_true rfl) (Nat.le_of_ble_eq_true rfl) (Nat.le_of_ble_eq_true rfl) (Nat.le_of_ble_eq_true rfl)) (kr_V ?_) kx_V
  refine g_bipush (v := (-71)) dL_acts_54 (by decide) ?_
  refine g_icmp_eq_t (tgt := 61) dL_acts_56 (by decide) (by decide) ?_
  refine g_aload12 dL_acts_61 ?_
  refine g_iconst (v := 0) dL_acts_63 (by decide) ?_
  refine g_jiald (k := 10) (i := 0) hM (by decide) (by decide) dL_acts_64 (show _ < 6 from by omega) ?_
  rw [G0]
  refine g_iload13 dL_acts_65 ?_
  refine g_iadd dL_acts_67 ?_
  rw [nI_add]
  refine g_sipush (v := 9999) dL_acts_68 (by decide) ?_
  refine g_icmp_le_f (tgt := 91) dL_acts_71 (by decide) (nI_ge (a := 9999) h (by omega)) ?_
  refine g_aload0 dL_acts_74 ?_
  refine g_iload13 dL_acts_75 ?_
  refine g_callSW2 (lw_pass_ISE hb (kn_pass_b hI (inb_19 D h2 h1) h2 h)) md_L_pass dL_acts_77 ml_L_109 st_L_pass (RmOk.of (Nat.le_of_ble_eq_true rfl) (Nat.le_of_ble_eq_true rfl) (Nat.le_of_ble_eq_true rfl) (Nat.le_of_ble_eq_true rfl) (Nat.le_of_ble_eq_true rfl)) (kr_V ?_) kx_V
  refine g_bipush (v := (-72)) dL_acts_80 (by decide) ?_
  refine g_icmp_ne_f (tgt := 89) dL_acts_82 (by decide) (by decide) ?_
  refine g_iconst (v := 1) dL_acts_85 (by decide) ?_
  refine g_goto (tgt := 90) dL_acts_86 (by decide) ?_
  refine g_zret dL_acts_90 (by decide) ?_ (Nat.le_of_ble_eq_true rfl) (Nat.le_of_ble_eq_true rfl)
  exact ⟨rfl, N, A, FJ, FI, hI, hM, hJ⟩

set_option maxRecDepth 100000 in
theorem ac_p1 {G : Gx} {C : Cx} {X : Nat → Prop} {am : Nat → Nat} {w : Wd} {kp : Nat} {FJ : Nat → Nat → Int64} {FI : Nat → Nat → Int32} {N : Nat → Nat} {A : Nat → Nat → Int32} {y z : Int32} (hI : Inv0 G X w kp N A w) (hZ : LAZ G X am) (hM : LA G am w FJ FI w) (hJ : JJ N A FJ FI) {D : Nat} (h1 : 1 ≤ D) (h2 : D ≤ 1000) (h : N 1 + D ≤ 9999) : Go G rm_L_acts cL_acts RL ((some .boolean), "acts", []) C (QP G rm_L_acts (PB (.int 1) (St G X am kp)) C) 35 [some (.ref kp), some (.int (nI 0)), some (.int y), some (.int z), some (.ref (am 2)), some (.ref (am 3)), some (.ref (am 4)), some (.ref (am 5)), some (.ref (am 6)), some (.ref (am 7)), some (.ref (am 8)), some (.ref (am 9)), some (.ref (am 10)), none, none, none, none, none] [.int (nI D)] w 0 0 := by
  have hJ0 := hJ
  obtain ⟨⟨G0, G1, G2, G3, G4, G5⟩, ⟨b1, b2, b3, b4, b5, b6⟩, hO, hP, hF, hR, hD, hV, hS, hT⟩ := hJ0
  have hb := hI.g0
  obtain ⟨fs0, hb0⟩ := hI.g0
  refine g_istore13 dL_acts_35 ?_
  refine g_aload0 dL_acts_37 ?_
  refine g_iconst (v := 0) dL_acts_38 (by decide) ?_
  refine g_callSW2 (lw_pass_IAE hb (kn_pass_a hI (by decide))) md_L_pass dL_acts_39 ml_L_109 st_L_pass (RmOk.of (Nat.le_of_ble_eq_true rfl) (Nat.le_of_ble_eq_true rfl) (Nat.le_of_ble_eq_true rfl) (Nat.le_of_ble_eq_true rfl) (Nat.le_of_ble_eq_true rfl)) (kr_V ?_) kx_V
  refine g_bipush (v := (-71)) dL_acts_42 (by decide) ?_
  refine g_icmp_ne_f (tgt := 59) dL_acts_44 (by decide) (by decide) ?_
  refine g_aload0 dL_acts_47 ?_
  refine g_sipush (v := 1001) dL_acts_48 (by decide) ?_
  refine g_callSW2 (lw_pass_IAE hb (kn_pass_a hI (by decide))) md_L_pass dL_acts_51 ml_L_109 st_L_pass (RmOk.of (Nat.le_of_ble_eq_true rfl) (Nat.le_of_ble_eq_true rfl) (Nat.le_of_ble_eq_true rfl) (Nat.le_of_ble_eq_true rfl) (Nat.le_of_ble_eq_true rfl)) (kr_V ?_) kx_V
  refine g_bipush (v := (-71)) dL_acts_54 (by decide) ?_
  refine g_icmp_eq_t (tgt := 61) dL_acts_56 (by decide) (by decide) ?_
  refine g_aload12 dL_acts_61 ?_
  refine g_iconst (v := 0) dL_acts_63 (by decide) ?_
  refine g_jiald (k := 10) (i := 0) hM (by decide) (by decide) dL_acts_64 (show _ < 6 from by omega) ?_
  rw [G0]
  refine g_iload13 dL_acts_65 ?_
  refine g_iadd dL_acts_67 ?_
  rw [nI_add]
  refine g_sipush (v := 9999) dL_acts_68 (by decide) ?_
  refine g_icmp_le_t (tgt := 91) dL_acts_71 (by decide) (nI_le (b := 9999) h (by decide)) ?_
  refine g_aload12 dL_acts_91 ?_
  refine g_iconst (v := 0) dL_acts_93 (by decide) ?_
  refine g_dup2 dL_acts_94 rfl rfl ?_
  refine g_jiald (k := 10) (i := 0) hM (by decide) (by decide) dL_acts_95 (show _ < 6 from by omega) ?_
  rw [G0]
  refine g_iload13 dL_acts_96 ?_
  refine g_iadd dL_acts_98 ?_
  rw [nI_add]
  refine g_jiast (k := 10) (i := 0) hM (by decide) (by decide) dL_acts_99 (show _ < 6 from by omega) (fun w1 hM => ?_)
  have hI1 := hI.keepL hZ hM
  obtain ⟨fs1, hb1⟩ := hI1.g0
  have hb1' := hI1.g0
  refine g_aload0 dL_acts_100 ?_
  refine g_iload13 dL_acts_101 ?_
  refine g_callSW2 (lw_pass_0 hb1' (kn_pass_c hI1 (inb_19 D h2 h1) h2 h)) md_L_pass dL_acts_103 ml_L_109 st_L_pass (RmOk.of (Nat.le_of_ble_eq_true rfl) (Nat.le_of_ble_eq_true rfl) (Nat.le_of_ble_eq_true rfl) (Nat.le_of_ble_eq_true rfl) (Nat.le_of_ble_eq_true rfl)) (kr_B (fun w1 hw1 => ?_)) kx_B
  obtain ⟨a1, a2⟩ := hw1.after hZ hM
  clear hM
  have hM := a2
  refine g_aload12 dL_acts_106 ?_
  refine g_iconst (v := 0) dL_acts_108 (by decide) ?_
  refine g_jiald (k := 10) (i := 0) hM (by decide) (by decide) dL_acts_109 (show _ < 6 from by omega) ?_
  rw [show updA FI 10 0 (nI (N 1 + D)) 10 0 = nI (N 1 + D) from upd_s (FI 10) 0 _]
  refine g_icmp_ne_f (tgt := 117) dL_acts_110 (by decide) rfl ?_
  refine g_iconst (v := 1) dL_acts_113 (by decide) ?_
  refine g_goto (tgt := 118) dL_acts_114 (by decide) ?_
  refine g_zret dL_acts_118 (by decide) ?_ (Nat.le_of_ble_eq_true rfl) (Nat.le_of_ble_eq_true rfl)
  exact ⟨rfl, _, _, _, _, a1, hM, hJ.pass h⟩

set_option maxRecDepth 100000 in
theorem ct_ac0 {G : Gx} {X : Nat → Prop} {am : Nat → Nat} {w : Wd} {kp : Nat} {FJ : Nat → Nat → Int64} {FI : Nat → Nat → Int32} {N : Nat → Nat} {A : Nat → Nat → Int32} {y z : Int32} (hI : Inv0 G X w kp N A w) (hZ : LAZ G X am) (hM : LA G am w FJ FI w) (hJ : JJ N A FJ FI) : Ct G yL_acts kw_L_acts rm_L_acts [.ref kp, .int (nI 0), .int y, .int z, .ref (am 2), .ref (am 3), .ref (am 4), .ref (am 5), .ref (am 6), .ref (am 7), .ref (am 8), .ref (am 9), .ref (am 10)] w (PB (.int 1) (St G X am kp)) := by
  refine ct_intro RL "acts" (by decide +kernel) rfl rfl rfl (Nat.le_of_ble_eq_true rfl) [some (.ref kp), some (.int (nI 0)), some (.int y), some (.int z), some (.ref (am 2)), some (.ref (am 3)), some (.ref (am 4)), some (.ref (am 5)), some (.ref (am 6)), some (.ref (am 7)), some (.ref (am 8)), some (.ref (am 9)), some (.ref (am 10)), none, none, none, none, none] rfl (fun C => ?_)
  refine g_iload1 dL_acts_0 ?_
  refine g_if_ne_f (tgt := 119) dL_acts_1 (by decide) rfl ?_
  refine g_iload2 dL_acts_4 ?_
  refine g_bipush (v := 6) dL_acts_5 (by decide) ?_
  refine g_iand dL_acts_7 ?_
  refine g_if_ne (tgt := 25) dL_acts_8 (by decide) (fun h8 => ?_) (fun h8 => ?_)
  · skip
    refine g_iconst (v := 1) dL_acts_25 (by decide) ?_
    refine g_iload2 dL_acts_26 ?_
    refine g_iconst (v := 3) dL_acts_27 (by decide) ?_
    refine g_ishr dL_acts_28 ?_
    refine g_bipush (v := 60) dL_acts_29 (by decide) ?_
    refine g_callS2 (ct_low (m := 60) (by decide) (by decide)) md_L_low dL_acts_31 ml_L_90 st_L_low (RmOk.of (Nat.le_of_ble_eq_true rfl) (Nat.le_of_ble_eq_true rfl) (Nat.le_of_ble_eq_true rfl) (Nat.le_of_ble_eq_true rfl) (Nat.le_of_ble_eq_true rfl)) (kr_V ?_) kx_V
    refine g_iadd dL_acts_34 ?_
    rw [show (1 : Int32) + nI (lowN (y >>> ((3 : Int32) &&& 31)) 60) = nI (1 + lowN (y >>> ((3 : Int32) &&& 31)) 60) from nI_add 1 _]
    have hl := lowN_lt (y >>> ((3 : Int32) &&& 31)) (m := 60) (by decide)
    by_cases h : N 1 + (1 + lowN (y >>> ((3 : Int32) &&& 31)) 60) ≤ 9999
    · exact ac_p1 hI hZ hM hJ (by omega) (by omega) h
    · exact ac_p0 hI hZ hM hJ (by omega) (by omega) (by omega)
  · skip
    refine g_iconst (v := 1) dL_acts_11 (by decide) ?_
    refine g_iload2 dL_acts_12 ?_
    refine g_iconst (v := 3) dL_acts_13 (by decide) ?_
    refine g_ishr dL_acts_14 ?_
    refine g_sipush (v := 1000) dL_acts_15 (by decide) ?_
    refine g_callS2 (ct_low (m := 1000) (by decide) (by decide)) md_L_low dL_acts_18 ml_L_90 st_L_low (RmOk.of (Nat.le_of_ble_eq_true rfl) (Nat.le_of_ble_eq_true rfl) (Nat.le_of_ble_eq_true rfl) (Nat.le_of_ble_eq_true rfl) (Nat.le_of_ble_eq_true rfl)) (kr_V ?_) kx_V
    refine g_iadd dL_acts_21 ?_
    rw [show (1 : Int32) + nI (lowN (y >>> ((3 : Int32) &&& 31)) 1000) = nI (1 + lowN (y >>> ((3 : Int32) &&& 31)) 1000) from nI_add 1 _]
    refine g_goto (tgt := 35) dL_acts_22 (by decide) ?_
    have hl := lowN_lt (y >>> ((3 : Int32) &&& 31)) (m := 1000) (by decide)
    by_cases h : N 1 + (1 + lowN (y >>> ((3 : Int32) &&& 31)) 1000) ≤ 9999
    · exact ac_p1 hI hZ hM hJ (by omega) (by omega) h
    · exact ac_p0 hI hZ hM hJ (by omega) (by omega) (by omega)

set_option maxRecDepth 100000 in
theorem ac_f10 {G : Gx} {C : Cx} {X : Nat → Prop} {am : Nat → Nat} {w : Wd} {kp : Nat} {FJ : Nat → Nat → Int64} {FI : Nat → Nat → Int32} {N : Nat → Nat} {A : Nat → Nat → Int32} {y z : Int32} (hI : Inv0 G X w kp N A w) (hZ : LAZ G X am) (hM : LA G am w FJ FI w) (hJ : JJ N A FJ FI) {dy : Nat} {x13 : Option Value} (hd : dy < 10000) (h : N 2 = 10) : Go G rm_L_acts cL_acts RL ((some .boolean), "acts", []) C (QP G rm_L_acts (PB (.int 1) (St G X am kp)) C) 174 [some (.ref kp), some (.int (nI 1)), some (.int y), some (.int z), some (.ref (am 2)), some (.ref (am 3)), some (.ref (am 4)), some (.ref (am 5)), some (.ref (am 6)), some (.ref (am 7)), some (.ref (am 8)), some (.ref (am 9)), some (.ref (am 10)), x13, none, none, none, none] [.int (nI dy)] w 0 0 := by
  have hJ0 := hJ
  obtain ⟨⟨G0, G1, G2, G3, G4, G5⟩, ⟨b1, b2, b3, b4, b5, b6⟩, hO, hP, hF, hR, hD, hV, hS, hT⟩ := hJ0
  have hb := hI.g0
  obtain ⟨fs0, hb0⟩ := hI.g0
  have ha4 := lowN_lt y (m := 4) (by decide)
  have hb8 := lowN_lt (y >>> ((3 : Int32) &&& 31)) (m := 8) (by decide)
  refine g_istore13 dL_acts_174 ?_
  refine g_iload2 dL_acts_176 ?_
  refine g_iconst (v := 4) dL_acts_177 (by decide) ?_
  refine g_callS2 (ct_low (m := 4) (by decide) (by decide)) md_L_low dL_acts_178 ml_L_90 st_L_low (RmOk.of (Nat.le_of_ble_eq_true rfl) (Nat.le_of_ble_eq_true rfl) (Nat.le_of_ble_eq_true rfl) (Nat.le_of_ble_eq_true rfl) (Nat.le_of_ble_eq_true rfl)) (kr_V ?_) kx_V
  refine g_istore14 dL_acts_181 ?_
  refine g_iload2 dL_acts_183 ?_
  refine g_iconst (v := 3) dL_acts_184 (by decide) ?_
  refine g_ishr dL_acts_185 ?_
  refine g_bipush (v := 8) dL_acts_186 (by decide) ?_
  refine g_callS2 (ct_low (m := 8) (by decide) (by decide)) md_L_low dL_acts_188 ml_L_90 st_L_low (RmOk.of (Nat.le_of_ble_eq_true rfl) (Nat.le_of_ble_eq_true rfl) (Nat.le_of_ble_eq_true rfl) (Nat.le_of_ble_eq_true rfl) (Nat.le_of_ble_eq_true rfl)) (kr_V ?_) kx_V
  refine g_istore15 dL_acts_191 ?_
  refine g_aload0 dL_acts_193 ?_
  refine g_sipush (v := 10000) dL_acts_194 (by decide) ?_
  refine g_iload14 dL_acts_197 ?_
  refine g_iload15 dL_acts_199 ?_
  refine g_callSW4 (lw_format_IAE hb (kn_format_a1 hI (by decide))) md_L_format dL_acts_201 ml_L_111 st_L_format (RmOk.of (Nat.le_of_ble_eq_true rfl) (Nat.le_of_ble_eq_true rfl) (Nat.le_of_ble_eq_true rfl) (Nat.le_of_ble_eq_true rfl) (Nat.le_of_ble_eq_true rfl)) (kr_V ?_) kx_V
  refine g_bipush (v := (-71)) dL_acts_204 (by decide) ?_
  refine g_icmp_ne_f (tgt := 252) dL_acts_206 (by decide) (by decide) ?_
  refine g_aload0 dL_acts_209 ?_
  refine g_iconst (v := (-1)) dL_acts_210 (by decide) ?_
  refine g_iload14 dL_acts_211 ?_
  refine g_iload15 dL_acts_213 ?_
  refine g_callSW4 (lw_format_IAE hb (kn_format_a1 hI (by decide))) md_L_format dL_acts_215 ml_L_111 st_L_format (RmOk.of (Nat.le_of_ble_eq_true rfl) (Nat.le_of_ble_eq_true rfl) (Nat.le_of_ble_eq_true rfl) (Nat.le_of_ble_eq_true rfl) (Nat.le_of_ble_eq_true rfl)) (kr_V ?_) kx_V
  refine g_bipush (v := (-71)) dL_acts_218 (by decide) ?_
  refine g_icmp_ne_f (tgt := 252) dL_acts_220 (by decide) (by decide) ?_
  refine g_aload0 dL_acts_223 ?_
  refine g_iload13 dL_acts_224 ?_
  refine g_bipush (v := 8) dL_acts_226 (by decide) ?_
  refine g_iload15 dL_acts_228 ?_
  refine g_callSW4 (lw_format_IAE hb (kn_format_a2 hI (inb_nI (n := 9999) (by omega) (by decide)) (by decide))) md_L_format dL_acts_230 ml_L_111 st_L_format (RmOk.of (Nat.le_of_ble_eq_true rfl) (Nat.le_of_ble_eq_true rfl) (Nat.le_of_ble_eq_true rfl) (Nat.le_of_ble_eq_true rfl) (Nat.le_of_ble_eq_true rfl)) (kr_V ?_) kx_V
  refine g_bipush (v := (-71)) dL_acts_233 (by decide) ?_
  refine g_icmp_ne_f (tgt := 252) dL_acts_235 (by decide) (by decide) ?_
  refine g_aload0 dL_acts_238 ?_
  refine g_iload13 dL_acts_239 ?_
  refine g_iload14 dL_acts_241 ?_
  refine g_iconst (v := (-1)) dL_acts_243 (by decide) ?_
  refine g_callSW4 (lw_format_IAE hb (kn_format_a3 hI (inb_nI (n := 9999) (by omega) (by decide)) (inb_nI (n := 7) (by omega) (by decide)) (by decide))) md_L_format dL_acts_244 ml_L_111 st_L_format (RmOk.of (Nat.le_of_ble_eq_true rfl) (Nat.le_of_ble_eq_true rfl) (Nat.le_of_ble_eq_true rfl) (Nat.le_of_ble_eq_true rfl) (Nat.le_of_ble_eq_true rfl)) (kr_V ?_) kx_V
  refine g_bipush (v := (-71)) dL_acts_247 (by decide) ?_
  refine g_icmp_eq_t (tgt := 254) dL_acts_249 (by decide) (by decide) ?_
  refine g_aload12 dL_acts_254 ?_
  refine g_iconst (v := 1) dL_acts_256 (by decide) ?_
  refine g_jiald (k := 10) (i := 1) hM (by decide) (by decide) dL_acts_257 (show _ < 6 from by omega) ?_
  rw [G1]
  refine g_bipush (v := 10) dL_acts_258 (by decide) ?_
  refine g_icmp_ne_f (tgt := 284) dL_acts_260 (by decide) (by rw [h]; rfl) ?_
  refine g_aload0 dL_acts_263 ?_
  refine g_iload13 dL_acts_264 ?_
  refine g_iload14 dL_acts_266 ?_
  refine g_iload15 dL_acts_268 ?_
  refine g_callSW4 (lw_format_ISE hb (kn_format_b hI hd (by omega) (by omega) h)) md_L_format dL_acts_270 ml_L_111 st_L_format (RmOk.of (Nat.le_of_ble_eq_true rfl) (Nat.le_of_ble_eq_true rfl) (Nat.le_of_ble_eq_true rfl) (Nat.le_of_ble_eq_true rfl) (Nat.le_of_ble_eq_true rfl)) (kr_V ?_) kx_V
  refine g_bipush (v := (-72)) dL_acts_273 (by decide) ?_
  refine g_icmp_ne_f (tgt := 282) dL_acts_275 (by decide) (by decide) ?_
  refine g_iconst (v := 1) dL_acts_278 (by decide) ?_
  refine g_goto (tgt := 283) dL_acts_279 (by decide) ?_
  refine g_zret dL_acts_283 (by decide) ?_ (Nat.le_of_ble_eq_true rfl) (Nat.le_of_ble_eq_true rfl)
  exact ⟨rfl, N, A, FJ, FI, hI, hM, hJ⟩

set_option maxRecDepth 100000 in
theorem ac_f11 {G : Gx} {C : Cx} {X : Nat → Prop} {am : Nat → Nat} {w : Wd} {kp : Nat} {FJ : Nat → Nat → Int64} {FI : Nat → Nat → Int32} {N : Nat → Nat} {A : Nat → Nat → Int32} {y z : Int32} (hI : Inv0 G X w kp N A w) (hZ : LAZ G X am) (hM : LA G am w FJ FI w) (hJ : JJ N A FJ FI) {dy : Nat} {x13 : Option Value} (hd : dy < 10000) (h : N 2 < 10) : Go G rm_L_acts cL_acts RL ((some .boolean), "acts", []) C (QP G rm_L_acts (PB (.int 1) (St G X am kp)) C) 174 [some (.ref kp), some (.int (nI 1)), some (.int y), some (.int z), some (.ref (am 2)), some (.ref (am 3)), some (.ref (am 4)), some (.ref (am 5)), some (.ref (am 6)), some (.ref (am 7)), some (.ref (am 8)), some (.ref (am 9)), some (.ref (am 10)), x13, none, none, none, none] [.int (nI dy)] w 0 0 := by
  have hJ0 := hJ
  obtain ⟨⟨G0, G1, G2, G3, G4, G5⟩, ⟨b1, b2, b3, b4, b5, b6⟩, hO, hP, hF, hR, hD, hV, hS, hT⟩ := hJ0
  have hb := hI.g0
  obtain ⟨fs0, hb0⟩ := hI.g0
  have ha4 := lowN_lt y (m := 4) (by decide)
  have hb8 := lowN_lt (y >>> ((3 : Int32) &&& 31)) (m := 8) (by decide)
  refine g_istore13 dL_acts_174 ?_
  refine g_iload2 dL_acts_176 ?_
  refine g_iconst (v := 4) dL_acts_177 (by decide) ?_
  refine g_callS2 (ct_low (m := 4) (by decide) (by decide)) md_L_low dL_acts_178 ml_L_90 st_L_low (RmOk.of (Nat.le_of_ble_eq_true rfl) (Nat.le_of_ble_eq_true rfl) (Nat.le_of_ble_eq_true rfl) (Nat.le_of_ble_eq_true rfl) (Nat.le_of_ble_eq_true rfl)) (kr_V ?_) kx_V
  refine g_istore14 dL_acts_181 ?_
  refine g_iload2 dL_acts_183 ?_
  refine g_iconst (v := 3) dL_acts_184 (by decide) ?_
  refine g_ishr dL_acts_185 ?_
  refine g_bipush (v := 8) dL_acts_186 (by decide) ?_
  refine g_callS2 (ct_low (m := 8) (by decide) (by decide)) md_L_low dL_acts_188 ml_L_90 st_L_low (RmOk.of (Nat.le_of_ble_eq_true rfl) (Nat.le_of_ble_eq_true rfl) (Nat.le_of_ble_eq_true rfl) (Nat.le_of_ble_eq_true rfl) (Nat.le_of_ble_eq_true rfl)) (kr_V ?_) kx_V
  refine g_istore15 dL_acts_191 ?_
  refine g_aload0 dL_acts_193 ?_
  refine g_sipush (v := 10000) dL_acts_194 (by decide) ?_
  refine g_iload14 dL_acts_197 ?_
  refine g_iload15 dL_acts_199 ?_
  refine g_callSW4 (lw_format_IAE hb (kn_format_a1 hI (by decide))) md_L_format dL_acts_201 ml_L_111 st_L_format (RmOk.of (Nat.le_of_ble_eq_true rfl) (Nat.le_of_ble_eq_true rfl) (Nat.le_of_ble_eq_true rfl) (Nat.le_of_ble_eq_true rfl) (Nat.le_of_ble_eq_true rfl)) (kr_V ?_) kx_V
  refine g_bipush (v := (-71)) dL_acts_204 (by decide) ?_
  refine g_icmp_ne_f (tgt := 252) dL_acts_206 (by decide) (by decide) ?_
  refine g_aload0 dL_acts_209 ?_
  refine g_iconst (v := (-1)) dL_acts_210 (by decide) ?_
  refine g_iload14 dL_acts_211 ?_
  refine g_iload15 dL_acts_213 ?_
  refine g_callSW4 (lw_format_IAE hb (kn_format_a1 hI (by decide))) md_L_format dL_acts_215 ml_L_111 st_L_format (RmOk.of (Nat.le_of_ble_eq_true rfl) (Nat.le_of_ble_eq_true rfl) (Nat.le_of_ble_eq_true rfl) (Nat.le_of_ble_eq_true rfl) (Nat.le_of_ble_eq_true rfl)) (kr_V ?_) kx_V
  refine g_bipush (v := (-71)) dL_acts_218 (by decide) ?_
  refine g_icmp_ne_f (tgt := 252) dL_acts_220 (by decide) (by decide) ?_
  refine g_aload0 dL_acts_223 ?_
  refine g_iload13 dL_acts_224 ?_
  refine g_bipush (v := 8) dL_acts_226 (by decide) ?_
  refine g_iload15 dL_acts_228 ?_
  refine g_callSW4 (lw_format_IAE hb (kn_format_a2 hI (inb_nI (n := 9999) (by omega) (by decide)) (by decide))) md_L_format dL_acts_230 ml_L_111 st_L_format (RmOk.of (Nat.le_of_ble_eq_true rfl) (Nat.le_of_ble_eq_true rfl) (Nat.le_of_ble_eq_true rfl) (Nat.le_of_ble_eq_true rfl) (Nat.le_of_ble_eq_true rfl)) (kr_V ?_) kx_V
  refine g_bipush (v := (-71)) dL_acts_233 (by decide) ?_
  refine g_icmp_ne_f (tgt := 252) dL_acts_235 (by decide) (by decide) ?_
  refine g_aload0 dL_acts_238 ?_
  refine g_iload13 dL_acts_239 ?_
  refine g_iload14 dL_acts_241 ?_
  refine g_iconst (v := (-1)) dL_acts_243 (by decide) ?_
  refine g_callSW4 (lw_format_IAE hb (kn_format_a3 hI (inb_nI (n := 9999) (by omega) (by decide)) (inb_nI (n := 7) (by omega) (by decide)) (by decide))) md_L_format dL_acts_244 ml_L_111 st_L_format (RmOk.of (Nat.le_of_ble_eq_true rfl) (Nat.le_of_ble_eq_true rfl) (Nat.le_of_ble_eq_true rfl) (Nat.le_of_ble_eq_true rfl) (Nat.le_of_ble_eq_true rfl)) (kr_V ?_) kx_V
  refine g_bipush (v := (-71)) dL_acts_247 (by decide) ?_
  refine g_icmp_eq_t (tgt := 254) dL_acts_249 (by decide) (by decide) ?_
  refine g_aload12 dL_acts_254 ?_
  refine g_iconst (v := 1) dL_acts_256 (by decide) ?_
  refine g_jiald (k := 10) (i := 1) hM (by decide) (by decide) dL_acts_257 (show _ < 6 from by omega) ?_
  rw [G1]
  refine g_bipush (v := 10) dL_acts_258 (by decide) ?_
  refine g_icmp_ne_t (tgt := 284) dL_acts_260 (by decide) (fun q => absurd ((nI_eq (b := 10) (by omega) (by decide)).mp q) (by omega)) ?_
  refine g_aload6 dL_acts_284 ?_
  refine g_aload12 dL_acts_286 ?_
  refine g_iconst (v := 1) dL_acts_288 (by decide) ?_
  refine g_jiald (k := 10) (i := 1) hM (by decide) (by decide) dL_acts_289 (show _ < 6 from by omega) ?_
  rw [G1]
  refine g_bipush (v := 64) dL_acts_290 (by decide) ?_
  refine g_iload13 dL_acts_292 ?_
  refine g_imul dL_acts_294 ?_
  refine g_bipush (v := 8) dL_acts_295 (by decide) ?_
  refine g_iload14 dL_acts_297 ?_
  refine g_imul dL_acts_299 ?_
  refine g_iadd dL_acts_300 ?_
  refine g_iload15 dL_acts_301 ?_
  refine g_iadd dL_acts_303 ?_
  rw [show 64 * nI dy + 8 * nI (lowN y 4) + nI (lowN (y >>> ((3 : Int32) &&& 31)) 8) = nI (64 * dy + 8 * (lowN y 4) + (lowN (y >>> ((3 : Int32) &&& 31)) 8)) by rw [show (64 : Int32) = nI 64 from rfl, show (8 : Int32) = nI 8 from rfl, pk_mul, pk_mul, nI_add, nI_add]]
  refine g_jiast (k := 4) hM (by decide) (by decide) dL_acts_304 (show _ < 10 from by omega) (fun w1 hM => ?_)
  refine g_aload12 dL_acts_305 ?_
  refine g_iconst (v := 1) dL_acts_307 (by decide) ?_
  refine g_dup2 dL_acts_308 rfl rfl ?_
  refine g_jiald (k := 10) (i := 1) hM (by decide) (by decide) dL_acts_309 (show _ < 6 from by omega) ?_
  rw [show updA FI 4 (N 2) (nI (64 * dy + 8 * (lowN y 4) + (lowN (y >>> ((3 : Int32) &&& 31)) 8))) 10 1 = nI (N 2) from G1]
  refine g_iconst (v := 1) dL_acts_310 (by decide) ?_
  refine g_iadd dL_acts_311 ?_
  rw [nI_1]
  refine g_jiast (k := 10) (i := 1) hM (by decide) (by decide) dL_acts_312 (show _ < 6 from by omega) (fun w1 hM => ?_)
  have hI1 := hI.keepL hZ hM
  obtain ⟨fs1, hb1⟩ := hI1.g0
  have hb1' := hI1.g0
  refine g_aload0 dL_acts_313 ?_
  refine g_iload13 dL_acts_314 ?_
  refine g_iload14 dL_acts_316 ?_
  refine g_iload15 dL_acts_318 ?_
  refine g_callSW4 (lw_format_0 hb1' (kn_format_c hI1 hd (by omega) (by omega) h)) md_L_format dL_acts_320 ml_L_111 st_L_format (RmOk.of (Nat.le_of_ble_eq_true rfl) (Nat.le_of_ble_eq_true rfl) (Nat.le_of_ble_eq_true rfl) (Nat.le_of_ble_eq_true rfl) (Nat.le_of_ble_eq_true rfl)) (kr_B (fun w1 hw1 => ?_)) kx_B
  obtain ⟨a1, a2⟩ := hw1.after hZ hM
  clear hM
  have hM := a2
  refine g_aload12 dL_acts_323 ?_
  refine g_iconst (v := 1) dL_acts_325 (by decide) ?_
  refine g_jiald (k := 10) (i := 1) hM (by decide) (by decide) dL_acts_326 (show _ < 6 from by omega) ?_
  rw [show updA (updA FI 4 (N 2) (nI (64 * dy + 8 * (lowN y 4) + (lowN (y >>> ((3 : Int32) &&& 31)) 8)))) 10 1 (nI (N 2 + 1)) 10 1 = nI (N 2 + 1) from upd_s (FI 10) 1 _]
  refine g_icmp_ne_f (tgt := 334) dL_acts_327 (by decide) rfl ?_
  refine g_iconst (v := 1) dL_acts_330 (by decide) ?_
  refine g_goto (tgt := 335) dL_acts_331 (by decide) ?_
  refine g_zret dL_acts_335 (by decide) ?_ (Nat.le_of_ble_eq_true rfl) (Nat.le_of_ble_eq_true rfl)
  exact ⟨rfl, _, _, _, _, a1, hM, hJ.format hd (by omega) (by omega) h⟩

set_option maxRecDepth 100000 in
theorem ac_f2 {G : Gx} {C : Cx} {X : Nat → Prop} {am : Nat → Nat} {w : Wd} {kp : Nat} {FJ : Nat → Nat → Int64} {FI : Nat → Nat → Int32} {N : Nat → Nat} {A : Nat → Nat → Int32} {y z : Int32} (hI : Inv0 G X w kp N A w) (hZ : LAZ G X am) (hM : LA G am w FJ FI w) (hJ : JJ N A FJ FI) {x : Nat} (hx : x < 20000) : Go G rm_L_acts cL_acts RL ((some .boolean), "acts", []) C (QP G rm_L_acts (PB (.int 1) (St G X am kp)) C) 156 [some (.ref kp), some (.int (nI 1)), some (.int y), some (.int z), some (.ref (am 2)), some (.ref (am 3)), some (.ref (am 4)), some (.ref (am 5)), some (.ref (am 6)), some (.ref (am 7)), some (.ref (am 8)), some (.ref (am 9)), some (.ref (am 10)), none, none, none, none, none] [.int (nI x)] w 0 0 := by
  refine g_istore13 dL_acts_156 ?_
  refine g_iload13 dL_acts_158 ?_
  refine g_sipush (v := 9999) dL_acts_160 (by decide) ?_
  refine g_icmp_le (tgt := 172) dL_acts_163 (by decide) (fun h163 => ?_) (fun h163 => ?_)
  · skip
    have hx2 := (nI_leI (b := 9999) (by omega) (by decide)).mp h163
    refine g_iload13 dL_acts_172 ?_
    by_cases h : N 2 = 10
    · exact ac_f10 (dy := x) hI hZ hM hJ (by omega) h
    · exact ac_f11 (dy := x) hI hZ hM hJ (by omega) (by have := hJ.2.1.2.1; omega)
  · skip
    refine g_sipush (v := 9999) dL_acts_166 (by decide) ?_
    refine g_goto (tgt := 174) dL_acts_169 (by decide) ?_
    by_cases h : N 2 = 10
    · exact ac_f10 (dy := 9999) hI hZ hM hJ (by omega) h
    · exact ac_f11 (dy := 9999) hI hZ hM hJ (by omega) (by have := hJ.2.1.2.1; omega)

set_option maxRecDepth 100000 in
theorem ct_ac1 {G : Gx} {X : Nat → Prop} {am : Nat → Nat} {w : Wd} {kp : Nat} {FJ : Nat → Nat → Int64} {FI : Nat → Nat → Int32} {N : Nat → Nat} {A : Nat → Nat → Int32} {y z : Int32} (hI : Inv0 G X w kp N A w) (hZ : LAZ G X am) (hM : LA G am w FJ FI w) (hJ : JJ N A FJ FI) : Ct G yL_acts kw_L_acts rm_L_acts [.ref kp, .int (nI 1), .int y, .int z, .ref (am 2), .ref (am 3), .ref (am 4), .ref (am 5), .ref (am 6), .ref (am 7), .ref (am 8), .ref (am 9), .ref (am 10)] w (PB (.int 1) (St G X am kp)) := by
  refine ct_intro RL "acts" (by decide +kernel) rfl rfl rfl (Nat.le_of_ble_eq_true rfl) [some (.ref kp), some (.int (nI 1)), some (.int y), some (.int z), some (.ref (am 2)), some (.ref (am 3)), some (.ref (am 4)), some (.ref (am 5)), some (.ref (am 6)), some (.ref (am 7)), some (.ref (am 8)), some (.ref (am 9)), some (.ref (am 10)), none, none, none, none, none] rfl (fun C => ?_)
  refine g_iload1 dL_acts_0 ?_
  refine g_if_ne_t (tgt := 119) dL_acts_1 (by decide) (by decide) ?_
  refine g_iload1 dL_acts_119 ?_
  refine g_iconst (v := 1) dL_acts_120 (by decide) ?_
  refine g_icmp_ne_f (tgt := 336) dL_acts_121 (by decide) rfl ?_
  refine g_iload3 dL_acts_124 ?_
  refine g_bipush (v := 6) dL_acts_125 (by decide) ?_
  refine g_iand dL_acts_127 ?_
  refine g_if_ne (tgt := 143) dL_acts_128 (by decide) (fun h128 => ?_) (fun h128 => ?_)
  · skip
    refine g_aload12 dL_acts_143 ?_
    refine g_iconst (v := 0) dL_acts_145 (by decide) ?_
    refine g_jiald (k := 10) (i := 0) hM (by decide) (by decide) dL_acts_146 (show _ < 6 from by omega) ?_
    rw [hJ.1.1]
    refine g_iload3 dL_acts_147 ?_
    refine g_iconst (v := 3) dL_acts_148 (by decide) ?_
    refine g_ishr dL_acts_149 ?_
    refine g_bipush (v := 50) dL_acts_150 (by decide) ?_
    refine g_callS2 (ct_low (m := 50) (by decide) (by decide)) md_L_low dL_acts_152 ml_L_90 st_L_low (RmOk.of (Nat.le_of_ble_eq_true rfl) (Nat.le_of_ble_eq_true rfl) (Nat.le_of_ble_eq_true rfl) (Nat.le_of_ble_eq_true rfl) (Nat.le_of_ble_eq_true rfl)) (kr_V ?_) kx_V
    refine g_iadd dL_acts_155 ?_
    rw [nI_add]
    have hl := lowN_lt (z >>> ((3 : Int32) &&& 31)) (m := 50) (by decide)
    exact ac_f2 hI hZ hM hJ (by have := hJ.2.1.1; omega)
  · skip
    refine g_iload3 dL_acts_131 ?_
    refine g_iconst (v := 3) dL_acts_132 (by decide) ?_
    refine g_ishr dL_acts_133 ?_
    refine g_sipush (v := 10000) dL_acts_134 (by decide) ?_
    refine g_callS2 (ct_low (m := 10000) (by decide) (by decide)) md_L_low dL_acts_137 ml_L_90 st_L_low (RmOk.of (Nat.le_of_ble_eq_true rfl) (Nat.le_of_ble_eq_true rfl) (Nat.le_of_ble_eq_true rfl) (Nat.le_of_ble_eq_true rfl) (Nat.le_of_ble_eq_true rfl)) (kr_V ?_) kx_V
    refine g_goto (tgt := 156) dL_acts_140 (by decide) ?_
    have hl := lowN_lt (z >>> ((3 : Int32) &&& 31)) (m := 10000) (by decide)
    exact ac_f2 hI hZ hM hJ (by omega)

set_option maxRecDepth 100000 in
theorem ac_r0 {G : Gx} {C : Cx} {X : Nat → Prop} {am : Nat → Nat} {w : Wd} {kp : Nat} {FJ : Nat → Nat → Int64} {FI : Nat → Nat → Int32} {N : Nat → Nat} {A : Nat → Nat → Int32} {y z : Int32} (hI : Inv0 G X w kp N A w) (hZ : LAZ G X am) (hM : LA G am w FJ FI w) (hJ : JJ N A FJ FI) {ru : Nat} (hr : ru = N 13) : Go G rm_L_acts cL_acts RL ((some .boolean), "acts", []) C (QP G rm_L_acts (PB (.int 1) (St G X am kp)) C) 351 [some (.ref kp), some (.int (nI 2)), some (.int y), some (.int z), some (.ref (am 2)), some (.ref (am 3)), some (.ref (am 4)), some (.ref (am 5)), some (.ref (am 6)), some (.ref (am 7)), some (.ref (am 8)), some (.ref (am 9)), some (.ref (am 10)), none, none, none, none, none] [.int (nI ru)] w 0 0 := by
  have hJ0 := hJ
  obtain ⟨⟨G0, G1, G2, G3, G4, G5⟩, ⟨b1, b2, b3, b4, b5, b6⟩, hO, hP, hF, hR, hD, hV, hS, hT⟩ := hJ0
  have hb := hI.g0
  obtain ⟨fs0, hb0⟩ := hI.g0
  refine g_istore13 dL_acts_351 ?_
  refine g_iload13 dL_acts_353 ?_
  refine g_aload12 dL_acts_355 ?_
  refine g_iconst (v := 4) dL_acts_357 (by decide) ?_
  refine g_jiald (k := 10) (i := 4) hM (by decide) (by decide) dL_acts_358 (show _ < 6 from by omega) ?_
  rw [G4]
  refine g_icmp_ne_f (tgt := 394) dL_acts_359 (by decide) (by rw [hr]) ?_
  refine g_aload0 dL_acts_362 ?_
  refine g_iload13 dL_acts_363 ?_
  refine g_iconst (v := 0) dL_acts_365 (by decide) ?_
  refine g_bipush (v := 10) dL_acts_366 (by decide) ?_
  refine g_callSW4 (lw_reprint_IOOB hb (kn_reprint_a hI (by rw [hr]; exact inb_out (by omega)))) md_L_reprint dL_acts_368 ml_L_114 st_L_reprint (RmOk.of (Nat.le_of_ble_eq_true rfl) (Nat.le_of_ble_eq_true rfl) (Nat.le_of_ble_eq_true rfl) (Nat.le_of_ble_eq_true rfl) (Nat.le_of_ble_eq_true rfl)) (kr_V ?_) kx_V
  refine g_bipush (v := (-73)) dL_acts_371 (by decide) ?_
  refine g_icmp_ne_f (tgt := 392) dL_acts_373 (by decide) (by decide) ?_
  refine g_aload0 dL_acts_376 ?_
  refine g_iconst (v := (-1)) dL_acts_377 (by decide) ?_
  refine g_iconst (v := 0) dL_acts_378 (by decide) ?_
  refine g_iconst (v := 1) dL_acts_379 (by decide) ?_
  refine g_callSW4 (lw_reprint_IOOB hb (kn_reprint_a hI inb_m1)) md_L_reprint dL_acts_380 ml_L_114 st_L_reprint (RmOk.of (Nat.le_of_ble_eq_true rfl) (Nat.le_of_ble_eq_true rfl) (Nat.le_of_ble_eq_true rfl) (Nat.le_of_ble_eq_true rfl) (Nat.le_of_ble_eq_true rfl)) (kr_V ?_) kx_V
  refine g_bipush (v := (-73)) dL_acts_383 (by decide) ?_
  refine g_icmp_ne_f (tgt := 392) dL_acts_385 (by decide) (by decide) ?_
  refine g_iconst (v := 1) dL_acts_388 (by decide) ?_
  refine g_goto (tgt := 393) dL_acts_389 (by decide) ?_
  refine g_zret dL_acts_393 (by decide) ?_ (Nat.le_of_ble_eq_true rfl) (Nat.le_of_ble_eq_true rfl)
  exact ⟨rfl, N, A, FJ, FI, hI, hM, hJ⟩

set_option maxRecDepth 100000 in
theorem ac_r2 {G : Gx} {C : Cx} {X : Nat → Prop} {am : Nat → Nat} {w : Wd} {kp : Nat} {FJ : Nat → Nat → Int64} {FI : Nat → Nat → Int32} {N : Nat → Nat} {A : Nat → Nat → Int32} {y z : Int32} (hI : Inv0 G X w kp N A w) (hZ : LAZ G X am) (hM : LA G am w FJ FI w) (hJ : JJ N A FJ FI) {w1 : Wd} {ru f m dy pg cp : Nat} (hr : ru < N 13) (hdy : dy ≤ 9999) (hm1 : 1 ≤ m) (hfm : f + m ≤ N 6) (e15 : A 15 ru = nI f) (e16 : A 16 ru = nI m) (e3 : FI 3 ru = nI (f + 64 * m + 4096 * dy)) (hpg : pg < m) (hc1 : 1 ≤ cp) (hc9 : cp ≤ 9) (hM1 : LA G am w FJ (setI FI 2 (rpC (FI 2) (f + pg) (f + m) (nI cp))) w1) : Go G rm_L_acts cL_acts RL ((some .boolean), "acts", []) C (QP G rm_L_acts (PB (.int 1) (St G X am kp)) C) 463 [some (.ref kp), some (.int (nI 2)), some (.int y), some (.int z), some (.ref (am 2)), some (.ref (am 3)), some (.ref (am 4)), some (.ref (am 5)), some (.ref (am 6)), some (.ref (am 7)), some (.ref (am 8)), some (.ref (am 9)), some (.ref (am 10)), some (.int (nI ru)), some (.int (nI m)), some (.int (nI pg)), some (.int (nI cp)), some (.int (nI m))] [] w1 0 0 := by
  have hJ0 := hJ
  obtain ⟨⟨G0, G1, G2, G3, G4, G5⟩, ⟨b1, b2, b3, b4, b5, b6⟩, hO, hP, hF, hR, hD, hV, hS, hT⟩ := hJ0
  have hb := hI.g0
  obtain ⟨fs0, hb0⟩ := hI.g0
  clear hM
  have hM := hM1
  have hI1 := hI.keepL hZ hM
  obtain ⟨fs1, hb1⟩ := hI1.g0
  have hb1' := hI1.g0
  refine g_aload0 dL_acts_463 ?_
  refine g_iload13 dL_acts_464 ?_
  refine g_iload14 dL_acts_466 ?_
  refine g_iload16 dL_acts_468 ?_
  refine g_callSW4 (lw_reprint_IOOB hb1' (kn_reprint_b hI1 hr e16 (inb_out (by omega)))) md_L_reprint dL_acts_470 ml_L_114 st_L_reprint (RmOk.of (Nat.le_of_ble_eq_true rfl) (Nat.le_of_ble_eq_true rfl) (Nat.le_of_ble_eq_true rfl) (Nat.le_of_ble_eq_true rfl) (Nat.le_of_ble_eq_true rfl)) (kr_V ?_) kx_V
  refine g_bipush (v := (-73)) dL_acts_473 (by decide) ?_
  refine g_icmp_ne_f (tgt := 532) dL_acts_475 (by decide) (by decide) ?_
  refine g_aload0 dL_acts_478 ?_
  refine g_iload13 dL_acts_479 ?_
  refine g_iload15 dL_acts_481 ?_
  refine g_iconst (v := 0) dL_acts_483 (by decide) ?_
  refine g_callSW4 (lw_reprint_IAE hb1' (kn_reprint_c hI1 hr e16 (by omega) hpg (by decide))) md_L_reprint dL_acts_484 ml_L_114 st_L_reprint (RmOk.of (Nat.le_of_ble_eq_true rfl) (Nat.le_of_ble_eq_true rfl) (Nat.le_of_ble_eq_true rfl) (Nat.le_of_ble_eq_true rfl) (Nat.le_of_ble_eq_true rfl)) (kr_V ?_) kx_V
  refine g_bipush (v := (-71)) dL_acts_487 (by decide) ?_
  refine g_icmp_ne_f (tgt := 532) dL_acts_489 (by decide) (by decide) ?_
  refine g_aload0 dL_acts_492 ?_
  refine g_iload13 dL_acts_493 ?_
  refine g_iload15 dL_acts_495 ?_
  refine g_bipush (v := 10) dL_acts_497 (by decide) ?_
  refine g_callSW4 (lw_reprint_IAE hb1' (kn_reprint_c hI1 hr e16 (by omega) hpg (by decide))) md_L_reprint dL_acts_499 ml_L_114 st_L_reprint (RmOk.of (Nat.le_of_ble_eq_true rfl) (Nat.le_of_ble_eq_true rfl) (Nat.le_of_ble_eq_true rfl) (Nat.le_of_ble_eq_true rfl) (Nat.le_of_ble_eq_true rfl)) (kr_V ?_) kx_V
  refine g_bipush (v := (-71)) dL_acts_502 (by decide) ?_
  refine g_icmp_ne_f (tgt := 532) dL_acts_504 (by decide) (by decide) ?_
  refine g_aload0 dL_acts_507 ?_
  refine g_iload13 dL_acts_508 ?_
  refine g_iload15 dL_acts_510 ?_
  refine g_iload16 dL_acts_512 ?_
  refine g_callSW4 (lw_reprint_0 hb1' (kn_reprint_d hI1 hr e15 (by omega) e16 (by omega) hpg hc1 hc9)) md_L_reprint dL_acts_514 ml_L_114 st_L_reprint (RmOk.of (Nat.le_of_ble_eq_true rfl) (Nat.le_of_ble_eq_true rfl) (Nat.le_of_ble_eq_true rfl) (Nat.le_of_ble_eq_true rfl) (Nat.le_of_ble_eq_true rfl)) (kr_B (fun w1 hw1 => ?_)) kx_B
  obtain ⟨a1, a2⟩ := hw1.after hZ hM
  clear hM
  have hM := a2
  refine g_iload16 dL_acts_517 ?_
  refine g_iload14 dL_acts_519 ?_
  refine g_iload15 dL_acts_521 ?_
  refine g_isub dL_acts_523 ?_
  rw [pk_sub (Nat.le_of_lt hpg)]
  refine g_imul dL_acts_524 ?_
  rw [pk_mul]
  refine g_icmp_ne_f (tgt := 532) dL_acts_525 (by decide) rfl ?_
  refine g_iconst (v := 1) dL_acts_528 (by decide) ?_
  refine g_goto (tgt := 533) dL_acts_529 (by decide) ?_
  refine g_zret dL_acts_533 (by decide) ?_ (Nat.le_of_ble_eq_true rfl) (Nat.le_of_ble_eq_true rfl)
  exact ⟨rfl, _, _, _, _, a1, hM, hJ.reprint f pg m cp⟩

set_option maxRecDepth 100000 in
theorem ac_r1 {G : Gx} {C : Cx} {X : Nat → Prop} {am : Nat → Nat} {w : Wd} {kp : Nat} {FJ : Nat → Nat → Int64} {FI : Nat → Nat → Int32} {N : Nat → Nat} {A : Nat → Nat → Int32} {y z : Int32} (hI : Inv0 G X w kp N A w) (hZ : LAZ G X am) (hM0 : LA G am w FJ FI w) (hJ : JJ N A FJ FI) {ru f m dy pg cp : Nat} (hr : ru < N 13) (hdy : dy ≤ 9999) (hm1 : 1 ≤ m) (hfm : f + m ≤ N 6) (e15 : A 15 ru = nI f) (e16 : A 16 ru = nI m) (e3 : FI 3 ru = nI (f + 64 * m + 4096 * dy)) (hpg : pg < m) (hc1 : 1 ≤ cp) (hc9 : cp ≤ 9) : ∀ (M k : Nat) (w1 : Wd), m - k < M → pg ≤ k → k ≤ m → LA G am w FJ (setI FI 2 (rpC (FI 2) (f + pg) (f + k) (nI cp))) w1 →
    Go G rm_L_acts cL_acts RL ((some .boolean), "acts", []) C (QP G rm_L_acts (PB (.int 1) (St G X am kp)) C) 431 [some (.ref kp), some (.int (nI 2)), some (.int y), some (.int z), some (.ref (am 2)), some (.ref (am 3)), some (.ref (am 4)), some (.ref (am 5)), some (.ref (am 6)), some (.ref (am 7)), some (.ref (am 8)), some (.ref (am 9)), some (.ref (am 10)), some (.int (nI ru)), some (.int (nI m)), some (.int (nI pg)), some (.int (nI cp)), some (.int (nI k))] [] w1 0 0 := by
  have hb6 := hJ.2.1.2.2.1
  have hb5 := hJ.2.1.2.2.2.2.1
  intro M
  induction M with
  | zero => intro k w1 hM9; exact absurd hM9 (Nat.not_lt_zero _)
  | succ M ih =>
    intro k w1 hi9 hpk hkm hM
    refine g_iload17 dL_acts_431 ?_
    refine g_iload14 dL_acts_433 ?_
    refine g_icmp_ge (tgt := 463) dL_acts_435 (by decide) (fun h435 => ?_) (fun h435 => ?_)
    · skip
      have hin : k = m := by have := idx_ge (by omega) (by omega) h435; omega
      subst hin
      exact ac_r2 hI hZ hM0 hJ hr hdy hm1 hfm e15 e16 e3 hpg hc1 hc9 hM
    · skip
      have hlt : k < m := by have := idx_lt (by omega) (by omega) h435; omega
      refine g_aload4 dL_acts_438 ?_
      refine g_aload5 dL_acts_440 ?_
      refine g_iload13 dL_acts_442 ?_
      refine g_jiald (k := 3) hM (by decide) (by decide) dL_acts_444 (show _ < 15 from by omega) ?_
      rw [show (setI FI 2 (rpC (FI 2) (f + pg) (f + k) (nI cp))) 3 ru = nI (f + 64 * m + 4096 * dy) from e3]
      refine g_bipush (v := 63) dL_acts_445 (by decide) ?_
      refine g_iand dL_acts_447 ?_
      rw [(pd_r hdy (show f < 64 by omega) (show m < 64 by omega)).1]
      refine g_iload17 dL_acts_448 ?_
      refine g_iadd dL_acts_450 ?_
      rw [nI_add]
      refine g_dup2 dL_acts_451 rfl rfl ?_
      refine g_jiald (k := 2) hM (by decide) (by decide) dL_acts_452 (show _ < 60 from by omega) ?_
      rw [show (setI FI 2 (rpC (FI 2) (f + pg) (f + k) (nI cp))) 2 (f + k) = FI 2 (f + k) from rpC_at]
      refine g_iload16 dL_acts_453 ?_
      refine g_iadd dL_acts_455 ?_
      refine g_jiast (k := 2) hM (by decide) (by decide) dL_acts_456 (show _ < 60 from by omega) (fun w1 hM => ?_)
      rw [setI_upd, rpC_s (by omega)] at hM
      refine g_iinc17 (v' := (nI (k + 1))) dL_acts_457 (nI_1 k) ?_
      refine g_goto (tgt := 431) dL_acts_460 (by decide) ?_
      exact ih (k + 1) _ (by omega) (by omega) (by omega) hM

set_option maxRecDepth 100000 in
theorem ac_r3 {G : Gx} {C : Cx} {X : Nat → Prop} {am : Nat → Nat} {w : Wd} {kp : Nat} {FJ : Nat → Nat → Int64} {FI : Nat → Nat → Int32} {N : Nat → Nat} {A : Nat → Nat → Int32} {y z : Int32} (hI : Inv0 G X w kp N A w) (hZ : LAZ G X am) (hM : LA G am w FJ FI w) (hJ : JJ N A FJ FI) {ru : Nat} (hr : ru < N 13) : Go G rm_L_acts cL_acts RL ((some .boolean), "acts", []) C (QP G rm_L_acts (PB (.int 1) (St G X am kp)) C) 351 [some (.ref kp), some (.int (nI 2)), some (.int y), some (.int z), some (.ref (am 2)), some (.ref (am 3)), some (.ref (am 4)), some (.ref (am 5)), some (.ref (am 6)), some (.ref (am 7)), some (.ref (am 8)), some (.ref (am 9)), some (.ref (am 10)), none, none, none, none, none] [.int (nI ru)] w 0 0 := by
  have hJ0 := hJ
  obtain ⟨⟨G0, G1, G2, G3, G4, G5⟩, ⟨b1, b2, b3, b4, b5, b6⟩, hO, hP, hF, hR, hD, hV, hS, hT⟩ := hJ0
  have hb := hI.g0
  obtain ⟨fs0, hb0⟩ := hI.g0
  obtain ⟨f, m, dy, hdy, hm1, hfm, e15, e16, e14, e3⟩ := hR ru hr
  refine g_istore13 dL_acts_351 ?_
  refine g_iload13 dL_acts_353 ?_
  refine g_aload12 dL_acts_355 ?_
  refine g_iconst (v := 4) dL_acts_357 (by decide) ?_
  refine g_jiald (k := 10) (i := 4) hM (by decide) (by decide) dL_acts_358 (show _ < 6 from by omega) ?_
  rw [G4]
  refine g_icmp_ne_t (tgt := 394) dL_acts_359 (by decide) (fun q => absurd ((nI_eq (by omega) (by omega)).mp q) (by omega)) ?_
  refine g_aload5 dL_acts_394 ?_
  refine g_iload13 dL_acts_396 ?_
  refine g_jiald (k := 3) hM (by decide) (by decide) dL_acts_398 (show _ < 15 from by omega) ?_
  rw [e3]
  refine g_bipush (v := 6) dL_acts_399 (by decide) ?_
  refine g_ishr dL_acts_401 ?_
  refine g_bipush (v := 63) dL_acts_402 (by decide) ?_
  refine g_iand dL_acts_404 ?_
  rw [(pd_r hdy (show f < 64 by omega) (show m < 64 by omega)).2.1]
  refine g_istore14 dL_acts_405 ?_
  refine g_iload2 dL_acts_407 ?_
  refine g_iconst (v := 5) dL_acts_408 (by decide) ?_
  refine g_ishr dL_acts_409 ?_
  refine g_iload14 dL_acts_410 ?_
  refine g_callS2 (ct_low (m := m) (by omega) (by omega)) md_L_low dL_acts_412 ml_L_90 st_L_low (RmOk.of (Nat.le_of_ble_eq_true rfl) (Nat.le_of_ble_eq_true rfl) (Nat.le_of_ble_eq_true rfl) (Nat.le_of_ble_eq_true rfl) (Nat.le_of_ble_eq_true rfl)) (kr_V ?_) kx_V
  refine g_istore15 dL_acts_415 ?_
  refine g_iconst (v := 1) dL_acts_417 (by decide) ?_
  refine g_iload3 dL_acts_418 ?_
  refine g_bipush (v := 9) dL_acts_419 (by decide) ?_
  refine g_callS2 (ct_low (m := 9) (by decide) (by decide)) md_L_low dL_acts_421 ml_L_90 st_L_low (RmOk.of (Nat.le_of_ble_eq_true rfl) (Nat.le_of_ble_eq_true rfl) (Nat.le_of_ble_eq_true rfl) (Nat.le_of_ble_eq_true rfl) (Nat.le_of_ble_eq_true rfl)) (kr_V ?_) kx_V
  refine g_iadd dL_acts_424 ?_
  rw [show (1 : Int32) + nI (lowN z 9) = nI (1 + lowN z 9) from nI_add 1 _]
  refine g_istore16 dL_acts_425 ?_
  refine g_iload15 dL_acts_427 ?_
  refine g_istore17 dL_acts_429 ?_
  have hl9 := lowN_lt z (m := 9) (by decide)
  exact ac_r1 hI hZ hM hJ hr hdy hm1 hfm e15 e16 e3 (lowN_lt _ (by omega)) (by omega) (by omega) (m + 1) _ w (by omega) (Nat.le_refl _) (Nat.le_of_lt (lowN_lt _ (by omega))) (hM.to rfl (by rw [rpC_0, setI_0]))

set_option maxRecDepth 100000 in
theorem ct_ac2 {G : Gx} {X : Nat → Prop} {am : Nat → Nat} {w : Wd} {kp : Nat} {FJ : Nat → Nat → Int64} {FI : Nat → Nat → Int32} {N : Nat → Nat} {A : Nat → Nat → Int32} {y z : Int32} (hI : Inv0 G X w kp N A w) (hZ : LAZ G X am) (hM : LA G am w FJ FI w) (hJ : JJ N A FJ FI) : Ct G yL_acts kw_L_acts rm_L_acts [.ref kp, .int (nI 2), .int y, .int z, .ref (am 2), .ref (am 3), .ref (am 4), .ref (am 5), .ref (am 6), .ref (am 7), .ref (am 8), .ref (am 9), .ref (am 10)] w (PB (.int 1) (St G X am kp)) := by
  refine ct_intro RL "acts" (by decide +kernel) rfl rfl rfl (Nat.le_of_ble_eq_true rfl) [some (.ref kp), some (.int (nI 2)), some (.int y), some (.int z), some (.ref (am 2)), some (.ref (am 3)), some (.ref (am 4)), some (.ref (am 5)), some (.ref (am 6)), some (.ref (am 7)), some (.ref (am 8)), some (.ref (am 9)), some (.ref (am 10)), none, none, none, none, none] rfl (fun C => ?_)
  refine g_iload1 dL_acts_0 ?_
  refine g_if_ne_t (tgt := 119) dL_acts_1 (by decide) (by decide) ?_
  refine g_iload1 dL_acts_119 ?_
  refine g_iconst (v := 1) dL_acts_120 (by decide) ?_
  refine g_icmp_ne_t (tgt := 336) dL_acts_121 (by decide) (by decide) ?_
  refine g_iload1 dL_acts_336 ?_
  refine g_iconst (v := 2) dL_acts_337 (by decide) ?_
  refine g_icmp_ne_f (tgt := 534) dL_acts_338 (by decide) rfl ?_
  refine g_iload2 dL_acts_341 ?_
  refine g_aload12 dL_acts_342 ?_
  refine g_iconst (v := 4) dL_acts_344 (by decide) ?_
  refine g_jiald (k := 10) (i := 4) hM (by decide) (by decide) dL_acts_345 (show _ < 6 from by omega) ?_
  rw [hJ.1.2.2.2.2.1]
  refine g_iconst (v := 1) dL_acts_346 (by decide) ?_
  refine g_iadd dL_acts_347 ?_
  rw [nI_1]
  refine g_callS2 (ct_low (m := N 13 + 1) (by omega) (by have := hJ.2.1.2.2.2.2.1; omega)) md_L_low dL_acts_348 ml_L_90 st_L_low (RmOk.of (Nat.le_of_ble_eq_true rfl) (Nat.le_of_ble_eq_true rfl) (Nat.le_of_ble_eq_true rfl) (Nat.le_of_ble_eq_true rfl) (Nat.le_of_ble_eq_true rfl)) (kr_V ?_) kx_V
  have hl := lowN_lt y (m := N 13 + 1) (by omega)
  by_cases h : lowN y (N 13 + 1) = N 13
  · exact ac_r0 hI hZ hM hJ h
  · exact ac_r3 hI hZ hM hJ (by omega)

set_option maxRecDepth 100000 in
theorem ac_v {G : Gx} {C : Cx} {X : Nat → Prop} {am : Nat → Nat} {w : Wd} {kp : Nat} {FJ : Nat → Nat → Int64} {FI : Nat → Nat → Int32} {N : Nat → Nat} {A : Nat → Nat → Int32} {y z : Int32} (hI : Inv0 G X w kp N A w) (hZ : LAZ G X am) (hM : LA G am w FJ FI w) (hJ : JJ N A FJ FI) {j f : Nat} (hj : j < 4) (hf : f < 100) : Go G rm_L_acts cL_acts RL ((some .boolean), "acts", []) C (QP G rm_L_acts (PB (.int 1) (St G X am kp)) C) 563 [some (.ref kp), some (.int (nI 3)), some (.int y), some (.int z), some (.ref (am 2)), some (.ref (am 3)), some (.ref (am 4)), some (.ref (am 5)), some (.ref (am 6)), some (.ref (am 7)), some (.ref (am 8)), some (.ref (am 9)), some (.ref (am 10)), some (.int (nI j)), none, none, none, none] [.int (nI f)] w 0 0 := by
  have hJ0 := hJ
  obtain ⟨⟨G0, G1, G2, G3, G4, G5⟩, ⟨b1, b2, b3, b4, b5, b6⟩, hO, hP, hF, hR, hD, hV, hS, hT⟩ := hJ0
  have hb := hI.g0
  obtain ⟨fs0, hb0⟩ := hI.g0
  have hl := lowN_lt (z >>> ((8 : Int32) &&& 31)) (m := 100 - f) (by omega)
  have hl9 := lowN_lt (y >>> ((3 : Int32) &&& 31)) (m := 9) (by decide)
  refine g_istore14 dL_acts_563 ?_
  refine g_iload14 dL_acts_565 ?_
  refine g_iload3 dL_acts_567 ?_
  refine g_bipush (v := 8) dL_acts_568 (by decide) ?_
  refine g_ishr dL_acts_570 ?_
  refine g_bipush (v := 100) dL_acts_571 (by decide) ?_
  refine g_iload14 dL_acts_573 ?_
  refine g_isub dL_acts_575 ?_
  rw [show (100 : Int32) - nI f = nI (100 - f) from pk_sub (Nat.le_of_lt hf)]
  refine g_callS2 (ct_low (m := 100 - f) (by omega) (by omega)) md_L_low dL_acts_576 ml_L_90 st_L_low (RmOk.of (Nat.le_of_ble_eq_true rfl) (Nat.le_of_ble_eq_true rfl) (Nat.le_of_ble_eq_true rfl) (Nat.le_of_ble_eq_true rfl) (Nat.le_of_ble_eq_true rfl)) (kr_V ?_) kx_V
  refine g_iadd dL_acts_579 ?_
  rw [nI_add]
  refine g_istore15 dL_acts_580 ?_
  refine g_iload2 dL_acts_582 ?_
  refine g_iconst (v := 3) dL_acts_583 (by decide) ?_
  refine g_ishr dL_acts_584 ?_
  refine g_bipush (v := 9) dL_acts_585 (by decide) ?_
  refine g_callS2 (ct_low (m := 9) (by decide) (by decide)) md_L_low dL_acts_587 ml_L_90 st_L_low (RmOk.of (Nat.le_of_ble_eq_true rfl) (Nat.le_of_ble_eq_true rfl) (Nat.le_of_ble_eq_true rfl) (Nat.le_of_ble_eq_true rfl) (Nat.le_of_ble_eq_true rfl)) (kr_V ?_) kx_V
  refine g_iconst (v := 1) dL_acts_590 (by decide) ?_
  refine g_isub dL_acts_591 ?_
  refine g_istore16 dL_acts_592 ?_
  refine g_aload9 dL_acts_594 ?_
  refine g_iload13 dL_acts_596 ?_
  refine g_iload14 dL_acts_598 ?_
  refine g_sipush (v := 128) dL_acts_600 (by decide) ?_
  refine g_iload15 dL_acts_603 ?_
  refine g_imul dL_acts_605 ?_
  refine g_iadd dL_acts_606 ?_
  refine g_sipush (v := 16384) dL_acts_607 (by decide) ?_
  refine g_iload16 dL_acts_610 ?_
  refine g_iconst (v := 1) dL_acts_612 (by decide) ?_
  refine g_iadd dL_acts_613 ?_
  rw [Int32.sub_add_cancel]
  refine g_imul dL_acts_614 ?_
  refine g_iadd dL_acts_615 ?_
  rw [show nI f + 128 * nI (f + (lowN (z >>> ((8 : Int32) &&& 31)) (100 - f))) + 16384 * nI (lowN (y >>> ((3 : Int32) &&& 31)) 9) = nI (f + 128 * (f + (lowN (z >>> ((8 : Int32) &&& 31)) (100 - f))) + 16384 * (lowN (y >>> ((3 : Int32) &&& 31)) 9)) by rw [show (128 : Int32) = nI 128 from rfl, show (16384 : Int32) = nI 16384 from rfl, pk_mul, pk_mul, nI_add, nI_add]]
  refine g_jiast (k := 7) hM (by decide) (by decide) dL_acts_616 (show _ < 4 from by omega) (fun w1 hM => ?_)
  have hI1 := hI.keepL hZ hM
  obtain ⟨fs1, hb1⟩ := hI1.g0
  have hb1' := hI1.g0
  refine g_aload0 dL_acts_617 ?_
  refine g_iconst (v := 4) dL_acts_618 (by decide) ?_
  refine g_iconst (v := 0) dL_acts_619 (by decide) ?_
  refine g_iconst (v := 0) dL_acts_620 (by decide) ?_
  refine g_iconst (v := 0) dL_acts_621 (by decide) ?_
  refine g_callSW5 (lw_view_IAE hb1' (kn_view_a1 hI1 (by decide))) md_L_view dL_acts_622 ml_L_116 st_L_view (RmOk.of (Nat.le_of_ble_eq_true rfl) (Nat.le_of_ble_eq_true rfl) (Nat.le_of_ble_eq_true rfl) (Nat.le_of_ble_eq_true rfl) (Nat.le_of_ble_eq_true rfl)) (kr_V ?_) kx_V
  refine g_bipush (v := (-71)) dL_acts_625 (by decide) ?_
  refine g_icmp_ne_f (tgt := 710) dL_acts_627 (by decide) (by decide) ?_
  refine g_aload0 dL_acts_630 ?_
  refine g_iload13 dL_acts_631 ?_
  refine g_iconst (v := 5) dL_acts_633 (by decide) ?_
  refine g_iconst (v := 4) dL_acts_634 (by decide) ?_
  refine g_iconst (v := 0) dL_acts_635 (by decide) ?_
  refine g_callSW5 (lw_view_IAE hb1' (kn_view_a3 hI1 hj (by decide) (by decide))) md_L_view dL_acts_636 ml_L_116 st_L_view (RmOk.of (Nat.le_of_ble_eq_true rfl) (Nat.le_of_ble_eq_true rfl) (Nat.le_of_ble_eq_true rfl) (Nat.le_of_ble_eq_true rfl) (Nat.le_of_ble_eq_true rfl)) (kr_V ?_) kx_V
  refine g_bipush (v := (-71)) dL_acts_639 (by decide) ?_
  refine g_icmp_ne_f (tgt := 710) dL_acts_641 (by decide) (by decide) ?_
  refine g_aload0 dL_acts_644 ?_
  refine g_iload13 dL_acts_645 ?_
  refine g_iconst (v := 0) dL_acts_647 (by decide) ?_
  refine g_bipush (v := 100) dL_acts_648 (by decide) ?_
  refine g_iconst (v := 0) dL_acts_650 (by decide) ?_
  refine g_callSW5 (lw_view_IAE hb1' (kn_view_a3 hI1 hj (by decide) (by decide))) md_L_view dL_acts_651 ml_L_116 st_L_view (RmOk.of (Nat.le_of_ble_eq_true rfl) (Nat.le_of_ble_eq_true rfl) (Nat.le_of_ble_eq_true rfl) (Nat.le_of_ble_eq_true rfl) (Nat.le_of_ble_eq_true rfl)) (kr_V ?_) kx_V
  refine g_bipush (v := (-71)) dL_acts_654 (by decide) ?_
  refine g_icmp_ne_f (tgt := 710) dL_acts_656 (by decide) (by decide) ?_
  refine g_aload0 dL_acts_659 ?_
  refine g_iload13 dL_acts_660 ?_
  refine g_iconst (v := 0) dL_acts_662 (by decide) ?_
  refine g_bipush (v := 9) dL_acts_663 (by decide) ?_
  refine g_bipush (v := 8) dL_acts_665 (by decide) ?_
  refine g_callSW5 (lw_view_IAE hb1' (kn_view_a4 hI1 hj (by decide) (by decide) (by decide))) md_L_view dL_acts_667 ml_L_116 st_L_view (RmOk.of (Nat.le_of_ble_eq_true rfl) (Nat.le_of_ble_eq_true rfl) (Nat.le_of_ble_eq_true rfl) (Nat.le_of_ble_eq_true rfl) (Nat.le_of_ble_eq_true rfl)) (kr_V ?_) kx_V
  refine g_bipush (v := (-71)) dL_acts_670 (by decide) ?_
  refine g_icmp_ne_f (tgt := 710) dL_acts_672 (by decide) (by decide) ?_
  refine g_aload0 dL_acts_675 ?_
  refine g_iload13 dL_acts_676 ?_
  refine g_iconst (v := 0) dL_acts_678 (by decide) ?_
  refine g_bipush (v := 9) dL_acts_679 (by decide) ?_
  refine g_bipush (v := (-2)) dL_acts_681 (by decide) ?_
  refine g_callSW5 (lw_view_IAE hb1' (kn_view_a4 hI1 hj (by decide) (by decide) (by decide))) md_L_view dL_acts_683 ml_L_116 st_L_view (RmOk.of (Nat.le_of_ble_eq_true rfl) (Nat.le_of_ble_eq_true rfl) (Nat.le_of_ble_eq_true rfl) (Nat.le_of_ble_eq_true rfl) (Nat.le_of_ble_eq_true rfl)) (kr_V ?_) kx_V
  refine g_bipush (v := (-71)) dL_acts_686 (by decide) ?_
  refine g_icmp_ne_f (tgt := 710) dL_acts_688 (by decide) (by decide) ?_
  refine g_aload0 dL_acts_691 ?_
  refine g_iload13 dL_acts_692 ?_
  refine g_iload14 dL_acts_694 ?_
  refine g_iload15 dL_acts_696 ?_
  refine g_iload16 dL_acts_698 ?_
  refine g_callSW5 (lw_view_0 hb1' (kn_view_b hI1 hj (inb_nI (n := 99) (by omega) (by decide)) (inb_rg (c := 99) (by omega) (by omega) (by decide)) (inb_b (lowN (y >>> ((3 : Int32) &&& 31)) 9) hl9))) md_L_view dL_acts_700 ml_L_116 st_L_view (RmOk.of (Nat.le_of_ble_eq_true rfl) (Nat.le_of_ble_eq_true rfl) (Nat.le_of_ble_eq_true rfl) (Nat.le_of_ble_eq_true rfl) (Nat.le_of_ble_eq_true rfl)) (kr_B (fun w1 hw1 => ?_)) kx_B
  obtain ⟨a1, a2⟩ := hw1.after hZ hM
  clear hM
  have hM := a2
  refine g_if_ne_f (tgt := 710) dL_acts_703 (by decide) (by decide) ?_
  refine g_iconst (v := 1) dL_acts_706 (by decide) ?_
  refine g_goto (tgt := 711) dL_acts_707 (by decide) ?_
  refine g_zret dL_acts_711 (by decide) ?_ (Nat.le_of_ble_eq_true rfl) (Nat.le_of_ble_eq_true rfl)
  exact ⟨rfl, _, _, _, _, a1, hM, hJ.view hf (by omega) hl9⟩

set_option maxRecDepth 100000 in
theorem ct_ac3 {G : Gx} {X : Nat → Prop} {am : Nat → Nat} {w : Wd} {kp : Nat} {FJ : Nat → Nat → Int64} {FI : Nat → Nat → Int32} {N : Nat → Nat} {A : Nat → Nat → Int32} {y z : Int32} (hI : Inv0 G X w kp N A w) (hZ : LAZ G X am) (hM : LA G am w FJ FI w) (hJ : JJ N A FJ FI) : Ct G yL_acts kw_L_acts rm_L_acts [.ref kp, .int (nI 3), .int y, .int z, .ref (am 2), .ref (am 3), .ref (am 4), .ref (am 5), .ref (am 6), .ref (am 7), .ref (am 8), .ref (am 9), .ref (am 10)] w (PB (.int 1) (St G X am kp)) := by
  refine ct_intro RL "acts" (by decide +kernel) rfl rfl rfl (Nat.le_of_ble_eq_true rfl) [some (.ref kp), some (.int (nI 3)), some (.int y), some (.int z), some (.ref (am 2)), some (.ref (am 3)), some (.ref (am 4)), some (.ref (am 5)), some (.ref (am 6)), some (.ref (am 7)), some (.ref (am 8)), some (.ref (am 9)), some (.ref (am 10)), none, none, none, none, none] rfl (fun C => ?_)
  refine g_iload1 dL_acts_0 ?_
  refine g_if_ne_t (tgt := 119) dL_acts_1 (by decide) (by decide) ?_
  refine g_iload1 dL_acts_119 ?_
  refine g_iconst (v := 1) dL_acts_120 (by decide) ?_
  refine g_icmp_ne_t (tgt := 336) dL_acts_121 (by decide) (by decide) ?_
  refine g_iload1 dL_acts_336 ?_
  refine g_iconst (v := 2) dL_acts_337 (by decide) ?_
  refine g_icmp_ne_t (tgt := 534) dL_acts_338 (by decide) (by decide) ?_
  refine g_iload1 dL_acts_534 ?_
  refine g_iconst (v := 3) dL_acts_535 (by decide) ?_
  refine g_icmp_ne_f (tgt := 712) dL_acts_536 (by decide) rfl ?_
  refine g_iload2 dL_acts_539 ?_
  refine g_iconst (v := 4) dL_acts_540 (by decide) ?_
  refine g_callS2 (ct_low (m := 4) (by decide) (by decide)) md_L_low dL_acts_541 ml_L_90 st_L_low (RmOk.of (Nat.le_of_ble_eq_true rfl) (Nat.le_of_ble_eq_true rfl) (Nat.le_of_ble_eq_true rfl) (Nat.le_of_ble_eq_true rfl) (Nat.le_of_ble_eq_true rfl)) (kr_V ?_) kx_V
  refine g_istore13 dL_acts_544 ?_
  refine g_iload3 dL_acts_546 ?_
  refine g_iload3 dL_acts_547 ?_
  refine g_bipush (v := 64) dL_acts_548 (by decide) ?_
  refine g_iand dL_acts_550 ?_
  refine g_if_ne (tgt := 559) dL_acts_551 (by decide) (fun h551 => ?_) (fun h551 => ?_)
  · skip
    refine g_iconst (v := 4) dL_acts_559 (by decide) ?_
    refine g_callS2 (ct_low (m := 4) (by decide) (by decide)) md_L_low dL_acts_560 ml_L_90 st_L_low (RmOk.of (Nat.le_of_ble_eq_true rfl) (Nat.le_of_ble_eq_true rfl) (Nat.le_of_ble_eq_true rfl) (Nat.le_of_ble_eq_true rfl) (Nat.le_of_ble_eq_true rfl)) (kr_V ?_) kx_V
    exact ac_v hI hZ hM hJ (lowN_lt _ (by decide)) (Nat.lt_of_lt_of_le (lowN_lt _ (by decide)) (by decide))
  · skip
    refine g_bipush (v := 100) dL_acts_554 (by decide) ?_
    refine g_goto (tgt := 560) dL_acts_556 (by decide) ?_
    refine g_callS2 (ct_low (m := 100) (by decide) (by decide)) md_L_low dL_acts_560 ml_L_90 st_L_low (RmOk.of (Nat.le_of_ble_eq_true rfl) (Nat.le_of_ble_eq_true rfl) (Nat.le_of_ble_eq_true rfl) (Nat.le_of_ble_eq_true rfl) (Nat.le_of_ble_eq_true rfl)) (kr_V ?_) kx_V
    exact ac_v hI hZ hM hJ (lowN_lt _ (by decide)) (Nat.lt_of_lt_of_le (lowN_lt _ (by decide)) (by decide))

set_option maxRecDepth 100000 in
theorem ac_s {G : Gx} {C : Cx} {X : Nat → Prop} {am : Nat → Nat} {w : Wd} {kp : Nat} {FJ : Nat → Nat → Int64} {FI : Nat → Nat → Int32} {N : Nat → Nat} {A : Nat → Nat → Int32} {y z : Int32} (hI : Inv0 G X w kp N A w) (hZ : LAZ G X am) (hM : LA G am w FJ FI w) (hJ : JJ N A FJ FI) {j x : Nat} (hj : j < 4) (hx : x < 10000) : Go G rm_L_acts cL_acts RL ((some .boolean), "acts", []) C (QP G rm_L_acts (PB (.int 1) (St G X am kp)) C) 762 [some (.ref kp), some (.int (nI 4)), some (.int y), some (.int z), some (.ref (am 2)), some (.ref (am 3)), some (.ref (am 4)), some (.ref (am 5)), some (.ref (am 6)), some (.ref (am 7)), some (.ref (am 8)), some (.ref (am 9)), some (.ref (am 10)), some (.int (nI j)), some (.int (FI 8 j)), none, none, none] [.int (nI x), .int (nI j), .ref (am 8)] w 0 0 := by
  have hJ0 := hJ
  obtain ⟨⟨G0, G1, G2, G3, G4, G5⟩, ⟨b1, b2, b3, b4, b5, b6⟩, hO, hP, hF, hR, hD, hV, hS, hT⟩ := hJ0
  have hb := hI.g0
  obtain ⟨fs0, hb0⟩ := hI.g0
  have e27 : A 27 j = FI 8 j := by obtain ⟨x9, -, q1, q2⟩ := hS j hj; rw [q1, q2]
  refine g_jiast (k := 8) hM (by decide) (by decide) dL_acts_762 (show _ < 4 from by omega) (fun w1 hM => ?_)
  have hI1 := hI.keepL hZ hM
  obtain ⟨fs1, hb1⟩ := hI1.g0
  have hb1' := hI1.g0
  refine g_aload0 dL_acts_763 ?_
  refine g_iconst (v := 4) dL_acts_764 (by decide) ?_
  refine g_iconst (v := 0) dL_acts_765 (by decide) ?_
  refine g_callSW3 (lw_span_IAE hb1' (kn_span_a1 hI1 (by decide))) md_L_span dL_acts_766 ml_L_119 st_L_span (RmOk.of (Nat.le_of_ble_eq_true rfl) (Nat.le_of_ble_eq_true rfl) (Nat.le_of_ble_eq_true rfl) (Nat.le_of_ble_eq_true rfl) (Nat.le_of_ble_eq_true rfl)) (kr_V ?_) kx_V
  refine g_bipush (v := (-71)) dL_acts_769 (by decide) ?_
  refine g_icmp_ne_f (tgt := 820) dL_acts_771 (by decide) (by decide) ?_
  refine g_aload0 dL_acts_774 ?_
  refine g_iload13 dL_acts_775 ?_
  refine g_sipush (v := 10000) dL_acts_777 (by decide) ?_
  refine g_callSW3 (lw_span_IAE hb1' (kn_span_a2 hI1 hj (by decide))) md_L_span dL_acts_780 ml_L_119 st_L_span (RmOk.of (Nat.le_of_ble_eq_true rfl) (Nat.le_of_ble_eq_true rfl) (Nat.le_of_ble_eq_true rfl) (Nat.le_of_ble_eq_true rfl) (Nat.le_of_ble_eq_true rfl)) (kr_V ?_) kx_V
  refine g_bipush (v := (-71)) dL_acts_783 (by decide) ?_
  refine g_icmp_ne_f (tgt := 820) dL_acts_785 (by decide) (by decide) ?_
  refine g_aload0 dL_acts_788 ?_
  refine g_iload13 dL_acts_789 ?_
  refine g_iconst (v := (-1)) dL_acts_791 (by decide) ?_
  refine g_callSW3 (lw_span_IAE hb1' (kn_span_a2 hI1 hj (by decide))) md_L_span dL_acts_792 ml_L_119 st_L_span (RmOk.of (Nat.le_of_ble_eq_true rfl) (Nat.le_of_ble_eq_true rfl) (Nat.le_of_ble_eq_true rfl) (Nat.le_of_ble_eq_true rfl) (Nat.le_of_ble_eq_true rfl)) (kr_V ?_) kx_V
  refine g_bipush (v := (-71)) dL_acts_795 (by decide) ?_
  refine g_icmp_ne_f (tgt := 820) dL_acts_797 (by decide) (by decide) ?_
  refine g_aload0 dL_acts_800 ?_
  refine g_iload13 dL_acts_801 ?_
  refine g_aload10 dL_acts_803 ?_
  refine g_iload13 dL_acts_805 ?_
  refine g_jiald (k := 8) hM (by decide) (by decide) dL_acts_807 (show _ < 4 from by omega) ?_
  rw [show updA FI 8 j (nI x) 8 j = nI x from upd_s (FI 8) j _]
  refine g_callSW3 (lw_span_0 hb1' (kn_span_b hI1 hj (inb_nI (n := 9999) (by omega) (by decide)))) md_L_span dL_acts_808 ml_L_119 st_L_span (RmOk.of (Nat.le_of_ble_eq_true rfl) (Nat.le_of_ble_eq_true rfl) (Nat.le_of_ble_eq_true rfl) (Nat.le_of_ble_eq_true rfl) (Nat.le_of_ble_eq_true rfl)) (kr_B (fun w1 hw1 => ?_)) kx_B
  obtain ⟨a1, a2⟩ := hw1.after hZ hM
  clear hM
  have hM := a2
  refine g_iload14 dL_acts_811 ?_
  refine g_icmp_ne_f (tgt := 820) dL_acts_813 (by decide) e27 ?_
  refine g_iconst (v := 1) dL_acts_816 (by decide) ?_
  refine g_goto (tgt := 821) dL_acts_817 (by decide) ?_
  refine g_zret dL_acts_821 (by decide) ?_ (Nat.le_of_ble_eq_true rfl) (Nat.le_of_ble_eq_true rfl)
  exact ⟨rfl, _, _, _, _, a1, hM, hJ.span hx⟩

set_option maxRecDepth 100000 in
theorem ct_ac4 {G : Gx} {X : Nat → Prop} {am : Nat → Nat} {w : Wd} {kp : Nat} {FJ : Nat → Nat → Int64} {FI : Nat → Nat → Int32} {N : Nat → Nat} {A : Nat → Nat → Int32} {y z : Int32} (hI : Inv0 G X w kp N A w) (hZ : LAZ G X am) (hM : LA G am w FJ FI w) (hJ : JJ N A FJ FI) : Ct G yL_acts kw_L_acts rm_L_acts [.ref kp, .int (nI 4), .int y, .int z, .ref (am 2), .ref (am 3), .ref (am 4), .ref (am 5), .ref (am 6), .ref (am 7), .ref (am 8), .ref (am 9), .ref (am 10)] w (PB (.int 1) (St G X am kp)) := by
  refine ct_intro RL "acts" (by decide +kernel) rfl rfl rfl (Nat.le_of_ble_eq_true rfl) [some (.ref kp), some (.int (nI 4)), some (.int y), some (.int z), some (.ref (am 2)), some (.ref (am 3)), some (.ref (am 4)), some (.ref (am 5)), some (.ref (am 6)), some (.ref (am 7)), some (.ref (am 8)), some (.ref (am 9)), some (.ref (am 10)), none, none, none, none, none] rfl (fun C => ?_)
  refine g_iload1 dL_acts_0 ?_
  refine g_if_ne_t (tgt := 119) dL_acts_1 (by decide) (by decide) ?_
  refine g_iload1 dL_acts_119 ?_
  refine g_iconst (v := 1) dL_acts_120 (by decide) ?_
  refine g_icmp_ne_t (tgt := 336) dL_acts_121 (by decide) (by decide) ?_
  refine g_iload1 dL_acts_336 ?_
  refine g_iconst (v := 2) dL_acts_337 (by decide) ?_
  refine g_icmp_ne_t (tgt := 534) dL_acts_338 (by decide) (by decide) ?_
  refine g_iload1 dL_acts_534 ?_
  refine g_iconst (v := 3) dL_acts_535 (by decide) ?_
  refine g_icmp_ne_t (tgt := 712) dL_acts_536 (by decide) (by decide) ?_
  refine g_iload1 dL_acts_712 ?_
  refine g_iconst (v := 4) dL_acts_713 (by decide) ?_
  refine g_icmp_ne_f (tgt := 822) dL_acts_714 (by decide) rfl ?_
  refine g_iload2 dL_acts_717 ?_
  refine g_iconst (v := 4) dL_acts_718 (by decide) ?_
  refine g_callS2 (ct_low (m := 4) (by decide) (by decide)) md_L_low dL_acts_719 ml_L_90 st_L_low (RmOk.of (Nat.le_of_ble_eq_true rfl) (Nat.le_of_ble_eq_true rfl) (Nat.le_of_ble_eq_true rfl) (Nat.le_of_ble_eq_true rfl) (Nat.le_of_ble_eq_true rfl)) (kr_V ?_) kx_V
  refine g_istore13 dL_acts_722 ?_
  refine g_aload10 dL_acts_724 ?_
  refine g_iload13 dL_acts_726 ?_
  refine g_jiald (k := 8) hM (by decide) (by decide) dL_acts_728 (show _ < 4 from (lowN_lt _ (by decide))) ?_
  refine g_istore14 dL_acts_729 ?_
  refine g_aload10 dL_acts_731 ?_
  refine g_iload13 dL_acts_733 ?_
  refine g_iload3 dL_acts_735 ?_
  refine g_bipush (v := 6) dL_acts_736 (by decide) ?_
  refine g_iand dL_acts_738 ?_
  refine g_if_ne (tgt := 754) dL_acts_739 (by decide) (fun h739 => ?_) (fun h739 => ?_)
  · skip
    refine g_iload3 dL_acts_754 ?_
    refine g_iconst (v := 3) dL_acts_755 (by decide) ?_
    refine g_ishr dL_acts_756 ?_
    refine g_bipush (v := 120) dL_acts_757 (by decide) ?_
    refine g_callS2 (ct_low (m := 120) (by decide) (by decide)) md_L_low dL_acts_759 ml_L_90 st_L_low (RmOk.of (Nat.le_of_ble_eq_true rfl) (Nat.le_of_ble_eq_true rfl) (Nat.le_of_ble_eq_true rfl) (Nat.le_of_ble_eq_true rfl) (Nat.le_of_ble_eq_true rfl)) (kr_V ?_) kx_V
    exact ac_s hI hZ hM hJ (lowN_lt _ (by decide)) (Nat.lt_of_lt_of_le (lowN_lt _ (by decide)) (by decide))
  · skip
    refine g_iload3 dL_acts_742 ?_
    refine g_iconst (v := 3) dL_acts_743 (by decide) ?_
    refine g_ishr dL_acts_744 ?_
    refine g_sipush (v := 10000) dL_acts_745 (by decide) ?_
    refine g_callS2 (ct_low (m := 10000) (by decide) (by decide)) md_L_low dL_acts_748 ml_L_90 st_L_low (RmOk.of (Nat.le_of_ble_eq_true rfl) (Nat.le_of_ble_eq_true rfl) (Nat.le_of_ble_eq_true rfl) (Nat.le_of_ble_eq_true rfl) (Nat.le_of_ble_eq_true rfl)) (kr_V ?_) kx_V
    refine g_goto (tgt := 762) dL_acts_751 (by decide) ?_
    exact ac_s hI hZ hM hJ (lowN_lt _ (by decide)) (Nat.lt_of_lt_of_le (lowN_lt _ (by decide)) (by decide))

set_option maxRecDepth 100000 in
theorem ct_ac5 {G : Gx} {X : Nat → Prop} {am : Nat → Nat} {w : Wd} {kp : Nat} {FJ : Nat → Nat → Int64} {FI : Nat → Nat → Int32} {N : Nat → Nat} {A : Nat → Nat → Int32} {y z : Int32} (hI : Inv0 G X w kp N A w) (hZ : LAZ G X am) (hM : LA G am w FJ FI w) (hJ : JJ N A FJ FI) : Ct G yL_acts kw_L_acts rm_L_acts [.ref kp, .int (nI 5), .int y, .int z, .ref (am 2), .ref (am 3), .ref (am 4), .ref (am 5), .ref (am 6), .ref (am 7), .ref (am 8), .ref (am 9), .ref (am 10)] w (PB (.int 1) (St G X am kp)) := by
  have hJ0 := hJ
  obtain ⟨⟨G0, G1, G2, G3, G4, G5⟩, ⟨b1, b2, b3, b4, b5, b6⟩, hO, hP, hF, hR, hD, hV, hS, hT⟩ := hJ0
  have hb := hI.g0
  obtain ⟨fs0, hb0⟩ := hI.g0
  have hl6 := lowN_lt y (m := 6) (by decide)
  obtain ⟨zz, hz1, hz2⟩ := hT.1 (lowN y 6) hl6
  refine ct_intro RL "acts" (by decide +kernel) rfl rfl rfl (Nat.le_of_ble_eq_true rfl) [some (.ref kp), some (.int (nI 5)), some (.int y), some (.int z), some (.ref (am 2)), some (.ref (am 3)), some (.ref (am 4)), some (.ref (am 5)), some (.ref (am 6)), some (.ref (am 7)), some (.ref (am 8)), some (.ref (am 9)), some (.ref (am 10)), none, none, none, none, none] rfl (fun C => ?_)
  refine g_iload1 dL_acts_0 ?_
  refine g_if_ne_t (tgt := 119) dL_acts_1 (by decide) (by decide) ?_
  refine g_iload1 dL_acts_119 ?_
  refine g_iconst (v := 1) dL_acts_120 (by decide) ?_
  refine g_icmp_ne_t (tgt := 336) dL_acts_121 (by decide) (by decide) ?_
  refine g_iload1 dL_acts_336 ?_
  refine g_iconst (v := 2) dL_acts_337 (by decide) ?_
  refine g_icmp_ne_t (tgt := 534) dL_acts_338 (by decide) (by decide) ?_
  refine g_iload1 dL_acts_534 ?_
  refine g_iconst (v := 3) dL_acts_535 (by decide) ?_
  refine g_icmp_ne_t (tgt := 712) dL_acts_536 (by decide) (by decide) ?_
  refine g_iload1 dL_acts_712 ?_
  refine g_iconst (v := 4) dL_acts_713 (by decide) ?_
  refine g_icmp_ne_t (tgt := 822) dL_acts_714 (by decide) (by decide) ?_
  refine g_iload1 dL_acts_822 ?_
  refine g_iconst (v := 5) dL_acts_823 (by decide) ?_
  refine g_icmp_ne_f (tgt := 915) dL_acts_824 (by decide) rfl ?_
  refine g_iload2 dL_acts_827 ?_
  refine g_bipush (v := 6) dL_acts_828 (by decide) ?_
  refine g_callS2 (ct_low (m := 6) (by decide) (by decide)) md_L_low dL_acts_830 ml_L_90 st_L_low (RmOk.of (Nat.le_of_ble_eq_true rfl) (Nat.le_of_ble_eq_true rfl) (Nat.le_of_ble_eq_true rfl) (Nat.le_of_ble_eq_true rfl) (Nat.le_of_ble_eq_true rfl)) (kr_V ?_) kx_V
  refine g_istore13 dL_acts_833 ?_
  refine g_iload3 dL_acts_835 ?_
  refine g_bipush (v := 6) dL_acts_836 (by decide) ?_
  refine g_iand dL_acts_838 ?_
  refine g_if_le (tgt := 846) dL_acts_839 (by decide) (fun h839 => ?_) (fun h839 => ?_)
  · skip
    refine g_iconst (v := 0) dL_acts_846 (by decide) ?_
    refine g_istore14 dL_acts_847 ?_
    refine g_aload11 dL_acts_849 ?_
    refine g_iload13 dL_acts_851 ?_
    refine g_jiald (k := 9) hM (by decide) (by decide) dL_acts_853 (show _ < 6 from hl6) ?_
    refine g_istore15 dL_acts_854 ?_
    refine g_aload11 dL_acts_856 ?_
    refine g_iload13 dL_acts_858 ?_
    refine g_iload14 dL_acts_860 ?_
    refine g_if_eq_t (tgt := 869) dL_acts_862 (by decide) (by decide) ?_
    refine g_iconst (v := 0) dL_acts_869 (by decide) ?_
    refine g_jiast (k := 9) hM (by decide) (by decide) dL_acts_870 (show _ < 6 from hl6) (fun w1 hM => ?_)
    have hI1 := hI.keepL hZ hM
    obtain ⟨fs1, hb1⟩ := hI1.g0
    have hb1' := hI1.g0
    refine g_aload0 dL_acts_871 ?_
    refine g_bipush (v := 100) dL_acts_872 (by decide) ?_
    refine g_iload14 dL_acts_874 ?_
    refine g_callSW3 (lw_hold_IAE (y := false) hb1' (kn_hold_a hI1 (by decide))) md_L_hold dL_acts_876 ml_L_122 st_L_hold (RmOk.of (Nat.le_of_ble_eq_true rfl) (Nat.le_of_ble_eq_true rfl) (Nat.le_of_ble_eq_true rfl) (Nat.le_of_ble_eq_true rfl) (Nat.le_of_ble_eq_true rfl)) (kr_V ?_) kx_V
    refine g_bipush (v := (-71)) dL_acts_879 (by decide) ?_
    refine g_icmp_ne_f (tgt := 913) dL_acts_881 (by decide) (by decide) ?_
    refine g_aload0 dL_acts_884 ?_
    refine g_iconst (v := (-1)) dL_acts_885 (by decide) ?_
    refine g_iload14 dL_acts_886 ?_
    refine g_callSW3 (lw_hold_IAE (y := false) hb1' (kn_hold_a hI1 (by decide))) md_L_hold dL_acts_888 ml_L_122 st_L_hold (RmOk.of (Nat.le_of_ble_eq_true rfl) (Nat.le_of_ble_eq_true rfl) (Nat.le_of_ble_eq_true rfl) (Nat.le_of_ble_eq_true rfl) (Nat.le_of_ble_eq_true rfl)) (kr_V ?_) kx_V
    refine g_bipush (v := (-71)) dL_acts_891 (by decide) ?_
    refine g_icmp_ne_f (tgt := 913) dL_acts_893 (by decide) (by decide) ?_
    refine g_aload0 dL_acts_896 ?_
    refine g_iload13 dL_acts_897 ?_
    refine g_iload14 dL_acts_899 ?_
    refine g_callSW3 (by have h9 := lw_hold_0 (z := zz) hb1' (B := Inv0 G X _ kp N (updA A 28 (lowN y 6) (bI false))) (by have h9 := kn_hold_b (y := false) hI1 (show lowN y 6 < 100 by omega); rw [hz1] at h9; exact h9); exact h9) md_L_hold dL_acts_901 ml_L_122 st_L_hold (RmOk.of (Nat.le_of_ble_eq_true rfl) (Nat.le_of_ble_eq_true rfl) (Nat.le_of_ble_eq_true rfl) (Nat.le_of_ble_eq_true rfl) (Nat.le_of_ble_eq_true rfl)) (kr_B (fun w1 hw1 => ?_)) kx_B
    obtain ⟨a1, a2⟩ := hw1.after hZ hM
    clear hM
    have hM := a2
    refine g_iload15 dL_acts_904 ?_
    refine g_icmp_ne_f (tgt := 913) dL_acts_906 (by decide) hz2.symm ?_
    refine g_iconst (v := 1) dL_acts_909 (by decide) ?_
    refine g_goto (tgt := 914) dL_acts_910 (by decide) ?_
    refine g_zret dL_acts_914 (by decide) ?_ (Nat.le_of_ble_eq_true rfl) (Nat.le_of_ble_eq_true rfl)
    first | exact ⟨rfl, _, _, _, _, a1, hM, hJ.hold hl6 false⟩ | exact ⟨rfl, _, _, _, _, a1, hM, hJ.hold hl6 true⟩
  · skip
    refine g_iconst (v := 1) dL_acts_842 (by decide) ?_
    refine g_goto (tgt := 847) dL_acts_843 (by decide) ?_
    refine g_istore14 dL_acts_847 ?_
    refine g_aload11 dL_acts_849 ?_
    refine g_iload13 dL_acts_851 ?_
    refine g_jiald (k := 9) hM (by decide) (by decide) dL_acts_853 (show _ < 6 from hl6) ?_
    refine g_istore15 dL_acts_854 ?_
    refine g_aload11 dL_acts_856 ?_
    refine g_iload13 dL_acts_858 ?_
    refine g_iload14 dL_acts_860 ?_
    refine g_if_eq_f (tgt := 869) dL_acts_862 (by decide) (by decide) ?_
    refine g_iconst (v := 1) dL_acts_865 (by decide) ?_
    refine g_goto (tgt := 870) dL_acts_866 (by decide) ?_
    refine g_jiast (k := 9) hM (by decide) (by decide) dL_acts_870 (show _ < 6 from hl6) (fun w1 hM => ?_)
    have hI1 := hI.keepL hZ hM
    obtain ⟨fs1, hb1⟩ := hI1.g0
    have hb1' := hI1.g0
    refine g_aload0 dL_acts_871 ?_
    refine g_bipush (v := 100) dL_acts_872 (by decide) ?_
    refine g_iload14 dL_acts_874 ?_
    refine g_callSW3 (lw_hold_IAE (y := true) hb1' (kn_hold_a hI1 (by decide))) md_L_hold dL_acts_876 ml_L_122 st_L_hold (RmOk.of (Nat.le_of_ble_eq_true rfl) (Nat.le_of_ble_eq_true rfl) (Nat.le_of_ble_eq_true rfl) (Nat.le_of_ble_eq_true rfl) (Nat.le_of_ble_eq_true rfl)) (kr_V ?_) kx_V
    refine g_bipush (v := (-71)) dL_acts_879 (by decide) ?_
    refine g_icmp_ne_f (tgt := 913) dL_acts_881 (by decide) (by decide) ?_
    refine g_aload0 dL_acts_884 ?_
    refine g_iconst (v := (-1)) dL_acts_885 (by decide) ?_
    refine g_iload14 dL_acts_886 ?_
    refine g_callSW3 (lw_hold_IAE (y := true) hb1' (kn_hold_a hI1 (by decide))) md_L_hold dL_acts_888 ml_L_122 st_L_hold (RmOk.of (Nat.le_of_ble_eq_true rfl) (Nat.le_of_ble_eq_true rfl) (Nat.le_of_ble_eq_true rfl) (Nat.le_of_ble_eq_true rfl) (Nat.le_of_ble_eq_true rfl)) (kr_V ?_) kx_V
    refine g_bipush (v := (-71)) dL_acts_891 (by decide) ?_
    refine g_icmp_ne_f (tgt := 913) dL_acts_893 (by decide) (by decide) ?_
    refine g_aload0 dL_acts_896 ?_
    refine g_iload13 dL_acts_897 ?_
    refine g_iload14 dL_acts_899 ?_
    refine g_callSW3 (by have h9 := lw_hold_0 (z := zz) hb1' (B := Inv0 G X _ kp N (updA A 28 (lowN y 6) (bI true))) (by have h9 := kn_hold_b (y := true) hI1 (show lowN y 6 < 100 by omega); rw [hz1] at h9; exact h9); exact h9) md_L_hold dL_acts_901 ml_L_122 st_L_hold (RmOk.of (Nat.le_of_ble_eq_true rfl) (Nat.le_of_ble_eq_true rfl) (Nat.le_of_ble_eq_true rfl) (Nat.le_of_ble_eq_true rfl) (Nat.le_of_ble_eq_true rfl)) (kr_B (fun w1 hw1 => ?_)) kx_B
    obtain ⟨a1, a2⟩ := hw1.after hZ hM
    clear hM
    have hM := a2
    refine g_iload15 dL_acts_904 ?_
    refine g_icmp_ne_f (tgt := 913) dL_acts_906 (by decide) hz2.symm ?_
    refine g_iconst (v := 1) dL_acts_909 (by decide) ?_
    refine g_goto (tgt := 914) dL_acts_910 (by decide) ?_
    refine g_zret dL_acts_914 (by decide) ?_ (Nat.le_of_ble_eq_true rfl) (Nat.le_of_ble_eq_true rfl)
    first | exact ⟨rfl, _, _, _, _, a1, hM, hJ.hold hl6 false⟩ | exact ⟨rfl, _, _, _, _, a1, hM, hJ.hold hl6 true⟩

set_option maxRecDepth 100000 in
theorem ac_c2 {G : Gx} {C : Cx} {X : Nat → Prop} {am : Nat → Nat} {w : Wd} {kp : Nat} {FJ : Nat → Nat → Int64} {FI : Nat → Nat → Int32} {N : Nat → Nat} {A : Nat → Nat → Int32} {y z : Int32} (hI : Inv0 G X w kp N A w) (hZ : LAZ G X am) (hM0 : LA G am w FJ FI w) (hJ : JJ N A FJ FI) {i : Nat} {w1 : Wd} {x15 : Option Value} {ac ki fp ru ln : Nat} (a1 : ac ≤ 100) (a2 : ki < 4) (a3 : fp + ln ≤ N 6) (a5 : ru < N 13) (a7 : A 21 i = nI ki) (a10 : A 22 i = A 14 ru) (a11 : FI 5 i = nI (ac + 128 * ki + 512 * fp + 32768 * ru)) (hi : i < N 17) (hM : LA G am w FJ (setI FI 6 (clF (FI 6) (clB A (nI (N 1))) i)) w1) (h23 : A 23 i = 0) (hst : stB A i = false) (hnext : ∀ (w2 : Wd) (x15 : Option Value), LA G am w FJ (setI FI 6 (clF (FI 6) (clB A (nI (N 1))) (i + 1))) w2 → Go G rm_L_acts cL_acts RL ((some .boolean), "acts", []) C (QP G rm_L_acts (PB (.int 1) (St G X am kp)) C) 921 [some (.ref kp), some (.int (nI 6)), some (.int y), some (.int z), some (.ref (am 2)), some (.ref (am 3)), some (.ref (am 4)), some (.ref (am 5)), some (.ref (am 6)), some (.ref (am 7)), some (.ref (am 8)), some (.ref (am 9)), some (.ref (am 10)), some (.int (nI (cnB (clB A (nI (N 1))) (i + 1)))), some (.int (nI (i + 1))), x15, none, none] [] w2 0 0) : Go G rm_L_acts cL_acts RL ((some .boolean), "acts", []) C (QP G rm_L_acts (PB (.int 1) (St G X am kp)) C) 973 [some (.ref kp), some (.int (nI 6)), some (.int y), some (.int z), some (.ref (am 2)), some (.ref (am 3)), some (.ref (am 4)), some (.ref (am 5)), some (.ref (am 6)), some (.ref (am 7)), some (.ref (am 8)), some (.ref (am 9)), some (.ref (am 10)), some (.int (nI (cnB (clB A (nI (N 1))) i))), some (.int (nI i)), x15, none, none] [] w1 0 0 := by
  have hJ0 := hJ
  obtain ⟨⟨G0, G1, G2, G3, G4, G5⟩, ⟨b1, b2, b3, b4, b5, b6⟩, hO, hP, hF, hR, hD, hV, hS, hT⟩ := hJ0
  have hb := hI.g0
  obtain ⟨fs0, hb0⟩ := hI.g0
  obtain ⟨f, mm, dy, hdy, hm1, hfm, e15, e16, e14, e3⟩ := hR ru a5
  obtain ⟨x, hx, hx1, hx2⟩ := hS ki a2
  have hcmp : A 22 i + A 27 (A 21 i).toNatClampNeg = nI (dy + x) := by rw [a7, nI_clamp (by omega), a10, e14, hx1, nI_add]
  refine g_aload12 dL_acts_973 ?_
  refine g_iconst (v := 0) dL_acts_975 (by decide) ?_
  refine g_jiald (k := 10) (i := 0) hM (by decide) (by decide) dL_acts_976 (show _ < 6 from by omega) ?_
  rw [show (setI FI 6 (clF (FI 6) (clB A (nI (N 1))) i)) 10 0 = nI (N 1) from G0]
  refine g_aload5 dL_acts_977 ?_
  refine g_aload7 dL_acts_979 ?_
  refine g_iload14 dL_acts_981 ?_
  refine g_jiald (k := 5) hM (by decide) (by decide) dL_acts_983 (show _ < 60 from by omega) ?_
  rw [show (setI FI 6 (clF (FI 6) (clB A (nI (N 1))) i)) 5 i = nI (ac + 128 * ki + 512 * fp + 32768 * ru) from a11]
  refine g_bipush (v := 15) dL_acts_984 (by decide) ?_
  refine g_ishr dL_acts_986 ?_
  rw [(pd_d a1 a2 (show fp < 64 by omega) (show ru < 15 by omega)).2.2.2]
  refine g_jiald (k := 3) hM (by decide) (by decide) dL_acts_987 (show _ < 15 from by omega) ?_
  rw [show (setI FI 6 (clF (FI 6) (clB A (nI (N 1))) i)) 3 ru = nI (f + 64 * mm + 4096 * dy) from e3]
  refine g_bipush (v := 12) dL_acts_988 (by decide) ?_
  refine g_ishr dL_acts_990 ?_
  rw [(pd_r hdy (show f < 64 by omega) (show mm < 64 by omega)).2.2.1]
  refine g_aload10 dL_acts_991 ?_
  refine g_aload7 dL_acts_993 ?_
  refine g_iload14 dL_acts_995 ?_
  refine g_jiald (k := 5) hM (by decide) (by decide) dL_acts_997 (show _ < 60 from by omega) ?_
  rw [show (setI FI 6 (clF (FI 6) (clB A (nI (N 1))) i)) 5 i = nI (ac + 128 * ki + 512 * fp + 32768 * ru) from a11]
  refine g_bipush (v := 7) dL_acts_998 (by decide) ?_
  refine g_ishr dL_acts_1000 ?_
  refine g_iconst (v := 3) dL_acts_1001 (by decide) ?_
  refine g_iand dL_acts_1002 ?_
  rw [(pd_d a1 a2 (show fp < 64 by omega) (show ru < 15 by omega)).2.1]
  refine g_jiald (k := 8) hM (by decide) (by decide) dL_acts_1003 (show _ < 4 from by omega) ?_
  rw [show (setI FI 6 (clF (FI 6) (clB A (nI (N 1))) i)) 8 ki = nI x from hx2]
  refine g_iadd dL_acts_1004 ?_
  rw [nI_add]
  refine g_icmp_gt (tgt := 1011) dL_acts_1005 (by decide) (fun h1005 => ?_) (fun h1005 => ?_)
  · skip
    have hPi : clB A (nI (N 1)) i = true := by
      unfold clB
      rw [h23, hst, hcmp, decide_eq_false (Int32.not_le.mpr h1005)]; rfl
    refine g_aload8 dL_acts_1011 ?_
    refine g_iload14 dL_acts_1013 ?_
    refine g_aload8 dL_acts_1015 ?_
    refine g_iload14 dL_acts_1017 ?_
    refine g_jiald (k := 6) hM (by decide) (by decide) dL_acts_1019 (show _ < 60 from by omega) ?_
    rw [show (setI FI 6 (clF (FI 6) (clB A (nI (N 1))) i)) 6 i = FI 6 i from clF_at]
    refine g_ineg dL_acts_1020 ?_
    refine g_jiast (k := 6) hM (by decide) (by decide) dL_acts_1021 (show _ < 60 from by omega) (fun w1 hM => ?_)
    rw [setI_upd] at hM
    refine g_iinc13 (v' := (nI (cnB (clB A (nI (N 1))) i + 1))) dL_acts_1022 (nI_1 _) ?_
    refine g_iinc14 (v' := (nI (i + 1))) dL_acts_1025 (nI_1 _) ?_
    refine g_goto (tgt := 921) dL_acts_1028 (by decide) ?_
    rw [← clF_t hPi] at hnext
    rw [show cnB (clB A (nI (N 1))) (i + 1) = cnB (clB A (nI (N 1))) i + 1 from (show cnB (clB A (nI (N 1))) i + (if clB A (nI (N 1)) i = true then 1 else 0) = _ by rw [hPi]; rfl)] at hnext
    exact hnext _ _ hM
  · skip
    have hPi : clB A (nI (N 1)) i = false := by
      unfold clB
      rw [hcmp, decide_eq_true (Int32.not_lt.mp h1005)]; simp
    refine g_goto (tgt := 1025) dL_acts_1008 (by decide) ?_
    refine g_iinc14 (v' := (nI (i + 1))) dL_acts_1025 (nI_1 _) ?_
    refine g_goto (tgt := 921) dL_acts_1028 (by decide) ?_
    rw [← clF_f hPi] at hnext
    rw [show cnB (clB A (nI (N 1))) (i + 1) = cnB (clB A (nI (N 1))) i from (show cnB (clB A (nI (N 1))) i + (if clB A (nI (N 1)) i = true then 1 else 0) = _ by rw [hPi]; rfl)] at hnext
    exact hnext _ _ hM

set_option maxRecDepth 100000 in
theorem ac_c {G : Gx} {C : Cx} {X : Nat → Prop} {am : Nat → Nat} {w : Wd} {kp : Nat} {FJ : Nat → Nat → Int64} {FI : Nat → Nat → Int32} {N : Nat → Nat} {A : Nat → Nat → Int32} {y z : Int32} (hI : Inv0 G X w kp N A w) (hZ : LAZ G X am) (hM0 : LA G am w FJ FI w) (hJ : JJ N A FJ FI) : ∀ (M i : Nat) (w1 : Wd) (x15 : Option Value), N 17 - i < M → i ≤ N 17 → LA G am w FJ (setI FI 6 (clF (FI 6) (clB A (nI (N 1))) i)) w1 →
    Go G rm_L_acts cL_acts RL ((some .boolean), "acts", []) C (QP G rm_L_acts (PB (.int 1) (St G X am kp)) C) 921 [some (.ref kp), some (.int (nI 6)), some (.int y), some (.int z), some (.ref (am 2)), some (.ref (am 3)), some (.ref (am 4)), some (.ref (am 5)), some (.ref (am 6)), some (.ref (am 7)), some (.ref (am 8)), some (.ref (am 9)), some (.ref (am 10)), some (.int (nI (cnB (clB A (nI (N 1))) i))), some (.int (nI i)), x15, none, none] [] w1 0 0 := by
  have hJ0 := hJ
  obtain ⟨⟨G0, G1, G2, G3, G4, G5⟩, hB9, hO, hP, hF, hR, hD, hV, hS, hT⟩ := hJ0
  obtain ⟨b1, b2, b3, b4, b5, b6⟩ := id hB9
  intro M
  induction M with
  | zero => intro i w1 x15 hM9; exact absurd hM9 (Nat.not_lt_zero _)
  | succ M ih =>
    intro i w1 x15 hi9 hi hM
    refine g_iload14 dL_acts_921 ?_
    refine g_aload12 dL_acts_923 ?_
    refine g_iconst (v := 5) dL_acts_925 (by decide) ?_
    refine g_jiald (k := 10) (i := 5) hM (by decide) (by decide) dL_acts_926 (show _ < 6 from by omega) ?_
    rw [show (setI FI 6 (clF (FI 6) (clB A (nI (N 1))) i)) 10 5 = nI (N 17) from G5]
    refine g_icmp_ge (tgt := 1031) dL_acts_927 (by decide) (fun h927 => ?_) (fun h927 => ?_)
    · skip
      have hin : i = N 17 := by have := idx_ge (by omega) (by omega) h927; omega
      subst hin
      have hI1 := hI.keepL hZ hM
      obtain ⟨fs1, hb1⟩ := hI1.g0
      have hb1' := hI1.g0
      refine g_aload0 dL_acts_1031 ?_
      refine g_callV0 kc6 (kn_clear hI1) md_X5_clear dL_acts_1032 ml_L_125 im_X5_clear se_X5_clear hb1 (RmOk.of (Nat.le_of_ble_eq_true rfl) (Nat.le_of_ble_eq_true rfl) (Nat.le_of_ble_eq_true rfl) (Nat.le_of_ble_eq_true rfl) (Nat.le_of_ble_eq_true rfl)) (kr_B (fun w1 hw1 => ?_)) kx_B
      obtain ⟨a1, a2⟩ := hw1.after hZ hM
      clear hM
      have hM := a2
      refine g_iload13 dL_acts_1035 ?_
      refine g_icmp_ne_f (tgt := 1044) dL_acts_1037 (by decide) rfl ?_
      refine g_iconst (v := 1) dL_acts_1040 (by decide) ?_
      refine g_goto (tgt := 1045) dL_acts_1041 (by decide) ?_
      refine g_zret dL_acts_1045 (by decide) ?_ (Nat.le_of_ble_eq_true rfl) (Nat.le_of_ble_eq_true rfl)
      exact ⟨rfl, _, _, _, _, a1, hM, hJ.clear⟩
    · skip
      have hlt : i < N 17 := by have := idx_lt (by omega) (by omega) h927; omega
      obtain ⟨ac, ki, fp, ru, ln, a1, a2, a3, a4, a5, a6, a7, a8, a9, a10, a11, a12⟩ := hD i hlt
      have hd6 : jdR N A (setI FI 6 (clF (FI 6) (clB A (nI (N 1))) i)) i := jdR_G.mpr ((jdR_G.mp (hD i hlt)).of (Nat.le_refl _) (Nat.le_refl _) (fun _ _ => rfl) (fun _ _ _ => rfl) rfl clF_at)
      have hnx := fun (w2 : Wd) (x15 : Option Value) => ih (i + 1) w2 x15 (by omega) (by omega)
      rcases a12 with ⟨h23, hn6⟩ | ⟨h23, hn6⟩
      · cases ac with
        | zero =>
          refine g_aload7 dL_acts_930 ?_
          refine g_iload14 dL_acts_932 ?_
          refine g_jiald (k := 5) hM (by decide) (by decide) dL_acts_934 (show _ < 60 from by omega) ?_
          rw [show (setI FI 6 (clF (FI 6) (clB A (nI (N 1))) i)) 5 i = nI (0 + 128 * ki + 512 * fp + 32768 * ru) from a11]
          refine g_bipush (v := 127) dL_acts_935 (by decide) ?_
          refine g_iand dL_acts_937 ?_
          rw [(pd_d a1 a2 (show fp < 64 by omega) (show ru < 15 by omega)).1]
          refine g_iconst (v := 1) dL_acts_938 (by decide) ?_
          refine g_isub dL_acts_939 ?_
          refine g_istore15 dL_acts_940 ?_
          refine g_aload8 dL_acts_942 ?_
          refine g_iload14 dL_acts_944 ?_
          refine g_callS2 (ct_isThere hM hB9 hlt hd6) md_L_isThere dL_acts_946 ml_L_81 st_L_isThere (RmOk.of (Nat.le_of_ble_eq_true rfl) (Nat.le_of_ble_eq_true rfl) (Nat.le_of_ble_eq_true rfl) (Nat.le_of_ble_eq_true rfl) (Nat.le_of_ble_eq_true rfl)) (kr_V ?_) kx_V
          rw [h23]
          refine g_if_eq_f (tgt := 1025) dL_acts_949 (by decide) (by decide) ?_
          refine g_iload15 dL_acts_952 ?_
          refine g_if_lt_t (tgt := 973) dL_acts_954 (by decide) (by decide) ?_
          exact ac_c2 hI hZ hM0 hJ a1 a2 a3 a5 a7 a10 a11 hlt hM h23 (by unfold stB; rw [a6]; rfl) hnx
        | succ a =>
          have hA20 : A 20 i = nI a := a6.trans (nI_pred a)
          by_cases h6 : 6 ≤ a
          · skip
            refine g_aload7 dL_acts_930 ?_
            refine g_iload14 dL_acts_932 ?_
            refine g_jiald (k := 5) hM (by decide) (by decide) dL_acts_934 (show _ < 60 from by omega) ?_
            rw [show (setI FI 6 (clF (FI 6) (clB A (nI (N 1))) i)) 5 i = nI (a + 1 + 128 * ki + 512 * fp + 32768 * ru) from a11]
            refine g_bipush (v := 127) dL_acts_935 (by decide) ?_
            refine g_iand dL_acts_937 ?_
            rw [(pd_d a1 a2 (show fp < 64 by omega) (show ru < 15 by omega)).1]
            refine g_iconst (v := 1) dL_acts_938 (by decide) ?_
            refine g_isub dL_acts_939 ?_
            rw [nI_pred]
            refine g_istore15 dL_acts_940 ?_
            refine g_aload8 dL_acts_942 ?_
            refine g_iload14 dL_acts_944 ?_
            refine g_callS2 (ct_isThere hM hB9 hlt hd6) md_L_isThere dL_acts_946 ml_L_81 st_L_isThere (RmOk.of (Nat.le_of_ble_eq_true rfl) (Nat.le_of_ble_eq_true rfl) (Nat.le_of_ble_eq_true rfl) (Nat.le_of_ble_eq_true rfl) (Nat.le_of_ble_eq_true rfl)) (kr_V ?_) kx_V
            rw [h23]
            refine g_if_eq_f (tgt := 1025) dL_acts_949 (by decide) (by decide) ?_
            refine g_iload15 dL_acts_952 ?_
            refine g_if_lt_f (tgt := 973) dL_acts_954 (by decide) (nI_pos (by omega)) ?_
            refine g_iload15 dL_acts_957 ?_
            refine g_bipush (v := 6) dL_acts_959 (by decide) ?_
            refine g_icmp_ge_t (tgt := 973) dL_acts_961 (by decide) (nI_le (a := 6) h6 (by omega)) ?_
            exact ac_c2 hI hZ hM0 hJ a1 a2 a3 a5 a7 a10 a11 hlt hM h23 (by unfold stB; rw [hA20, nI_clamp (by omega), hT.2 a h6 (by omega)]; exact Bool.and_false _) hnx
          · obtain ⟨zz, hz1, hz2⟩ := hT.1 a (by omega)
            cases zz with
            | true =>
              have hPi : clB A (nI (N 1)) i = false := by
                unfold clB stB
                rw [hA20, nI_clamp (by omega), hz1, decide_eq_false (ne_m1 (show a < 2 ^ 31 by omega))]
                simp [bI]
              refine g_aload7 dL_acts_930 ?_
              refine g_iload14 dL_acts_932 ?_
              refine g_jiald (k := 5) hM (by decide) (by decide) dL_acts_934 (show _ < 60 from by omega) ?_
              rw [show (setI FI 6 (clF (FI 6) (clB A (nI (N 1))) i)) 5 i = nI (a + 1 + 128 * ki + 512 * fp + 32768 * ru) from a11]
              refine g_bipush (v := 127) dL_acts_935 (by decide) ?_
              refine g_iand dL_acts_937 ?_
              rw [(pd_d a1 a2 (show fp < 64 by omega) (show ru < 15 by omega)).1]
              refine g_iconst (v := 1) dL_acts_938 (by decide) ?_
              refine g_isub dL_acts_939 ?_
              rw [nI_pred]
              refine g_istore15 dL_acts_940 ?_
              refine g_aload8 dL_acts_942 ?_
              refine g_iload14 dL_acts_944 ?_
              refine g_callS2 (ct_isThere hM hB9 hlt hd6) md_L_isThere dL_acts_946 ml_L_81 st_L_isThere (RmOk.of (Nat.le_of_ble_eq_true rfl) (Nat.le_of_ble_eq_true rfl) (Nat.le_of_ble_eq_true rfl) (Nat.le_of_ble_eq_true rfl) (Nat.le_of_ble_eq_true rfl)) (kr_V ?_) kx_V
              rw [h23]
              refine g_if_eq_f (tgt := 1025) dL_acts_949 (by decide) (by decide) ?_
              refine g_iload15 dL_acts_952 ?_
              refine g_if_lt_f (tgt := 973) dL_acts_954 (by decide) (nI_pos (by omega)) ?_
              refine g_iload15 dL_acts_957 ?_
              refine g_bipush (v := 6) dL_acts_959 (by decide) ?_
              refine g_icmp_ge_f (tgt := 973) dL_acts_961 (by decide) (nI_ge (b := 6) (by omega) (by decide)) ?_
              refine g_aload11 dL_acts_964 ?_
              refine g_iload15 dL_acts_966 ?_
              refine g_jiald (k := 9) hM (by decide) (by decide) dL_acts_968 (show _ < 6 from by omega) ?_
              rw [show (setI FI 6 (clF (FI 6) (clB A (nI (N 1))) i)) 9 a = bI true from hz2]
              refine g_iconst (v := 1) dL_acts_969 (by decide) ?_
              refine g_icmp_eq_t (tgt := 1025) dL_acts_970 (by decide) rfl ?_
              refine g_iinc14 (v' := (nI (i + 1))) dL_acts_1025 (nI_1 _) ?_
              refine g_goto (tgt := 921) dL_acts_1028 (by decide) ?_
              rw [← clF_f hPi] at hnx
              rw [show cnB (clB A (nI (N 1))) (i + 1) = cnB (clB A (nI (N 1))) i from (show cnB (clB A (nI (N 1))) i + (if clB A (nI (N 1)) i = true then 1 else 0) = _ by rw [hPi]; rfl)] at hnx
              exact hnx _ _ hM
            | false =>
              refine g_aload7 dL_acts_930 ?_
              refine g_iload14 dL_acts_932 ?_
              refine g_jiald (k := 5) hM (by decide) (by decide) dL_acts_934 (show _ < 60 from by omega) ?_
              rw [show (setI FI 6 (clF (FI 6) (clB A (nI (N 1))) i)) 5 i = nI (a + 1 + 128 * ki + 512 * fp + 32768 * ru) from a11]
              refine g_bipush (v := 127) dL_acts_935 (by decide) ?_
              refine g_iand dL_acts_937 ?_
              rw [(pd_d a1 a2 (show fp < 64 by omega) (show ru < 15 by omega)).1]
              refine g_iconst (v := 1) dL_acts_938 (by decide) ?_
              refine g_isub dL_acts_939 ?_
              rw [nI_pred]
              refine g_istore15 dL_acts_940 ?_
              refine g_aload8 dL_acts_942 ?_
              refine g_iload14 dL_acts_944 ?_
              refine g_callS2 (ct_isThere hM hB9 hlt hd6) md_L_isThere dL_acts_946 ml_L_81 st_L_isThere (RmOk.of (Nat.le_of_ble_eq_true rfl) (Nat.le_of_ble_eq_true rfl) (Nat.le_of_ble_eq_true rfl) (Nat.le_of_ble_eq_true rfl) (Nat.le_of_ble_eq_true rfl)) (kr_V ?_) kx_V
              rw [h23]
              refine g_if_eq_f (tgt := 1025) dL_acts_949 (by decide) (by decide) ?_
              refine g_iload15 dL_acts_952 ?_
              refine g_if_lt_f (tgt := 973) dL_acts_954 (by decide) (nI_pos (by omega)) ?_
              refine g_iload15 dL_acts_957 ?_
              refine g_bipush (v := 6) dL_acts_959 (by decide) ?_
              refine g_icmp_ge_f (tgt := 973) dL_acts_961 (by decide) (nI_ge (b := 6) (by omega) (by decide)) ?_
              refine g_aload11 dL_acts_964 ?_
              refine g_iload15 dL_acts_966 ?_
              refine g_jiald (k := 9) hM (by decide) (by decide) dL_acts_968 (show _ < 6 from by omega) ?_
              rw [show (setI FI 6 (clF (FI 6) (clB A (nI (N 1))) i)) 9 a = bI false from hz2]
              refine g_iconst (v := 1) dL_acts_969 (by decide) ?_
              refine g_icmp_eq_f (tgt := 1025) dL_acts_970 (by decide) (by decide) ?_
              exact ac_c2 hI hZ hM0 hJ a1 a2 a3 a5 a7 a10 a11 hlt hM h23 (by unfold stB; rw [hA20, nI_clamp (by omega), hz1]; exact Bool.and_false _) hnx
      · have hPi : clB A (nI (N 1)) i = false := by
          unfold clB
          rw [h23]; rfl
        refine g_aload7 dL_acts_930 ?_
        refine g_iload14 dL_acts_932 ?_
        refine g_jiald (k := 5) hM (by decide) (by decide) dL_acts_934 (show _ < 60 from by omega) ?_
        rw [show (setI FI 6 (clF (FI 6) (clB A (nI (N 1))) i)) 5 i = nI (ac + 128 * ki + 512 * fp + 32768 * ru) from a11]
        refine g_bipush (v := 127) dL_acts_935 (by decide) ?_
        refine g_iand dL_acts_937 ?_
        rw [(pd_d a1 a2 (show fp < 64 by omega) (show ru < 15 by omega)).1]
        refine g_iconst (v := 1) dL_acts_938 (by decide) ?_
        refine g_isub dL_acts_939 ?_
        refine g_istore15 dL_acts_940 ?_
        refine g_aload8 dL_acts_942 ?_
        refine g_iload14 dL_acts_944 ?_
        refine g_callS2 (ct_isThere hM hB9 hlt hd6) md_L_isThere dL_acts_946 ml_L_81 st_L_isThere (RmOk.of (Nat.le_of_ble_eq_true rfl) (Nat.le_of_ble_eq_true rfl) (Nat.le_of_ble_eq_true rfl) (Nat.le_of_ble_eq_true rfl) (Nat.le_of_ble_eq_true rfl)) (kr_V ?_) kx_V
        rw [h23]
        refine g_if_eq_t (tgt := 1025) dL_acts_949 (by decide) (by decide) ?_
        refine g_iinc14 (v' := (nI (i + 1))) dL_acts_1025 (nI_1 _) ?_
        refine g_goto (tgt := 921) dL_acts_1028 (by decide) ?_
        rw [← clF_f hPi] at hnx
        rw [show cnB (clB A (nI (N 1))) (i + 1) = cnB (clB A (nI (N 1))) i from (show cnB (clB A (nI (N 1))) i + (if clB A (nI (N 1)) i = true then 1 else 0) = _ by rw [hPi]; rfl)] at hnx
        exact hnx _ _ hM

set_option maxRecDepth 100000 in
theorem ct_ac6 {G : Gx} {X : Nat → Prop} {am : Nat → Nat} {w : Wd} {kp : Nat} {FJ : Nat → Nat → Int64} {FI : Nat → Nat → Int32} {N : Nat → Nat} {A : Nat → Nat → Int32} {y z : Int32} (hI : Inv0 G X w kp N A w) (hZ : LAZ G X am) (hM : LA G am w FJ FI w) (hJ : JJ N A FJ FI) : Ct G yL_acts kw_L_acts rm_L_acts [.ref kp, .int (nI 6), .int y, .int z, .ref (am 2), .ref (am 3), .ref (am 4), .ref (am 5), .ref (am 6), .ref (am 7), .ref (am 8), .ref (am 9), .ref (am 10)] w (PB (.int 1) (St G X am kp)) := by
  refine ct_intro RL "acts" (by decide +kernel) rfl rfl rfl (Nat.le_of_ble_eq_true rfl) [some (.ref kp), some (.int (nI 6)), some (.int y), some (.int z), some (.ref (am 2)), some (.ref (am 3)), some (.ref (am 4)), some (.ref (am 5)), some (.ref (am 6)), some (.ref (am 7)), some (.ref (am 8)), some (.ref (am 9)), some (.ref (am 10)), none, none, none, none, none] rfl (fun C => ?_)
  refine g_iload1 dL_acts_0 ?_
  refine g_if_ne_t (tgt := 119) dL_acts_1 (by decide) (by decide) ?_
  refine g_iload1 dL_acts_119 ?_
  refine g_iconst (v := 1) dL_acts_120 (by decide) ?_
  refine g_icmp_ne_t (tgt := 336) dL_acts_121 (by decide) (by decide) ?_
  refine g_iload1 dL_acts_336 ?_
  refine g_iconst (v := 2) dL_acts_337 (by decide) ?_
  refine g_icmp_ne_t (tgt := 534) dL_acts_338 (by decide) (by decide) ?_
  refine g_iload1 dL_acts_534 ?_
  refine g_iconst (v := 3) dL_acts_535 (by decide) ?_
  refine g_icmp_ne_t (tgt := 712) dL_acts_536 (by decide) (by decide) ?_
  refine g_iload1 dL_acts_712 ?_
  refine g_iconst (v := 4) dL_acts_713 (by decide) ?_
  refine g_icmp_ne_t (tgt := 822) dL_acts_714 (by decide) (by decide) ?_
  refine g_iload1 dL_acts_822 ?_
  refine g_iconst (v := 5) dL_acts_823 (by decide) ?_
  refine g_icmp_ne_t (tgt := 915) dL_acts_824 (by decide) (by decide) ?_
  refine g_iconst (v := 0) dL_acts_915 (by decide) ?_
  refine g_istore13 dL_acts_916 ?_
  refine g_iconst (v := 0) dL_acts_918 (by decide) ?_
  refine g_istore14 dL_acts_919 ?_
  exact ac_c hI hZ hM hJ (N 17 + 1) 0 w none (by omega) (Nat.zero_le _) (hM.to rfl (by rw [clF_0, setI_0]))

theorem ct_acts {G : Gx} {X : Nat → Prop} {am : Nat → Nat} {w : Wd} {kp : Nat} {FJ : Nat → Nat → Int64} {FI : Nat → Nat → Int32} {N : Nat → Nat} {A : Nat → Nat → Int32} {y z : Int32} (hI : Inv0 G X w kp N A w) (hZ : LAZ G X am) (hM : LA G am w FJ FI w) (hJ : JJ N A FJ FI) {act : Nat} (ha : act < 7) : Ct G yL_acts kw_L_acts rm_L_acts [.ref kp, .int (nI act), .int y, .int z, .ref (am 2), .ref (am 3), .ref (am 4), .ref (am 5), .ref (am 6), .ref (am 7), .ref (am 8), .ref (am 9), .ref (am 10)] w (PB (.int 1) (St G X am kp)) := by
  match act, ha with
  | 0, _ => exact ct_ac0 hI hZ hM hJ
  | 1, _ => exact ct_ac1 hI hZ hM hJ
  | 2, _ => exact ct_ac2 hI hZ hM hJ
  | 3, _ => exact ct_ac3 hI hZ hM hJ
  | 4, _ => exact ct_ac4 hI hZ hM hJ
  | 5, _ => exact ct_ac5 hI hZ hM hJ
  | 6, _ => exact ct_ac6 hI hZ hM hJ
  | n + 7, h => exact absurd h (by omega)

