/-! types: line, feed, end. -/
theorem pgv_congr {f g : Nat → Int32} {a b n : Nat} (h : ∀ k, k < n → f (a + k) = g (b + k)) : pgv n f a = pgv n g b := by
  unfold pgv
  rw [pgk_congr (fun k hk => ?_)]
  unfold pgf
  rw [h k hk]
def St (G : Gx) (X : Nat → Prop) (am : Nat → Nat) (kp : Nat) (w : Wd) : Prop := ∃ N A FJ FI, Inv0 G X w kp N A w ∧ LA G am w FJ FI w ∧ JJ N A FJ FI
section JSteps
variable {N : Nat → Nat} {A FI : Nat → Nat → Int32} {FJ : Nat → Nat → Int64}
theorem JJ.line (h : JJ N A FJ FI) {a : Nat} (ha : a < 100) (h8 : N 10 < 8) : JJ (updN N 10 (N 10 + 1)) (updA A 11 (N 10) (nI a)) (updJ FJ 0 0 (pgv (N 10 + 1) (upd (A 11) (N 10) (nI a)) 0)) FI := by
  obtain ⟨hG, ⟨b1, b2, b3, b4, b5, b6⟩, hO, hP, hF, hR, hD, hV, hS, hT⟩ := h
  refine ⟨hG, ⟨b1, b2, b3, ?_, b5, b6⟩, ⟨?_, ?_⟩, hP, hF, hR, hD, hV, hS, hT⟩
  · show updN N 10 (N 10 + 1) 10 ≤ 8
    rw [updN_s]; omega
  · intro k hk
    have hk : k < updN N 10 (N 10 + 1) 10 := hk
    rw [updN_s] at hk
    show ∃ v, v < 100 ∧ upd (A 11) (N 10) (nI a) (0 + k) = nI v
    rw [Nat.zero_add]
    by_cases e : k = N 10
    · rw [e, upd_s]; exact ⟨a, ha, rfl⟩
    · rw [upd_n e]
      have h9 := hO.1 k (by omega)
      rw [Nat.zero_add] at h9
      exact h9
  · show vp_updL (FJ 0) 0 _ 0 = pgv (updN N 10 (N 10 + 1) 10) (upd (A 11) (N 10) (nI a)) 0
    rw [updN_s]
    exact pk_uLs
theorem JJ.close (h : JJ N A FJ FI) (h6 : N 6 + N 7 + 1 ≤ 59) : JJ (ePN N) (ePA N A) (updJ (updJ FJ 1 (N 6 + N 7) (FJ 0 0)) 0 0 0) (updA (updA FI 2 (N 6 + N 7) 1) 10 3 (nI (N 7 + 1))) := by
  obtain ⟨⟨G0, G1, G2, G3, G4, G5⟩, ⟨b1, b2, b3, b4, b5, b6⟩, hO, hP, hF, hR, hD, hV, hS, hT⟩ := h
  have e8 : ePA N A 8 = upd (A 8) (N 6 + N 7) (nI (N 10)) := rfl
  have e9 : ∀ q, ePA N A 9 q = if 8 * (N 6 + N 7) ≤ q ∧ q < 8 * (N 6 + N 7) + N 10 then A 11 (q - 8 * (N 6 + N 7)) else A 9 q := fun q => rfl
  have e12 : ePA N A 12 = upd (A 12) (N 6 + N 7) 1 := rfl
  refine ⟨⟨G0, G1, G2, upd_s (FI 10) 3 _, G4, G5⟩, ⟨b1, b2, ?_, Nat.zero_le _, b5, b6⟩, ⟨fun k hk => absurd hk (Nat.not_lt_zero _), (show vp_updL (updJ FJ 1 (N 6 + N 7) (FJ 0 0) 0) 0 0 0 = _ from pk_uLs).trans rfl⟩, ?_, hF, hR, hD, hV, hS, hT⟩
  · show N 6 + (N 7 + 1) ≤ 59
    omega
  · intro q hq
    have hq : q < N 6 + (N 7 + 1) := hq
    show upd (FI 2) (N 6 + N 7) 1 q = ePA N A 12 q ∧ ∃ m, m ≤ 8 ∧ ePA N A 8 q = nI m ∧ vOk (ePA N A 9) (8 * q) m ∧ vp_updL (FJ 1) (N 6 + N 7) (FJ 0 0) q = pgv m (ePA N A 9) (8 * q)
    rw [e8, e12]
    by_cases e : q = N 6 + N 7
    · rw [e, upd_s, upd_s, upd_s, pk_uLs]
      have e11 : ∀ k, k < N 10 → ePA N A 9 (8 * (N 6 + N 7) + k) = A 11 (0 + k) := fun k hk => by
        rw [e9, if_pos ⟨by omega, by omega⟩]
        congr 1
        omega
      refine ⟨rfl, N 10, b4, rfl, fun k hk => ?_, ?_⟩
      · rw [e11 k hk]; exact hO.1 k hk
      · rw [hO.2]; exact pgv_congr (fun k hk => (e11 k hk).symm)
    · rw [upd_n e, upd_n e, upd_n e, pk_uLn e]
      obtain ⟨c1, m, c2, c3, c4, c5⟩ := hP q (by omega)
      have e11 : ∀ k, k < m → ePA N A 9 (8 * q + k) = A 9 (8 * q + k) := fun k hk => by
        rw [e9, if_neg (by omega)]
      refine ⟨c1, m, c2, c3, fun k hk => ?_, ?_⟩
      · rw [e11 k hk]; exact c4 k hk
      · rw [c5]; exact pgv_congr (fun k hk => (e11 k hk).symm)
theorem Inv0.fmOk {G : Gx} {X : Nat → Prop} {w0 w : Wd} {kp : Nat} (h : Inv0 G X w0 kp N A w) : ∃ la ka, la < 8 ∧ ka < 8 ∧ fmOk N A la ka := by
  obtain ⟨S, h1, h2, h3⟩ := h
  exact h2.fmOk
theorem eds13 {la ka : Nat} : (edS la ka (N, A)).1 13 = N 13 + 1 := by
  show (ptL la ka (N 6) (N 7) (N, A)).1 13 + 1 = _
  rw [ptL_N (by decide)]
end JSteps

abbrev rm_L_types : Room := { frames := 11, cells := 320, slots := 2800, locals := 280 }

set_option maxRecDepth 100000 in
theorem ty_a8 {G : Gx} {C : Cx} {X : Nat → Prop} {am : Nat → Nat} {w : Wd} {kp : Nat} {FJ : Nat → Nat → Int64} {FI : Nat → Nat → Int32} {N : Nat → Nat} {A : Nat → Nat → Int32} {act : Nat} {y : Int32} (hI : Inv0 G X w kp N A w) (hZ : LAZ G X am) (hM : LA G am w FJ FI w) (hJ : JJ N A FJ FI) {v : Nat} (hv : v < 100) (h8 : N 10 = 8) : Go G rm_L_types cL_types RL ((some .boolean), "types", []) C (QP G rm_L_types (PB (.int 1) (St G X am kp)) C) 32 [some (.ref kp), some (.int (nI act)), some (.int y), some (.ref (am 0)), some (.ref (am 1)), some (.ref (am 2)), some (.ref (am 3)), some (.ref (am 4)), some (.ref (am 5)), some (.ref (am 6)), some (.ref (am 10)), none, none] [.int (nI v)] w 0 0 := by
  have hJ0 := hJ
  obtain ⟨⟨G0, G1, G2, G3, G4, G5⟩, ⟨b1, b2, b3, b4, b5, b6⟩, hO, hP, hF, hR, hD, hV, hS, hT⟩ := hJ0
  have hb := hI.g0
  obtain ⟨fs0, hb0⟩ := hI.g0
  refine g_istore11 dL_types_32 ?_
  refine g_aload3 dL_types_34 ?_
  refine g_iconst (v := 0) dL_types_35 (by decide) ?_
  refine g_jlald (k := 0) (i := 0) hM (by decide) dL_types_36 (show _ < 1 from by omega) ?_
  rw [hO.2]
  refine g_callS1 (ct_lines b4 hO.1) md_L_lines dL_types_37 ml_L_73 st_L_lines (RmOk.of (Nat.le_of_ble_eq_true rfl) (Nat.le_of_ble_eq_true rfl) (Nat.le_of_ble_eq_true rfl) (Nat.le_of_ble_eq_true rfl) (Nat.le_of_ble_eq_true rfl)) (kr_V ?_) kx_V
  refine g_istore12 dL_types_40 ?_
  refine g_aload0 dL_types_42 ?_
  refine g_bipush (v := 100) dL_types_43 (by decide) ?_
  refine g_callSW2 (lw_line_IAE hb (kn_line_a hI (by decide))) md_L_line dL_types_45 ml_L_93 st_L_line (RmOk.of (Nat.le_of_ble_eq_true rfl) (Nat.le_of_ble_eq_true rfl) (Nat.le_of_ble_eq_true rfl) (Nat.le_of_ble_eq_true rfl) (Nat.le_of_ble_eq_true rfl)) (kr_V ?_) kx_V
  refine g_bipush (v := (-71)) dL_types_48 (by decide) ?_
  refine g_icmp_ne_f (tgt := 63) dL_types_50 (by decide) (by decide) ?_
  refine g_aload0 dL_types_53 ?_
  refine g_iconst (v := (-1)) dL_types_54 (by decide) ?_
  refine g_callSW2 (lw_line_IAE hb (kn_line_a hI (by decide))) md_L_line dL_types_55 ml_L_93 st_L_line (RmOk.of (Nat.le_of_ble_eq_true rfl) (Nat.le_of_ble_eq_true rfl) (Nat.le_of_ble_eq_true rfl) (Nat.le_of_ble_eq_true rfl) (Nat.le_of_ble_eq_true rfl)) (kr_V ?_) kx_V
  refine g_bipush (v := (-71)) dL_types_58 (by decide) ?_
  refine g_icmp_eq_t (tgt := 65) dL_types_60 (by decide) (by decide) ?_
  refine g_iload12 dL_types_65 ?_
  refine g_bipush (v := 8) dL_types_67 (by decide) ?_
  refine g_icmp_ne_f (tgt := 89) dL_types_69 (by decide) (by rw [h8]; rfl) ?_
  refine g_aload0 dL_types_72 ?_
  refine g_iload11 dL_types_73 ?_
  refine g_callSW2 (lw_line_ISE hb (kn_line_b hI hv h8)) md_L_line dL_types_75 ml_L_93 st_L_line (RmOk.of (Nat.le_of_ble_eq_true rfl) (Nat.le_of_ble_eq_true rfl) (Nat.le_of_ble_eq_true rfl) (Nat.le_of_ble_eq_true rfl) (Nat.le_of_ble_eq_true rfl)) (kr_V ?_) kx_V
  refine g_bipush (v := (-72)) dL_types_78 (by decide) ?_
  refine g_icmp_ne_f (tgt := 87) dL_types_80 (by decide) (by decide) ?_
  refine g_iconst (v := 1) dL_types_83 (by decide) ?_
  refine g_goto (tgt := 88) dL_types_84 (by decide) ?_
  refine g_zret dL_types_88 (by decide) ?_ (Nat.le_of_ble_eq_true rfl) (Nat.le_of_ble_eq_true rfl)
  exact ⟨rfl, N, A, FJ, FI, hI, hM, hJ⟩

set_option maxRecDepth 100000 in
theorem ty_a7 {G : Gx} {C : Cx} {X : Nat → Prop} {am : Nat → Nat} {w : Wd} {kp : Nat} {FJ : Nat → Nat → Int64} {FI : Nat → Nat → Int32} {N : Nat → Nat} {A : Nat → Nat → Int32} {act : Nat} {y : Int32} (hI : Inv0 G X w kp N A w) (hZ : LAZ G X am) (hM : LA G am w FJ FI w) (hJ : JJ N A FJ FI) {v : Nat} (hv : v < 100) (h8 : N 10 < 8) : Go G rm_L_types cL_types RL ((some .boolean), "types", []) C (QP G rm_L_types (PB (.int 1) (St G X am kp)) C) 32 [some (.ref kp), some (.int (nI act)), some (.int y), some (.ref (am 0)), some (.ref (am 1)), some (.ref (am 2)), some (.ref (am 3)), some (.ref (am 4)), some (.ref (am 5)), some (.ref (am 6)), some (.ref (am 10)), none, none] [.int (nI v)] w 0 0 := by
  have hJ0 := hJ
  obtain ⟨⟨G0, G1, G2, G3, G4, G5⟩, ⟨b1, b2, b3, b4, b5, b6⟩, hO, hP, hF, hR, hD, hV, hS, hT⟩ := hJ0
  have hb := hI.g0
  obtain ⟨fs0, hb0⟩ := hI.g0
  refine g_istore11 dL_types_32 ?_
  refine g_aload3 dL_types_34 ?_
  refine g_iconst (v := 0) dL_types_35 (by decide) ?_
  refine g_jlald (k := 0) (i := 0) hM (by decide) dL_types_36 (show _ < 1 from by omega) ?_
  rw [hO.2]
  refine g_callS1 (ct_lines b4 hO.1) md_L_lines dL_types_37 ml_L_73 st_L_lines (RmOk.of (Nat.le_of_ble_eq_true rfl) (Nat.le_of_ble_eq_true rfl) (Nat.le_of_ble_eq_true rfl) (Nat.le_of_ble_eq_true rfl) (Nat.le_of_ble_eq_true rfl)) (kr_V ?_) kx_V
  refine g_istore12 dL_types_40 ?_
  refine g_aload0 dL_types_42 ?_
  refine g_bipush (v := 100) dL_types_43 (by decide) ?_
  refine g_callSW2 (lw_line_IAE hb (kn_line_a hI (by decide))) md_L_line dL_types_45 ml_L_93 st_L_line (RmOk.of (Nat.le_of_ble_eq_true rfl) (Nat.le_of_ble_eq_true rfl) (Nat.le_of_ble_eq_true rfl) (Nat.le_of_ble_eq_true rfl) (Nat.le_of_ble_eq_true rfl)) (kr_V ?_) kx_V
  refine g_bipush (v := (-71)) dL_types_48 (by decide) ?_
  refine g_icmp_ne_f (tgt := 63) dL_types_50 (by decide) (by decide) ?_
  refine g_aload0 dL_types_53 ?_
  refine g_iconst (v := (-1)) dL_types_54 (by decide) ?_
  refine g_callSW2 (lw_line_IAE hb (kn_line_a hI (by decide))) md_L_line dL_types_55 ml_L_93 st_L_line (RmOk.of (Nat.le_of_ble_eq_true rfl) (Nat.le_of_ble_eq_true rfl) (Nat.le_of_ble_eq_true rfl) (Nat.le_of_ble_eq_true rfl) (Nat.le_of_ble_eq_true rfl)) (kr_V ?_) kx_V
  refine g_bipush (v := (-71)) dL_types_58 (by decide) ?_
  refine g_icmp_eq_t (tgt := 65) dL_types_60 (by decide) (by decide) ?_
  refine g_iload12 dL_types_65 ?_
  refine g_bipush (v := 8) dL_types_67 (by decide) ?_
  refine g_icmp_ne_t (tgt := 89) dL_types_69 (by decide) (fun z => absurd ((nI_eq (b := 8) (by omega) (by decide)).mp z) (by omega)) ?_
  refine g_aload3 dL_types_89 ?_
  refine g_iconst (v := 0) dL_types_90 (by decide) ?_
  refine g_dup2 dL_types_91 rfl rfl ?_
  refine g_jlald (k := 0) (i := 0) hM (by decide) dL_types_92 (show _ < 1 from by omega) ?_
  rw [hO.2]
  refine g_lconst (v := 1) dL_types_93 (by decide) ?_
  refine g_iload11 dL_types_94 ?_
  refine g_i2l dL_types_96 ?_
  refine g_iconst (v := 4) dL_types_97 (by decide) ?_
  refine g_bipush (v := 7) dL_types_98 (by decide) ?_
  refine g_iload12 dL_types_100 ?_
  refine g_imul dL_types_102 ?_
  refine g_iadd dL_types_103 ?_
  rw [show (4 : Int32) + 7 * nI (N 10) = nI (4 + 7 * N 10) by rw [show (7 : Int32) = nI 7 from rfl, show (4 : Int32) = nI 4 from rfl, pk_mul, nI_add]]
  refine g_lshl dL_types_104 ?_
  refine g_ladd dL_types_105 ?_
  refine g_ladd dL_types_106 ?_
  rw [pgv_add h8 hv]
  refine g_jlast (k := 0) (i := 0) hM (by decide) dL_types_107 (show _ < 1 from by omega) (fun w1 hM => ?_)
  have hI1 := hI.keepL hZ hM
  obtain ⟨fs1, hb1⟩ := hI1.g0
  refine g_aload0 dL_types_108 ?_
  refine g_iload11 dL_types_109 ?_
  refine g_callSW2 (lw_line_0 ⟨fs1, hb1⟩ (kn_line_c hI1 hv h8)) md_L_line dL_types_111 ml_L_93 st_L_line (RmOk.of (Nat.le_of_ble_eq_true rfl) (Nat.le_of_ble_eq_true rfl) (Nat.le_of_ble_eq_true rfl) (Nat.le_of_ble_eq_true rfl) (Nat.le_of_ble_eq_true rfl)) (kr_B (fun w1 hw1 => ?_)) kx_B
  refine g_iload12 dL_types_114 ?_
  refine g_iconst (v := 1) dL_types_116 (by decide) ?_
  refine g_iadd dL_types_117 ?_
  refine g_icmp_ne_f (tgt := 125) dL_types_118 (by decide) (nI_succ _) ?_
  refine g_iconst (v := 1) dL_types_121 (by decide) ?_
  refine g_goto (tgt := 126) dL_types_122 (by decide) ?_
  refine g_zret dL_types_126 (by decide) ?_ (Nat.le_of_ble_eq_true rfl) (Nat.le_of_ble_eq_true rfl)
  obtain ⟨a1, a2⟩ := hw1.after hZ hM
  exact ⟨rfl, _, _, _, _, a1, a2, hJ.line hv h8⟩

set_option maxRecDepth 100000 in
theorem ct_ty_a {G : Gx} {X : Nat → Prop} {am : Nat → Nat} {w : Wd} {kp : Nat} {FJ : Nat → Nat → Int64} {FI : Nat → Nat → Int32} {N : Nat → Nat} {A : Nat → Nat → Int32} {act : Nat} {y : Int32} (hI : Inv0 G X w kp N A w) (hZ : LAZ G X am) (hM : LA G am w FJ FI w) (hJ : JJ N A FJ FI) (ha : act < 8) : Ct G yL_types kw_L_types rm_L_types [.ref kp, .int (nI act), .int y, .ref (am 0), .ref (am 1), .ref (am 2), .ref (am 3), .ref (am 4), .ref (am 5), .ref (am 6), .ref (am 10)] w (PB (.int 1) (St G X am kp)) := by
  refine ct_intro RL "types" (by decide +kernel) rfl rfl rfl (Nat.le_of_ble_eq_true rfl) [some (.ref kp), some (.int (nI act)), some (.int y), some (.ref (am 0)), some (.ref (am 1)), some (.ref (am 2)), some (.ref (am 3)), some (.ref (am 4)), some (.ref (am 5)), some (.ref (am 6)), some (.ref (am 10)), none, none] rfl (fun C => ?_)
  refine g_iload1 dL_types_0 ?_
  refine g_bipush (v := 8) dL_types_1 (by decide) ?_
  refine g_icmp_ge_f (tgt := 127) dL_types_3 (by decide) (nI_ge (b := 8) ha (by decide)) ?_
  refine g_iload2 dL_types_6 ?_
  refine g_bipush (v := 6) dL_types_7 (by decide) ?_
  refine g_iand dL_types_9 ?_
  refine g_if_ne (tgt := 24) dL_types_10 (by decide) (fun h10 => ?_) (fun h10 => ?_)
  · skip
    refine g_iload2 dL_types_24 ?_
    refine g_iconst (v := 3) dL_types_25 (by decide) ?_
    refine g_ishr dL_types_26 ?_
    refine g_bipush (v := 6) dL_types_27 (by decide) ?_
    refine g_callS2 (ct_low (m := 6) (by decide) (by decide)) md_L_low dL_types_29 ml_L_90 st_L_low (RmOk.of (Nat.le_of_ble_eq_true rfl) (Nat.le_of_ble_eq_true rfl) (Nat.le_of_ble_eq_true rfl) (Nat.le_of_ble_eq_true rfl) (Nat.le_of_ble_eq_true rfl)) (kr_V ?_) kx_V
    by_cases h8 : N 10 = 8
    · exact ty_a8 hI hZ hM hJ (Nat.lt_of_lt_of_le (lowN_lt _ (by decide)) (by decide)) h8
    · exact ty_a7 hI hZ hM hJ (Nat.lt_of_lt_of_le (lowN_lt _ (by decide)) (by decide)) (by have := hJ.2.1.2.2.2.1; omega)
  · skip
    refine g_iload2 dL_types_13 ?_
    refine g_iconst (v := 3) dL_types_14 (by decide) ?_
    refine g_ishr dL_types_15 ?_
    refine g_bipush (v := 100) dL_types_16 (by decide) ?_
    refine g_callS2 (ct_low (m := 100) (by decide) (by decide)) md_L_low dL_types_18 ml_L_90 st_L_low (RmOk.of (Nat.le_of_ble_eq_true rfl) (Nat.le_of_ble_eq_true rfl) (Nat.le_of_ble_eq_true rfl) (Nat.le_of_ble_eq_true rfl) (Nat.le_of_ble_eq_true rfl)) (kr_V ?_) kx_V
    refine g_goto (tgt := 32) dL_types_21 (by decide) ?_
    by_cases h8 : N 10 = 8
    · exact ty_a8 hI hZ hM hJ (Nat.lt_of_lt_of_le (lowN_lt _ (by decide)) (by decide)) h8
    · exact ty_a7 hI hZ hM hJ (Nat.lt_of_lt_of_le (lowN_lt _ (by decide)) (by decide)) (by have := hJ.2.1.2.2.2.1; omega)

set_option maxRecDepth 100000 in
theorem ct_ty_f {G : Gx} {X : Nat → Prop} {am : Nat → Nat} {w : Wd} {kp : Nat} {FJ : Nat → Nat → Int64} {FI : Nat → Nat → Int32} {N : Nat → Nat} {A : Nat → Nat → Int32} {act : Nat} {y : Int32} (hI : Inv0 G X w kp N A w) (hZ : LAZ G X am) (hM : LA G am w FJ FI w) (hJ : JJ N A FJ FI) (ha : 8 ≤ act) (ha2 : act < 16) (h58 : 58 < N 6 + N 7) : Ct G yL_types kw_L_types rm_L_types [.ref kp, .int (nI act), .int y, .ref (am 0), .ref (am 1), .ref (am 2), .ref (am 3), .ref (am 4), .ref (am 5), .ref (am 6), .ref (am 10)] w (PB (.int 1) (St G X am kp)) := by
  have hJ0 := hJ
  obtain ⟨⟨G0, G1, G2, G3, G4, G5⟩, ⟨b1, b2, b3, b4, b5, b6⟩, hO, hP, hF, hR, hD, hV, hS, hT⟩ := hJ0
  have hb := hI.g0
  obtain ⟨fs0, hb0⟩ := hI.g0
  refine ct_intro RL "types" (by decide +kernel) rfl rfl rfl (Nat.le_of_ble_eq_true rfl) [some (.ref kp), some (.int (nI act)), some (.int y), some (.ref (am 0)), some (.ref (am 1)), some (.ref (am 2)), some (.ref (am 3)), some (.ref (am 4)), some (.ref (am 5)), some (.ref (am 6)), some (.ref (am 10)), none, none] rfl (fun C => ?_)
  refine g_iload1 dL_types_0 ?_
  refine g_bipush (v := 8) dL_types_1 (by decide) ?_
  refine g_icmp_ge_t (tgt := 127) dL_types_3 (by decide) (nI_le (a := 8) ha (by omega)) ?_
  refine g_aload10 dL_types_127 ?_
  refine g_iconst (v := 2) dL_types_129 (by decide) ?_
  refine g_jiald (k := 10) (i := 2) hM (by decide) (by decide) dL_types_130 (show _ < 6 from by omega) ?_
  rw [G2]
  refine g_aload10 dL_types_131 ?_
  refine g_iconst (v := 3) dL_types_133 (by decide) ?_
  refine g_jiald (k := 10) (i := 3) hM (by decide) (by decide) dL_types_134 (show _ < 6 from by omega) ?_
  rw [G3]
  refine g_iadd dL_types_135 ?_
  rw [nI_add]
  refine g_bipush (v := 58) dL_types_136 (by decide) ?_
  refine g_icmp_le_f (tgt := 158) dL_types_138 (by decide) (nI_ge (a := 58) h58 (by omega)) ?_
  refine g_aload0 dL_types_141 ?_
  refine g_callV0 kc6 (kn_documents hI) md_X5_documents dL_types_142 ml_L_96 im_X5_documents se_X5_documents hb0 (RmOk.of (Nat.le_of_ble_eq_true rfl) (Nat.le_of_ble_eq_true rfl) (Nat.le_of_ble_eq_true rfl) (Nat.le_of_ble_eq_true rfl) (Nat.le_of_ble_eq_true rfl)) (kr_V ?_) kx_V
  refine g_aload10 dL_types_145 ?_
  refine g_iconst (v := 5) dL_types_147 (by decide) ?_
  refine g_jiald (k := 10) (i := 5) hM (by decide) (by decide) dL_types_148 (show _ < 6 from by omega) ?_
  rw [G5]
  refine g_icmp_ne_f (tgt := 156) dL_types_149 (by decide) rfl ?_
  refine g_iconst (v := 1) dL_types_152 (by decide) ?_
  refine g_goto (tgt := 157) dL_types_153 (by decide) ?_
  refine g_zret dL_types_157 (by decide) ?_ (Nat.le_of_ble_eq_true rfl) (Nat.le_of_ble_eq_true rfl)
  exact ⟨rfl, N, A, FJ, FI, hI, hM, hJ⟩

set_option maxRecDepth 100000 in
theorem ct_ty_d {G : Gx} {X : Nat → Prop} {am : Nat → Nat} {w : Wd} {kp : Nat} {FJ : Nat → Nat → Int64} {FI : Nat → Nat → Int32} {N : Nat → Nat} {A : Nat → Nat → Int32} {act : Nat} {y : Int32} (hI : Inv0 G X w kp N A w) (hZ : LAZ G X am) (hM : LA G am w FJ FI w) (hJ : JJ N A FJ FI) (ha : 8 ≤ act) (ha2 : act < 12) (h58 : N 6 + N 7 ≤ 58) : Ct G yL_types kw_L_types rm_L_types [.ref kp, .int (nI act), .int y, .ref (am 0), .ref (am 1), .ref (am 2), .ref (am 3), .ref (am 4), .ref (am 5), .ref (am 6), .ref (am 10)] w (PB (.int 1) (St G X am kp)) := by
  have hJ0 := hJ
  obtain ⟨⟨G0, G1, G2, G3, G4, G5⟩, ⟨b1, b2, b3, b4, b5, b6⟩, hO, hP, hF, hR, hD, hV, hS, hT⟩ := hJ0
  have hb := hI.g0
  obtain ⟨fs0, hb0⟩ := hI.g0
  refine ct_intro RL "types" (by decide +kernel) rfl rfl rfl (Nat.le_of_ble_eq_true rfl) [some (.ref kp), some (.int (nI act)), some (.int y), some (.ref (am 0)), some (.ref (am 1)), some (.ref (am 2)), some (.ref (am 3)), some (.ref (am 4)), some (.ref (am 5)), some (.ref (am 6)), some (.ref (am 10)), none, none] rfl (fun C => ?_)
  refine g_iload1 dL_types_0 ?_
  refine g_bipush (v := 8) dL_types_1 (by decide) ?_
  refine g_icmp_ge_t (tgt := 127) dL_types_3 (by decide) (nI_le (a := 8) ha (by omega)) ?_
  refine g_aload10 dL_types_127 ?_
  refine g_iconst (v := 2) dL_types_129 (by decide) ?_
  refine g_jiald (k := 10) (i := 2) hM (by decide) (by decide) dL_types_130 (show _ < 6 from by omega) ?_
  rw [G2]
  refine g_aload10 dL_types_131 ?_
  refine g_iconst (v := 3) dL_types_133 (by decide) ?_
  refine g_jiald (k := 10) (i := 3) hM (by decide) (by decide) dL_types_134 (show _ < 6 from by omega) ?_
  rw [G3]
  refine g_iadd dL_types_135 ?_
  rw [nI_add]
  refine g_bipush (v := 58) dL_types_136 (by decide) ?_
  refine g_icmp_le_t (tgt := 158) dL_types_138 (by decide) (nI_le (b := 58) h58 (by decide)) ?_
  refine g_iload1 dL_types_158 ?_
  refine g_bipush (v := 12) dL_types_159 (by decide) ?_
  refine g_icmp_ge_f (tgt := 221) dL_types_161 (by decide) (nI_ge (b := 12) ha2 (by decide)) ?_
  refine g_aload4 dL_types_164 ?_
  refine g_aload10 dL_types_166 ?_
  refine g_iconst (v := 2) dL_types_168 (by decide) ?_
  refine g_jiald (k := 10) (i := 2) hM (by decide) (by decide) dL_types_169 (show _ < 6 from by omega) ?_
  rw [G2]
  refine g_aload10 dL_types_170 ?_
  refine g_iconst (v := 3) dL_types_172 (by decide) ?_
  refine g_jiald (k := 10) (i := 3) hM (by decide) (by decide) dL_types_173 (show _ < 6 from by omega) ?_
  rw [G3]
  refine g_iadd dL_types_174 ?_
  rw [nI_add]
  refine g_aload3 dL_types_175 ?_
  refine g_iconst (v := 0) dL_types_176 (by decide) ?_
  refine g_jlald (k := 0) (i := 0) hM (by decide) dL_types_177 (show _ < 1 from by omega) ?_
  refine g_jlast (k := 1) hM (by decide) dL_types_178 (show _ < 60 from by omega) (fun w1 hM => ?_)
  refine g_aload5 dL_types_179 ?_
  refine g_aload10 dL_types_181 ?_
  refine g_iconst (v := 2) dL_types_183 (by decide) ?_
  refine g_jiald (k := 10) (i := 2) hM (by decide) (by decide) dL_types_184 (show _ < 6 from by omega) ?_
  rw [G2]
  refine g_aload10 dL_types_185 ?_
  refine g_iconst (v := 3) dL_types_187 (by decide) ?_
  refine g_jiald (k := 10) (i := 3) hM (by decide) (by decide) dL_types_188 (show _ < 6 from by omega) ?_
  rw [G3]
  refine g_iadd dL_types_189 ?_
  rw [nI_add]
  refine g_iconst (v := 1) dL_types_190 (by decide) ?_
  refine g_jiast (k := 2) hM (by decide) (by decide) dL_types_191 (show _ < 60 from by omega) (fun w1 hM => ?_)
  refine g_aload3 dL_types_192 ?_
  refine g_iconst (v := 0) dL_types_193 (by decide) ?_
  refine g_lconst (v := 0) dL_types_194 (by decide) ?_
  refine g_jlast (k := 0) (i := 0) hM (by decide) dL_types_195 (show _ < 1 from by omega) (fun w1 hM => ?_)
  refine g_aload10 dL_types_196 ?_
  refine g_iconst (v := 3) dL_types_198 (by decide) ?_
  refine g_dup2 dL_types_199 rfl rfl ?_
  refine g_jiald (k := 10) (i := 3) hM (by decide) (by decide) dL_types_200 (show _ < 6 from by omega) ?_
  rw [show updA FI 2 (N 6 + N 7) 1 10 3 = nI (N 7) from G3]
  refine g_iconst (v := 1) dL_types_201 (by decide) ?_
  refine g_iadd dL_types_202 ?_
  rw [nI_1]
  refine g_jiast (k := 10) (i := 3) hM (by decide) (by decide) dL_types_203 (show _ < 6 from by omega) (fun w1 hM => ?_)
  have hI1 := hI.keepL hZ hM
  obtain ⟨fs1, hb1⟩ := hI1.g0
  refine g_aload0 dL_types_204 ?_
  refine g_callV0 kc6 (kn_feed hI1 (by omega)) md_X5_feed dL_types_205 ml_L_99 im_X5_feed se_X5_feed hb1 (RmOk.of (Nat.le_of_ble_eq_true rfl) (Nat.le_of_ble_eq_true rfl) (Nat.le_of_ble_eq_true rfl) (Nat.le_of_ble_eq_true rfl) (Nat.le_of_ble_eq_true rfl)) (kr_B (fun w1 hw1 => ?_)) kx_B
  obtain ⟨a1, a2⟩ := hw1.after hZ hM
  clear hM
  have hM := a2
  refine g_aload10 dL_types_208 ?_
  refine g_iconst (v := 3) dL_types_210 (by decide) ?_
  refine g_jiald (k := 10) (i := 3) hM (by decide) (by decide) dL_types_211 (show _ < 6 from by omega) ?_
  rw [show updA (updA FI 2 (N 6 + N 7) 1) 10 3 (nI (N 7 + 1)) 10 3 = nI (N 7 + 1) from upd_s (FI 10) 3 _]
  refine g_icmp_ne_f (tgt := 219) dL_types_212 (by decide) rfl ?_
  refine g_iconst (v := 1) dL_types_215 (by decide) ?_
  refine g_goto (tgt := 220) dL_types_216 (by decide) ?_
  refine g_zret dL_types_220 (by decide) ?_ (Nat.le_of_ble_eq_true rfl) (Nat.le_of_ble_eq_true rfl)
  exact ⟨rfl, _, _, _, _, a1, hM, hJ.close (by omega)⟩

set_option maxRecDepth 100000 in
theorem ct_ty_e0 {G : Gx} {X : Nat → Prop} {am : Nat → Nat} {w : Wd} {kp : Nat} {FJ : Nat → Nat → Int64} {FI : Nat → Nat → Int32} {N : Nat → Nat} {A : Nat → Nat → Int32} {act : Nat} {y : Int32} (hI : Inv0 G X w kp N A w) (hZ : LAZ G X am) (hM : LA G am w FJ FI w) (hJ : JJ N A FJ FI) (ha : 12 ≤ act) (ha2 : act < 16) (h58 : N 6 + N 7 ≤ 58) (h0 : N 10 = 0) (h7 : N 7 = 0) : Ct G yL_types kw_L_types rm_L_types [.ref kp, .int (nI act), .int y, .ref (am 0), .ref (am 1), .ref (am 2), .ref (am 3), .ref (am 4), .ref (am 5), .ref (am 6), .ref (am 10)] w (PB (.int 1) (St G X am kp)) := by
  have hJ0 := hJ
  obtain ⟨⟨G0, G1, G2, G3, G4, G5⟩, ⟨b1, b2, b3, b4, b5, b6⟩, hO, hP, hF, hR, hD, hV, hS, hT⟩ := hJ0
  have hb := hI.g0
  obtain ⟨fs0, hb0⟩ := hI.g0
  refine ct_intro RL "types" (by decide +kernel) rfl rfl rfl (Nat.le_of_ble_eq_true rfl) [some (.ref kp), some (.int (nI act)), some (.int y), some (.ref (am 0)), some (.ref (am 1)), some (.ref (am 2)), some (.ref (am 3)), some (.ref (am 4)), some (.ref (am 5)), some (.ref (am 6)), some (.ref (am 10)), none, none] rfl (fun C => ?_)
  refine g_iload1 dL_types_0 ?_
  refine g_bipush (v := 8) dL_types_1 (by decide) ?_
  refine g_icmp_ge_t (tgt := 127) dL_types_3 (by decide) (nI_le (a := 8) (Nat.le_trans (by decide) ha) (by omega)) ?_
  refine g_aload10 dL_types_127 ?_
  refine g_iconst (v := 2) dL_types_129 (by decide) ?_
  refine g_jiald (k := 10) (i := 2) hM (by decide) (by decide) dL_types_130 (show _ < 6 from by omega) ?_
  rw [G2]
  refine g_aload10 dL_types_131 ?_
  refine g_iconst (v := 3) dL_types_133 (by decide) ?_
  refine g_jiald (k := 10) (i := 3) hM (by decide) (by decide) dL_types_134 (show _ < 6 from by omega) ?_
  rw [G3]
  refine g_iadd dL_types_135 ?_
  rw [nI_add]
  refine g_bipush (v := 58) dL_types_136 (by decide) ?_
  refine g_icmp_le_t (tgt := 158) dL_types_138 (by decide) (nI_le (b := 58) h58 (by decide)) ?_
  refine g_iload1 dL_types_158 ?_
  refine g_bipush (v := 12) dL_types_159 (by decide) ?_
  refine g_icmp_ge_t (tgt := 221) dL_types_161 (by decide) (nI_le (a := 12) ha (by omega)) ?_
  refine g_aload3 dL_types_221 ?_
  refine g_iconst (v := 0) dL_types_222 (by decide) ?_
  refine g_jlald (k := 0) (i := 0) hM (by decide) dL_types_223 (show _ < 1 from by omega) ?_
  rw [hO.2]
  refine g_callS1 (ct_lines b4 hO.1) md_L_lines dL_types_224 ml_L_73 st_L_lines (RmOk.of (Nat.le_of_ble_eq_true rfl) (Nat.le_of_ble_eq_true rfl) (Nat.le_of_ble_eq_true rfl) (Nat.le_of_ble_eq_true rfl) (Nat.le_of_ble_eq_true rfl)) (kr_V ?_) kx_V
  refine g_if_ne_f (tgt := 237) dL_types_227 (by decide) (by rw [h0]; decide) ?_
  refine g_aload10 dL_types_230 ?_
  refine g_iconst (v := 3) dL_types_232 (by decide) ?_
  refine g_jiald (k := 10) (i := 3) hM (by decide) (by decide) dL_types_233 (show _ < 6 from by omega) ?_
  rw [G3]
  refine g_if_eq_t (tgt := 246) dL_types_234 (by decide) (by rw [h7]; decide) ?_
  refine g_aload0 dL_types_246 ?_
  refine g_callSW1 (lw_end_ISE hb (kn_end_a hI (Or.inl ⟨h0, h7⟩))) md_L_end dL_types_247 ml_L_102 st_L_end (RmOk.of (Nat.le_of_ble_eq_true rfl) (Nat.le_of_ble_eq_true rfl) (Nat.le_of_ble_eq_true rfl) (Nat.le_of_ble_eq_true rfl) (Nat.le_of_ble_eq_true rfl)) (kr_V ?_) kx_V
  refine g_bipush (v := (-72)) dL_types_250 (by decide) ?_
  refine g_icmp_ne_f (tgt := 259) dL_types_252 (by decide) (by decide) ?_
  refine g_iconst (v := 1) dL_types_255 (by decide) ?_
  refine g_goto (tgt := 260) dL_types_256 (by decide) ?_
  refine g_zret dL_types_260 (by decide) ?_ (Nat.le_of_ble_eq_true rfl) (Nat.le_of_ble_eq_true rfl)
  exact ⟨rfl, N, A, FJ, FI, hI, hM, hJ⟩

set_option maxRecDepth 100000 in
theorem ct_ty_e1 {G : Gx} {X : Nat → Prop} {am : Nat → Nat} {w : Wd} {kp : Nat} {FJ : Nat → Nat → Int64} {FI : Nat → Nat → Int32} {N : Nat → Nat} {A : Nat → Nat → Int32} {act : Nat} {y : Int32} (hI : Inv0 G X w kp N A w) (hZ : LAZ G X am) (hM : LA G am w FJ FI w) (hJ : JJ N A FJ FI) (ha : 12 ≤ act) (ha2 : act < 16) (h58 : N 6 + N 7 ≤ 58) (h0 : N 10 = 0) (h7 : 0 < N 7) (h13 : N 13 = 15) : Ct G yL_types kw_L_types rm_L_types [.ref kp, .int (nI act), .int y, .ref (am 0), .ref (am 1), .ref (am 2), .ref (am 3), .ref (am 4), .ref (am 5), .ref (am 6), .ref (am 10)] w (PB (.int 1) (St G X am kp)) := by
  have hJ0 := hJ
  obtain ⟨⟨G0, G1, G2, G3, G4, G5⟩, ⟨b1, b2, b3, b4, b5, b6⟩, hO, hP, hF, hR, hD, hV, hS, hT⟩ := hJ0
  have hb := hI.g0
  obtain ⟨fs0, hb0⟩ := hI.g0
  refine ct_intro RL "types" (by decide +kernel) rfl rfl rfl (Nat.le_of_ble_eq_true rfl) [some (.ref kp), some (.int (nI act)), some (.int y), some (.ref (am 0)), some (.ref (am 1)), some (.ref (am 2)), some (.ref (am 3)), some (.ref (am 4)), some (.ref (am 5)), some (.ref (am 6)), some (.ref (am 10)), none, none] rfl (fun C => ?_)
  refine g_iload1 dL_types_0 ?_
  refine g_bipush (v := 8) dL_types_1 (by decide) ?_
  refine g_icmp_ge_t (tgt := 127) dL_types_3 (by decide) (nI_le (a := 8) (Nat.le_trans (by decide) ha) (by omega)) ?_
  refine g_aload10 dL_types_127 ?_
  refine g_iconst (v := 2) dL_types_129 (by decide) ?_
  refine g_jiald (k := 10) (i := 2) hM (by decide) (by decide) dL_types_130 (show _ < 6 from by omega) ?_
  rw [G2]
  refine g_aload10 dL_types_131 ?_
  refine g_iconst (v := 3) dL_types_133 (by decide) ?_
  refine g_jiald (k := 10) (i := 3) hM (by decide) (by decide) dL_types_134 (show _ < 6 from by omega) ?_
  rw [G3]
  refine g_iadd dL_types_135 ?_
  rw [nI_add]
  refine g_bipush (v := 58) dL_types_136 (by decide) ?_
  refine g_icmp_le_t (tgt := 158) dL_types_138 (by decide) (nI_le (b := 58) h58 (by decide)) ?_
  refine g_iload1 dL_types_158 ?_
  refine g_bipush (v := 12) dL_types_159 (by decide) ?_
  refine g_icmp_ge_t (tgt := 221) dL_types_161 (by decide) (nI_le (a := 12) ha (by omega)) ?_
  refine g_aload3 dL_types_221 ?_
  refine g_iconst (v := 0) dL_types_222 (by decide) ?_
  refine g_jlald (k := 0) (i := 0) hM (by decide) dL_types_223 (show _ < 1 from by omega) ?_
  rw [hO.2]
  refine g_callS1 (ct_lines b4 hO.1) md_L_lines dL_types_224 ml_L_73 st_L_lines (RmOk.of (Nat.le_of_ble_eq_true rfl) (Nat.le_of_ble_eq_true rfl) (Nat.le_of_ble_eq_true rfl) (Nat.le_of_ble_eq_true rfl) (Nat.le_of_ble_eq_true rfl)) (kr_V ?_) kx_V
  refine g_if_ne_f (tgt := 237) dL_types_227 (by decide) (by rw [h0]; decide) ?_
  refine g_aload10 dL_types_230 ?_
  refine g_iconst (v := 3) dL_types_232 (by decide) ?_
  refine g_jiald (k := 10) (i := 3) hM (by decide) (by decide) dL_types_233 (show _ < 6 from by omega) ?_
  rw [G3]
  refine g_if_eq_f (tgt := 246) dL_types_234 (by decide) (fun z => absurd ((nI_eq (b := 0) (by omega) (by decide)).mp z) (by omega)) ?_
  refine g_aload10 dL_types_237 ?_
  refine g_iconst (v := 4) dL_types_239 (by decide) ?_
  refine g_jiald (k := 10) (i := 4) hM (by decide) (by decide) dL_types_240 (show _ < 6 from by omega) ?_
  rw [G4]
  refine g_bipush (v := 15) dL_types_241 (by decide) ?_
  refine g_icmp_ne_f (tgt := 261) dL_types_243 (by decide) (by rw [h13]; rfl) ?_
  refine g_aload0 dL_types_246 ?_
  refine g_callSW1 (lw_end_ISE hb (kn_end_a hI (Or.inr h13))) md_L_end dL_types_247 ml_L_102 st_L_end (RmOk.of (Nat.le_of_ble_eq_true rfl) (Nat.le_of_ble_eq_true rfl) (Nat.le_of_ble_eq_true rfl) (Nat.le_of_ble_eq_true rfl) (Nat.le_of_ble_eq_true rfl)) (kr_V ?_) kx_V
  refine g_bipush (v := (-72)) dL_types_250 (by decide) ?_
  refine g_icmp_ne_f (tgt := 259) dL_types_252 (by decide) (by decide) ?_
  refine g_iconst (v := 1) dL_types_255 (by decide) ?_
  refine g_goto (tgt := 260) dL_types_256 (by decide) ?_
  refine g_zret dL_types_260 (by decide) ?_ (Nat.le_of_ble_eq_true rfl) (Nat.le_of_ble_eq_true rfl)
  exact ⟨rfl, N, A, FJ, FI, hI, hM, hJ⟩

set_option maxRecDepth 100000 in
theorem ct_ty_e2 {G : Gx} {X : Nat → Prop} {am : Nat → Nat} {w : Wd} {kp : Nat} {FJ : Nat → Nat → Int64} {FI : Nat → Nat → Int32} {N : Nat → Nat} {A : Nat → Nat → Int32} {act : Nat} {y : Int32} (hI : Inv0 G X w kp N A w) (hZ : LAZ G X am) (hM : LA G am w FJ FI w) (hJ : JJ N A FJ FI) (ha : 12 ≤ act) (ha2 : act < 16) (h58 : N 6 + N 7 ≤ 58) (h0 : 0 < N 10) (h13 : N 13 = 15) : Ct G yL_types kw_L_types rm_L_types [.ref kp, .int (nI act), .int y, .ref (am 0), .ref (am 1), .ref (am 2), .ref (am 3), .ref (am 4), .ref (am 5), .ref (am 6), .ref (am 10)] w (PB (.int 1) (St G X am kp)) := by
  have hJ0 := hJ
  obtain ⟨⟨G0, G1, G2, G3, G4, G5⟩, ⟨b1, b2, b3, b4, b5, b6⟩, hO, hP, hF, hR, hD, hV, hS, hT⟩ := hJ0
  have hb := hI.g0
  obtain ⟨fs0, hb0⟩ := hI.g0
  refine ct_intro RL "types" (by decide +kernel) rfl rfl rfl (Nat.le_of_ble_eq_true rfl) [some (.ref kp), some (.int (nI act)), some (.int y), some (.ref (am 0)), some (.ref (am 1)), some (.ref (am 2)), some (.ref (am 3)), some (.ref (am 4)), some (.ref (am 5)), some (.ref (am 6)), some (.ref (am 10)), none, none] rfl (fun C => ?_)
  refine g_iload1 dL_types_0 ?_
  refine g_bipush (v := 8) dL_types_1 (by decide) ?_
  refine g_icmp_ge_t (tgt := 127) dL_types_3 (by decide) (nI_le (a := 8) (Nat.le_trans (by decide) ha) (by omega)) ?_
  refine g_aload10 dL_types_127 ?_
  refine g_iconst (v := 2) dL_types_129 (by decide) ?_
  refine g_jiald (k := 10) (i := 2) hM (by decide) (by decide) dL_types_130 (show _ < 6 from by omega) ?_
  rw [G2]
  refine g_aload10 dL_types_131 ?_
  refine g_iconst (v := 3) dL_types_133 (by decide) ?_
  refine g_jiald (k := 10) (i := 3) hM (by decide) (by decide) dL_types_134 (show _ < 6 from by omega) ?_
  rw [G3]
  refine g_iadd dL_types_135 ?_
  rw [nI_add]
  refine g_bipush (v := 58) dL_types_136 (by decide) ?_
  refine g_icmp_le_t (tgt := 158) dL_types_138 (by decide) (nI_le (b := 58) h58 (by decide)) ?_
  refine g_iload1 dL_types_158 ?_
  refine g_bipush (v := 12) dL_types_159 (by decide) ?_
  refine g_icmp_ge_t (tgt := 221) dL_types_161 (by decide) (nI_le (a := 12) ha (by omega)) ?_
  refine g_aload3 dL_types_221 ?_
  refine g_iconst (v := 0) dL_types_222 (by decide) ?_
  refine g_jlald (k := 0) (i := 0) hM (by decide) dL_types_223 (show _ < 1 from by omega) ?_
  rw [hO.2]
  refine g_callS1 (ct_lines b4 hO.1) md_L_lines dL_types_224 ml_L_73 st_L_lines (RmOk.of (Nat.le_of_ble_eq_true rfl) (Nat.le_of_ble_eq_true rfl) (Nat.le_of_ble_eq_true rfl) (Nat.le_of_ble_eq_true rfl) (Nat.le_of_ble_eq_true rfl)) (kr_V ?_) kx_V
  refine g_if_ne_t (tgt := 237) dL_types_227 (by decide) (fun z => absurd ((nI_eq (b := 0) (by omega) (by decide)).mp z) (by omega)) ?_
  refine g_aload10 dL_types_237 ?_
  refine g_iconst (v := 4) dL_types_239 (by decide) ?_
  refine g_jiald (k := 10) (i := 4) hM (by decide) (by decide) dL_types_240 (show _ < 6 from by omega) ?_
  rw [G4]
  refine g_bipush (v := 15) dL_types_241 (by decide) ?_
  refine g_icmp_ne_f (tgt := 261) dL_types_243 (by decide) (by rw [h13]; rfl) ?_
  refine g_aload0 dL_types_246 ?_
  refine g_callSW1 (lw_end_ISE hb (kn_end_a hI (Or.inr h13))) md_L_end dL_types_247 ml_L_102 st_L_end (RmOk.of (Nat.le_of_ble_eq_true rfl) (Nat.le_of_ble_eq_true rfl) (Nat.le_of_ble_eq_true rfl) (Nat.le_of_ble_eq_true rfl) (Nat.le_of_ble_eq_true rfl)) (kr_V ?_) kx_V
  refine g_bipush (v := (-72)) dL_types_250 (by decide) ?_
  refine g_icmp_ne_f (tgt := 259) dL_types_252 (by decide) (by decide) ?_
  refine g_iconst (v := 1) dL_types_255 (by decide) ?_
  refine g_goto (tgt := 260) dL_types_256 (by decide) ?_
  refine g_zret dL_types_260 (by decide) ?_ (Nat.le_of_ble_eq_true rfl) (Nat.le_of_ble_eq_true rfl)
  exact ⟨rfl, N, A, FJ, FI, hI, hM, hJ⟩

set_option maxRecDepth 100000 in
theorem ct_ty_e3 {G : Gx} {X : Nat → Prop} {am : Nat → Nat} {w : Wd} {kp : Nat} {FJ : Nat → Nat → Int64} {FI : Nat → Nat → Int32} {N : Nat → Nat} {A : Nat → Nat → Int32} {act : Nat} {y : Int32} (hI : Inv0 G X w kp N A w) (hZ : LAZ G X am) (hM : LA G am w FJ FI w) (hJ : JJ N A FJ FI) (ha : 12 ≤ act) (ha2 : act < 16) (h58 : N 6 + N 7 ≤ 58) (h0 : N 10 = 0) (h7 : 0 < N 7) (h13 : N 13 < 15) : Ct G yL_types kw_L_types rm_L_types [.ref kp, .int (nI act), .int y, .ref (am 0), .ref (am 1), .ref (am 2), .ref (am 3), .ref (am 4), .ref (am 5), .ref (am 6), .ref (am 10)] w (PB (.int 1) (St G X am kp)) := by
  have hJ0 := hJ
  obtain ⟨⟨G0, G1, G2, G3, G4, G5⟩, ⟨b1, b2, b3, b4, b5, b6⟩, hO, hP, hF, hR, hD, hV, hS, hT⟩ := hJ0
  have hb := hI.g0
  obtain ⟨fs0, hb0⟩ := hI.g0
  obtain ⟨la, ka, hla, hka, hfm⟩ := hI.fmOk
  refine ct_intro RL "types" (by decide +kernel) rfl rfl rfl (Nat.le_of_ble_eq_true rfl) [some (.ref kp), some (.int (nI act)), some (.int y), some (.ref (am 0)), some (.ref (am 1)), some (.ref (am 2)), some (.ref (am 3)), some (.ref (am 4)), some (.ref (am 5)), some (.ref (am 6)), some (.ref (am 10)), none, none] rfl (fun C => ?_)
  refine g_iload1 dL_types_0 ?_
  refine g_bipush (v := 8) dL_types_1 (by decide) ?_
  refine g_icmp_ge_t (tgt := 127) dL_types_3 (by decide) (nI_le (a := 8) (Nat.le_trans (by decide) ha) (by omega)) ?_
  refine g_aload10 dL_types_127 ?_
  refine g_iconst (v := 2) dL_types_129 (by decide) ?_
  refine g_jiald (k := 10) (i := 2) hM (by decide) (by decide) dL_types_130 (show _ < 6 from by omega) ?_
  rw [G2]
  refine g_aload10 dL_types_131 ?_
  refine g_iconst (v := 3) dL_types_133 (by decide) ?_
  refine g_jiald (k := 10) (i := 3) hM (by decide) (by decide) dL_types_134 (show _ < 6 from by omega) ?_
  rw [G3]
  refine g_iadd dL_types_135 ?_
  rw [nI_add]
  refine g_bipush (v := 58) dL_types_136 (by decide) ?_
  refine g_icmp_le_t (tgt := 158) dL_types_138 (by decide) (nI_le (b := 58) h58 (by decide)) ?_
  refine g_iload1 dL_types_158 ?_
  refine g_bipush (v := 12) dL_types_159 (by decide) ?_
  refine g_icmp_ge_t (tgt := 221) dL_types_161 (by decide) (nI_le (a := 12) ha (by omega)) ?_
  refine g_aload3 dL_types_221 ?_
  refine g_iconst (v := 0) dL_types_222 (by decide) ?_
  refine g_jlald (k := 0) (i := 0) hM (by decide) dL_types_223 (show _ < 1 from by omega) ?_
  rw [hO.2]
  refine g_callS1 (ct_lines b4 hO.1) md_L_lines dL_types_224 ml_L_73 st_L_lines (RmOk.of (Nat.le_of_ble_eq_true rfl) (Nat.le_of_ble_eq_true rfl) (Nat.le_of_ble_eq_true rfl) (Nat.le_of_ble_eq_true rfl) (Nat.le_of_ble_eq_true rfl)) (kr_V ?_) kx_V
  refine g_if_ne_f (tgt := 237) dL_types_227 (by decide) (by rw [h0]; decide) ?_
  refine g_aload10 dL_types_230 ?_
  refine g_iconst (v := 3) dL_types_232 (by decide) ?_
  refine g_jiald (k := 10) (i := 3) hM (by decide) (by decide) dL_types_233 (show _ < 6 from by omega) ?_
  rw [G3]
  refine g_if_eq_f (tgt := 246) dL_types_234 (by decide) (fun z => absurd ((nI_eq (b := 0) (by omega) (by decide)).mp z) (by omega)) ?_
  refine g_aload10 dL_types_237 ?_
  refine g_iconst (v := 4) dL_types_239 (by decide) ?_
  refine g_jiald (k := 10) (i := 4) hM (by decide) (by decide) dL_types_240 (show _ < 6 from by omega) ?_
  rw [G4]
  refine g_bipush (v := 15) dL_types_241 (by decide) ?_
  refine g_icmp_ne_t (tgt := 261) dL_types_243 (by decide) (fun z => absurd ((nI_eq (b := 15) (by omega) (by decide)).mp z) (by omega)) ?_
  refine g_aload3 dL_types_261 ?_
  refine g_iconst (v := 0) dL_types_262 (by decide) ?_
  refine g_jlald (k := 0) (i := 0) hM (by decide) dL_types_263 (show _ < 1 from by omega) ?_
  rw [hO.2]
  refine g_callS1 (ct_lines b4 hO.1) md_L_lines dL_types_264 ml_L_73 st_L_lines (RmOk.of (Nat.le_of_ble_eq_true rfl) (Nat.le_of_ble_eq_true rfl) (Nat.le_of_ble_eq_true rfl) (Nat.le_of_ble_eq_true rfl) (Nat.le_of_ble_eq_true rfl)) (kr_V ?_) kx_V
  refine g_if_le_t (tgt := 310) dL_types_267 (by decide) (by rw [h0]; decide) ?_
  refine g_aload4 dL_types_310 ?_
  refine g_aload6 dL_types_312 ?_
  refine g_aload7 dL_types_314 ?_
  refine g_aload8 dL_types_316 ?_
  refine g_aload9 dL_types_318 ?_
  refine g_aload10 dL_types_320 ?_
  refine g_callS6 (ct_keep hM hJ h0 h7 h13 hla hka hfm) md_L_keep dL_types_322 ml_L_105 st_L_keep (RmOk.of (Nat.le_of_ble_eq_true rfl) (Nat.le_of_ble_eq_true rfl) (Nat.le_of_ble_eq_true rfl) (Nat.le_of_ble_eq_true rfl) (Nat.le_of_ble_eq_true rfl)) (kr_N (fun w1 hw1 => ?_)) kx_N
  obtain ⟨FX, hM1, hJ1⟩ := hw1
  have hI1 := hI.keepL hZ hM1
  obtain ⟨fs1, hb1⟩ := hI1.g0
  refine g_aload0 dL_types_325 ?_
  refine g_callSW1 (lw_end_0 ⟨fs1, hb1⟩ (kn_end_n hI1 hla hka hfm h0 h7 h13)) md_L_end dL_types_326 ml_L_102 st_L_end (RmOk.of (Nat.le_of_ble_eq_true rfl) (Nat.le_of_ble_eq_true rfl) (Nat.le_of_ble_eq_true rfl) (Nat.le_of_ble_eq_true rfl) (Nat.le_of_ble_eq_true rfl)) (kr_B (fun w1 hw1 => ?_)) kx_B
  obtain ⟨a1, a2⟩ := hw1.after hZ hM1
  clear hM
  have hM := a2
  refine g_aload10 dL_types_329 ?_
  refine g_iconst (v := 4) dL_types_331 (by decide) ?_
  refine g_jiald (k := 10) (i := 4) hM (by decide) (by decide) dL_types_332 (show _ < 6 from by omega) ?_
  rw [hJ1.1.2.2.2.2.1, eds13]
  refine g_iconst (v := 1) dL_types_333 (by decide) ?_
  refine g_isub dL_types_334 ?_
  rw [nI_pred]
  refine g_icmp_ne_f (tgt := 342) dL_types_335 (by decide) rfl ?_
  refine g_iconst (v := 1) dL_types_338 (by decide) ?_
  refine g_goto (tgt := 343) dL_types_339 (by decide) ?_
  refine g_zret dL_types_343 (by decide) ?_ (Nat.le_of_ble_eq_true rfl) (Nat.le_of_ble_eq_true rfl)
  exact ⟨rfl, _, _, _, _, a1, hM, hJ1⟩

set_option maxRecDepth 100000 in
theorem ct_ty_e4 {G : Gx} {X : Nat → Prop} {am : Nat → Nat} {w : Wd} {kp : Nat} {FJ : Nat → Nat → Int64} {FI : Nat → Nat → Int32} {N : Nat → Nat} {A : Nat → Nat → Int32} {act : Nat} {y : Int32} (hI : Inv0 G X w kp N A w) (hZ : LAZ G X am) (hM : LA G am w FJ FI w) (hJ : JJ N A FJ FI) (ha : 12 ≤ act) (ha2 : act < 16) (h58 : N 6 + N 7 ≤ 58) (h0 : 0 < N 10) (h13 : N 13 < 15) : Ct G yL_types kw_L_types rm_L_types [.ref kp, .int (nI act), .int y, .ref (am 0), .ref (am 1), .ref (am 2), .ref (am 3), .ref (am 4), .ref (am 5), .ref (am 6), .ref (am 10)] w (PB (.int 1) (St G X am kp)) := by
  have hJ0 := hJ
  obtain ⟨⟨G0, G1, G2, G3, G4, G5⟩, ⟨b1, b2, b3, b4, b5, b6⟩, hO, hP, hF, hR, hD, hV, hS, hT⟩ := hJ0
  have hb := hI.g0
  obtain ⟨fs0, hb0⟩ := hI.g0
  obtain ⟨la, ka, hla, hka, hfm⟩ := hI.fmOk
  refine ct_intro RL "types" (by decide +kernel) rfl rfl rfl (Nat.le_of_ble_eq_true rfl) [some (.ref kp), some (.int (nI act)), some (.int y), some (.ref (am 0)), some (.ref (am 1)), some (.ref (am 2)), some (.ref (am 3)), some (.ref (am 4)), some (.ref (am 5)), some (.ref (am 6)), some (.ref (am 10)), none, none] rfl (fun C => ?_)
  refine g_iload1 dL_types_0 ?_
  refine g_bipush (v := 8) dL_types_1 (by decide) ?_
  refine g_icmp_ge_t (tgt := 127) dL_types_3 (by decide) (nI_le (a := 8) (Nat.le_trans (by decide) ha) (by omega)) ?_
  refine g_aload10 dL_types_127 ?_
  refine g_iconst (v := 2) dL_types_129 (by decide) ?_
  refine g_jiald (k := 10) (i := 2) hM (by decide) (by decide) dL_types_130 (show _ < 6 from by omega) ?_
  rw [G2]
  refine g_aload10 dL_types_131 ?_
  refine g_iconst (v := 3) dL_types_133 (by decide) ?_
  refine g_jiald (k := 10) (i := 3) hM (by decide) (by decide) dL_types_134 (show _ < 6 from by omega) ?_
  rw [G3]
  refine g_iadd dL_types_135 ?_
  rw [nI_add]
  refine g_bipush (v := 58) dL_types_136 (by decide) ?_
  refine g_icmp_le_t (tgt := 158) dL_types_138 (by decide) (nI_le (b := 58) h58 (by decide)) ?_
  refine g_iload1 dL_types_158 ?_
  refine g_bipush (v := 12) dL_types_159 (by decide) ?_
  refine g_icmp_ge_t (tgt := 221) dL_types_161 (by decide) (nI_le (a := 12) ha (by omega)) ?_
  refine g_aload3 dL_types_221 ?_
  refine g_iconst (v := 0) dL_types_222 (by decide) ?_
  refine g_jlald (k := 0) (i := 0) hM (by decide) dL_types_223 (show _ < 1 from by omega) ?_
  rw [hO.2]
  refine g_callS1 (ct_lines b4 hO.1) md_L_lines dL_types_224 ml_L_73 st_L_lines (RmOk.of (Nat.le_of_ble_eq_true rfl) (Nat.le_of_ble_eq_true rfl) (Nat.le_of_ble_eq_true rfl) (Nat.le_of_ble_eq_true rfl) (Nat.le_of_ble_eq_true rfl)) (kr_V ?_) kx_V
  refine g_if_ne_t (tgt := 237) dL_types_227 (by decide) (fun z => absurd ((nI_eq (b := 0) (by omega) (by decide)).mp z) (by omega)) ?_
  refine g_aload10 dL_types_237 ?_
  refine g_iconst (v := 4) dL_types_239 (by decide) ?_
  refine g_jiald (k := 10) (i := 4) hM (by decide) (by decide) dL_types_240 (show _ < 6 from by omega) ?_
  rw [G4]
  refine g_bipush (v := 15) dL_types_241 (by decide) ?_
  refine g_icmp_ne_t (tgt := 261) dL_types_243 (by decide) (fun z => absurd ((nI_eq (b := 15) (by omega) (by decide)).mp z) (by omega)) ?_
  refine g_aload3 dL_types_261 ?_
  refine g_iconst (v := 0) dL_types_262 (by decide) ?_
  refine g_jlald (k := 0) (i := 0) hM (by decide) dL_types_263 (show _ < 1 from by omega) ?_
  rw [hO.2]
  refine g_callS1 (ct_lines b4 hO.1) md_L_lines dL_types_264 ml_L_73 st_L_lines (RmOk.of (Nat.le_of_ble_eq_true rfl) (Nat.le_of_ble_eq_true rfl) (Nat.le_of_ble_eq_true rfl) (Nat.le_of_ble_eq_true rfl) (Nat.le_of_ble_eq_true rfl)) (kr_V ?_) kx_V
  refine g_if_le_f (tgt := 310) dL_types_267 (by decide) (nI_nle h0 (by omega)) ?_
  refine g_aload4 dL_types_270 ?_
  refine g_aload10 dL_types_272 ?_
  refine g_iconst (v := 2) dL_types_274 (by decide) ?_
  refine g_jiald (k := 10) (i := 2) hM (by decide) (by decide) dL_types_275 (show _ < 6 from by omega) ?_
  rw [G2]
  refine g_aload10 dL_types_276 ?_
  refine g_iconst (v := 3) dL_types_278 (by decide) ?_
  refine g_jiald (k := 10) (i := 3) hM (by decide) (by decide) dL_types_279 (show _ < 6 from by omega) ?_
  rw [G3]
  refine g_iadd dL_types_280 ?_
  rw [nI_add]
  refine g_aload3 dL_types_281 ?_
  refine g_iconst (v := 0) dL_types_282 (by decide) ?_
  refine g_jlald (k := 0) (i := 0) hM (by decide) dL_types_283 (show _ < 1 from by omega) ?_
  refine g_jlast (k := 1) hM (by decide) dL_types_284 (show _ < 60 from by omega) (fun w1 hM => ?_)
  refine g_aload5 dL_types_285 ?_
  refine g_aload10 dL_types_287 ?_
  refine g_iconst (v := 2) dL_types_289 (by decide) ?_
  refine g_jiald (k := 10) (i := 2) hM (by decide) (by decide) dL_types_290 (show _ < 6 from by omega) ?_
  rw [G2]
  refine g_aload10 dL_types_291 ?_
  refine g_iconst (v := 3) dL_types_293 (by decide) ?_
  refine g_jiald (k := 10) (i := 3) hM (by decide) (by decide) dL_types_294 (show _ < 6 from by omega) ?_
  rw [G3]
  refine g_iadd dL_types_295 ?_
  rw [nI_add]
  refine g_iconst (v := 1) dL_types_296 (by decide) ?_
  refine g_jiast (k := 2) hM (by decide) (by decide) dL_types_297 (show _ < 60 from by omega) (fun w1 hM => ?_)
  refine g_aload3 dL_types_298 ?_
  refine g_iconst (v := 0) dL_types_299 (by decide) ?_
  refine g_lconst (v := 0) dL_types_300 (by decide) ?_
  refine g_jlast (k := 0) (i := 0) hM (by decide) dL_types_301 (show _ < 1 from by omega) (fun w1 hM => ?_)
  refine g_aload10 dL_types_302 ?_
  refine g_iconst (v := 3) dL_types_304 (by decide) ?_
  refine g_dup2 dL_types_305 rfl rfl ?_
  refine g_jiald (k := 10) (i := 3) hM (by decide) (by decide) dL_types_306 (show _ < 6 from by omega) ?_
  rw [show updA FI 2 (N 6 + N 7) 1 10 3 = nI (N 7) from G3]
  refine g_iconst (v := 1) dL_types_307 (by decide) ?_
  refine g_iadd dL_types_308 ?_
  rw [nI_1]
  refine g_jiast (k := 10) (i := 3) hM (by decide) (by decide) dL_types_309 (show _ < 6 from by omega) (fun w1 hM => ?_)
  have hJc := hJ.close (by omega)
  refine g_aload4 dL_types_310 ?_
  refine g_aload6 dL_types_312 ?_
  refine g_aload7 dL_types_314 ?_
  refine g_aload8 dL_types_316 ?_
  refine g_aload9 dL_types_318 ?_
  refine g_aload10 dL_types_320 ?_
  refine g_callS6 (ct_keep hM hJc rfl (Nat.succ_pos _) h13 hla hka (fmOk_eP hfm)) md_L_keep dL_types_322 ml_L_105 st_L_keep (RmOk.of (Nat.le_of_ble_eq_true rfl) (Nat.le_of_ble_eq_true rfl) (Nat.le_of_ble_eq_true rfl) (Nat.le_of_ble_eq_true rfl) (Nat.le_of_ble_eq_true rfl)) (kr_N (fun w1 hw1 => ?_)) kx_N
  obtain ⟨FX, hM1, hJ1⟩ := hw1
  have hI1 := hI.keepL hZ hM1
  obtain ⟨fs1, hb1⟩ := hI1.g0
  refine g_aload0 dL_types_325 ?_
  refine g_callSW1 (lw_end_0 ⟨fs1, hb1⟩ (kn_end_y hI1 hla hka hfm (by omega) (by omega) h13)) md_L_end dL_types_326 ml_L_102 st_L_end (RmOk.of (Nat.le_of_ble_eq_true rfl) (Nat.le_of_ble_eq_true rfl) (Nat.le_of_ble_eq_true rfl) (Nat.le_of_ble_eq_true rfl) (Nat.le_of_ble_eq_true rfl)) (kr_B (fun w1 hw1 => ?_)) kx_B
  obtain ⟨a1, a2⟩ := hw1.after hZ hM1
  clear hM
  have hM := a2
  refine g_aload10 dL_types_329 ?_
  refine g_iconst (v := 4) dL_types_331 (by decide) ?_
  refine g_jiald (k := 10) (i := 4) hM (by decide) (by decide) dL_types_332 (show _ < 6 from by omega) ?_
  rw [hJ1.1.2.2.2.2.1, eds13]
  refine g_iconst (v := 1) dL_types_333 (by decide) ?_
  refine g_isub dL_types_334 ?_
  rw [nI_pred]
  refine g_icmp_ne_f (tgt := 342) dL_types_335 (by decide) rfl ?_
  refine g_iconst (v := 1) dL_types_338 (by decide) ?_
  refine g_goto (tgt := 343) dL_types_339 (by decide) ?_
  refine g_zret dL_types_343 (by decide) ?_ (Nat.le_of_ble_eq_true rfl) (Nat.le_of_ble_eq_true rfl)
  exact ⟨rfl, _, _, _, _, a1, hM, hJ1⟩

theorem ct_types {G : Gx} {X : Nat → Prop} {am : Nat → Nat} {w : Wd} {kp : Nat} {FJ : Nat → Nat → Int64} {FI : Nat → Nat → Int32} {N : Nat → Nat} {A : Nat → Nat → Int32} {act : Nat} {y : Int32} (hI : Inv0 G X w kp N A w) (hZ : LAZ G X am) (hM : LA G am w FJ FI w) (hJ : JJ N A FJ FI) (ha : act < 16) : Ct G yL_types kw_L_types rm_L_types [.ref kp, .int (nI act), .int y, .ref (am 0), .ref (am 1), .ref (am 2), .ref (am 3), .ref (am 4), .ref (am 5), .ref (am 6), .ref (am 10)] w (PB (.int 1) (St G X am kp)) := by
  have hB := hJ.2.1
  by_cases h1 : act < 8
  · exact ct_ty_a hI hZ hM hJ h1
  by_cases h58 : 58 < N 6 + N 7
  · exact ct_ty_f hI hZ hM hJ (by omega) ha h58
  by_cases h2 : act < 12
  · exact ct_ty_d hI hZ hM hJ (by omega) h2 (by omega)
  by_cases h0 : N 10 = 0
  · by_cases h7 : N 7 = 0
    · exact ct_ty_e0 hI hZ hM hJ (by omega) ha (by omega) h0 h7
    · by_cases h13 : N 13 = 15
      · exact ct_ty_e1 hI hZ hM hJ (by omega) ha (by omega) h0 (by omega) h13
      · exact ct_ty_e3 hI hZ hM hJ (by omega) ha (by omega) h0 (by omega) (by have := hB.2.2.2.2.1; omega)
  · by_cases h13 : N 13 = 15
    · exact ct_ty_e2 hI hZ hM hJ (by omega) ha (by omega) (by omega) h13
    · exact ct_ty_e4 hI hZ hM hJ (by omega) ha (by omega) (by omega) (by have := hB.2.2.2.2.1; omega)

