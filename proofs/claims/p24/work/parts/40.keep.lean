/-! keep: a run put together. -/

abbrev rm_L_keep : Room := { frames := 2, cells := 0, slots := 0, locals := 43 }

theorem ct_at {G : Gx} {w : Wd} {n a l : Nat} {f : Nat → Int32} (hn : n ≤ 8) (h : vOk f a n) (hl2 : l < 1000) : Ct G yL_at kw_L_at rm_L_at [.long (pgv n f a), .int (nI l)] w (PV (.int (if l < n then f (a + l) else -1)) w) := by
  by_cases hl : l < n
  · rw [if_pos hl]; exact ct_at_t hn h hl
  · rw [if_neg hl]; exact ct_at_f hn h (by omega) hl2
/-- a page's line out of the long that holds it -/
theorem ct_at_p {G : Gx} {w : Wd} {N : Nat → Nat} {A FI : Nat → Nat → Int32} {FJ : Nat → Nat → Int64} {q l : Nat} (hP : JP N A FJ FI) (hq : q < N 6 + N 7) (hl : l < 1000) : Ct G yL_at kw_L_at rm_L_at [.long (FJ 1 q), .int (nI l)] w (PV (.int (lno A q l)) w) ∧ (lno A q l = -1 ∨ ∃ a, a < 100 ∧ lno A q l = nI a) := by
  obtain ⟨-, m, h1, h2, h3, h4⟩ := hP q hq
  rw [h4]
  have h9 := ct_at (G := G) (w := w) (l := l) h1 h3 hl
  have e : lno A q l = if l < m then A 9 (8 * q + l) else -1 := by
    unfold lno
    rw [h2]
    by_cases z : l < m
    · rw [if_pos z, if_pos (nI_lt z (by omega))]
    · rw [if_neg z, if_neg (fun y => z ((nI_ltI (by omega) (by omega)).mp y))]
  rw [e]
  refine ⟨h9, ?_⟩
  by_cases z : l < m
  · rw [if_pos z]; exact Or.inr (h3 l z)
  · rw [if_neg z]; exact Or.inl rfl

set_option maxRecDepth 100000 in
theorem lk_fm {G : Gx} {R : Room} {C : Cx} {Q : State → Prop} {c k : Nat} {am : Nat → Nat} {w0 w : Wd} {FJ : Nat → Nat → Int64} {FI : Nat → Nat → Int32} {N : Nat → Nat} {A : Nat → Nat → Int32} (hM : LA G am w0 FJ FI w) (hG : JG N FI) (h2 : N 2 ≤ 10) (h1 : N 1 ≤ 9999) (hF : JF N A FI)
    (hk : Go G R cL_keep RL (none, "keep", []) C Q 61 [some (.ref (am 1)), some (.ref (am 3)), some (.ref (am 4)), some (.ref (am 5)), some (.ref (am 6)), some (.ref (am 10)), some (.int (oI (fmS A (nI (N 1)) (N 2)))), some (.int (nI (N 2))), none, none, none, none, none] [] w c k) : ∀ (M i : Nat), N 2 - i < M → i ≤ N 2 →
    Go G R cL_keep RL (none, "keep", []) C Q 6 [some (.ref (am 1)), some (.ref (am 3)), some (.ref (am 4)), some (.ref (am 5)), some (.ref (am 6)), some (.ref (am 10)), some (.int (oI (fmS A (nI (N 1)) i))), some (.int (nI i)), none, none, none, none, none] [] w c k := by
  intro M
  induction M with
  | zero => intro i hM9; exact absurd hM9 (Nat.not_lt_zero _)
  | succ M ih =>
    intro i hi9 hi
    refine g_iload7 dL_keep_6 ?_
    refine g_aload5 dL_keep_8 ?_
    refine g_iconst (v := 1) dL_keep_10 (by decide) ?_
    refine g_jiald (k := 10) (i := 1) hM (by decide) (by decide) dL_keep_11 (show _ < 6 from by omega) ?_
    rw [hG.2.1]
    refine g_icmp_ge (tgt := 61) dL_keep_12 (by decide) (fun h12 => ?_) (fun h12 => ?_)
    · skip
      have hin : i = N 2 := Nat.le_antisymm hi (idx_ge (by omega) (by omega) h12)
      rw [hin]
      exact hk
    have hlt : i < N 2 := idx_lt (by omega) (by omega) h12
    have ih2 := ih (i + 1) (by omega) (by omega)
    obtain ⟨dy, a, b, d1, d2, d3, e3, -, -, e4⟩ := hF i hlt
    cases hf : fmS A (nI (N 1)) i with
    | none =>
      simp only [oI]
      refine g_aload2 dL_keep_15 ?_
      refine g_iload7 dL_keep_16 ?_
      refine g_jiald (k := 4) hM (by decide) (by decide) dL_keep_18 (show _ < 10 from (by omega)) ?_
      rw [e4]
      refine g_bipush (v := 6) dL_keep_19 (by decide) ?_
      refine g_ishr dL_keep_21 ?_
      rw [(pd_f d1 d2 d3).1]
      refine g_aload5 dL_keep_22 ?_
      refine g_iconst (v := 0) dL_keep_24 (by decide) ?_
      refine g_jiald (k := 10) (i := 0) hM (by decide) (by decide) dL_keep_25 (show _ < 6 from by omega) ?_
      rw [hG.1]
      refine g_icmp_gt (tgt := 55) dL_keep_26 (by decide) (fun h26 => ?_) (fun h26 => ?_)
      · skip
        refine g_iinc7 (v' := (nI (i + 1))) dL_keep_55 (nI_1 i) ?_
        refine g_goto (tgt := 6) dL_keep_58 (by decide) ?_
        first
          | (have e : fmS A (nI (N 1)) (i + 1) = some i := by
               unfold fmS
               exact if_pos (by simp only [Bool.and_eq_true, decide_eq_true_eq, hf, e3]; exact ⟨Int32.not_lt.mp h26, trivial⟩)
             rw [e] at ih2
             exact ih2)
          | (have e : fmS A (nI (N 1)) (i + 1) = fmS A (nI (N 1)) i := by
               conv => lhs; unfold fmS
               exact if_neg (by simp only [Bool.and_eq_true, decide_eq_true_eq, hf, e3]; intro z; first | exact absurd z.1 (Int32.not_le.mpr h26))
             rw [e, hf] at ih2
             exact ih2)
      · skip
        refine g_iload6 dL_keep_29 ?_
        refine g_if_lt_t (tgt := 51) dL_keep_31 (by decide) (by decide) ?_
        refine g_iload7 dL_keep_51 ?_
        refine g_istore6 dL_keep_53 ?_
        refine g_iinc7 (v' := (nI (i + 1))) dL_keep_55 (nI_1 i) ?_
        refine g_goto (tgt := 6) dL_keep_58 (by decide) ?_
        first
          | (have e : fmS A (nI (N 1)) (i + 1) = some i := by
               unfold fmS
               exact if_pos (by simp only [Bool.and_eq_true, decide_eq_true_eq, hf, e3]; exact ⟨Int32.not_lt.mp h26, trivial⟩)
             rw [e] at ih2
             exact ih2)
          | (have e : fmS A (nI (N 1)) (i + 1) = fmS A (nI (N 1)) i := by
               conv => lhs; unfold fmS
               exact if_neg (by simp only [Bool.and_eq_true, decide_eq_true_eq, hf, e3]; intro z; first | exact absurd z.1 (Int32.not_le.mpr h26))
             rw [e, hf] at ih2
             exact ih2)
    | some g =>
      have hg : g < i := fmS_lt hf
      obtain ⟨dyg, ag, bg, g1, g2, g3, e3g, -, -, e4g⟩ := hF g (by omega)
      simp only [oI]
      refine g_aload2 dL_keep_15 ?_
      refine g_iload7 dL_keep_16 ?_
      refine g_jiald (k := 4) hM (by decide) (by decide) dL_keep_18 (show _ < 10 from (by omega)) ?_
      rw [e4]
      refine g_bipush (v := 6) dL_keep_19 (by decide) ?_
      refine g_ishr dL_keep_21 ?_
      rw [(pd_f d1 d2 d3).1]
      refine g_aload5 dL_keep_22 ?_
      refine g_iconst (v := 0) dL_keep_24 (by decide) ?_
      refine g_jiald (k := 10) (i := 0) hM (by decide) (by decide) dL_keep_25 (show _ < 6 from by omega) ?_
      rw [hG.1]
      refine g_icmp_gt (tgt := 55) dL_keep_26 (by decide) (fun h26 => ?_) (fun h26 => ?_)
      · skip
        refine g_iinc7 (v' := (nI (i + 1))) dL_keep_55 (nI_1 i) ?_
        refine g_goto (tgt := 6) dL_keep_58 (by decide) ?_
        first
          | (have e : fmS A (nI (N 1)) (i + 1) = some i := by
               unfold fmS
               exact if_pos (by simp only [Bool.and_eq_true, decide_eq_true_eq, hf, e3, e3g]; exact ⟨Int32.not_lt.mp h26, Int32.not_lt.mp h48⟩)
             rw [e] at ih2
             exact ih2)
          | (have e : fmS A (nI (N 1)) (i + 1) = fmS A (nI (N 1)) i := by
               conv => lhs; unfold fmS
               exact if_neg (by simp only [Bool.and_eq_true, decide_eq_true_eq, hf, e3, e3g]; intro z; first | exact absurd z.1 (Int32.not_le.mpr h26) | exact absurd z.2 (Int32.not_le.mpr h48))
             rw [e, hf] at ih2
             exact ih2)
      · skip
        refine g_iload6 dL_keep_29 ?_
        refine g_if_lt_f (tgt := 51) dL_keep_31 (by decide) (nI_pos (by omega)) ?_
        refine g_aload2 dL_keep_34 ?_
        refine g_iload7 dL_keep_35 ?_
        refine g_jiald (k := 4) hM (by decide) (by decide) dL_keep_37 (show _ < 10 from (by omega)) ?_
        rw [e4]
        refine g_bipush (v := 6) dL_keep_38 (by decide) ?_
        refine g_ishr dL_keep_40 ?_
        rw [(pd_f d1 d2 d3).1]
        refine g_aload2 dL_keep_41 ?_
        refine g_iload6 dL_keep_42 ?_
        refine g_jiald (k := 4) hM (by decide) (by decide) dL_keep_44 (show _ < 10 from (by omega)) ?_
        rw [e4g]
        refine g_bipush (v := 6) dL_keep_45 (by decide) ?_
        refine g_ishr dL_keep_47 ?_
        rw [(pd_f g1 g2 g3).1]
        refine g_icmp_lt (tgt := 55) dL_keep_48 (by decide) (fun h48 => ?_) (fun h48 => ?_)
        · skip
          refine g_iinc7 (v' := (nI (i + 1))) dL_keep_55 (nI_1 i) ?_
          refine g_goto (tgt := 6) dL_keep_58 (by decide) ?_
          first
            | (have e : fmS A (nI (N 1)) (i + 1) = some i := by
                 unfold fmS
                 exact if_pos (by simp only [Bool.and_eq_true, decide_eq_true_eq, hf, e3, e3g]; exact ⟨Int32.not_lt.mp h26, Int32.not_lt.mp h48⟩)
               rw [e] at ih2
               exact ih2)
            | (have e : fmS A (nI (N 1)) (i + 1) = fmS A (nI (N 1)) i := by
                 conv => lhs; unfold fmS
                 exact if_neg (by simp only [Bool.and_eq_true, decide_eq_true_eq, hf, e3, e3g]; intro z; first | exact absurd z.1 (Int32.not_le.mpr h26) | exact absurd z.2 (Int32.not_le.mpr h48))
               rw [e, hf] at ih2
               exact ih2)
        · skip
          refine g_iload7 dL_keep_51 ?_
          refine g_istore6 dL_keep_53 ?_
          refine g_iinc7 (v' := (nI (i + 1))) dL_keep_55 (nI_1 i) ?_
          refine g_goto (tgt := 6) dL_keep_58 (by decide) ?_
          first
            | (have e : fmS A (nI (N 1)) (i + 1) = some i := by
                 unfold fmS
                 exact if_pos (by simp only [Bool.and_eq_true, decide_eq_true_eq, hf, e3, e3g]; exact ⟨Int32.not_lt.mp h26, Int32.not_lt.mp h48⟩)
               rw [e] at ih2
               exact ih2)
            | (have e : fmS A (nI (N 1)) (i + 1) = fmS A (nI (N 1)) i := by
                 conv => lhs; unfold fmS
                 exact if_neg (by simp only [Bool.and_eq_true, decide_eq_true_eq, hf, e3, e3g]; intro z; first | exact absurd z.1 (Int32.not_le.mpr h26) | exact absurd z.2 (Int32.not_le.mpr h48))
               rw [e, hf] at ih2
               exact ih2)

set_option maxRecDepth 100000 in
theorem kp_old {G : Gx} {C : Cx} {am : Nat → Nat} {w0 w1 : Wd} {FJ : Nat → Nat → Int64} {FI FI1 : Nat → Nat → Int32} {N : Nat → Nat} {A : Nat → Nat → Int32} {la ka i : Nat} {y6 : Option Value} {x11 x12 : Option Value} (hJ : JJ N A FJ FI) (h13 : N 13 < 15) (hla : la < 8) (hka : ka < 8) (hi : i < N 7) (hM : LA G am w0 FJ FI1 w1) (hK : KI N A FI (ptL la ka (N 6) i (N, A)) i FI1) (hi0 : 0 < i) (hc : ptC (ptL la ka (N 6) i (N, A)).1 (ptL la ka (N 6) i (N, A)).2 (N 6 + i) (lno (ptL la ka (N 6) i (N, A)).2 (N 6 + i) la) = false) (hnext : ∀ (w2 : Wd) (FI2 : Nat → Nat → Int32) (x11 x12 : Option Value), LA G am w0 FJ FI2 w2 → KI N A FI (ptL la ka (N 6) (i + 1) (N, A)) (i + 1) FI2 → Go G rm_L_keep cL_keep RL (none, "keep", []) C (QP G rm_L_keep (PN (fun w' => ∃ FX, LA G am w0 FJ FX w' ∧ JJ (edS la ka (N, A)).1 (edS la ka (N, A)).2 FJ FX)) C) 105 [some (.ref (am 1)), some (.ref (am 3)), some (.ref (am 4)), some (.ref (am 5)), some (.ref (am 6)), some (.ref (am 10)), y6, some (.int (nI la)), some (.int (nI ka)), some (.int (nI (N 6 + (i + 1)))), some (.int (lno A (N 6 + i) la)), x11, x12] [] w2 0 0) : Go G rm_L_keep cL_keep RL (none, "keep", []) C (QP G rm_L_keep (PN (fun w' => ∃ FX, LA G am w0 FJ FX w' ∧ JJ (edS la ka (N, A)).1 (edS la ka (N, A)).2 FJ FX)) C) 244 [some (.ref (am 1)), some (.ref (am 3)), some (.ref (am 4)), some (.ref (am 5)), some (.ref (am 6)), some (.ref (am 10)), y6, some (.int (nI la)), some (.int (nI ka)), some (.int (nI (N 6 + i))), some (.int (lno A (N 6 + i) la)), x11, x12] [] w1 0 0 := by
  obtain ⟨⟨G0, G1, G2, G3, G4, G5⟩, ⟨b1, b2, b3, b4, b5, b6⟩, hO, hP, hF, hR, hD, hV, hS, hT⟩ := hJ
  have mN : ∀ k, k ≠ 17 → (ptL la ka (N 6) i (N, A)).1 k = N k := fun k hk => ptL_N hk _
  have mA : ∀ k, k < 18 ∨ 23 < k → (ptL la ka (N 6) i (N, A)).2 k = A k := fun k hk => ptL_A hk _
  have hstep : ptL la ka (N 6) (i + 1) (N, A) = ptS la ka (N 6 + i) (ptL la ka (N 6) i (N, A)) := rfl
  have elno : ∀ l, lno (ptL la ka (N 6) i (N, A)).2 (N 6 + i) l = lno A (N 6 + i) l := fun l => by unfold lno; rw [mA 8 (by omega), mA 9 (by omega)]
  generalize ptL la ka (N 6) i (N, A) = M at hK mN mA hstep elno hc hnext
  have hK0 := hK
  obtain ⟨k1, k2, k3, k4, k5, k6⟩ := hK
  obtain ⟨t1, t2⟩ := k4 hi0
  refine g_aload4 dL_keep_244 ?_
  refine g_aload5 dL_keep_246 ?_
  refine g_iconst (v := 5) dL_keep_248 (by decide) ?_
  refine g_jiald (k := 10) (i := 5) hM (by decide) (by decide) dL_keep_249 (show _ < 6 from by omega) ?_
  rw [k2]
  refine g_iconst (v := 1) dL_keep_250 (by decide) ?_
  refine g_isub dL_keep_251 ?_
  rw [show nI (M.1 17) - 1 = nI (M.1 17 - 1) by rw [show M.1 17 = M.1 17 - 1 + 1 by omega, nI_pred]; rfl]
  refine g_dup2 dL_keep_252 rfl rfl ?_
  refine g_jiald (k := 6) hM (by decide) (by decide) dL_keep_253 (show _ < 60 from by omega) ?_
  refine g_iconst (v := 1) dL_keep_254 (by decide) ?_
  refine g_iadd dL_keep_255 ?_
  refine g_jiast (k := 6) hM (by decide) (by decide) dL_keep_256 (show _ < 60 from by omega) (fun w1 hM => ?_)
  refine g_iinc9 (v' := (nI (N 6 + (i + 1)))) dL_keep_257 (nI_1 _) ?_
  refine g_goto (tgt := 105) dL_keep_260 (by decide) ?_
  rw [hstep] at hnext
  exact hnext _ _ _ _ hM (ki_old hK0 hi0 hc)

set_option maxRecDepth 100000 in
theorem kp_new {G : Gx} {C : Cx} {am : Nat → Nat} {w0 w1 : Wd} {FJ : Nat → Nat → Int64} {FI FI1 : Nat → Nat → Int32} {N : Nat → Nat} {A : Nat → Nat → Int32} {la ka i : Nat} {y6 : Option Value} {x12 : Option Value} (hJ : JJ N A FJ FI) (h13 : N 13 < 15) (hla : la < 8) (hka : ka < 8) (hi : i < N 7) (hM : LA G am w0 FJ FI1 w1) (hK : KI N A FI (ptL la ka (N 6) i (N, A)) i FI1) (hc : ptC (ptL la ka (N 6) i (N, A)).1 (ptL la ka (N 6) i (N, A)).2 (N 6 + i) (lno (ptL la ka (N 6) i (N, A)).2 (N 6 + i) la) = true) (hnext : ∀ (w2 : Wd) (FI2 : Nat → Nat → Int32) (x11 x12 : Option Value), LA G am w0 FJ FI2 w2 → KI N A FI (ptL la ka (N 6) (i + 1) (N, A)) (i + 1) FI2 → Go G rm_L_keep cL_keep RL (none, "keep", []) C (QP G rm_L_keep (PN (fun w' => ∃ FX, LA G am w0 FJ FX w' ∧ JJ (edS la ka (N, A)).1 (edS la ka (N, A)).2 FJ FX)) C) 105 [some (.ref (am 1)), some (.ref (am 3)), some (.ref (am 4)), some (.ref (am 5)), some (.ref (am 6)), some (.ref (am 10)), y6, some (.int (nI la)), some (.int (nI ka)), some (.int (nI (N 6 + (i + 1)))), some (.int (lno A (N 6 + i) la)), x11, x12] [] w2 0 0) : Go G rm_L_keep cL_keep RL (none, "keep", []) C (QP G rm_L_keep (PN (fun w' => ∃ FX, LA G am w0 FJ FX w' ∧ JJ (edS la ka (N, A)).1 (edS la ka (N, A)).2 FJ FX)) C) 174 [some (.ref (am 1)), some (.ref (am 3)), some (.ref (am 4)), some (.ref (am 5)), some (.ref (am 6)), some (.ref (am 10)), y6, some (.int (nI la)), some (.int (nI ka)), some (.int (nI (N 6 + i))), some (.int (lno A (N 6 + i) la)), some (.int 0), x12] [] w1 0 0 := by
  obtain ⟨⟨G0, G1, G2, G3, G4, G5⟩, ⟨b1, b2, b3, b4, b5, b6⟩, hO, hP, hF, hR, hD, hV, hS, hT⟩ := hJ
  have mN : ∀ k, k ≠ 17 → (ptL la ka (N 6) i (N, A)).1 k = N k := fun k hk => ptL_N hk _
  have mA : ∀ k, k < 18 ∨ 23 < k → (ptL la ka (N 6) i (N, A)).2 k = A k := fun k hk => ptL_A hk _
  have hstep : ptL la ka (N 6) (i + 1) (N, A) = ptS la ka (N 6 + i) (ptL la ka (N 6) i (N, A)) := rfl
  have elno : ∀ l, lno (ptL la ka (N 6) i (N, A)).2 (N 6 + i) l = lno A (N 6 + i) l := fun l => by unfold lno; rw [mA 8 (by omega), mA 9 (by omega)]
  generalize ptL la ka (N 6) i (N, A) = M at hK mN mA hstep elno hc hnext
  have hK0 := hK
  obtain ⟨k1, k2, k3, k4, k5, k6⟩ := hK
  have hat := ct_at_p (G := G) (w := w1) (q := N 6 + i) (l := la) hP (by omega) (by omega)
  have hat2 := ct_at_p (G := G) (w := w1) (q := N 6 + i) (l := ka) hP (by omega) (by omega)
  obtain ⟨ac, ha, hac⟩ : ∃ ac, ac ≤ 100 ∧ lno A (N 6 + i) la = nI ac - 1 := by
    rcases hat.2 with z | ⟨a, ha, z⟩
    · exact ⟨0, by omega, z.trans (by decide)⟩
    · exact ⟨a + 1, by omega, z.trans (nI_pred a).symm⟩
  have hac1 : lno A (N 6 + i) la + 1 = nI ac := by rw [hac, Int32.sub_add_cancel]
  have hX : ∀ (kv : Int32) (ki : Nat), kv = nI ki → lno A (N 6 + i) la + 1 + 128 * kv + 512 * nI (N 6 + i) + 32768 * nI (N 13) = nI (ac + 128 * ki + 512 * (N 6 + i) + 32768 * N 13) := by
    intro kv ki e
    rw [hac1, e, show (128 : Int32) = nI 128 from rfl, show (512 : Int32) = nI 512 from rfl, show (32768 : Int32) = nI 32768 from rfl, pk_mul, pk_mul, pk_mul, nI_add, nI_add, nI_add]
  rcases hat2.2 with hz | ⟨b, hb, hz⟩
  · obtain ⟨ki, rfl⟩ : ∃ ki, ki = 0 := ⟨0, rfl⟩
    have hk0 : (0 : Int32) = nI 0 := rfl
    have hKn := ki_new (ka := ka) hK0 hc (mN 1 (by decide)) ha ((elno la).trans hac) (show 0 < 4 by decide) (show kdI (lno M.2 (N 6 + i) ka) = nI 0 by rw [elno, hz]; rfl)
    refine g_aload0 dL_keep_174 ?_
    refine g_iload9 dL_keep_175 ?_
    refine g_jlald (k := 1) hM (by decide) dL_keep_177 (show _ < 60 from by omega) ?_
    refine g_iload8 dL_keep_178 ?_
    refine g_callS2 hat2.1 md_L_at dL_keep_180 ml_L_85 st_L_at (RmOk.of (Nat.le_of_ble_eq_true rfl) (Nat.le_of_ble_eq_true rfl) (Nat.le_of_ble_eq_true rfl) (Nat.le_of_ble_eq_true rfl) (Nat.le_of_ble_eq_true rfl)) (kr_V ?_) kx_V
    refine g_istore12 dL_keep_183 ?_
    refine g_aload3 dL_keep_185 ?_
    refine g_aload5 dL_keep_186 ?_
    refine g_iconst (v := 5) dL_keep_188 (by decide) ?_
    refine g_jiald (k := 10) (i := 5) hM (by decide) (by decide) dL_keep_189 (show _ < 6 from by omega) ?_
    rw [k2]
    refine g_iload10 dL_keep_190 ?_
    refine g_iconst (v := 1) dL_keep_192 (by decide) ?_
    refine g_iadd dL_keep_193 ?_
    refine g_sipush (v := 128) dL_keep_194 (by decide) ?_
    refine g_iload12 dL_keep_197 ?_
    refine g_if_ge_f (tgt := 206) dL_keep_199 (by decide) (by rw [hz]; decide) ?_
    refine g_iconst (v := 0) dL_keep_202 (by decide) ?_
    refine g_goto (tgt := 210) dL_keep_203 (by decide) ?_
    refine g_imul dL_keep_210 ?_
    refine g_iadd dL_keep_211 ?_
    refine g_sipush (v := 512) dL_keep_212 (by decide) ?_
    refine g_iload9 dL_keep_215 ?_
    refine g_imul dL_keep_217 ?_
    refine g_iadd dL_keep_218 ?_
    refine g_ldcI dL_keep_219 kc_L_89 ?_
    refine g_aload5 dL_keep_221 ?_
    refine g_iconst (v := 4) dL_keep_223 (by decide) ?_
    refine g_jiald (k := 10) (i := 4) hM (by decide) (by decide) dL_keep_224 (show _ < 6 from by omega) ?_
    rw [k1 4 (by decide), G4]
    refine g_imul dL_keep_225 ?_
    refine g_iadd dL_keep_226 ?_
    rw [show lno A (N 6 + i) la + 1 + 128 * 0 + 512 * nI (N 6 + i) + 32768 * nI (N 13) = nI (ac + 128 * 0 + 512 * (N 6 + i) + 32768 * N 13) from hX _ _ hk0]
    refine g_jiast (k := 5) hM (by decide) (by decide) dL_keep_227 (show _ < 60 from by omega) (fun w1 hM => ?_)
    refine g_aload4 dL_keep_228 ?_
    refine g_aload5 dL_keep_230 ?_
    refine g_iconst (v := 5) dL_keep_232 (by decide) ?_
    refine g_jiald (k := 10) (i := 5) hM (by decide) (by decide) dL_keep_233 (show _ < 6 from by omega) ?_
    rw [show (updA FI1 5 (M.1 17) (nI (ac + 128 * 0 + 512 * (N 6 + i) + 32768 * N 13))) 10 5 = nI (M.1 17) from k2]
    refine g_iconst (v := 0) dL_keep_234 (by decide) ?_
    refine g_jiast (k := 6) hM (by decide) (by decide) dL_keep_235 (show _ < 60 from by omega) (fun w1 hM => ?_)
    refine g_aload5 dL_keep_236 ?_
    refine g_iconst (v := 5) dL_keep_238 (by decide) ?_
    refine g_dup2 dL_keep_239 rfl rfl ?_
    refine g_jiald (k := 10) (i := 5) hM (by decide) (by decide) dL_keep_240 (show _ < 6 from by omega) ?_
    rw [show (updA (updA FI1 5 (M.1 17) (nI (ac + 128 * 0 + 512 * (N 6 + i) + 32768 * N 13))) 6 (M.1 17) 0) 10 5 = nI (M.1 17) from k2]
    refine g_iconst (v := 1) dL_keep_241 (by decide) ?_
    refine g_iadd dL_keep_242 ?_
    rw [nI_1]
    refine g_jiast (k := 10) (i := 5) hM (by decide) (by decide) dL_keep_243 (show _ < 6 from by omega) (fun w1 hM => ?_)
    refine g_aload4 dL_keep_244 ?_
    refine g_aload5 dL_keep_246 ?_
    refine g_iconst (v := 5) dL_keep_248 (by decide) ?_
    refine g_jiald (k := 10) (i := 5) hM (by decide) (by decide) dL_keep_249 (show _ < 6 from by omega) ?_
    rw [show (updA (updA (updA FI1 5 (M.1 17) (nI (ac + 128 * 0 + 512 * (N 6 + i) + 32768 * N 13))) 6 (M.1 17) 0) 10 5 (nI (M.1 17 + 1))) 10 5 = nI (M.1 17 + 1) from upd_s (FI1 10) 5 _]
    refine g_iconst (v := 1) dL_keep_250 (by decide) ?_
    refine g_isub dL_keep_251 ?_
    rw [nI_pred]
    refine g_dup2 dL_keep_252 rfl rfl ?_
    refine g_jiald (k := 6) hM (by decide) (by decide) dL_keep_253 (show _ < 60 from by omega) ?_
    rw [show (updA (updA (updA FI1 5 (M.1 17) (nI (ac + 128 * 0 + 512 * (N 6 + i) + 32768 * N 13))) 6 (M.1 17) 0) 10 5 (nI (M.1 17 + 1))) 6 (M.1 17) = 0 from upd_s (FI1 6) (M.1 17) 0]
    refine g_iconst (v := 1) dL_keep_254 (by decide) ?_
    refine g_iadd dL_keep_255 ?_
    rw [show (0 : Int32) + 1 = 1 from rfl]
    refine g_jiast (k := 6) hM (by decide) (by decide) dL_keep_256 (show _ < 60 from by omega) (fun w1 hM => ?_)
    refine g_iinc9 (v' := (nI (N 6 + (i + 1)))) dL_keep_257 (nI_1 _) ?_
    refine g_goto (tgt := 105) dL_keep_260 (by decide) ?_
    rw [hstep] at hnext
    exact hnext _ _ _ _ hM hKn
  · have hkb : nI b - nI b / 4 * 4 = nI (b % 4) := kd4 b hb
    have hKn := ki_new (ka := ka) hK0 hc (mN 1 (by decide)) ha ((elno la).trans hac) (show b % 4 < 4 by omega) (show kdI (lno M.2 (N 6 + i) ka) = nI (b % 4) by rw [elno, hz]; unfold kdI; rw [if_neg (ne_m1 (by omega)), hkb])
    refine g_aload0 dL_keep_174 ?_
    refine g_iload9 dL_keep_175 ?_
    refine g_jlald (k := 1) hM (by decide) dL_keep_177 (show _ < 60 from by omega) ?_
    refine g_iload8 dL_keep_178 ?_
    refine g_callS2 hat2.1 md_L_at dL_keep_180 ml_L_85 st_L_at (RmOk.of (Nat.le_of_ble_eq_true rfl) (Nat.le_of_ble_eq_true rfl) (Nat.le_of_ble_eq_true rfl) (Nat.le_of_ble_eq_true rfl) (Nat.le_of_ble_eq_true rfl)) (kr_V ?_) kx_V
    refine g_istore12 dL_keep_183 ?_
    refine g_aload3 dL_keep_185 ?_
    refine g_aload5 dL_keep_186 ?_
    refine g_iconst (v := 5) dL_keep_188 (by decide) ?_
    refine g_jiald (k := 10) (i := 5) hM (by decide) (by decide) dL_keep_189 (show _ < 6 from by omega) ?_
    rw [k2]
    refine g_iload10 dL_keep_190 ?_
    refine g_iconst (v := 1) dL_keep_192 (by decide) ?_
    refine g_iadd dL_keep_193 ?_
    refine g_sipush (v := 128) dL_keep_194 (by decide) ?_
    refine g_iload12 dL_keep_197 ?_
    refine g_if_ge_t (tgt := 206) dL_keep_199 (by decide) (by rw [hz]; exact nI_pos' (by omega)) ?_
    refine g_iload12 dL_keep_206 ?_
    rw [hz]
    refine g_iconst (v := 4) dL_keep_208 (by decide) ?_
    refine g_irem dL_keep_209 (by decide) ?_
    refine g_imul dL_keep_210 ?_
    refine g_iadd dL_keep_211 ?_
    refine g_sipush (v := 512) dL_keep_212 (by decide) ?_
    refine g_iload9 dL_keep_215 ?_
    refine g_imul dL_keep_217 ?_
    refine g_iadd dL_keep_218 ?_
    refine g_ldcI dL_keep_219 kc_L_89 ?_
    refine g_aload5 dL_keep_221 ?_
    refine g_iconst (v := 4) dL_keep_223 (by decide) ?_
    refine g_jiald (k := 10) (i := 4) hM (by decide) (by decide) dL_keep_224 (show _ < 6 from by omega) ?_
    rw [k1 4 (by decide), G4]
    refine g_imul dL_keep_225 ?_
    refine g_iadd dL_keep_226 ?_
    rw [show lno A (N 6 + i) la + 1 + 128 * (nI b - nI b / 4 * 4) + 512 * nI (N 6 + i) + 32768 * nI (N 13) = nI (ac + 128 * (b % 4) + 512 * (N 6 + i) + 32768 * N 13) from hX _ _ hkb]
    refine g_jiast (k := 5) hM (by decide) (by decide) dL_keep_227 (show _ < 60 from by omega) (fun w1 hM => ?_)
    refine g_aload4 dL_keep_228 ?_
    refine g_aload5 dL_keep_230 ?_
    refine g_iconst (v := 5) dL_keep_232 (by decide) ?_
    refine g_jiald (k := 10) (i := 5) hM (by decide) (by decide) dL_keep_233 (show _ < 6 from by omega) ?_
    rw [show (updA FI1 5 (M.1 17) (nI (ac + 128 * (b % 4) + 512 * (N 6 + i) + 32768 * N 13))) 10 5 = nI (M.1 17) from k2]
    refine g_iconst (v := 0) dL_keep_234 (by decide) ?_
    refine g_jiast (k := 6) hM (by decide) (by decide) dL_keep_235 (show _ < 60 from by omega) (fun w1 hM => ?_)
    refine g_aload5 dL_keep_236 ?_
    refine g_iconst (v := 5) dL_keep_238 (by decide) ?_
    refine g_dup2 dL_keep_239 rfl rfl ?_
    refine g_jiald (k := 10) (i := 5) hM (by decide) (by decide) dL_keep_240 (show _ < 6 from by omega) ?_
    rw [show (updA (updA FI1 5 (M.1 17) (nI (ac + 128 * (b % 4) + 512 * (N 6 + i) + 32768 * N 13))) 6 (M.1 17) 0) 10 5 = nI (M.1 17) from k2]
    refine g_iconst (v := 1) dL_keep_241 (by decide) ?_
    refine g_iadd dL_keep_242 ?_
    rw [nI_1]
    refine g_jiast (k := 10) (i := 5) hM (by decide) (by decide) dL_keep_243 (show _ < 6 from by omega) (fun w1 hM => ?_)
    refine g_aload4 dL_keep_244 ?_
    refine g_aload5 dL_keep_246 ?_
    refine g_iconst (v := 5) dL_keep_248 (by decide) ?_
    refine g_jiald (k := 10) (i := 5) hM (by decide) (by decide) dL_keep_249 (show _ < 6 from by omega) ?_
    rw [show (updA (updA (updA FI1 5 (M.1 17) (nI (ac + 128 * (b % 4) + 512 * (N 6 + i) + 32768 * N 13))) 6 (M.1 17) 0) 10 5 (nI (M.1 17 + 1))) 10 5 = nI (M.1 17 + 1) from upd_s (FI1 10) 5 _]
    refine g_iconst (v := 1) dL_keep_250 (by decide) ?_
    refine g_isub dL_keep_251 ?_
    rw [nI_pred]
    refine g_dup2 dL_keep_252 rfl rfl ?_
    refine g_jiald (k := 6) hM (by decide) (by decide) dL_keep_253 (show _ < 60 from by omega) ?_
    rw [show (updA (updA (updA FI1 5 (M.1 17) (nI (ac + 128 * (b % 4) + 512 * (N 6 + i) + 32768 * N 13))) 6 (M.1 17) 0) 10 5 (nI (M.1 17 + 1))) 6 (M.1 17) = 0 from upd_s (FI1 6) (M.1 17) 0]
    refine g_iconst (v := 1) dL_keep_254 (by decide) ?_
    refine g_iadd dL_keep_255 ?_
    rw [show (0 : Int32) + 1 = 1 from rfl]
    refine g_jiast (k := 6) hM (by decide) (by decide) dL_keep_256 (show _ < 60 from by omega) (fun w1 hM => ?_)
    refine g_iinc9 (v' := (nI (N 6 + (i + 1)))) dL_keep_257 (nI_1 _) ?_
    refine g_goto (tgt := 105) dL_keep_260 (by decide) ?_
    rw [hstep] at hnext
    exact hnext _ _ _ _ hM hKn

set_option maxRecDepth 100000 in
theorem lk_pages {G : Gx} {C : Cx} {am : Nat → Nat} {w0 : Wd} {FJ : Nat → Nat → Int64} {FI : Nat → Nat → Int32} {N : Nat → Nat} {A : Nat → Nat → Int32} {la ka : Nat} {y6 : Option Value} (hJ : JJ N A FJ FI) (h10 : N 10 = 0) (h7 : 0 < N 7) (h13 : N 13 < 15) (hla : la < 8) (hka : ka < 8) : ∀ (M9 i : Nat) (w1 : Wd) (FI1 : Nat → Nat → Int32) (x10 x11 x12 : Option Value), N 7 - i < M9 → i ≤ N 7 → LA G am w0 FJ FI1 w1 → KI N A FI (ptL la ka (N 6) i (N, A)) i FI1 →
    Go G rm_L_keep cL_keep RL (none, "keep", []) C (QP G rm_L_keep (PN (fun w' => ∃ FX, LA G am w0 FJ FX w' ∧ JJ (edS la ka (N, A)).1 (edS la ka (N, A)).2 FJ FX)) C) 105 [some (.ref (am 1)), some (.ref (am 3)), some (.ref (am 4)), some (.ref (am 5)), some (.ref (am 6)), some (.ref (am 10)), y6, some (.int (nI la)), some (.int (nI ka)), some (.int (nI (N 6 + i))), x10, x11, x12] [] w1 0 0 := by
  intro M9
  induction M9 with
  | zero => intro i w1 FI1 x10 x11 x12 hM9; exact absurd hM9 (Nat.not_lt_zero _)
  | succ M9 ih =>
    intro i w1 FI1 x10 x11 x12 hi9 hi hM hK
    have hJ0 := hJ
    obtain ⟨⟨G0, G1, G2, G3, G4, G5⟩, ⟨b1, b2, b3, b4, b5, b6⟩, hO, hP, hF, hR, hD, hV, hS, hT⟩ := hJ0
    have hK9 := hK
    have mN9 : (ptL la ka (N 6) i (N, A)).1 6 = N 6 := ptL_N (by decide) _
    have elno : ∀ l, lno (ptL la ka (N 6) i (N, A)).2 (N 6 + i) l = lno A (N 6 + i) l := fun l => by unfold lno; rw [ptL_A (Or.inl (by decide)), ptL_A (Or.inl (by decide))]
    have hK8 := hK
    generalize hM9 : ptL la ka (N 6) i (N, A) = M at hK8
    have mN8 : M.1 6 = N 6 := by rw [← hM9]; exact mN9
    have elno8 : ∀ l, lno M.2 (N 6 + i) l = lno A (N 6 + i) l := fun l => by rw [← hM9]; exact elno l
    obtain ⟨k1, k2, k3, k4, k5, k6⟩ := hK8
    have ed : 0 < M.1 17 → (FI1 5 (M.1 17 - 1) &&& 127) - 1 = M.2 20 (M.1 17 - 1) := fun z => by
      obtain ⟨ac, ki, fp, ru, ln, a1, a2, a3, a4, a5, a6, a7, a8, a9, a10, a11, a12⟩ := k6 (M.1 17 - 1) (by omega)
      rw [a11, (pd_d a1 a2 (show fp < 64 by omega) (show ru < 15 by omega)).1, a6]
    have hneg : i < N 7 → lno A (N 6 + i) la < 0 → lno A (N 6 + i) la = -1 := fun hi7 z => by
      rcases (ct_at_p (G := G) (w := w1) (q := N 6 + i) (l := la) hP (by omega) (by omega)).2 with y | ⟨a, ha, y⟩
      · exact y
      · rw [y] at z; exact absurd z (nI_pos (by omega))
    refine g_iload9 dL_keep_105 ?_
    refine g_aload5 dL_keep_107 ?_
    refine g_iconst (v := 2) dL_keep_109 (by decide) ?_
    refine g_jiald (k := 10) (i := 2) hM (by decide) (by decide) dL_keep_110 (show _ < 6 from by omega) ?_
    rw [k1 2 (by decide), G2]
    refine g_aload5 dL_keep_111 ?_
    refine g_iconst (v := 3) dL_keep_113 (by decide) ?_
    refine g_jiald (k := 10) (i := 3) hM (by decide) (by decide) dL_keep_114 (show _ < 6 from by omega) ?_
    rw [k1 3 (by decide), G3]
    refine g_iadd dL_keep_115 ?_
    rw [nI_add]
    refine g_icmp_ge (tgt := 263) dL_keep_116 (by decide) (fun h116 => ?_) (fun h116 => ?_)
    · skip
      have hin : i = N 7 := by have := idx_ge (by omega) (by omega) h116; omega
      refine g_aload1 dL_keep_263 ?_
      refine g_aload5 dL_keep_264 ?_
      refine g_iconst (v := 4) dL_keep_266 (by decide) ?_
      refine g_jiald (k := 10) (i := 4) hM (by decide) (by decide) dL_keep_267 (show _ < 6 from by omega) ?_
      rw [k1 4 (by decide), G4]
      refine g_aload5 dL_keep_268 ?_
      refine g_iconst (v := 2) dL_keep_270 (by decide) ?_
      refine g_jiald (k := 10) (i := 2) hM (by decide) (by decide) dL_keep_271 (show _ < 6 from by omega) ?_
      rw [k1 2 (by decide), G2]
      refine g_bipush (v := 64) dL_keep_272 (by decide) ?_
      refine g_aload5 dL_keep_274 ?_
      refine g_iconst (v := 3) dL_keep_276 (by decide) ?_
      refine g_jiald (k := 10) (i := 3) hM (by decide) (by decide) dL_keep_277 (show _ < 6 from by omega) ?_
      rw [k1 3 (by decide), G3]
      refine g_imul dL_keep_278 ?_
      refine g_iadd dL_keep_279 ?_
      refine g_sipush (v := 4096) dL_keep_280 (by decide) ?_
      refine g_aload5 dL_keep_283 ?_
      refine g_iconst (v := 0) dL_keep_285 (by decide) ?_
      refine g_jiald (k := 10) (i := 0) hM (by decide) (by decide) dL_keep_286 (show _ < 6 from by omega) ?_
      refine g_imul dL_keep_287 ?_
      rw [k1 0 (by decide), G0]
      refine g_iadd dL_keep_288 ?_
      rw [show nI (N 6) + 64 * nI (N 7) + 4096 * nI (N 1) = nI (N 6 + 64 * N 7 + 4096 * N 1) by rw [show (64 : Int32) = nI 64 from rfl, show (4096 : Int32) = nI 4096 from rfl, pk_mul, pk_mul, nI_add, nI_add]]
      refine g_jiast (k := 3) hM (by decide) (by decide) dL_keep_289 (show _ < 15 from by omega) (fun w1 hM => ?_)
      refine g_aload5 dL_keep_290 ?_
      refine g_iconst (v := 2) dL_keep_292 (by decide) ?_
      refine g_dup2 dL_keep_293 rfl rfl ?_
      refine g_jiald (k := 10) (i := 2) hM (by decide) (by decide) dL_keep_294 (show _ < 6 from by omega) ?_
      rw [show (updA FI1 3 (N 13) (nI (N 6 + 64 * N 7 + 4096 * N 1))) 10 2 = nI (N 6) from (k1 2 (by decide)).trans G2]
      refine g_aload5 dL_keep_295 ?_
      refine g_iconst (v := 3) dL_keep_297 (by decide) ?_
      refine g_jiald (k := 10) (i := 3) hM (by decide) (by decide) dL_keep_298 (show _ < 6 from by omega) ?_
      rw [show (updA FI1 3 (N 13) (nI (N 6 + 64 * N 7 + 4096 * N 1))) 10 3 = nI (N 7) from (k1 3 (by decide)).trans G3]
      refine g_iadd dL_keep_299 ?_
      rw [nI_add]
      refine g_jiast (k := 10) (i := 2) hM (by decide) (by decide) dL_keep_300 (show _ < 6 from by omega) (fun w1 hM => ?_)
      refine g_aload5 dL_keep_301 ?_
      refine g_iconst (v := 3) dL_keep_303 (by decide) ?_
      refine g_iconst (v := 0) dL_keep_304 (by decide) ?_
      refine g_jiast (k := 10) (i := 3) hM (by decide) (by decide) dL_keep_305 (show _ < 6 from by omega) (fun w1 hM => ?_)
      refine g_aload5 dL_keep_306 ?_
      refine g_iconst (v := 4) dL_keep_308 (by decide) ?_
      refine g_dup2 dL_keep_309 rfl rfl ?_
      refine g_jiald (k := 10) (i := 4) hM (by decide) (by decide) dL_keep_310 (show _ < 6 from by omega) ?_
      rw [show (updA (updA (updA FI1 3 (N 13) (nI (N 6 + 64 * N 7 + 4096 * N 1))) 10 2 (nI (N 6 + N 7))) 10 3 0) 10 4 = nI (N 13) from (k1 4 (by decide)).trans G4]
      refine g_iconst (v := 1) dL_keep_311 (by decide) ?_
      refine g_iadd dL_keep_312 ?_
      rw [nI_1]
      refine g_jiast (k := 10) (i := 4) hM (by decide) (by decide) dL_keep_313 (show _ < 6 from by omega) (fun w1 hM => ?_)
      refine g_vret dL_keep_314 ?_ (Nat.le_of_ble_eq_true rfl) (Nat.le_of_ble_eq_true rfl)
      rw [hin] at hK9
      exact ⟨rfl, _, hM, kept_end hJ hK9 h10 h7 h13⟩
    · skip
      have hlt : i < N 7 := by have := idx_lt (by omega) (by omega) h116; omega
      have hat := ct_at_p (G := G) (w := w1) (q := N 6 + i) (l := la) hP (by omega) (by omega)
      have hih := fun (w2 : Wd) (FI2 : Nat → Nat → Int32) (x11 x12 : Option Value) => ih (i + 1) w2 FI2 (some (.int (lno A (N 6 + i) la))) x11 x12 (by omega) (by omega)
      refine g_aload0 dL_keep_119 ?_
      refine g_iload9 dL_keep_120 ?_
      refine g_jlald (k := 1) hM (by decide) dL_keep_122 (show _ < 60 from by omega) ?_
      refine g_iload7 dL_keep_123 ?_
      refine g_callS2 hat.1 md_L_at dL_keep_125 ml_L_85 st_L_at (RmOk.of (Nat.le_of_ble_eq_true rfl) (Nat.le_of_ble_eq_true rfl) (Nat.le_of_ble_eq_true rfl) (Nat.le_of_ble_eq_true rfl) (Nat.le_of_ble_eq_true rfl)) (kr_V ?_) kx_V
      refine g_istore10 dL_keep_128 ?_
      refine g_iload9 dL_keep_130 ?_
      refine g_aload5 dL_keep_132 ?_
      refine g_iconst (v := 2) dL_keep_134 (by decide) ?_
      refine g_jiald (k := 10) (i := 2) hM (by decide) (by decide) dL_keep_135 (show _ < 6 from by omega) ?_
      rw [k1 2 (by decide), G2]
      refine g_icmp_le (tgt := 166) dL_keep_136 (by decide) (fun h136 => ?_) (fun h136 => ?_)
      · skip
        have hi0 : i = 0 := by have := (nI_leI (by omega) (by omega)).mp h136; omega
        refine g_iconst (v := 0) dL_keep_166 (by decide) ?_
        refine g_istore11 dL_keep_167 ?_
        refine g_iload11 dL_keep_169 ?_
        refine g_if_ne_f (tgt := 244) dL_keep_171 (by decide) (by decide) ?_
        exact kp_new hJ h13 hla hka hlt hM hK9 (by rw [hM9]; unfold ptC; rw [mN8, decide_eq_true (show N 6 + i = N 6 by omega)]; rfl) hih
      · skip
        have hi0 : 0 < i := by
          rcases Nat.eq_zero_or_pos i with z | z
          · exact absurd (show nI (N 6 + i) ≤ nI (N 6) by rw [z]; exact Int32.le_refl _) h136
          · exact z
        obtain ⟨t1, t2⟩ := k4 hi0
        refine g_iload10 dL_keep_139 ?_
        refine g_if_lt (tgt := 162) dL_keep_141 (by decide) (fun h141 => ?_) (fun h141 => ?_)
        · skip
          refine g_iconst (v := 1) dL_keep_162 (by decide) ?_
          refine g_goto (tgt := 167) dL_keep_163 (by decide) ?_
          refine g_istore11 dL_keep_167 ?_
          refine g_iload11 dL_keep_169 ?_
          refine g_if_ne_t (tgt := 244) dL_keep_171 (by decide) (by decide) ?_
          exact kp_old hJ h13 hla hka hlt hM hK9 hi0 (by rw [hM9]; unfold ptC; rw [mN8, elno8, decide_eq_false (show ¬ N 6 + i = N 6 by omega), decide_eq_true (hneg hlt h141)]; rfl) hih
        · skip
          refine g_iload10 dL_keep_144 ?_
          refine g_aload3 dL_keep_146 ?_
          refine g_aload5 dL_keep_147 ?_
          refine g_iconst (v := 5) dL_keep_149 (by decide) ?_
          refine g_jiald (k := 10) (i := 5) hM (by decide) (by decide) dL_keep_150 (show _ < 6 from by omega) ?_
          rw [k2]
          refine g_iconst (v := 1) dL_keep_151 (by decide) ?_
          refine g_isub dL_keep_152 ?_
          rw [show nI (M.1 17) - 1 = nI (M.1 17 - 1) by rw [show M.1 17 = M.1 17 - 1 + 1 by omega, nI_pred]; rfl]
          refine g_jiald (k := 5) hM (by decide) (by decide) dL_keep_153 (show _ < 60 from by omega) ?_
          refine g_bipush (v := 127) dL_keep_154 (by decide) ?_
          refine g_iand dL_keep_156 ?_
          refine g_iconst (v := 1) dL_keep_157 (by decide) ?_
          refine g_isub dL_keep_158 ?_
          rw [ed t1]
          refine g_icmp_ne (tgt := 166) dL_keep_159 (by decide) (fun h159 => ?_) (fun h159 => ?_)
          · skip
            refine g_iconst (v := 0) dL_keep_166 (by decide) ?_
            refine g_istore11 dL_keep_167 ?_
            refine g_iload11 dL_keep_169 ?_
            refine g_if_ne_f (tgt := 244) dL_keep_171 (by decide) (by decide) ?_
            exact kp_new hJ h13 hla hka hlt hM hK9 (by rw [hM9]; unfold ptC; rw [elno8, decide_eq_false (show ¬ lno A (N 6 + i) la = -1 from fun z => h141 (by rw [z]; decide)), decide_eq_false (show ¬ M.2 20 (M.1 17 - 1) = lno A (N 6 + i) la from fun z => h159 z.symm)]; exact Bool.or_true _) hih
          · skip
            refine g_iconst (v := 1) dL_keep_162 (by decide) ?_
            refine g_goto (tgt := 167) dL_keep_163 (by decide) ?_
            refine g_istore11 dL_keep_167 ?_
            refine g_iload11 dL_keep_169 ?_
            refine g_if_ne_t (tgt := 244) dL_keep_171 (by decide) (by decide) ?_
            exact kp_old hJ h13 hla hka hlt hM hK9 hi0 (by rw [hM9]; unfold ptC; rw [mN8, elno8, decide_eq_false (show ¬ N 6 + i = N 6 by omega), decide_eq_true (show M.2 20 (M.1 17 - 1) = lno A (N 6 + i) la from h159.symm)]; exact Bool.and_false _) hih

set_option maxRecDepth 100000 in
theorem ct_keep {G : Gx} {am : Nat → Nat} {w0 w : Wd} {FJ : Nat → Nat → Int64} {FI : Nat → Nat → Int32} {N : Nat → Nat} {A : Nat → Nat → Int32} {la ka : Nat} (hM : LA G am w0 FJ FI w) (hJ : JJ N A FJ FI) (h10 : N 10 = 0) (h7 : 0 < N 7) (h13 : N 13 < 15) (hla : la < 8) (hka : ka < 8) (hfm : fmOk N A la ka) : Ct G yL_keep kw_L_keep rm_L_keep [.ref (am 1), .ref (am 3), .ref (am 4), .ref (am 5), .ref (am 6), .ref (am 10)] w (PN (fun w' => ∃ FX, LA G am w0 FJ FX w' ∧ JJ (edS la ka (N, A)).1 (edS la ka (N, A)).2 FJ FX)) := by
  have hJ0 := hJ
  obtain ⟨hG, ⟨b1, b2, b3, b4, b5, b6⟩, hO, hP, hF, hR, hD, hV, hS, hT⟩ := hJ0
  obtain ⟨G0, G1, G2, G3, G4, G5⟩ := id hG
  refine ct_intro RL "keep" (by decide +kernel) rfl rfl rfl (Nat.le_of_ble_eq_true rfl) [some (.ref (am 1)), some (.ref (am 3)), some (.ref (am 4)), some (.ref (am 5)), some (.ref (am 6)), some (.ref (am 10)), none, none, none, none, none, none, none] rfl (fun C => ?_)
  refine g_iconst (v := (-1)) dL_keep_0 (by decide) ?_
  refine g_istore6 dL_keep_1 ?_
  refine g_iconst (v := 0) dL_keep_3 (by decide) ?_
  refine g_istore7 dL_keep_4 ?_
  refine lk_fm hM hG b2 b1 hF ?_ (N 2 + 1) 0 (by omega) (Nat.zero_le _)
  rcases hfm with ⟨z, rfl, rfl⟩ | ⟨g, z, z4, z5⟩
  · rw [z]
    simp only [oI]
    refine g_iload6 dL_keep_61 ?_
    refine g_if_ge_f (tgt := 70) dL_keep_63 (by decide) (by decide) ?_
    refine g_iconst (v := 0) dL_keep_66 (by decide) ?_
    refine g_goto (tgt := 79) dL_keep_67 (by decide) ?_
    refine g_istore7 dL_keep_79 ?_
    refine g_iload6 dL_keep_81 ?_
    refine g_if_ge_f (tgt := 90) dL_keep_83 (by decide) (by decide) ?_
    refine g_iconst (v := 1) dL_keep_86 (by decide) ?_
    refine g_goto (tgt := 97) dL_keep_87 (by decide) ?_
    refine g_istore8 dL_keep_97 ?_
    refine g_aload5 dL_keep_99 ?_
    refine g_iconst (v := 2) dL_keep_101 (by decide) ?_
    refine g_jiald (k := 10) (i := 2) hM (by decide) (by decide) dL_keep_102 (show _ < 6 from by omega) ?_
    rw [G2]
    refine g_istore9 dL_keep_103 ?_
    exact lk_pages hJ h10 h7 h13 hla hka (N 7 + 1) 0 w FI none none none (by omega) (Nat.zero_le _) hM (ki_start hJ)
  · rw [z]
    simp only [oI]
    have hg2 : g < N 2 := fmS_lt z
    obtain ⟨dy, a, b, d1, d2, d3, e3, e4a, e5a, e4⟩ := hF g hg2
    obtain rfl : a = la := (nI_eq (by omega) (by omega)).mp (e4a.symm.trans z4)
    obtain rfl : b = ka := (nI_eq (by omega) (by omega)).mp (e5a.symm.trans z5)
    refine g_iload6 dL_keep_61 ?_
    refine g_if_ge_t (tgt := 70) dL_keep_63 (by decide) (nI_pos' (by omega)) ?_
    refine g_aload2 dL_keep_70 ?_
    refine g_iload6 dL_keep_71 ?_
    refine g_jiald (k := 4) hM (by decide) (by decide) dL_keep_73 (show _ < 10 from (by omega)) ?_
    rw [e4]
    refine g_iconst (v := 3) dL_keep_74 (by decide) ?_
    refine g_ishr dL_keep_75 ?_
    refine g_bipush (v := 7) dL_keep_76 (by decide) ?_
    refine g_iand dL_keep_78 ?_
    rw [(pd_f d1 d2 d3).2.1]
    refine g_istore7 dL_keep_79 ?_
    refine g_iload6 dL_keep_81 ?_
    refine g_if_ge_t (tgt := 90) dL_keep_83 (by decide) (nI_pos' (by omega)) ?_
    refine g_aload2 dL_keep_90 ?_
    refine g_iload6 dL_keep_91 ?_
    refine g_jiald (k := 4) hM (by decide) (by decide) dL_keep_93 (show _ < 10 from (by omega)) ?_
    rw [e4]
    refine g_bipush (v := 7) dL_keep_94 (by decide) ?_
    refine g_iand dL_keep_96 ?_
    rw [(pd_f d1 d2 d3).2.2]
    refine g_istore8 dL_keep_97 ?_
    refine g_aload5 dL_keep_99 ?_
    refine g_iconst (v := 2) dL_keep_101 (by decide) ?_
    refine g_jiald (k := 10) (i := 2) hM (by decide) (by decide) dL_keep_102 (show _ < 6 from by omega) ?_
    rw [G2]
    refine g_istore9 dL_keep_103 ?_
    exact lk_pages hJ h10 h7 h13 hla hka (N 7 + 1) 0 w FI none none none (by omega) (Nat.zero_le _) hM (ki_start hJ)

