/-! The reference: its methods with loops. -/
/-- the format that counts on the day dy, of the first f told -/
def fmS (A : Nat → Nat → Int32) (dy : Int32) : Nat → Option Nat
  | 0 => none
  | f + 1 => if (decide (A 3 f ≤ dy) && (match fmS A dy f with | none => true | some g => decide (A 3 g ≤ A 3 f))) = true then some f else fmS A dy f
def oI : Option Nat → Int32
  | none => -1
  | some g => nI g
theorem fmS_lt {A : Nat → Nat → Int32} {dy : Int32} : ∀ {f g : Nat}, fmS A dy f = some g → g < f
  | 0, g, h => by cases h
  | f + 1, g, h => by
    unfold fmS at h
    by_cases hc : (decide (A 3 f ≤ dy) && (match fmS A dy f with | none => true | some g => decide (A 3 g ≤ A 3 f))) = true
    · rw [if_pos hc] at h
      cases h
      exact Nat.lt_succ_self _
    · rw [if_neg hc] at h
      exact Nat.lt_succ_of_lt (fmS_lt h)
theorem ne_m1 {n : Nat} (h : n < 2 ^ 31) : ¬ nI n = -1 := fun e => by
  have h1 := nI_toInt h
  rw [e] at h1
  have h2 : (-1 : Int32).toInt = -1 := by decide
  omega
theorem idx_lt {i n : Nat} (hi : i < 2 ^ 31) (hn : n < 2 ^ 31) (h : ¬ nI n ≤ nI i) : i < n := Nat.lt_of_not_le fun z => h ((nI_leI hn hi).mpr z)
theorem idx_ge {i n : Nat} (hi : i < 2 ^ 31) (hn : n < 2 ^ 31) (h : nI n ≤ nI i) : n ≤ i := (nI_leI hn hi).mp h

abbrev rm_X6_formatNow : Room := { frames := 0, cells := 0, slots := 0, locals := 0 }

set_option maxRecDepth 100000 in
theorem lp_formatNow {G : Gx} {w0 : Wd} {am : Nat → Nat} {th : Int32} {N : Nat → Nat} {A : Nat → Nat → Int32} {w : Wd} (h2 : N 2 ≤ 10) (hM : Mz G am w0 (tI th N) A w) (C : Cx) : ∀ (M i : Nat), N 2 - i < M → ∀ (y : Option Value), i ≤ N 2 →
    Go G rm_X6_formatNow cX6_formatNow RX6 (some .int, "formatNow", []) C (QP G rm_X6_formatNow (PV (.int (oI (fmS A (nI (N 1)) (N 2)))) w) C) 4 [some (.ref (am 0)), some (.int (oI (fmS A (nI (N 1)) i))), some (.int (nI i)), y] [] w 0 0 := by
  intro M
  induction M with
  | zero => intro i hM9; exact absurd hM9 (Nat.not_lt_zero _)
  | succ M ih =>
    intro i hi9 y hi
    refine g_iload2 dX6_formatNow_4 ?_
    refine g_aload0 dX6_formatNow_5 ?_
    refine g_getf kc7 dX6_formatNow_6 fl_X6_88 (by decide) hM.1 (show _ = some (Value.int (nI (N 2))) from rfl) ?_
    refine g_icmp_ge (tgt := 67) dX6_formatNow_9 (by decide) (fun h9 => ?_) (fun h9 => ?_)
    · have hin : i = N 2 := Nat.le_antisymm hi (idx_ge (by omega) (by omega) h9)
      refine g_iload1 dX6_formatNow_67 ?_
      refine g_iret dX6_formatNow_68 ⟨by rw [hin], rfl⟩ (Nat.le_of_ble_eq_true rfl) (Nat.le_of_ble_eq_true rfl)
    have hlt : i < N 2 := idx_lt (by omega) (by omega) h9
    have ih2 := ih (i + 1) (by omega)
    cases hf : fmS A (nI (N 1)) i with
    | none =>
      simp only [oI]
      refine g_aload0 dX6_formatNow_12 ?_
      refine g_getf kc7 dX6_formatNow_13 fl_X6_7 (by decide) hM.1 rfl ?_
      refine g_iload2 dX6_formatNow_16 ?_
      refine g_miald (k := 3) (n := 10) hM rfl (by decide) (fun _ => rfl) dX6_formatNow_17 (by omega) (by decide) ?_
      refine g_aload0 dX6_formatNow_18 ?_
      refine g_getf kc7 dX6_formatNow_19 fl_X6_85 (by decide) hM.1 (show _ = some (Value.int (nI (N 1))) from rfl) ?_
      refine g_icmp_gt (tgt := 49) dX6_formatNow_22 (by decide) (fun h22 => ?_) (fun h22 => ?_)
      · skip
        refine g_iconst (v := 0) dX6_formatNow_49 (by decide) ?_
        refine g_istore3 dX6_formatNow_50 ?_
        refine g_iload3 dX6_formatNow_51 ?_
        refine g_if_eq_t (tgt := 59) dX6_formatNow_52 (by decide) (by decide) ?_
        refine g_iload1 dX6_formatNow_59 ?_
        refine g_istore1 dX6_formatNow_60 ?_
        refine g_iinc2 (v' := (nI (i + 1))) dX6_formatNow_61 (nI_1 i) ?_
        refine g_goto (tgt := 4) dX6_formatNow_64 (by decide) ?_
        first
          | (have e : fmS A (nI (N 1)) (i + 1) = some i := by
               unfold fmS
               exact if_pos (by simp only [Bool.and_eq_true, decide_eq_true_eq, hf]; exact ⟨Int32.not_lt.mp h22, trivial⟩)
             rw [e] at ih2
             exact ih2 _ (by omega))
          | (have e : fmS A (nI (N 1)) (i + 1) = fmS A (nI (N 1)) i := by
               conv => lhs; unfold fmS
               exact if_neg (by simp only [Bool.and_eq_true, decide_eq_true_eq, hf]; intro z; first | exact h22 z.1 | exact absurd z.1 (Int32.not_le.mpr h22))
             rw [e, hf] at ih2
             exact ih2 _ (by omega))
      · skip
        refine g_iload1 dX6_formatNow_25 ?_
        refine g_iconst (v := (-1)) dX6_formatNow_26 (by decide) ?_
        refine g_icmp_eq_t (tgt := 45) dX6_formatNow_27 (by decide) rfl ?_
        refine g_iconst (v := 1) dX6_formatNow_45 (by decide) ?_
        refine g_goto (tgt := 50) dX6_formatNow_46 (by decide) ?_
        refine g_istore3 dX6_formatNow_50 ?_
        refine g_iload3 dX6_formatNow_51 ?_
        refine g_if_eq_f (tgt := 59) dX6_formatNow_52 (by decide) (by decide) ?_
        refine g_iload2 dX6_formatNow_55 ?_
        refine g_goto (tgt := 60) dX6_formatNow_56 (by decide) ?_
        refine g_istore1 dX6_formatNow_60 ?_
        refine g_iinc2 (v' := (nI (i + 1))) dX6_formatNow_61 (nI_1 i) ?_
        refine g_goto (tgt := 4) dX6_formatNow_64 (by decide) ?_
        first
          | (have e : fmS A (nI (N 1)) (i + 1) = some i := by
               unfold fmS
               exact if_pos (by simp only [Bool.and_eq_true, decide_eq_true_eq, hf]; exact ⟨Int32.not_lt.mp h22, trivial⟩)
             rw [e] at ih2
             exact ih2 _ (by omega))
          | (have e : fmS A (nI (N 1)) (i + 1) = fmS A (nI (N 1)) i := by
               conv => lhs; unfold fmS
               exact if_neg (by simp only [Bool.and_eq_true, decide_eq_true_eq, hf]; intro z; first | exact h22 z.1 | exact absurd z.1 (Int32.not_le.mpr h22))
             rw [e, hf] at ih2
             exact ih2 _ (by omega))
    | some g =>
      have hg : g < i := fmS_lt hf
      simp only [oI]
      refine g_aload0 dX6_formatNow_12 ?_
      refine g_getf kc7 dX6_formatNow_13 fl_X6_7 (by decide) hM.1 rfl ?_
      refine g_iload2 dX6_formatNow_16 ?_
      refine g_miald (k := 3) (n := 10) hM rfl (by decide) (fun _ => rfl) dX6_formatNow_17 (by omega) (by decide) ?_
      refine g_aload0 dX6_formatNow_18 ?_
      refine g_getf kc7 dX6_formatNow_19 fl_X6_85 (by decide) hM.1 (show _ = some (Value.int (nI (N 1))) from rfl) ?_
      refine g_icmp_gt (tgt := 49) dX6_formatNow_22 (by decide) (fun h22 => ?_) (fun h22 => ?_)
      · skip
        refine g_iconst (v := 0) dX6_formatNow_49 (by decide) ?_
        refine g_istore3 dX6_formatNow_50 ?_
        refine g_iload3 dX6_formatNow_51 ?_
        refine g_if_eq_t (tgt := 59) dX6_formatNow_52 (by decide) (by decide) ?_
        refine g_iload1 dX6_formatNow_59 ?_
        refine g_istore1 dX6_formatNow_60 ?_
        refine g_iinc2 (v' := (nI (i + 1))) dX6_formatNow_61 (nI_1 i) ?_
        refine g_goto (tgt := 4) dX6_formatNow_64 (by decide) ?_
        first
          | (have e : fmS A (nI (N 1)) (i + 1) = some i := by
               unfold fmS
               exact if_pos (by simp only [Bool.and_eq_true, decide_eq_true_eq, hf]; exact ⟨Int32.not_lt.mp h22, Int32.not_lt.mp h42⟩)
             rw [e] at ih2
             exact ih2 _ (by omega))
          | (have e : fmS A (nI (N 1)) (i + 1) = fmS A (nI (N 1)) i := by
               conv => lhs; unfold fmS
               exact if_neg (by simp only [Bool.and_eq_true, decide_eq_true_eq, hf]; intro z; first | exact h22 z.1 | exact absurd z.1 (Int32.not_le.mpr h22) | exact absurd z.2 (Int32.not_le.mpr h42))
             rw [e, hf] at ih2
             exact ih2 _ (by omega))
      · skip
        refine g_iload1 dX6_formatNow_25 ?_
        refine g_iconst (v := (-1)) dX6_formatNow_26 (by decide) ?_
        refine g_icmp_eq_f (tgt := 45) dX6_formatNow_27 (by decide) (ne_m1 (by omega)) ?_
        refine g_aload0 dX6_formatNow_30 ?_
        refine g_getf kc7 dX6_formatNow_31 fl_X6_7 (by decide) hM.1 rfl ?_
        refine g_iload2 dX6_formatNow_34 ?_
        refine g_miald (k := 3) (n := 10) hM rfl (by decide) (fun _ => rfl) dX6_formatNow_35 (by omega) (by decide) ?_
        refine g_aload0 dX6_formatNow_36 ?_
        refine g_getf kc7 dX6_formatNow_37 fl_X6_7 (by decide) hM.1 rfl ?_
        refine g_iload1 dX6_formatNow_40 ?_
        refine g_miald (k := 3) (n := 10) hM rfl (by decide) (fun _ => rfl) dX6_formatNow_41 (by omega) (by decide) ?_
        refine g_icmp_lt (tgt := 49) dX6_formatNow_42 (by decide) (fun h42 => ?_) (fun h42 => ?_)
        · skip
          refine g_iconst (v := 0) dX6_formatNow_49 (by decide) ?_
          refine g_istore3 dX6_formatNow_50 ?_
          refine g_iload3 dX6_formatNow_51 ?_
          refine g_if_eq_t (tgt := 59) dX6_formatNow_52 (by decide) (by decide) ?_
          refine g_iload1 dX6_formatNow_59 ?_
          refine g_istore1 dX6_formatNow_60 ?_
          refine g_iinc2 (v' := (nI (i + 1))) dX6_formatNow_61 (nI_1 i) ?_
          refine g_goto (tgt := 4) dX6_formatNow_64 (by decide) ?_
          first
            | (have e : fmS A (nI (N 1)) (i + 1) = some i := by
                 unfold fmS
                 exact if_pos (by simp only [Bool.and_eq_true, decide_eq_true_eq, hf]; exact ⟨Int32.not_lt.mp h22, Int32.not_lt.mp h42⟩)
               rw [e] at ih2
               exact ih2 _ (by omega))
            | (have e : fmS A (nI (N 1)) (i + 1) = fmS A (nI (N 1)) i := by
                 conv => lhs; unfold fmS
                 exact if_neg (by simp only [Bool.and_eq_true, decide_eq_true_eq, hf]; intro z; first | exact h22 z.1 | exact absurd z.1 (Int32.not_le.mpr h22) | exact absurd z.2 (Int32.not_le.mpr h42))
               rw [e, hf] at ih2
               exact ih2 _ (by omega))
        · skip
          refine g_iconst (v := 1) dX6_formatNow_45 (by decide) ?_
          refine g_goto (tgt := 50) dX6_formatNow_46 (by decide) ?_
          refine g_istore3 dX6_formatNow_50 ?_
          refine g_iload3 dX6_formatNow_51 ?_
          refine g_if_eq_f (tgt := 59) dX6_formatNow_52 (by decide) (by decide) ?_
          refine g_iload2 dX6_formatNow_55 ?_
          refine g_goto (tgt := 60) dX6_formatNow_56 (by decide) ?_
          refine g_istore1 dX6_formatNow_60 ?_
          refine g_iinc2 (v' := (nI (i + 1))) dX6_formatNow_61 (nI_1 i) ?_
          refine g_goto (tgt := 4) dX6_formatNow_64 (by decide) ?_
          first
            | (have e : fmS A (nI (N 1)) (i + 1) = some i := by
                 unfold fmS
                 exact if_pos (by simp only [Bool.and_eq_true, decide_eq_true_eq, hf]; exact ⟨Int32.not_lt.mp h22, Int32.not_lt.mp h42⟩)
               rw [e] at ih2
               exact ih2 _ (by omega))
            | (have e : fmS A (nI (N 1)) (i + 1) = fmS A (nI (N 1)) i := by
                 conv => lhs; unfold fmS
                 exact if_neg (by simp only [Bool.and_eq_true, decide_eq_true_eq, hf]; intro z; first | exact h22 z.1 | exact absurd z.1 (Int32.not_le.mpr h22) | exact absurd z.2 (Int32.not_le.mpr h42))
               rw [e, hf] at ih2
               exact ih2 _ (by omega))

set_option maxRecDepth 100000 in
theorem ct_formatNow {G : Gx} {w w0 : Wd} {am : Nat → Nat} {th : Int32} {N : Nat → Nat} {A : Nat → Nat → Int32} (hM : Mz G am w0 (tI th N) A w) (h2 : N 2 ≤ 10) : Ct G yX6_formatNow kw_X6_formatNow rm_X6_formatNow [.ref (am 0)] w (PV (.int (oI (fmS A (nI (N 1)) (N 2)))) w) := by
  refine ct_intro RX6 "formatNow" (by decide +kernel) rfl rfl rfl (Nat.le_of_ble_eq_true rfl) [some (.ref (am 0)), none, none, none] rfl (fun C => ?_)
  refine g_iconst (v := (-1)) dX6_formatNow_0 (by decide) ?_
  refine g_istore1 dX6_formatNow_1 ?_
  refine g_iconst (v := 0) dX6_formatNow_2 (by decide) ?_
  refine g_istore2 dX6_formatNow_3 ?_
  exact lp_formatNow h2 hM C (N 2 + 1) 0 (by omega) _ (Nat.zero_le _)

/-- the lines of the page that is ended, copied behind 8 * p: the first k of them -/
def cpy9 (A : Nat → Nat → Int32) (p k : Nat) : Nat → Nat → Int32 := fun j => if j = 9 then (fun q => if 8 * p ≤ q ∧ q < 8 * p + k then A 11 (q - 8 * p) else A 9 q) else A j
theorem cpy9_0 {A : Nat → Nat → Int32} {p : Nat} : cpy9 A p 0 = A := by
  funext j q
  unfold cpy9
  by_cases h : j = 9
  · rw [if_pos h, h]
    show (if _ then _ else _) = _
    rw [if_neg (by omega)]
  · rw [if_neg h]
theorem cpy9_n {A : Nat → Nat → Int32} {p k j : Nat} (h : j ≠ 9) : cpy9 A p k j = A j := if_neg h
theorem cpy9_s {A : Nat → Nat → Int32} {p k : Nat} : updA (cpy9 A p k) 9 (8 * p + k) (cpy9 A p k 11 k) = cpy9 A p (k + 1) := by
  rw [cpy9_n (by decide)]
  funext j q
  unfold updA
  by_cases h : j = 9
  · subst h
    rw [if_pos rfl]
    unfold upd cpy9
    rw [if_pos rfl, if_pos rfl]
    show (if q = 8 * p + k then A 11 k else (if _ then _ else _)) = (if _ then _ else _)
    by_cases hq : q = 8 * p + k
    · rw [if_pos hq, if_pos (by omega), hq]; congr 1; omega
    · rw [if_neg hq]
      by_cases h2 : 8 * p ≤ q ∧ q < 8 * p + k
      · rw [if_pos h2, if_pos (by omega)]
      · rw [if_neg h2, if_neg (by omega)]
  · rw [if_neg h, cpy9_n h, cpy9_n h]
/-- the numbers behind the end of a page -/
def ePA (N : Nat → Nat) (A : Nat → Nat → Int32) : Nat → Nat → Int32 := updA (cpy9 (updA A 8 (N 6 + N 7) (nI (N 10))) (N 6 + N 7) (N 10)) 12 (N 6 + N 7) 1
def ePN (N : Nat → Nat) : Nat → Nat := updN (updN N 10 0) 7 (N 7 + 1)

abbrev rm_X6_endsPage : Room := { frames := 0, cells := 0, slots := 0, locals := 0 }

set_option maxRecDepth 100000 in
theorem lp_endsPage {G : Gx} {w0 : Wd} {am : Nat → Nat} {th : Int32} {N : Nat → Nat} {A0 : Nat → Nat → Int32} (hp : N 6 + N 7 < 121) (h10 : N 10 ≤ 8) (C : Cx) : ∀ (M i : Nat), N 10 - i < M → ∀ (w : Wd), i ≤ N 10 → Mz G am w0 (tI th N) (cpy9 A0 (N 6 + N 7) i) w →
    Go G rm_X6_endsPage cX6_endsPage RX6 (none, "endsPage", []) C (QP G rm_X6_endsPage (PN (Mz G am w0 (tI th (ePN N)) (updA (cpy9 A0 (N 6 + N 7) (N 10)) 12 (N 6 + N 7) 1))) C) 22 [some (.ref (am 0)), some (.int (nI (N 6 + N 7))), some (.int (nI i))] [] w 0 0 := by
  intro M
  induction M with
  | zero => intro i hM9; exact absurd hM9 (Nat.not_lt_zero _)
  | succ M ih =>
    intro i hi9 w hi hM
    refine g_iload2 dX6_endsPage_22 ?_
    refine g_aload0 dX6_endsPage_23 ?_
    refine g_getf kc7 dX6_endsPage_24 fl_X6_91 (by decide) hM.1 (show _ = some (Value.int (nI (N 10))) from rfl) ?_
    refine g_icmp_ge (tgt := 53) dX6_endsPage_27 (by decide) (fun h27 => ?_) (fun h27 => ?_)
    · skip
      have hin : i = N 10 := Nat.le_antisymm hi (idx_ge (by omega) (by omega) h27)
      rw [hin] at hM
      refine g_aload0 dX6_endsPage_53 ?_
      refine g_getf kc7 dX6_endsPage_54 fl_X6_28 (by decide) hM.1 rfl ?_
      refine g_iload1 dX6_endsPage_57 ?_
      refine g_iconst (v := 1) dX6_endsPage_58 (by decide) ?_
      refine g_miast (k := 12) (n := 121) hM rfl (by decide) (fun _ => rfl) dX6_endsPage_59 (by omega) (by decide) (fun w1 hM => ?_)
      refine g_aload0 dX6_endsPage_60 ?_
      refine g_iconst (v := 0) dX6_endsPage_61 (by decide) ?_
      rw [show (0 : Int32) = nI 0 from rfl]
      refine g_mputN (k := 10) hM dX6_endsPage_62 fl_X6_91 (by decide) rfl rfl rfl (fun w1 hM => ?_)
      refine g_aload0 dX6_endsPage_65 ?_
      refine g_dup dX6_endsPage_66 rfl ?_
      refine g_getf kc7 dX6_endsPage_67 fl_X6_97 (by decide) hM.1 (show _ = some (Value.int (nI (N 7))) from rfl) ?_
      refine g_iconst (v := 1) dX6_endsPage_70 (by decide) ?_
      refine g_iadd dX6_endsPage_71 ?_
      rw [show nI (N 7) + 1 = nI (N 7 + 1) from nI_1 _]
      refine g_mputN (k := 7) hM dX6_endsPage_72 fl_X6_97 (by decide) rfl rfl rfl (fun w1 hM => ?_)
      refine g_vret dX6_endsPage_75 ?_ (Nat.le_of_ble_eq_true rfl) (Nat.le_of_ble_eq_true rfl)
      exact ⟨rfl, hM⟩
    · skip
      have hlt : i < N 10 := idx_lt (by omega) (by omega) h27
      refine g_aload0 dX6_endsPage_30 ?_
      refine g_getf kc7 dX6_endsPage_31 fl_X6_22 (by decide) hM.1 rfl ?_
      refine g_bipush (v := 8) dX6_endsPage_34 (by decide) ?_
      refine g_iload1 dX6_endsPage_36 ?_
      refine g_imul dX6_endsPage_37 ?_
      refine g_iload2 dX6_endsPage_38 ?_
      refine g_iadd dX6_endsPage_39 ?_
      rw [show (8 : Int32) * nI (N 6 + N 7) + nI i = nI (8 * (N 6 + N 7) + i) by rw [show (8 : Int32) = nI 8 from rfl, pk_mul, nI_add]]
      refine g_aload0 dX6_endsPage_40 ?_
      refine g_getf kc7 dX6_endsPage_41 fl_X6_25 (by decide) hM.1 rfl ?_
      refine g_iload2 dX6_endsPage_44 ?_
      refine g_miald (k := 11) (n := 8) hM rfl (by decide) (fun _ => rfl) dX6_endsPage_45 (by omega) (by decide) ?_
      refine g_miast (k := 9) (n := 968) hM rfl (by decide) (fun _ => rfl) dX6_endsPage_46 (by omega) (by decide) (fun w1 hM => ?_)
      rw [cpy9_s] at hM
      refine g_iinc2 (v' := (nI (i + 1))) dX6_endsPage_47 (nI_1 i) ?_
      refine g_goto (tgt := 22) dX6_endsPage_50 (by decide) ?_
      exact ih (i + 1) (by omega) _ (by omega) hM

set_option maxRecDepth 100000 in
theorem ct_endsPage {G : Gx} {w w0 : Wd} {am : Nat → Nat} {th : Int32} {N : Nat → Nat} {A : Nat → Nat → Int32} (hM : Mz G am w0 (tI th N) A w) (hp : N 6 + N 7 < 121) (h10 : N 10 ≤ 8) : Ct G yX6_endsPage kw_X6_endsPage rm_X6_endsPage [.ref (am 0)] w (PN (Mz G am w0 (tI th (ePN N)) (ePA N A))) := by
  refine ct_intro RX6 "endsPage" (by decide +kernel) rfl rfl rfl (Nat.le_of_ble_eq_true rfl) [some (.ref (am 0)), none, none] rfl (fun C => ?_)
  refine g_aload0 dX6_endsPage_0 ?_
  refine g_getf kc7 dX6_endsPage_1 fl_X6_94 (by decide) hM.1 (show _ = some (Value.int (nI (N 6))) from rfl) ?_
  refine g_aload0 dX6_endsPage_4 ?_
  refine g_getf kc7 dX6_endsPage_5 fl_X6_97 (by decide) hM.1 (show _ = some (Value.int (nI (N 7))) from rfl) ?_
  refine g_iadd dX6_endsPage_8 ?_
  rw [nI_add]
  refine g_istore1 dX6_endsPage_9 ?_
  refine g_aload0 dX6_endsPage_10 ?_
  refine g_getf kc7 dX6_endsPage_11 fl_X6_19 (by decide) hM.1 rfl ?_
  refine g_iload1 dX6_endsPage_14 ?_
  refine g_aload0 dX6_endsPage_15 ?_
  refine g_getf kc7 dX6_endsPage_16 fl_X6_91 (by decide) hM.1 (show _ = some (Value.int (nI (N 10))) from rfl) ?_
  refine g_miast (k := 8) (n := 121) hM rfl (by decide) (fun _ => rfl) dX6_endsPage_19 (by omega) (by decide) (fun w1 hM => ?_)
  refine g_iconst (v := 0) dX6_endsPage_20 (by decide) ?_
  refine g_istore2 dX6_endsPage_21 ?_
  exact lp_endsPage hp h10 C (N 10 + 1) 0 (by omega) _ (Nat.zero_le _) (hM.to rfl cpy9_0.symm)

abbrev rm_X6_feed : Room := { frames := 1, cells := 0, slots := 0, locals := 22 }

set_option maxRecDepth 100000 in
theorem mt_feed_a {G : Gx} {w w0 : Wd} {am : Nat → Nat} {th : Int32} {N : Nat → Nat} {A : Nat → Nat → Int32} (hM : Mz G am w0 (tI th N) A w) (h : 120 < N 6 + N 7 + 1) (hb : N 6 + N 7 < 1000) : Ct G yX6_feed kw_X6_feed rm_X6_feed [.ref (am 0)] w (PB (.int (0)) (Mz G am w0 (tI 1 N) A)) := by
  refine ct_intro RX6 "feed" (by decide +kernel) rfl rfl rfl (Nat.le_of_ble_eq_true rfl) [some (.ref (am 0))] rfl (fun C => ?_)
  refine g_aload0 dX6_feed_0 ?_
  refine g_aload0 dX6_feed_1 ?_
  refine g_getf kc7 dX6_feed_2 fl_X6_94 (by decide) hM.1 (show _ = some (Value.int (nI (N 6))) from rfl) ?_
  refine g_aload0 dX6_feed_5 ?_
  refine g_getf kc7 dX6_feed_6 fl_X6_97 (by decide) hM.1 (show _ = some (Value.int (nI (N 7))) from rfl) ?_
  refine g_iadd dX6_feed_9 ?_
  refine g_iconst (v := 1) dX6_feed_10 (by decide) ?_
  refine g_iadd dX6_feed_11 ?_
  rw [nI_add, show nI (N 6 + N 7) + 1 = nI (N 6 + N 7 + 1) from nI_1 _]
  refine g_bipush (v := 120) dX6_feed_12 (by decide) ?_
  refine g_icmp_le_f (tgt := 21) dX6_feed_14 (by decide) (fun z => absurd ((nI_leI (b := 120) (by omega) (by decide)).mp z) (by omega)) ?_
  refine g_iconst (v := 1) dX6_feed_17 (by decide) ?_
  refine g_goto (tgt := 22) dX6_feed_18 (by decide) ?_
  refine g_mput0 hM dX6_feed_22 fl_X6_74 (fun w1 hM => ?_)
  refine g_aload0 dX6_feed_25 ?_
  refine g_getf kc7 dX6_feed_26 fl_X6_74 (by decide) hM.1 (show _ = some (Value.int (1)) from rfl) ?_
  refine g_if_le_f (tgt := 34) dX6_feed_29 (by decide) (by decide) ?_
  refine g_iconst (v := 0) dX6_feed_32 (by decide) ?_
  refine g_iret dX6_feed_33 ?_ (Nat.le_of_ble_eq_true rfl) (Nat.le_of_ble_eq_true rfl)
  exact ⟨rfl, hM⟩

set_option maxRecDepth 100000 in
theorem mt_feed_b {G : Gx} {w w0 : Wd} {am : Nat → Nat} {th : Int32} {N : Nat → Nat} {A : Nat → Nat → Int32} (hM : Mz G am w0 (tI th N) A w) (h : N 6 + N 7 + 1 ≤ 120) (h10 : N 10 ≤ 8) : Ct G yX6_feed kw_X6_feed rm_X6_feed [.ref (am 0)] w (PB (.int (nI (N 7 + 1))) (Mz G am w0 (tI 0 (ePN N)) (ePA N A))) := by
  refine ct_intro RX6 "feed" (by decide +kernel) rfl rfl rfl (Nat.le_of_ble_eq_true rfl) [some (.ref (am 0))] rfl (fun C => ?_)
  refine g_aload0 dX6_feed_0 ?_
  refine g_aload0 dX6_feed_1 ?_
  refine g_getf kc7 dX6_feed_2 fl_X6_94 (by decide) hM.1 (show _ = some (Value.int (nI (N 6))) from rfl) ?_
  refine g_aload0 dX6_feed_5 ?_
  refine g_getf kc7 dX6_feed_6 fl_X6_97 (by decide) hM.1 (show _ = some (Value.int (nI (N 7))) from rfl) ?_
  refine g_iadd dX6_feed_9 ?_
  refine g_iconst (v := 1) dX6_feed_10 (by decide) ?_
  refine g_iadd dX6_feed_11 ?_
  rw [nI_add, show nI (N 6 + N 7) + 1 = nI (N 6 + N 7 + 1) from nI_1 _]
  refine g_bipush (v := 120) dX6_feed_12 (by decide) ?_
  refine g_icmp_le_t (tgt := 21) dX6_feed_14 (by decide) ((nI_leI (b := 120) (by omega) (by decide)).mpr h) ?_
  refine g_iconst (v := 0) dX6_feed_21 (by decide) ?_
  refine g_mput0 hM dX6_feed_22 fl_X6_74 (fun w1 hM => ?_)
  refine g_aload0 dX6_feed_25 ?_
  refine g_getf kc7 dX6_feed_26 fl_X6_74 (by decide) hM.1 (show _ = some (Value.int (0)) from rfl) ?_
  refine g_if_le_t (tgt := 34) dX6_feed_29 (by decide) (by decide) ?_
  refine g_aload0 dX6_feed_34 ?_
  refine g_callV0 kc7 (ct_endsPage hM (by omega) h10) md_X6_endsPage dX6_feed_35 ml_X6_100 im_X6_endsPage se_X6_endsPage hM.1 (RmOk.of (Nat.le_of_ble_eq_true rfl) (Nat.le_of_ble_eq_true rfl) (Nat.le_of_ble_eq_true rfl) (Nat.le_of_ble_eq_true rfl) (Nat.le_of_ble_eq_true rfl)) (kr_N (fun w1 hM => ?_)) kx_N
  refine g_aload0 dX6_feed_38 ?_
  refine g_getf kc7 dX6_feed_39 fl_X6_97 (by decide) hM.1 (show _ = some (Value.int (nI (N 7 + 1))) from rfl) ?_
  refine g_iret dX6_feed_42 ?_ (Nat.le_of_ble_eq_true rfl) (Nat.le_of_ble_eq_true rfl)
  exact ⟨rfl, hM⟩

/-- the kind out of a line's value -/
def kdI (v : Int32) : Int32 := if v = -1 then 0 else v - v / 4 * 4
/-- a document begun at page p -/
def bgA (N : Nat → Nat) (A : Nat → Nat → Int32) (p : Nat) (its : Int32) (kl : Nat) : Nat → Nat → Int32 :=
  updA (updA (updA (updA (updA (updA A 18 (N 17) (nI p)) 19 (N 17) 0) 20 (N 17) its) 21 (N 17) (kdI (lno A p kl))) 22 (N 17) (nI (N 1))) 23 (N 17) 0

abbrev rm_X6_begins : Room := { frames := 1, cells := 0, slots := 0, locals := 22 }

set_option maxRecDepth 100000 in
theorem ct_begins {G : Gx} {w w0 : Wd} {am : Nat → Nat} {th : Int32} {N : Nat → Nat} {A : Nat → Nat → Int32} (hM : Mz G am w0 (tI th N) A w) {p kl : Nat} {its : Int32} (hp : p < 121) (hk : kl < 8) (hd : N 17 < 120) : Ct G yX6_begins kw_X6_begins rm_X6_begins [.ref (am 0), .int (nI p), .int its, .int (nI kl)] w (PN (Mz G am w0 (tI th (updN N 17 (N 17 + 1))) (bgA N A p its kl))) := by
  refine ct_intro RX6 "begins" (by decide +kernel) rfl rfl rfl (Nat.le_of_ble_eq_true rfl) [some (.ref (am 0)), some (.int (nI p)), some (.int its), some (.int (nI kl)), none] rfl (fun C => ?_)
  refine g_aload0 dX6_begins_0 ?_
  refine g_iload1 dX6_begins_1 ?_
  refine g_iload3 dX6_begins_2 ?_
  refine g_callV2 kc7 (mt_lineOf hM hp hk) md_X6_lineOf dX6_begins_3 ml_X6_103 im_X6_lineOf se_X6_lineOf hM.1 (RmOk.of (Nat.le_of_ble_eq_true rfl) (Nat.le_of_ble_eq_true rfl) (Nat.le_of_ble_eq_true rfl) (Nat.le_of_ble_eq_true rfl) (Nat.le_of_ble_eq_true rfl)) (kr_V ?_) kx_V
  refine g_istore4 dX6_begins_6 ?_
  refine g_aload0 dX6_begins_8 ?_
  refine g_getf kc7 dX6_begins_9 fl_X6_40 (by decide) hM.1 rfl ?_
  refine g_aload0 dX6_begins_12 ?_
  refine g_getf kc7 dX6_begins_13 fl_X6_107 (by decide) hM.1 (show _ = some (Value.int (nI (N 17))) from rfl) ?_
  refine g_iload1 dX6_begins_16 ?_
  refine g_miast (k := 18) (n := 120) hM rfl (by decide) (fun _ => rfl) dX6_begins_17 (by omega) (by decide) (fun w1 hM => ?_)
  refine g_aload0 dX6_begins_18 ?_
  refine g_getf kc7 dX6_begins_19 fl_X6_43 (by decide) hM.1 rfl ?_
  refine g_aload0 dX6_begins_22 ?_
  refine g_getf kc7 dX6_begins_23 fl_X6_107 (by decide) hM.1 (show _ = some (Value.int (nI (N 17))) from rfl) ?_
  refine g_iconst (v := 0) dX6_begins_26 (by decide) ?_
  refine g_miast (k := 19) (n := 120) hM rfl (by decide) (fun _ => rfl) dX6_begins_27 (by omega) (by decide) (fun w1 hM => ?_)
  refine g_aload0 dX6_begins_28 ?_
  refine g_getf kc7 dX6_begins_29 fl_X6_46 (by decide) hM.1 rfl ?_
  refine g_aload0 dX6_begins_32 ?_
  refine g_getf kc7 dX6_begins_33 fl_X6_107 (by decide) hM.1 (show _ = some (Value.int (nI (N 17))) from rfl) ?_
  refine g_iload2 dX6_begins_36 ?_
  refine g_miast (k := 20) (n := 120) hM rfl (by decide) (fun _ => rfl) dX6_begins_37 (by omega) (by decide) (fun w1 hM => ?_)
  refine g_aload0 dX6_begins_38 ?_
  refine g_getf kc7 dX6_begins_39 fl_X6_49 (by decide) hM.1 rfl ?_
  refine g_aload0 dX6_begins_42 ?_
  refine g_getf kc7 dX6_begins_43 fl_X6_107 (by decide) hM.1 (show _ = some (Value.int (nI (N 17))) from rfl) ?_
  refine g_iload4 dX6_begins_46 ?_
  refine g_iconst (v := (-1)) dX6_begins_48 (by decide) ?_
  refine g_icmp_ne (tgt := 56) dX6_begins_49 (by decide) (fun h49 => ?_) (fun h49 => ?_)
  · skip
    refine g_iload4 dX6_begins_56 ?_
    refine g_iconst (v := 4) dX6_begins_58 (by decide) ?_
    refine g_irem dX6_begins_59 (by decide) ?_
    refine g_miast (k := 21) (n := 120) hM rfl (by decide) (fun _ => rfl) dX6_begins_60 (by omega) (by decide) (fun w1 hM => ?_)
    refine g_aload0 dX6_begins_61 ?_
    refine g_getf kc7 dX6_begins_62 fl_X6_52 (by decide) hM.1 rfl ?_
    refine g_aload0 dX6_begins_65 ?_
    refine g_getf kc7 dX6_begins_66 fl_X6_107 (by decide) hM.1 (show _ = some (Value.int (nI (N 17))) from rfl) ?_
    refine g_aload0 dX6_begins_69 ?_
    refine g_getf kc7 dX6_begins_70 fl_X6_85 (by decide) hM.1 (show _ = some (Value.int (nI (N 1))) from rfl) ?_
    refine g_miast (k := 22) (n := 120) hM rfl (by decide) (fun _ => rfl) dX6_begins_73 (by omega) (by decide) (fun w1 hM => ?_)
    refine g_aload0 dX6_begins_74 ?_
    refine g_getf kc7 dX6_begins_75 fl_X6_55 (by decide) hM.1 rfl ?_
    refine g_aload0 dX6_begins_78 ?_
    refine g_getf kc7 dX6_begins_79 fl_X6_107 (by decide) hM.1 (show _ = some (Value.int (nI (N 17))) from rfl) ?_
    refine g_iconst (v := 0) dX6_begins_82 (by decide) ?_
    refine g_mzast (k := 23) (n := 120) hM rfl (by decide) (fun _ => rfl) dX6_begins_83 (by omega) (by decide) rfl (fun w1 hM => ?_)
    refine g_aload0 dX6_begins_84 ?_
    refine g_dup dX6_begins_85 rfl ?_
    refine g_getf kc7 dX6_begins_86 fl_X6_107 (by decide) hM.1 (show _ = some (Value.int (nI (N 17))) from rfl) ?_
    refine g_iconst (v := 1) dX6_begins_89 (by decide) ?_
    refine g_iadd dX6_begins_90 ?_
    rw [show nI (N 17) + 1 = nI (N 17 + 1) from nI_1 _]
    refine g_mputN (k := 17) hM dX6_begins_91 fl_X6_107 (by decide) rfl rfl rfl (fun w1 hM => ?_)
    refine g_vret dX6_begins_94 ?_ (Nat.le_of_ble_eq_true rfl) (Nat.le_of_ble_eq_true rfl)
    refine ⟨rfl, hM.to rfl ?_⟩
    first
      | (unfold bgA kdI; rw [if_pos h49]; done)
      | (unfold bgA kdI; rw [if_neg h49]; done)
  · skip
    refine g_iconst (v := 0) dX6_begins_52 (by decide) ?_
    refine g_goto (tgt := 60) dX6_begins_53 (by decide) ?_
    refine g_miast (k := 21) (n := 120) hM rfl (by decide) (fun _ => rfl) dX6_begins_60 (by omega) (by decide) (fun w1 hM => ?_)
    refine g_aload0 dX6_begins_61 ?_
    refine g_getf kc7 dX6_begins_62 fl_X6_52 (by decide) hM.1 rfl ?_
    refine g_aload0 dX6_begins_65 ?_
    refine g_getf kc7 dX6_begins_66 fl_X6_107 (by decide) hM.1 (show _ = some (Value.int (nI (N 17))) from rfl) ?_
    refine g_aload0 dX6_begins_69 ?_
    refine g_getf kc7 dX6_begins_70 fl_X6_85 (by decide) hM.1 (show _ = some (Value.int (nI (N 1))) from rfl) ?_
    refine g_miast (k := 22) (n := 120) hM rfl (by decide) (fun _ => rfl) dX6_begins_73 (by omega) (by decide) (fun w1 hM => ?_)
    refine g_aload0 dX6_begins_74 ?_
    refine g_getf kc7 dX6_begins_75 fl_X6_55 (by decide) hM.1 rfl ?_
    refine g_aload0 dX6_begins_78 ?_
    refine g_getf kc7 dX6_begins_79 fl_X6_107 (by decide) hM.1 (show _ = some (Value.int (nI (N 17))) from rfl) ?_
    refine g_iconst (v := 0) dX6_begins_82 (by decide) ?_
    refine g_mzast (k := 23) (n := 120) hM rfl (by decide) (fun _ => rfl) dX6_begins_83 (by omega) (by decide) rfl (fun w1 hM => ?_)
    refine g_aload0 dX6_begins_84 ?_
    refine g_dup dX6_begins_85 rfl ?_
    refine g_getf kc7 dX6_begins_86 fl_X6_107 (by decide) hM.1 (show _ = some (Value.int (nI (N 17))) from rfl) ?_
    refine g_iconst (v := 1) dX6_begins_89 (by decide) ?_
    refine g_iadd dX6_begins_90 ?_
    rw [show nI (N 17) + 1 = nI (N 17 + 1) from nI_1 _]
    refine g_mputN (k := 17) hM dX6_begins_91 fl_X6_107 (by decide) rfl rfl rfl (fun w1 hM => ?_)
    refine g_vret dX6_begins_94 ?_ (Nat.le_of_ble_eq_true rfl) (Nat.le_of_ble_eq_true rfl)
    refine ⟨rfl, hM.to rfl ?_⟩
    first
      | (unfold bgA kdI; rw [if_pos h49]; done)
      | (unfold bgA kdI; rw [if_neg h49]; done)

/-- whether page p begins a document -/
def ptC (N : Nat → Nat) (A : Nat → Nat → Int32) (p : Nat) (its : Int32) : Bool := decide (p = N 6) || (!decide (its = -1) && !decide (A 20 (N 17 - 1) = its))
abbrev SS : Type := (Nat → Nat) × (Nat → Nat → Int32)
/-- one page put to the documents -/
def ptS (la ka p : Nat) (S : SS) : SS :=
  if ptC S.1 S.2 p (lno S.2 p la) = true then (updN S.1 17 (S.1 17 + 1), updA (bgA S.1 S.2 p (lno S.2 p la) ka) 19 (S.1 17) (bgA S.1 S.2 p (lno S.2 p la) ka 19 (S.1 17) + 1))
  else (S.1, updA S.2 19 (S.1 17 - 1) (S.2 19 (S.1 17 - 1) + 1))
/-- the first n pages behind the kept ones -/
def ptL (la ka kept : Nat) : Nat → SS → SS
  | 0, S => S
  | n + 1, S => ptS la ka (kept + n) (ptL la ka kept n S)
theorem ptS_N {la ka p k : Nat} {S : SS} (hk : k ≠ 17) : (ptS la ka p S).1 k = S.1 k := by
  unfold ptS
  split
  · exact if_neg hk
  · rfl
theorem ptL_N {la ka kept k : Nat} {S : SS} (hk : k ≠ 17) : ∀ n, (ptL la ka kept n S).1 k = S.1 k
  | 0 => rfl
  | n + 1 => (ptS_N hk).trans (ptL_N hk n)
theorem ptS_d {la ka p : Nat} {S : SS} : (ptS la ka p S).1 17 = S.1 17 ∨ (ptS la ka p S).1 17 = S.1 17 + 1 := by
  unfold ptS
  split
  · exact Or.inr rfl
  · exact Or.inl rfl
theorem ptL_d {la ka kept : Nat} {S : SS} : ∀ n, (ptL la ka kept n S).1 17 ≤ S.1 17 + n
  | 0 => Nat.le_refl _
  | n + 1 => by
    have h1 := ptL_d (la := la) (ka := ka) (kept := kept) (S := S) n
    have h2 := ptS_d (la := la) (ka := ka) (p := kept + n) (S := ptL la ka kept n S)
    show (ptS la ka (kept + n) (ptL la ka kept n S)).1 17 ≤ _
    omega
theorem ptL_ge {la ka kept : Nat} {S : SS} : ∀ n, S.1 17 ≤ (ptL la ka kept n S).1 17
  | 0 => Nat.le_refl _
  | n + 1 => by
    have h1 := ptL_ge (la := la) (ka := ka) (kept := kept) (S := S) n
    have h2 := ptS_d (la := la) (ka := ka) (p := kept + n) (S := ptL la ka kept n S)
    show _ ≤ (ptS la ka (kept + n) (ptL la ka kept n S)).1 17
    omega
theorem ptL_1 {la ka : Nat} {S : SS} : ∀ n, 0 < n → S.1 17 + 1 ≤ (ptL la ka (S.1 6) n S).1 17
  | 0, h => absurd h (Nat.lt_irrefl _)
  | n + 1, _ => by
    cases n with
    | zero =>
      show S.1 17 + 1 ≤ (ptS la ka (S.1 6 + 0) S).1 17
      unfold ptS
      rw [if_pos (by unfold ptC; simp)]
      exact Nat.le_refl _
    | succ n =>
      have h1 := ptL_1 (la := la) (ka := ka) (S := S) (n + 1) (Nat.succ_pos _)
      have h2 := ptS_d (la := la) (ka := ka) (p := S.1 6 + (n + 1)) (S := ptL la ka (S.1 6) (n + 1) S)
      show _ ≤ (ptS la ka (S.1 6 + (n + 1)) (ptL la ka (S.1 6) (n + 1) S)).1 17
      omega

abbrev rm_X6_putsTogether : Room := { frames := 2, cells := 0, slots := 0, locals := 46 }

set_option maxRecDepth 100000 in
theorem lp_puts {G : Gx} {w0 : Wd} {am : Nat → Nat} {th : Int32} {N : Nat → Nat} {A : Nat → Nat → Int32} {f : Int32} {la ka : Nat} (hla : la < 8) (hka : ka < 8) (hb : N 6 + N 7 ≤ 120) (hdk : N 17 ≤ N 6) (C : Cx) : ∀ (M i : Nat), N 7 - i < M → ∀ (S : SS) (w : Wd), i ≤ N 7 → S = ptL la ka (N 6) i (N, A) → Mz G am w0 (tI th S.1) S.2 w → ∀ y : Option Value,
    Go G rm_X6_putsTogether cX6_putsTogether RX6 (none, "putsTogether", []) C (QP G rm_X6_putsTogether (PN (Mz G am w0 (tI th (ptL la ka (N 6) (N 7) (N, A)).1) (ptL la ka (N 6) (N 7) (N, A)).2)) C) 43 [some (.ref (am 0)), some (.int f), some (.int (nI la)), some (.int (nI ka)), some (.int (nI (N 6 + i))), y] [] w 0 0 := by
  intro M
  induction M with
  | zero => intro i hM9; exact absurd hM9 (Nat.not_lt_zero _)
  | succ M ih =>
    intro i hi9 S w hi hS hM y
    obtain ⟨N1, A1⟩ := S
    have h6 : N1 6 = N 6 := by have := ptL_N (la := la) (ka := ka) (kept := N 6) (S := (N, A)) (k := 6) (by decide) i; rw [← hS] at this; exact this
    have h7 : N1 7 = N 7 := by have := ptL_N (la := la) (ka := ka) (kept := N 6) (S := (N, A)) (k := 7) (by decide) i; rw [← hS] at this; exact this
    have hd1 : N1 17 ≤ N 17 + i := by have := ptL_d (la := la) (ka := ka) (kept := N 6) (S := (N, A)) i; rw [← hS] at this; exact this
    have hd0 : 0 < i → 1 ≤ N1 17 := fun h0 => by have := ptL_1 (la := la) (ka := ka) (S := (N, A)) i h0; rw [← hS] at this; exact Nat.le_trans (Nat.le_add_left _ _) this
    dsimp only at hM
    refine g_iload4 dX6_putsTogether_43 ?_
    refine g_aload0 dX6_putsTogether_45 ?_
    refine g_getf kc7 dX6_putsTogether_46 fl_X6_94 (by decide) hM.1 (show _ = some (Value.int (nI (N1 6))) from rfl) ?_
    refine g_aload0 dX6_putsTogether_49 ?_
    refine g_getf kc7 dX6_putsTogether_50 fl_X6_97 (by decide) hM.1 (show _ = some (Value.int (nI (N1 7))) from rfl) ?_
    refine g_iadd dX6_putsTogether_53 ?_
    rw [nI_add, h6, h7]
    refine g_icmp_ge (tgt := 127) dX6_putsTogether_54 (by decide) (fun h54 => ?_) (fun h54 => ?_)
    · skip
      have hin : i = N 7 := Nat.le_antisymm hi (Nat.le_of_add_le_add_left (idx_ge (by omega) (by omega) h54))
      rw [hin] at hS
      refine g_vret dX6_putsTogether_127 ?_ (Nat.le_of_ble_eq_true rfl) (Nat.le_of_ble_eq_true rfl)
      rw [← hS]
      exact ⟨rfl, hM⟩
    · skip
      have hlt : i < N 7 := Nat.lt_of_not_le (fun z => h54 (nI_le (by omega) (by omega)))
      refine g_aload0 dX6_putsTogether_57 ?_
      refine g_iload4 dX6_putsTogether_58 ?_
      refine g_iload2 dX6_putsTogether_60 ?_
      refine g_callV2 kc7 (mt_lineOf hM (by omega) hla) md_X6_lineOf dX6_putsTogether_61 ml_X6_103 im_X6_lineOf se_X6_lineOf hM.1 (RmOk.of (Nat.le_of_ble_eq_true rfl) (Nat.le_of_ble_eq_true rfl) (Nat.le_of_ble_eq_true rfl) (Nat.le_of_ble_eq_true rfl) (Nat.le_of_ble_eq_true rfl)) (kr_V ?_) kx_V
      refine g_istore5 dX6_putsTogether_64 ?_
      refine g_iload4 dX6_putsTogether_66 ?_
      refine g_aload0 dX6_putsTogether_68 ?_
      refine g_getf kc7 dX6_putsTogether_69 fl_X6_94 (by decide) hM.1 (show _ = some (Value.int (nI (N1 6))) from rfl) ?_
      refine g_icmp_eq (tgt := 97) dX6_putsTogether_72 (by decide) (fun h72 => ?_) (fun h72 => ?_)
      · skip
        refine g_aload0 dX6_putsTogether_97 ?_
        refine g_iload4 dX6_putsTogether_98 ?_
        refine g_iload5 dX6_putsTogether_100 ?_
        refine g_iload3 dX6_putsTogether_102 ?_
        refine g_callV3 kc7 (ct_begins hM (by omega) hka (by omega)) md_X6_begins dX6_putsTogether_103 ml_X6_114 im_X6_begins se_X6_begins hM.1 (RmOk.of (Nat.le_of_ble_eq_true rfl) (Nat.le_of_ble_eq_true rfl) (Nat.le_of_ble_eq_true rfl) (Nat.le_of_ble_eq_true rfl) (Nat.le_of_ble_eq_true rfl)) (kr_N (fun w1 hM => ?_)) kx_N
        refine g_aload0 dX6_putsTogether_106 ?_
        refine g_getf kc7 dX6_putsTogether_107 fl_X6_43 (by decide) hM.1 rfl ?_
        refine g_aload0 dX6_putsTogether_110 ?_
        refine g_getf kc7 dX6_putsTogether_111 fl_X6_107 (by decide) hM.1 (show _ = some (Value.int (nI (N1 17 + 1))) from rfl) ?_
        refine g_iconst (v := 1) dX6_putsTogether_114 (by decide) ?_
        refine g_isub dX6_putsTogether_115 ?_
        first
          | rw [nI_pred]
          | (have hi0 : 0 < i := Nat.pos_of_ne_zero (fun e => h72 (by rw [e, h6]; rfl))
             have hd9 := hd0 hi0
             rw [show nI (N1 17) - 1 = nI (N1 17 - 1) from pk_sub (a := N1 17) (b := 1) hd9])
        refine g_dup2 dX6_putsTogether_116 rfl rfl ?_
        refine g_miald (k := 19) (n := 120) hM rfl (by decide) (fun _ => rfl) dX6_putsTogether_117 (by omega) (by decide) ?_
        refine g_iconst (v := 1) dX6_putsTogether_118 (by decide) ?_
        refine g_iadd dX6_putsTogether_119 ?_
        refine g_miast (k := 19) (n := 120) hM rfl (by decide) (fun _ => rfl) dX6_putsTogether_120 (by omega) (by decide) (fun w1 hM => ?_)
        refine g_iinc4 (v' := (nI (N 6 + (i + 1)))) dX6_putsTogether_121 (nI_1 _) ?_
        refine g_goto (tgt := 43) dX6_putsTogether_124 (by decide) ?_
        first
          | (refine ih (i + 1) (by omega) (updN N1 17 (N1 17 + 1), updA (bgA N1 A1 (N 6 + i) (lno A1 (N 6 + i) la) ka) 19 (N1 17) (bgA N1 A1 (N 6 + i) (lno A1 (N 6 + i) la) ka 19 (N1 17) + 1)) _ (by omega) ?_ hM _
             show _ = ptS la ka (N 6 + i) (ptL la ka (N 6) i (N, A))
             rw [← hS]
             refine (if_pos ?_).symm
             show ptC N1 A1 (N 6 + i) (lno A1 (N 6 + i) la) = true
             unfold ptC
             first
               | (have hz : N 6 + i = N1 6 := (nI_eq (by omega) (by omega)).mp h72
                  rw [decide_eq_true hz]; rfl)
               | (rw [decide_eq_false h78, decide_eq_false h94]; simp))
          | (refine ih (i + 1) (by omega) (N1, updA A1 19 (N1 17 - 1) (A1 19 (N1 17 - 1) + 1)) _ (by omega) ?_ hM _
             show _ = ptS la ka (N 6 + i) (ptL la ka (N 6) i (N, A))
             rw [← hS]
             refine (if_neg ?_).symm
             show ¬ ptC N1 A1 (N 6 + i) (lno A1 (N 6 + i) la) = true
             have hz : ¬ N 6 + i = N1 6 := fun e => h72 (by rw [e])
             unfold ptC
             rw [decide_eq_false hz]
             first
               | (rw [decide_eq_true h78]; simp)
               | (rw [decide_eq_true h94]; simp))
      · skip
        refine g_iload5 dX6_putsTogether_75 ?_
        refine g_iconst (v := (-1)) dX6_putsTogether_77 (by decide) ?_
        refine g_icmp_eq (tgt := 106) dX6_putsTogether_78 (by decide) (fun h78 => ?_) (fun h78 => ?_)
        · skip
          refine g_aload0 dX6_putsTogether_106 ?_
          refine g_getf kc7 dX6_putsTogether_107 fl_X6_43 (by decide) hM.1 rfl ?_
          refine g_aload0 dX6_putsTogether_110 ?_
          refine g_getf kc7 dX6_putsTogether_111 fl_X6_107 (by decide) hM.1 (show _ = some (Value.int (nI (N1 17))) from rfl) ?_
          refine g_iconst (v := 1) dX6_putsTogether_114 (by decide) ?_
          refine g_isub dX6_putsTogether_115 ?_
          first
            | rw [nI_pred]
            | (have hi0 : 0 < i := Nat.pos_of_ne_zero (fun e => h72 (by rw [e, h6]; rfl))
               have hd9 := hd0 hi0
               rw [show nI (N1 17) - 1 = nI (N1 17 - 1) from pk_sub (a := N1 17) (b := 1) hd9])
          refine g_dup2 dX6_putsTogether_116 rfl rfl ?_
          refine g_miald (k := 19) (n := 120) hM rfl (by decide) (fun _ => rfl) dX6_putsTogether_117 (by omega) (by decide) ?_
          refine g_iconst (v := 1) dX6_putsTogether_118 (by decide) ?_
          refine g_iadd dX6_putsTogether_119 ?_
          refine g_miast (k := 19) (n := 120) hM rfl (by decide) (fun _ => rfl) dX6_putsTogether_120 (by omega) (by decide) (fun w1 hM => ?_)
          refine g_iinc4 (v' := (nI (N 6 + (i + 1)))) dX6_putsTogether_121 (nI_1 _) ?_
          refine g_goto (tgt := 43) dX6_putsTogether_124 (by decide) ?_
          first
            | (refine ih (i + 1) (by omega) (updN N1 17 (N1 17 + 1), updA (bgA N1 A1 (N 6 + i) (lno A1 (N 6 + i) la) ka) 19 (N1 17) (bgA N1 A1 (N 6 + i) (lno A1 (N 6 + i) la) ka 19 (N1 17) + 1)) _ (by omega) ?_ hM _
               show _ = ptS la ka (N 6 + i) (ptL la ka (N 6) i (N, A))
               rw [← hS]
               refine (if_pos ?_).symm
               show ptC N1 A1 (N 6 + i) (lno A1 (N 6 + i) la) = true
               unfold ptC
               first
                 | (have hz : N 6 + i = N1 6 := (nI_eq (by omega) (by omega)).mp h72
                    rw [decide_eq_true hz]; rfl)
                 | (rw [decide_eq_false h78, decide_eq_false h94]; simp))
            | (refine ih (i + 1) (by omega) (N1, updA A1 19 (N1 17 - 1) (A1 19 (N1 17 - 1) + 1)) _ (by omega) ?_ hM _
               show _ = ptS la ka (N 6 + i) (ptL la ka (N 6) i (N, A))
               rw [← hS]
               refine (if_neg ?_).symm
               show ¬ ptC N1 A1 (N 6 + i) (lno A1 (N 6 + i) la) = true
               have hz : ¬ N 6 + i = N1 6 := fun e => h72 (by rw [e])
               unfold ptC
               rw [decide_eq_false hz]
               first
                 | (rw [decide_eq_true h78]; simp)
                 | (rw [decide_eq_true h94]; simp))
        · skip
          have hi0 : 0 < i := Nat.pos_of_ne_zero (fun e => h72 (by rw [e, h6]; rfl))
          have hd9 := hd0 hi0
          refine g_aload0 dX6_putsTogether_81 ?_
          refine g_getf kc7 dX6_putsTogether_82 fl_X6_46 (by decide) hM.1 rfl ?_
          refine g_aload0 dX6_putsTogether_85 ?_
          refine g_getf kc7 dX6_putsTogether_86 fl_X6_107 (by decide) hM.1 (show _ = some (Value.int (nI (N1 17))) from rfl) ?_
          refine g_iconst (v := 1) dX6_putsTogether_89 (by decide) ?_
          refine g_isub dX6_putsTogether_90 ?_
          rw [show nI (N1 17) - 1 = nI (N1 17 - 1) from pk_sub (a := N1 17) (b := 1) hd9]
          refine g_miald (k := 20) (n := 120) hM rfl (by decide) (fun _ => rfl) dX6_putsTogether_91 (by omega) (by decide) ?_
          refine g_iload5 dX6_putsTogether_92 ?_
          refine g_icmp_eq (tgt := 106) dX6_putsTogether_94 (by decide) (fun h94 => ?_) (fun h94 => ?_)
          · skip
            refine g_aload0 dX6_putsTogether_106 ?_
            refine g_getf kc7 dX6_putsTogether_107 fl_X6_43 (by decide) hM.1 rfl ?_
            refine g_aload0 dX6_putsTogether_110 ?_
            refine g_getf kc7 dX6_putsTogether_111 fl_X6_107 (by decide) hM.1 (show _ = some (Value.int (nI (N1 17))) from rfl) ?_
            refine g_iconst (v := 1) dX6_putsTogether_114 (by decide) ?_
            refine g_isub dX6_putsTogether_115 ?_
            first
              | rw [nI_pred]
              | (have hi0 : 0 < i := Nat.pos_of_ne_zero (fun e => h72 (by rw [e, h6]; rfl))
                 have hd9 := hd0 hi0
                 rw [show nI (N1 17) - 1 = nI (N1 17 - 1) from pk_sub (a := N1 17) (b := 1) hd9])
            refine g_dup2 dX6_putsTogether_116 rfl rfl ?_
            refine g_miald (k := 19) (n := 120) hM rfl (by decide) (fun _ => rfl) dX6_putsTogether_117 (by omega) (by decide) ?_
            refine g_iconst (v := 1) dX6_putsTogether_118 (by decide) ?_
            refine g_iadd dX6_putsTogether_119 ?_
            refine g_miast (k := 19) (n := 120) hM rfl (by decide) (fun _ => rfl) dX6_putsTogether_120 (by omega) (by decide) (fun w1 hM => ?_)
            refine g_iinc4 (v' := (nI (N 6 + (i + 1)))) dX6_putsTogether_121 (nI_1 _) ?_
            refine g_goto (tgt := 43) dX6_putsTogether_124 (by decide) ?_
            first
              | (refine ih (i + 1) (by omega) (updN N1 17 (N1 17 + 1), updA (bgA N1 A1 (N 6 + i) (lno A1 (N 6 + i) la) ka) 19 (N1 17) (bgA N1 A1 (N 6 + i) (lno A1 (N 6 + i) la) ka 19 (N1 17) + 1)) _ (by omega) ?_ hM _
                 show _ = ptS la ka (N 6 + i) (ptL la ka (N 6) i (N, A))
                 rw [← hS]
                 refine (if_pos ?_).symm
                 show ptC N1 A1 (N 6 + i) (lno A1 (N 6 + i) la) = true
                 unfold ptC
                 first
                   | (have hz : N 6 + i = N1 6 := (nI_eq (by omega) (by omega)).mp h72
                      rw [decide_eq_true hz]; rfl)
                   | (rw [decide_eq_false h78, decide_eq_false h94]; simp))
              | (refine ih (i + 1) (by omega) (N1, updA A1 19 (N1 17 - 1) (A1 19 (N1 17 - 1) + 1)) _ (by omega) ?_ hM _
                 show _ = ptS la ka (N 6 + i) (ptL la ka (N 6) i (N, A))
                 rw [← hS]
                 refine (if_neg ?_).symm
                 show ¬ ptC N1 A1 (N 6 + i) (lno A1 (N 6 + i) la) = true
                 have hz : ¬ N 6 + i = N1 6 := fun e => h72 (by rw [e])
                 unfold ptC
                 rw [decide_eq_false hz]
                 first
                   | (rw [decide_eq_true h78]; simp)
                   | (rw [decide_eq_true h94]; simp))
          · skip
            refine g_aload0 dX6_putsTogether_97 ?_
            refine g_iload4 dX6_putsTogether_98 ?_
            refine g_iload5 dX6_putsTogether_100 ?_
            refine g_iload3 dX6_putsTogether_102 ?_
            refine g_callV3 kc7 (ct_begins hM (by omega) hka (by omega)) md_X6_begins dX6_putsTogether_103 ml_X6_114 im_X6_begins se_X6_begins hM.1 (RmOk.of (Nat.le_of_ble_eq_true rfl) (Nat.le_of_ble_eq_true rfl) (Nat.le_of_ble_eq_true rfl) (Nat.le_of_ble_eq_true rfl) (Nat.le_of_ble_eq_true rfl)) (kr_N (fun w1 hM => ?_)) kx_N
            refine g_aload0 dX6_putsTogether_106 ?_
            refine g_getf kc7 dX6_putsTogether_107 fl_X6_43 (by decide) hM.1 rfl ?_
            refine g_aload0 dX6_putsTogether_110 ?_
            refine g_getf kc7 dX6_putsTogether_111 fl_X6_107 (by decide) hM.1 (show _ = some (Value.int (nI (N1 17 + 1))) from rfl) ?_
            refine g_iconst (v := 1) dX6_putsTogether_114 (by decide) ?_
            refine g_isub dX6_putsTogether_115 ?_
            first
              | rw [nI_pred]
              | (have hi0 : 0 < i := Nat.pos_of_ne_zero (fun e => h72 (by rw [e, h6]; rfl))
                 have hd9 := hd0 hi0
                 rw [show nI (N1 17) - 1 = nI (N1 17 - 1) from pk_sub (a := N1 17) (b := 1) hd9])
            refine g_dup2 dX6_putsTogether_116 rfl rfl ?_
            refine g_miald (k := 19) (n := 120) hM rfl (by decide) (fun _ => rfl) dX6_putsTogether_117 (by omega) (by decide) ?_
            refine g_iconst (v := 1) dX6_putsTogether_118 (by decide) ?_
            refine g_iadd dX6_putsTogether_119 ?_
            refine g_miast (k := 19) (n := 120) hM rfl (by decide) (fun _ => rfl) dX6_putsTogether_120 (by omega) (by decide) (fun w1 hM => ?_)
            refine g_iinc4 (v' := (nI (N 6 + (i + 1)))) dX6_putsTogether_121 (nI_1 _) ?_
            refine g_goto (tgt := 43) dX6_putsTogether_124 (by decide) ?_
            first
              | (refine ih (i + 1) (by omega) (updN N1 17 (N1 17 + 1), updA (bgA N1 A1 (N 6 + i) (lno A1 (N 6 + i) la) ka) 19 (N1 17) (bgA N1 A1 (N 6 + i) (lno A1 (N 6 + i) la) ka 19 (N1 17) + 1)) _ (by omega) ?_ hM _
                 show _ = ptS la ka (N 6 + i) (ptL la ka (N 6) i (N, A))
                 rw [← hS]
                 refine (if_pos ?_).symm
                 show ptC N1 A1 (N 6 + i) (lno A1 (N 6 + i) la) = true
                 unfold ptC
                 first
                   | (have hz : N 6 + i = N1 6 := (nI_eq (by omega) (by omega)).mp h72
                      rw [decide_eq_true hz]; rfl)
                   | (rw [decide_eq_false h78, decide_eq_false h94]; simp))
              | (refine ih (i + 1) (by omega) (N1, updA A1 19 (N1 17 - 1) (A1 19 (N1 17 - 1) + 1)) _ (by omega) ?_ hM _
                 show _ = ptS la ka (N 6 + i) (ptL la ka (N 6) i (N, A))
                 rw [← hS]
                 refine (if_neg ?_).symm
                 show ¬ ptC N1 A1 (N 6 + i) (lno A1 (N 6 + i) la) = true
                 have hz : ¬ N 6 + i = N1 6 := fun e => h72 (by rw [e])
                 unfold ptC
                 rw [decide_eq_false hz]
                 first
                   | (rw [decide_eq_true h78]; simp)
                   | (rw [decide_eq_true h94]; simp))

/-- the lines of the account and of the kind, by the format that counts -/
def fmOk (N : Nat → Nat) (A : Nat → Nat → Int32) (la ka : Nat) : Prop := (fmS A (nI (N 1)) (N 2) = none ∧ la = 0 ∧ ka = 1) ∨ ∃ g, fmS A (nI (N 1)) (N 2) = some g ∧ A 4 g = nI la ∧ A 5 g = nI ka
set_option maxRecDepth 100000 in
theorem ct_puts {G : Gx} {w : Wd} {w0 : Wd} {am : Nat → Nat} {th : Int32} {N : Nat → Nat} {A : Nat → Nat → Int32} {la ka : Nat} (hM : Mz G am w0 (tI th N) A w) (h2 : N 2 ≤ 10) (hfm : fmOk N A la ka) (hla : la < 8) (hka : ka < 8) (hb : N 6 + N 7 ≤ 120) (hdk : N 17 ≤ N 6) : Ct G yX6_putsTogether kw_X6_putsTogether rm_X6_putsTogether [.ref (am 0)] w (PN (Mz G am w0 (tI th (ptL la ka (N 6) (N 7) (N, A)).1) (ptL la ka (N 6) (N 7) (N, A)).2)) := by
  refine ct_intro RX6 "putsTogether" (by decide +kernel) rfl rfl rfl (Nat.le_of_ble_eq_true rfl) [some (.ref (am 0)), none, none, none, none, none] rfl (fun C => ?_)
  rcases hfm with ⟨hf, hl0, hk0⟩ | ⟨g, hf, ha, hk⟩
  · subst hl0
    subst hk0
    refine g_aload0 dX6_putsTogether_0 ?_
    refine g_callV0 kc7 (ct_formatNow hM h2) md_X6_formatNow dX6_putsTogether_1 ml_X6_110 im_X6_formatNow se_X6_formatNow hM.1 (RmOk.of (Nat.le_of_ble_eq_true rfl) (Nat.le_of_ble_eq_true rfl) (Nat.le_of_ble_eq_true rfl) (Nat.le_of_ble_eq_true rfl) (Nat.le_of_ble_eq_true rfl)) (kr_V ?_) kx_V
    rw [hf]
    refine g_istore1 dX6_putsTogether_4 ?_
    refine g_iload1 dX6_putsTogether_5 ?_
    refine g_iconst (v := (-1)) dX6_putsTogether_6 (by decide) ?_
    refine g_icmp_ne_f (tgt := 14) dX6_putsTogether_7 (by decide) rfl ?_
    refine g_iconst (v := 0) dX6_putsTogether_10 (by decide) ?_
    refine g_goto (tgt := 20) dX6_putsTogether_11 (by decide) ?_
    refine g_istore2 dX6_putsTogether_20 ?_
    refine g_iload1 dX6_putsTogether_21 ?_
    refine g_iconst (v := (-1)) dX6_putsTogether_22 (by decide) ?_
    refine g_icmp_ne_f (tgt := 30) dX6_putsTogether_23 (by decide) rfl ?_
    refine g_iconst (v := 1) dX6_putsTogether_26 (by decide) ?_
    refine g_goto (tgt := 36) dX6_putsTogether_27 (by decide) ?_
    refine g_istore3 dX6_putsTogether_36 ?_
    refine g_aload0 dX6_putsTogether_37 ?_
    refine g_getf kc7 dX6_putsTogether_38 fl_X6_94 (by decide) hM.1 (show _ = some (Value.int (nI (N 6))) from rfl) ?_
    refine g_istore4 dX6_putsTogether_41 ?_
    exact lp_puts hla hka hb hdk C (N 7 + 1) 0 (by omega) (N, A) _ (Nat.zero_le _) rfl hM _
  · have hg : g < N 2 := fmS_lt hf
    refine g_aload0 dX6_putsTogether_0 ?_
    refine g_callV0 kc7 (ct_formatNow hM h2) md_X6_formatNow dX6_putsTogether_1 ml_X6_110 im_X6_formatNow se_X6_formatNow hM.1 (RmOk.of (Nat.le_of_ble_eq_true rfl) (Nat.le_of_ble_eq_true rfl) (Nat.le_of_ble_eq_true rfl) (Nat.le_of_ble_eq_true rfl) (Nat.le_of_ble_eq_true rfl)) (kr_V ?_) kx_V
    rw [hf]
    simp only [oI]
    refine g_istore1 dX6_putsTogether_4 ?_
    refine g_iload1 dX6_putsTogether_5 ?_
    refine g_iconst (v := (-1)) dX6_putsTogether_6 (by decide) ?_
    refine g_icmp_ne_t (tgt := 14) dX6_putsTogether_7 (by decide) (ne_m1 (by omega)) ?_
    refine g_aload0 dX6_putsTogether_14 ?_
    refine g_getf kc7 dX6_putsTogether_15 fl_X6_13 (by decide) hM.1 rfl ?_
    refine g_iload1 dX6_putsTogether_18 ?_
    refine g_miald (k := 4) (n := 10) hM rfl (by decide) (fun _ => rfl) dX6_putsTogether_19 (by omega) (by decide) ?_
    rw [ha]
    refine g_istore2 dX6_putsTogether_20 ?_
    refine g_iload1 dX6_putsTogether_21 ?_
    refine g_iconst (v := (-1)) dX6_putsTogether_22 (by decide) ?_
    refine g_icmp_ne_t (tgt := 30) dX6_putsTogether_23 (by decide) (ne_m1 (by omega)) ?_
    refine g_aload0 dX6_putsTogether_30 ?_
    refine g_getf kc7 dX6_putsTogether_31 fl_X6_16 (by decide) hM.1 rfl ?_
    refine g_iload1 dX6_putsTogether_34 ?_
    refine g_miald (k := 5) (n := 10) hM rfl (by decide) (fun _ => rfl) dX6_putsTogether_35 (by omega) (by decide) ?_
    rw [hk]
    refine g_istore3 dX6_putsTogether_36 ?_
    refine g_aload0 dX6_putsTogether_37 ?_
    refine g_getf kc7 dX6_putsTogether_38 fl_X6_94 (by decide) hM.1 (show _ = some (Value.int (nI (N 6))) from rfl) ?_
    refine g_istore4 dX6_putsTogether_41 ?_
    exact lp_puts hla hka hb hdk C (N 7 + 1) 0 (by omega) (N, A) _ (Nat.zero_le _) rfl hM _

