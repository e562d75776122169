/-! The end of a run: the keeper puts the same documents together as the reference. -/
theorem ptS_A {la ka p k : Nat} {S : SS} (hk : k < 18 ∨ 23 < k) : (ptS la ka p S).2 k = S.2 k := by
  unfold ptS
  by_cases h : ptC S.1 S.2 p (lno S.2 p la) = true
  · rw [if_pos h]
    funext q
    show updA (bgA S.1 S.2 p (lno S.2 p la) ka) 19 (S.1 17) _ k q = _
    unfold bgA updA
    rw [if_neg (by omega), if_neg (by omega), if_neg (by omega), if_neg (by omega), if_neg (by omega), if_neg (by omega), if_neg (by omega)]
  · rw [if_neg h]
    funext q
    show updA S.2 19 (S.1 17 - 1) _ k q = _
    unfold updA
    rw [if_neg (by omega)]
theorem ptL_A {la ka kept k : Nat} {S : SS} (hk : k < 18 ∨ 23 < k) : ∀ n, (ptL la ka kept n S).2 k = S.2 k
  | 0 => rfl
  | n + 1 => (ptS_A hk).trans (ptL_A hk n)
def sameK (C S : KS) : Prop := C.pS = S.pS ∧ C.pV = S.pV ∧ C.pC = S.pC ∧ C.rF = S.rF ∧ C.rD = S.rD ∧ C.fm = S.fm ∧ C.day = S.day ∧ C.kept = S.kept ∧ C.oR = S.oR ∧ C.oP = S.oP ∧ C.sp = S.sp ∧ C.he = S.he ∧ C.rd = S.rd
theorem pdStep_k (r : Nat) (la ka : Int32) (i : Nat) (S : KS) : sameK (pdStep r la ka i S) S := by
  unfold pdStep
  by_cases h : pdCd S r la i = true
  · rw [if_pos h]; exact ⟨rfl, rfl, rfl, rfl, rfl, rfl, rfl, rfl, rfl, rfl, rfl, rfl, rfl⟩
  · rw [if_neg h]; exact ⟨rfl, rfl, rfl, rfl, rfl, rfl, rfl, rfl, rfl, rfl, rfl, rfl, rfl⟩
theorem pdL_k (r : Nat) (la ka : Int32) (S : KS) : ∀ n, sameK (pdL r la ka n S) S
  | 0 => ⟨rfl, rfl, rfl, rfl, rfl, rfl, rfl, rfl, rfl, rfl, rfl, rfl, rfl⟩
  | n + 1 => by
    obtain ⟨a1, a2, a3, a4, a5, a6, a7, a8, a9, a10, a11, a12, a13⟩ := pdStep_k r la ka n (pdL r la ka n S)
    obtain ⟨b1, b2, b3, b4, b5, b6, b7, b8, b9, b10, b11, b12, b13⟩ := pdL_k r la ka S n
    exact ⟨a1.trans b1, a2.trans b2, a3.trans b3, a4.trans b4, a5.trans b5, a6.trans b6, a7.trans b7, a8.trans b8, a9.trans b9, a10.trans b10, a11.trans b11, a12.trans b12, a13.trans b13⟩
theorem fmS_cg {A B : Nat → Nat → Int32} {dy : Int32} : ∀ {n : Nat}, (∀ j, j < n → A 3 j = B 3 j) → fmS A dy n = fmS B dy n
  | 0, _ => rfl
  | f + 1, h => by
    have ih := fmS_cg (A := A) (B := B) (dy := dy) (n := f) (fun j hj => h j (by omega))
    show (if (decide (A 3 f ≤ dy) && (match fmS A dy f with | none => true | some g => decide (A 3 g ≤ A 3 f))) = true then some f else fmS A dy f) = (if (decide (B 3 f ≤ dy) && (match fmS B dy f with | none => true | some g => decide (B 3 g ≤ B 3 f))) = true then some f else fmS B dy f)
    rw [ih, h f (Nat.lt_succ_self _)]
    cases hg : fmS B dy f with
    | none => rfl
    | some g =>
      show (if (decide (B 3 f ≤ dy) && decide (A 3 g ≤ B 3 f)) = true then some f else some g) = (if (decide (B 3 f ≤ dy) && decide (B 3 g ≤ B 3 f)) = true then some f else some g)
      rw [h g (by have := fmS_lt hg; omega)]
theorem kd4 : ∀ a : Nat, a < 100 → nI a - nI a / 4 * 4 = nI (a % 4) := by decide +kernel
section EndSim
variable {S : KS} {N : Nat → Nat} {A : Nat → Nat → Int32}
theorem Lk.fmt (h : Lk S N A) {la ka : Nat} (hfm : fmOk N A la ka) : fVl S 1 (oN S S.day) = nI la ∧ fVl S 2 (oN S S.day) = nI ka := by
  obtain ⟨hD, ⟨f1, f2, f3_, f4⟩, -⟩ := h
  have e : oN S S.day = fmS A (nI (N 1)) (N 2) := by
    unfold oN fOn
    rw [hD.1, f1]
    exact fmS_cg (fun j hj => (f4 j hj).1)
  rw [e]
  rcases hfm with ⟨z, z1, z2⟩ | ⟨g, z, z1, z2⟩
  · rw [z, z1, z2]; exact ⟨rfl, rfl⟩
  · rw [z]
    have hg := f4 g (fmS_lt z)
    exact ⟨hg.2.1.trans z1, hg.2.2.1.trans z2⟩
/-- after i pages -/
def Sim (S0 : KS) (N : Nat → Nat) (i : Nat) (C : KS) (M : SS) : Prop := C.nn 8 = M.1 17 ∧ C.ln 2 = M.1 17 ∧ (∀ d, d < M.1 17 → C.dR d ≤ N 13 ∧ dRel C M.2 d) ∧
  (0 < i → 0 < M.1 17 ∧ ∃ f n : Nat, C.dI (M.1 17 - 1) 0 = nI f ∧ C.dI (M.1 17 - 1) 3 = nI n ∧ f + n = i ∧ C.dR (M.1 17 - 1) = N 13 ∧ M.2 18 (M.1 17 - 1) = nI (N 6 + f) ∧ M.2 19 (M.1 17 - 1) = nI n)
theorem pd_ac {C : KS} {M : SS} {r la i p : Nat} (hla : la < 8) (hp : C.rF r + i = p) (h8 : C.pS p ≤ 8) (hA8 : M.2 8 p = nI (C.pS p)) (hA9 : ∀ k, k < C.pS p → M.2 9 (8 * p + k) = C.pV p k) (h99 : v99 (C.pV p) (C.pS p)) : pdAc C r (nI la) i = lno M.2 p la ∧ (lno M.2 p la = -1 ∨ ∃ a, a < 100 ∧ lno M.2 p la = nI a) := by
  unfold pdAc lno
  rw [hp, hasB_n h8 (by omega), hA8, nI_clamp (by omega)]
  by_cases z : la < C.pS p
  · rw [decide_eq_true z, if_pos rfl, if_pos (nI_lt z (by omega)), hA9 la z]
    exact ⟨rfl, Or.inr (h99 la z)⟩
  · rw [decide_eq_false z, if_neg (by decide), if_neg (fun y => z ((nI_ltI (by omega) (by omega)).mp y))]
    exact ⟨rfl, Or.inl rfl⟩
theorem pd_kd {C : KS} {M : SS} {r ka i p : Nat} (hka : ka < 8) (hp : C.rF r + i = p) (h8 : C.pS p ≤ 8) (hA8 : M.2 8 p = nI (C.pS p)) (hA9 : ∀ k, k < C.pS p → M.2 9 (8 * p + k) = C.pV p k) (h99 : v99 (C.pV p) (C.pS p)) : pdKd C r (nI ka) i = kdI (lno M.2 p ka) ∧ ∃ k, k < 4 ∧ kdI (lno M.2 p ka) = nI k := by
  unfold pdKd kdC lno kdI
  rw [hp, hasB_n h8 (by omega), hA8, nI_clamp (by omega)]
  by_cases z : ka < C.pS p
  · obtain ⟨a, ha, e⟩ := h99 ka z
    rw [decide_eq_true z, if_pos rfl, if_pos (nI_lt z (by omega)), hA9 ka z, e, if_neg (ne_m1 (by omega)), kd4 a ha]
    exact ⟨rfl, a % 4, Nat.mod_lt _ (by decide), rfl⟩
  · rw [decide_eq_false z, if_neg (by decide), if_neg (fun y => z ((nI_ltI (by omega) (by omega)).mp y)), if_pos rfl]
    exact ⟨rfl, 0, by decide, rfl⟩
/-- one page more -/
theorem Sim.step {S0 C : KS} {M : SS} {i la ka : Nat} (hla : la < 8) (hka : ka < 8) (h : Sim S0 N i C M) (hN6 : M.1 6 = N 6) (hN1 : M.1 1 = N 1) (hrF : C.rF (N 13) = N 6) (hrD : C.rD (N 13) = nI (N 1)) (hln : i < C.ln (N 13 + 4)) (h120 : N 6 + i < 120) (hN17 : M.1 17 ≤ 120)
    (h8 : C.pS (N 6 + i) ≤ 8) (hA8 : M.2 8 (N 6 + i) = nI (C.pS (N 6 + i))) (hA9 : ∀ k, k < C.pS (N 6 + i) → M.2 9 (8 * (N 6 + i) + k) = C.pV (N 6 + i) k) (h99 : v99 (C.pV (N 6 + i)) (C.pS (N 6 + i))) : Sim S0 N (i + 1) (pdStep (N 13) (nI la) (nI ka) i C) (ptS la ka (N 6 + i) M) := by
  obtain ⟨s1, s2, s3, s4⟩ := h
  have hp : C.rF (N 13) + i = N 6 + i := by rw [hrF]
  obtain ⟨ea, ea2⟩ := pd_ac (M := M) hla hp h8 hA8 hA9 h99
  obtain ⟨ek, ek2⟩ := pd_kd (M := M) hka hp h8 hA8 hA9 h99
  have hcd : pdCd C (N 13) (nI la) i = ptC M.1 M.2 (N 6 + i) (lno M.2 (N 6 + i) la) := by
    unfold pdCd ptC
    rw [ea, hN6]
    by_cases z : i = 0
    · rw [decide_eq_true z, decide_eq_true (show N 6 + i = N 6 by omega)]; rfl
    · rw [decide_eq_false z, decide_eq_false (show ¬ N 6 + i = N 6 by omega)]
      obtain ⟨t1, -⟩ := s4 (by omega)
      have e1 := (s3 (M.1 17 - 1) (by omega)).2.2.1
      rw [s1, e1]
      congr 2
      by_cases y : lno M.2 (N 6 + i) la = C.dI (M.1 17 - 1) 1
      · rw [decide_eq_true y, decide_eq_true y.symm]
      · rw [decide_eq_false y, decide_eq_false (fun x => y x.symm)]
  unfold pdStep ptS
  rw [hcd]
  by_cases hc : ptC M.1 M.2 (N 6 + i) (lno M.2 (N 6 + i) la) = true
  · rw [if_pos hc, if_pos hc, ea, ek]
    have hd17 : updN M.1 17 (M.1 17 + 1) 17 = M.1 17 + 1 := updN_s _ _ _
    refine ⟨?_, ?_, ?_, ?_⟩
    · show updN C.nn 8 (C.nn 8 + 1) 8 = updN M.1 17 (M.1 17 + 1) 17
      rw [updN_s, updN_s, s1]
    · show updN C.ln 2 (C.ln 2 + 1) 2 = updN M.1 17 (M.1 17 + 1) 17
      rw [updN_s, updN_s, s2]
    · intro d hd
      have hd : d < updN M.1 17 (M.1 17 + 1) 17 := hd
      rw [hd17] at hd
      show updN C.dR (C.nn 8) (N 13) d ≤ N 13 ∧ (∃ f n : Nat, upd2 (pdG C i _ _) (C.nn 8) 3 (pdG C i _ _ (C.nn 8) 3 + 1) d 0 = nI f ∧ upd2 (pdG C i _ _) (C.nn 8) 3 (pdG C i _ _ (C.nn 8) 3 + 1) d 3 = nI n ∧ upd (M.2 18) (M.1 17) (nI (N 6 + i)) d = nI (C.rF (updN C.dR (C.nn 8) (N 13) d) + f) ∧ upd (upd (M.2 19) (M.1 17) 0) (M.1 17) (upd (M.2 19) (M.1 17) 0 (M.1 17) + 1) d = nI n ∧ f + n ≤ updN C.ln 2 (C.ln 2 + 1) (updN C.dR (C.nn 8) (N 13) d + 4)) ∧ upd (M.2 20) (M.1 17) (lno M.2 (N 6 + i) la) d = upd2 (pdG C i _ _) (C.nn 8) 3 (pdG C i _ _ (C.nn 8) 3 + 1) d 1 ∧ upd (M.2 21) (M.1 17) (kdI (lno M.2 (N 6 + i) ka)) d = upd2 (pdG C i _ _) (C.nn 8) 3 (pdG C i _ _ (C.nn 8) 3 + 1) d 2 ∧ upd (M.2 22) (M.1 17) (nI (M.1 1)) d = C.rD (updN C.dR (C.nn 8) (N 13) d) ∧ upd (M.2 23) (M.1 17) 0 d = upd2 (pdG C i _ _) (C.nn 8) 3 (pdG C i _ _ (C.nn 8) 3 + 1) d 4 ∧ (upd (M.2 20) (M.1 17) (lno M.2 (N 6 + i) la) d = -1 ∨ ∃ a, a < 100 ∧ upd (M.2 20) (M.1 17) (lno M.2 (N 6 + i) la) d = nI a) ∧ ∃ k, k < 4 ∧ upd (M.2 21) (M.1 17) (kdI (lno M.2 (N 6 + i) ka)) d = nI k
      rw [s1]
      by_cases e : d = M.1 17
      · rw [e, updN_s, upd2_s, upd_s, upd_s, upd_s, upd_s, upd_s, upd_s, upd_s, updN_n (show N 13 + 4 ≠ 2 by omega)]
        have hG : pdG C i (lno M.2 (N 6 + i) la) (kdI (lno M.2 (N 6 + i) ka)) (M.1 17) = f5 (nI i) (lno M.2 (N 6 + i) la) (kdI (lno M.2 (N 6 + i) ka)) 0 0 := by
          unfold pdG; rw [s1]; exact updF_s _ _ _
        rw [hG]
        refine ⟨Nat.le_refl _, ⟨i, 1, rfl, rfl, by rw [hrF], rfl, by omega⟩, rfl, rfl, ?_, upd_s (M.2 23) (M.1 17) 0, ea2, ek2⟩
        rw [hN1, hrD]
      · have hG : pdG C i (lno M.2 (N 6 + i) la) (kdI (lno M.2 (N 6 + i) ka)) d = C.dI d := by
          unfold pdG; rw [s1]; exact updF_n e
        rw [updN_n e, upd2_n e, hG, upd_n e, upd_n e, upd_n e, upd_n e, upd_n e, upd_n e, upd_n e, updN_n (show C.dR d + 4 ≠ 2 by omega)]
        exact s3 d (by omega)
    · intro _
      show 0 < updN M.1 17 (M.1 17 + 1) 17 ∧ ∃ f n : Nat, upd2 (pdG C i _ _) (C.nn 8) 3 (pdG C i _ _ (C.nn 8) 3 + 1) (updN M.1 17 (M.1 17 + 1) 17 - 1) 0 = nI f ∧ upd2 (pdG C i _ _) (C.nn 8) 3 (pdG C i _ _ (C.nn 8) 3 + 1) (updN M.1 17 (M.1 17 + 1) 17 - 1) 3 = nI n ∧ f + n = i + 1 ∧ updN C.dR (C.nn 8) (N 13) (updN M.1 17 (M.1 17 + 1) 17 - 1) = N 13 ∧ upd (M.2 18) (M.1 17) (nI (N 6 + i)) (updN M.1 17 (M.1 17 + 1) 17 - 1) = nI (N 6 + f) ∧ upd (upd (M.2 19) (M.1 17) 0) (M.1 17) (upd (M.2 19) (M.1 17) 0 (M.1 17) + 1) (updN M.1 17 (M.1 17 + 1) 17 - 1) = nI n
      rw [hd17, Nat.add_sub_cancel, s1, updN_s, upd2_s, upd_s, upd_s, upd_s]
      have hG : pdG C i (lno M.2 (N 6 + i) la) (kdI (lno M.2 (N 6 + i) ka)) (M.1 17) = f5 (nI i) (lno M.2 (N 6 + i) la) (kdI (lno M.2 (N 6 + i) ka)) 0 0 := by
        unfold pdG; rw [s1]; exact updF_s _ _ _
      rw [hG]
      exact ⟨Nat.succ_pos _, i, 1, rfl, rfl, rfl, rfl, rfl, (congrArg (fun z => z + 1) (upd_s (M.2 19) (M.1 17) 0)).trans rfl⟩
  · rw [if_neg hc, if_neg hc]
    have hi0 : 0 < i := by
      rcases Nat.eq_zero_or_pos i with z | z
      · exact absurd (by unfold ptC; rw [hN6, decide_eq_true (show N 6 + i = N 6 by omega)]; rfl) hc
      · exact z
    obtain ⟨t1, f, n, t2, t3, t4, t5, t6, t7⟩ := s4 hi0
    have hnn : nI n + 1 = nI (n + 1) := nI_1 n
    refine ⟨s1, s2, fun d hd => ?_, fun _ => ⟨t1, f, n + 1, ?_, ?_, by omega, t5, t6, ?_⟩⟩
    · have h9 := s3 d hd
      show C.dR d ≤ N 13 ∧ (∃ f n : Nat, upd2 C.dI (C.nn 8 - 1) 3 (C.dI (C.nn 8 - 1) 3 + 1) d 0 = nI f ∧ upd2 C.dI (C.nn 8 - 1) 3 (C.dI (C.nn 8 - 1) 3 + 1) d 3 = nI n ∧ M.2 18 d = nI (C.rF (C.dR d) + f) ∧ upd (M.2 19) (M.1 17 - 1) (M.2 19 (M.1 17 - 1) + 1) d = nI n ∧ f + n ≤ C.ln (C.dR d + 4)) ∧ M.2 20 d = upd2 C.dI (C.nn 8 - 1) 3 (C.dI (C.nn 8 - 1) 3 + 1) d 1 ∧ M.2 21 d = upd2 C.dI (C.nn 8 - 1) 3 (C.dI (C.nn 8 - 1) 3 + 1) d 2 ∧ M.2 22 d = C.rD (C.dR d) ∧ M.2 23 d = upd2 C.dI (C.nn 8 - 1) 3 (C.dI (C.nn 8 - 1) 3 + 1) d 4 ∧ (M.2 20 d = -1 ∨ ∃ a, a < 100 ∧ M.2 20 d = nI a) ∧ ∃ k, k < 4 ∧ M.2 21 d = nI k
      rw [s1]
      by_cases e : d = M.1 17 - 1
      · rw [e] at h9 ⊢
        rw [upd2_s, upd_s, upd_s, t3, t7, hnn]
        obtain ⟨g1, -, g3⟩ := h9
        refine ⟨g1, ⟨f, n + 1, t2, rfl, ?_, rfl, ?_⟩, g3⟩
        · rw [t6, t5, hrF]
        · rw [t5]; omega
      · rw [upd2_n e, upd_n e]
        exact h9
    · show upd2 C.dI (C.nn 8 - 1) 3 (C.dI (C.nn 8 - 1) 3 + 1) (M.1 17 - 1) 0 = nI f
      rw [s1, upd2_s]; exact t2
    · show upd2 C.dI (C.nn 8 - 1) 3 (C.dI (C.nn 8 - 1) 3 + 1) (M.1 17 - 1) 3 = nI (n + 1)
      rw [s1, upd2_s, upd_s, t3, hnn]
    · show upd (M.2 19) (M.1 17 - 1) (M.2 19 (M.1 17 - 1) + 1) (M.1 17 - 1) = nI (n + 1)
      rw [upd_s, t7, hnn]
/-- the numbers kept by the pages' walk -/
theorem Sim.run (h : Lk S N A) {la ka : Nat} (hla : la < 8) (hka : ka < 8) (h67 : N 6 + N 7 ≤ 120) : ∀ i, i ≤ N 7 → Sim S N i (pdL (N 13) (nI la) (nI ka) i (keA S)) (ptL la ka (N 6) i (N, A))
  | 0, _ => by
    obtain ⟨hD, hF, hR, hP, hQ, hV⟩ := h
    obtain ⟨q1, q2, q3, q4⟩ := hQ
    refine ⟨q2, ?_, fun d hd => ⟨Nat.le_of_lt (q4 d hd).1, ?_⟩, fun z => absurd z (Nat.lt_irrefl _)⟩
    · show updN S.ln 1 (S.ln 1 + 1) 2 = N 17
      rw [updN_n (by decide)]; exact q1
    · have h9 := (q4 d hd).2
      have hlt := (q4 d hd).1
      have hoR : S.oR = N 13 := hR.2.2.1
      unfold dRel at h9 ⊢
      rw [show (pdL (N 13) (nI la) (nI ka) 0 (keA S)).ln ((pdL (N 13) (nI la) (nI ka) 0 (keA S)).dR d + 4) = S.ln (S.dR d + 4) from (show updN S.ln 1 (S.ln 1 + 1) (S.dR d + 4) = S.ln (S.dR d + 4) from updN_n (by omega)), show (pdL (N 13) (nI la) (nI ka) 0 (keA S)).rD ((pdL (N 13) (nI la) (nI ka) 0 (keA S)).dR d) = S.rD (S.dR d) from (show upd S.rD S.oR S.day (S.dR d) = S.rD (S.dR d) from upd_n (by omega))]
      exact h9
  | i + 1, hi => by
    have ih := Sim.run h hla hka h67 i (by omega)
    obtain ⟨hD, hF, hR, hP, hQ, hV⟩ := h
    obtain ⟨p1, p2, p3, p4, p5, p6, p7, p8, p9, p10⟩ := hP
    obtain ⟨r1, r2, r3, r4, r5, r6, r7, r8⟩ := hR
    have hk := pdL_k (N 13) (nI la) (nI ka) (keA S) i
    obtain ⟨b1, b2, b3, b4, b5, b6, b7, b8, b9, b10, b11, b12, b13⟩ := hk
    have hp := p10 (N 6 + i) (by omega)
    have hd := ptL_d (la := la) (ka := ka) (kept := N 6) (S := (N, A)) i
    have hd : (ptL la ka (N 6) i (N, A)).1 17 ≤ N 17 + i := hd
    have hq3 := hQ.2.2.1
    refine Sim.step hla hka ih (ptL_N (by decide) i) (ptL_N (by decide) i) (by rw [b4]; exact r6) ?_ ?_ (by omega) (by omega) ?_ ?_ ?_ ?_
    · rw [b5]
      show upd S.rD S.oR S.day (N 13) = nI (N 1)
      rw [r3, upd_s]; exact hD.1
    · rw [pdL_ln _ _ _ _ (show N 13 + 4 ≠ 2 by omega)]
      show i < updN S.ln 1 (S.ln 1 + 1) (N 13 + 4)
      rw [updN_n (by omega), r7]; omega
    · rw [b1]; exact hp.1
    · rw [b1, ptL_A (Or.inl (by decide))]; exact hp.2.1
    · rw [b1, b2, ptL_A (Or.inl (by decide))]; exact hp.2.2.2.1
    · rw [b1, b2]; exact hp.2.2.2.2
theorem Lk.ended (h : Lk S N A) {la ka : Nat} (hla : la < 8) (hka : ka < 8) (hfm : fmOk N A la ka) (h10 : N 10 = 0) (h7 : 0 < N 7) (h13 : N 13 < 15) : Lk (keT S) (edS la ka (N, A)).1 (edS la ka (N, A)).2 := by
  have h67 := h.2.2.2.1.2.2.2.1
  have hs := Sim.run h hla hka h67 (N 7) (Nat.le_refl _)
  obtain ⟨e1, e2⟩ := h.fmt hfm
  obtain ⟨hD, hF, hR, hP, hQ, hV⟩ := h
  obtain ⟨p1, p2, p3, p4, p5, p6, p7, p8, p9, p10⟩ := hP
  obtain ⟨r1, r2, r3, r4, r5, r6, r7, r8⟩ := hR
  obtain ⟨f1, f2, f3_, f4⟩ := hF
  obtain ⟨v1, v2, v3, v4, v5⟩ := hV
  have hB : keB S = pdL (N 13) (nI la) (nI ka) (N 7) (keA S) := by
    unfold keB
    rw [e1, e2, r3, r7]
  generalize hC : pdL (N 13) (nI la) (nI ka) (N 7) (keA S) = C at hs hB
  generalize hM : ptL la ka (N 6) (N 7) (N, A) = M at hs
  have hk := pdL_k (N 13) (nI la) (nI ka) (keA S) (N 7)
  rw [hC] at hk
  obtain ⟨b1, b2, b3, b4, b5, b6, b7, b8, b9, b10, b11, b12, b13⟩ := hk
  have bln : ∀ k, k ≠ 2 → k ≠ 1 → C.ln k = S.ln k := fun k hk2 hk1 => by
    rw [← hC, pdL_ln _ _ _ _ hk2]
    show updN S.ln 1 (S.ln 1 + 1) k = _
    exact updN_n hk1
  have bln1 : C.ln 1 = S.ln 1 + 1 := by
    rw [← hC, pdL_ln _ _ _ _ (by decide)]
    show updN S.ln 1 (S.ln 1 + 1) 1 = _
    exact updN_s _ _ _
  have bnn : ∀ k, k ≠ 8 → C.nn k = S.nn k := fun k hk8 => by
    rw [← hC, pdL_nn _ _ _ _ hk8]; rfl
  have mN : ∀ k, k ≠ 17 → M.1 k = N k := fun k hk => by rw [← hM]; exact ptL_N hk _
  have mA : ∀ k, k < 18 ∨ 23 < k → M.2 k = A k := fun k hk => by rw [← hM]; exact ptL_A hk _
  have hd17 : M.1 17 ≤ N 17 + N 7 := by rw [← hM]; exact ptL_d _
  have eT : keT S = krT C (N 6 + N 7) := by unfold keT; rw [hB, p3]
  have eS : edS la ka (N, A) = (edN M.1, edA M.1 M.2) := by
    show (edN (ptL la ka (N 6) (N 7) (N, A)).1, edA (ptL la ka (N 6) (N 7) (N, A)).1 (ptL la ka (N 6) (N 7) (N, A)).2) = _
    rw [hM]
  rw [eT, eS]
  show Lk (krT C (N 6 + N 7)) (edN M.1) (edA M.1 M.2)
  obtain ⟨s1, s2, s3, s4⟩ := hs
  have n3 : C.nn 3 = N 13 + 5 := by rw [bnn 3 (by decide), r5, r2]
  have n5 : C.nn 5 = N 13 + 1 := by rw [bnn 5 (by decide), r2]
  have hln : ∀ k, k < N 13 + 5 → updN C.ln (C.nn 3) 0 k = C.ln k := fun k hk => updN_n (by omega)
  have hrF : ∀ k, k < N 13 + 1 → updN C.rF (C.nn 5) (N 6 + N 7) k = S.rF k := fun k hk => by rw [updN_n (by omega), b4]; rfl
  have hrD : ∀ k, k < N 13 + 1 → upd C.rD (C.nn 5) 0 k = C.rD k := fun k hk => upd_n (by omega)
  have hrD2 : ∀ k, k < N 13 → C.rD k = S.rD k := fun k hk => by
    rw [b5]
    show upd S.rD S.oR S.day k = S.rD k
    exact upd_n (by omega)
  have hrD3 : C.rD (N 13) = nI (N 1) := by
    rw [b5]
    show upd S.rD S.oR S.day (N 13) = nI (N 1)
    rw [r3, upd_s]; exact hD.1
  have e6 : edN M.1 6 = N 6 + N 7 := by show M.1 6 + M.1 7 = _; rw [mN 6 (by decide), mN 7 (by decide)]
  have e13 : edN M.1 13 = N 13 + 1 := by show M.1 13 + 1 = _; rw [mN 13 (by decide)]
  have e7 : edN M.1 7 = 0 := rfl
  have eo : ∀ k, k ≠ 6 → k ≠ 7 → k ≠ 13 → edN M.1 k = M.1 k := fun k a b c => by
    unfold edN
    rw [updN_n c, updN_n b, updN_n a]
  have eA : ∀ k, k ≠ 14 → k ≠ 15 → k ≠ 16 → edA M.1 M.2 k = M.2 k := fun k a b c => by
    funext q
    unfold edA updA
    rw [if_neg c, if_neg b, if_neg a]
  have nn' : ∀ k, k ≠ 3 → k ≠ 4 → k ≠ 5 → (krT C (N 6 + N 7)).nn k = C.nn k := fun k a b c => by
    show updN (updN (updN C.nn 3 (C.nn 3 + 1)) 4 (C.nn 3 + 1)) 5 (C.nn 5 + 1) k = C.nn k
    rw [updN_n c, updN_n b, updN_n a]
  have nn5 : (krT C (N 6 + N 7)).nn 5 = N 13 + 2 := by
    show updN (updN (updN C.nn 3 (C.nn 3 + 1)) 4 (C.nn 3 + 1)) 5 (C.nn 5 + 1) 5 = _
    rw [updN_s, n5]
  have nn3 : (krT C (N 6 + N 7)).nn 3 = N 13 + 6 := by
    show updN (updN (updN C.nn 3 (C.nn 3 + 1)) 4 (C.nn 3 + 1)) 5 (C.nn 5 + 1) 3 = _
    rw [updN_n (by decide), updN_n (by decide), updN_s, n3]
  refine ⟨⟨?_, ?_, ?_⟩, ⟨?_, ?_, ?_, ?_⟩, ⟨?_, ?_, ?_, ?_, ?_, ?_, ?_, ?_⟩, ⟨?_, ?_, ?_, ?_, ?_, ?_, ?_, ?_, ?_, ?_⟩, ⟨?_, ?_, ?_, ?_⟩, ⟨?_, ?_, ?_, ?_, ?_⟩⟩
  · show C.day = nI (edN M.1 1)
    rw [eo 1 (by decide) (by decide) (by decide), mN 1 (by decide), b7]; exact hD.1
  · show edN M.1 1 ≤ 9999
    rw [eo 1 (by decide) (by decide) (by decide), mN 1 (by decide)]; exact hD.2.1
  · show C.kept = nI (edN M.1 6)
    rw [e6, b8, ← nI_add]
    show S.kept + nI (S.ln (S.oR + 4)) = _
    rw [hD.2.2, r3, r7]
  · show updN C.ln (C.nn 3) 0 0 = edN M.1 2
    rw [hln 0 (by omega), bln 0 (by decide) (by decide), eo 2 (by decide) (by decide) (by decide), mN 2 (by decide)]; exact f1
  · rw [nn' 2 (by decide) (by decide) (by decide), bnn 2 (by decide), eo 2 (by decide) (by decide) (by decide), mN 2 (by decide)]; exact f2
  · rw [eo 2 (by decide) (by decide) (by decide), mN 2 (by decide)]; exact f3_
  · intro j hj
    rw [eo 2 (by decide) (by decide) (by decide), mN 2 (by decide)] at hj
    rw [eA 3 (by decide) (by decide) (by decide), eA 4 (by decide) (by decide) (by decide), eA 5 (by decide) (by decide) (by decide), mA 3 (by omega), mA 4 (by omega), mA 5 (by omega)]
    show C.fm j 0 = A 3 j ∧ C.fm j 1 = A 4 j ∧ C.fm j 2 = A 5 j ∧ _
    rw [b6]
    exact f4 j hj
  · show updN C.ln (C.nn 3) 0 1 = edN M.1 13
    rw [hln 1 (by omega), bln1, e13, r1]
  · rw [nn5, e13]
  · show C.nn 5 = edN M.1 13
    rw [n5, e13]
  · rw [e13]; omega
  · rw [nn3, nn5]
  · rw [e13, e6]
    show updN C.rF (C.nn 5) (N 6 + N 7) (N 13 + 1) = N 6 + N 7
    rw [← n5, updN_s]
  · rw [e13, e7]
    show updN C.ln (C.nn 3) 0 (N 13 + 1 + 4) = 0
    rw [show N 13 + 1 + 4 = C.nn 3 by omega, updN_s]
  · intro r hr
    rw [e13] at hr
    rw [e6]
    show upd (M.2 14) (M.1 13) (nI (M.1 1)) r = upd C.rD (C.nn 5) 0 r ∧ upd (M.2 15) (M.1 13) (nI (M.1 6)) r = nI (updN C.rF (C.nn 5) (N 6 + N 7) r) ∧ upd (M.2 16) (M.1 13) (nI (M.1 7)) r = nI (updN C.ln (C.nn 3) 0 (r + 4)) ∧ 1 ≤ updN C.ln (C.nn 3) 0 (r + 4) ∧ updN C.rF (C.nn 5) (N 6 + N 7) r + updN C.ln (C.nn 3) 0 (r + 4) ≤ N 6 + N 7
    rw [hrD r hr, hrF r hr, hln (r + 4) (by omega), bln (r + 4) (by omega) (by omega), mN 13 (by decide), mN 1 (by decide), mN 6 (by decide), mN 7 (by decide), mA 14 (by omega), mA 15 (by omega), mA 16 (by omega)]
    by_cases e : r = N 13
    · rw [e, upd_s, upd_s, upd_s, hrD3, r6, r7]
      exact ⟨rfl, rfl, rfl, h7, Nat.le_refl _⟩
    · rw [upd_n e, upd_n e, upd_n e, hrD2 r (by omega)]
      have h9 := r8 r (by omega)
      exact ⟨h9.1, h9.2.1, h9.2.2.1, h9.2.2.2.1, by omega⟩
  · rw [nn' 6 (by decide) (by decide) (by decide), bnn 6 (by decide), e6, e7, p1]
  · rw [nn' 6 (by decide) (by decide) (by decide), bnn 6 (by decide), nn' 7 (by decide) (by decide) (by decide), bnn 7 (by decide), p2]
  · show C.oP = edN M.1 6 + edN M.1 7
    rw [e6, e7, b10]; exact p3
  · rw [e6, e7]; omega
  · rw [e6, e7, eo 10 (by decide) (by decide) (by decide), mN 10 (by decide)]
    show C.pS (N 6 + N 7 + 0) = N 10
    rw [b1]; exact p5
  · rw [eo 10 (by decide) (by decide) (by decide), mN 10 (by decide)]; exact p6
  · rw [e6, e7]
    show C.pC (N 6 + N 7 + 0) = 1
    rw [b3]; exact p7
  · intro k hk
    rw [eo 10 (by decide) (by decide) (by decide), mN 10 (by decide), h10] at hk
    exact absurd hk (Nat.not_lt_zero _)
  · intro k hk
    rw [eo 10 (by decide) (by decide) (by decide), mN 10 (by decide), h10] at hk
    exact absurd hk (Nat.not_lt_zero _)
  · intro p hp
    rw [e6, e7] at hp
    rw [eA 8 (by decide) (by decide) (by decide), eA 12 (by decide) (by decide) (by decide), eA 9 (by decide) (by decide) (by decide), mA 8 (by omega), mA 12 (by omega), mA 9 (by omega)]
    show C.pS p ≤ 8 ∧ A 8 p = nI (C.pS p) ∧ A 12 p = C.pC p ∧ (∀ k, k < C.pS p → A 9 (8 * p + k) = C.pV p k) ∧ v99 (C.pV p) (C.pS p)
    rw [b1, b2, b3]
    exact p10 p hp
  · show updN C.ln (C.nn 3) 0 2 = edN M.1 17
    rw [hln 2 (by omega), eo 17 (by decide) (by decide) (by decide)]; exact s2
  · rw [nn' 8 (by decide) (by decide) (by decide), eo 17 (by decide) (by decide) (by decide)]; exact s1
  · rw [eo 17 (by decide) (by decide) (by decide), e6]
    have := hQ.2.2.1
    omega
  · intro d hd
    rw [eo 17 (by decide) (by decide) (by decide)] at hd
    have h9 := s3 d hd
    have hlt := h9.1
    refine ⟨?_, ?_⟩
    · show C.dR d < edN M.1 13
      rw [e13]; omega
    · have h9 := h9.2
      unfold dRel at h9 ⊢
      rw [eA 18 (by decide) (by decide) (by decide), eA 19 (by decide) (by decide) (by decide), eA 20 (by decide) (by decide) (by decide), eA 21 (by decide) (by decide) (by decide), eA 22 (by decide) (by decide) (by decide), eA 23 (by decide) (by decide) (by decide)]
      rw [show (krT C (N 6 + N 7)).rF ((krT C (N 6 + N 7)).dR d) = C.rF (C.dR d) from (show updN C.rF (C.nn 5) (N 6 + N 7) (C.dR d) = C.rF (C.dR d) from updN_n (by omega)), show (krT C (N 6 + N 7)).ln ((krT C (N 6 + N 7)).dR d + 4) = C.ln (C.dR d + 4) from (show updN C.ln (C.nn 3) 0 (C.dR d + 4) = C.ln (C.dR d + 4) from updN_n (by omega)), show (krT C (N 6 + N 7)).rD ((krT C (N 6 + N 7)).dR d) = C.rD (C.dR d) from (show upd C.rD (C.nn 5) 0 (C.dR d) = C.rD (C.dR d) from upd_n (by omega))]
      exact h9
  · show updN C.ln (C.nn 3) 0 3 = 4
    rw [hln 3 (by omega), bln 3 (by decide) (by decide)]; exact v1
  · rw [nn' 9 (by decide) (by decide) (by decide), bnn 9 (by decide)]; exact v2
  · intro r hr
    rw [eA 24 (by decide) (by decide) (by decide), eA 25 (by decide) (by decide) (by decide), eA 26 (by decide) (by decide) (by decide), mA 24 (by omega), mA 25 (by omega), mA 26 (by omega)]
    show C.rd r 0 = _ ∧ C.rd r 1 = _ ∧ C.rd r 2 = _ ∧ C.rd r 3 = _
    rw [b13]
    exact v3 r hr
  · intro k hk
    rw [eA 27 (by decide) (by decide) (by decide), mA 27 (by omega)]
    show C.sp k = _
    rw [b11]
    exact v4 k hk
  · intro a ha
    rw [eA 28 (by decide) (by decide) (by decide), mA 28 (by omega)]
    show C.he a = _ ∧ _
    rw [b12]
    exact v5 a ha
end EndSim

