/-! A run put together by the law: the same numbers as the keeper's. -/
def jdG (B U : Nat) (D : Nat → Int32) (A : Nat → Nat → Int32) (FI : Nat → Nat → Int32) (k : Nat) : Prop := ∃ ac ki fp ru ln, ac ≤ 100 ∧ ki < 4 ∧ fp + ln ≤ B ∧ 1 ≤ ln ∧ ru < U ∧ A 20 k = nI ac - 1 ∧ A 21 k = nI ki ∧ A 18 k = nI fp ∧ A 19 k = nI ln ∧ A 22 k = D ru ∧ FI 5 k = nI (ac + 128 * ki + 512 * fp + 32768 * ru) ∧ (A 23 k = 0 ∧ FI 6 k = nI ln ∨ A 23 k = 1 ∧ FI 6 k = - nI ln)
theorem jdR_G {N : Nat → Nat} {A FI : Nat → Nat → Int32} {k : Nat} : jdR N A FI k ↔ jdG (N 6) (N 13) (A 14) A FI k := Iff.rfl
theorem jdG.of {B B' U U' : Nat} {D D' : Nat → Int32} {A A' FI FI' : Nat → Nat → Int32} {k : Nat} (h : jdG B U D A FI k) (hB : B ≤ B') (hU : U ≤ U') (hD : ∀ r, r < U → D' r = D r) (hA : ∀ j, 18 ≤ j → j ≤ 23 → A' j k = A j k) (h5 : FI' 5 k = FI 5 k) (h6 : FI' 6 k = FI 6 k) : jdG B' U' D' A' FI' k := by
  obtain ⟨ac, ki, fp, ru, ln, a1, a2, a3, a4, a5, a6, a7, a8, a9, a10, a11, a12⟩ := h
  refine ⟨ac, ki, fp, ru, ln, a1, a2, by omega, a4, by omega, ?_, ?_, ?_, ?_, ?_, h5.trans a11, ?_⟩
  · rw [hA 20 (by decide) (by decide)]; exact a6
  · rw [hA 21 (by decide) (by decide)]; exact a7
  · rw [hA 18 (by decide) (by decide)]; exact a8
  · rw [hA 19 (by decide) (by decide)]; exact a9
  · rw [hA 22 (by decide) (by decide), a10, hD ru a5]
  · rw [hA 23 (by decide) (by decide), h6]; exact a12
theorem updA_n {A : Nat → Nat → Int32} {k i j : Nat} {x : Int32} (h : j ≠ k) : updA A k i x j = A j := if_neg h
theorem updA_s {A : Nat → Nat → Int32} {k i : Nat} {x : Int32} : updA A k i x k = upd (A k) i x := if_pos rfl
/-- i pages of the open run are put together -/
def KI (N : Nat → Nat) (A FI0 : Nat → Nat → Int32) (M : SS) (i : Nat) (FI : Nat → Nat → Int32) : Prop :=
  (∀ j, j ≠ 5 → FI 10 j = FI0 10 j) ∧ FI 10 5 = nI (M.1 17) ∧ M.1 17 ≤ N 6 + i ∧ (0 < i → 0 < M.1 17 ∧ M.2 23 (M.1 17 - 1) = 0) ∧ (∀ k, k ≠ 5 → k ≠ 6 → k ≠ 10 → FI k = FI0 k) ∧ ∀ k, k < M.1 17 → jdG (N 6 + i) (N 13 + 1) (upd (A 14) (N 13) (nI (N 1))) M.2 FI k
section Kept
variable {N : Nat → Nat} {A FI0 FI : Nat → Nat → Int32} {FJ : Nat → Nat → Int64} {M : SS} {i la ka : Nat}
theorem ki_start (h : JJ N A FJ FI0) : KI N A FI0 (N, A) 0 FI0 := by
  obtain ⟨hG, hB, hO, hP, hF, hR, hD, -⟩ := h
  refine ⟨fun _ _ => rfl, hG.2.2.2.2.2, hB.2.2.2.2.2, fun z => absurd z (Nat.lt_irrefl _), fun _ _ _ _ => rfl, fun k hk => ?_⟩
  exact (jdR_G.mp (hD k hk)).of (by omega) (by omega) (fun r hr => upd_n (by omega)) (fun _ _ _ => rfl) rfl rfl
theorem ki_old (h : KI N A FI0 M i FI) (hi0 : 0 < i) (hc : ptC M.1 M.2 (N 6 + i) (lno M.2 (N 6 + i) la) = false) : KI N A FI0 (ptS la ka (N 6 + i) M) (i + 1) (updA FI 6 (M.1 17 - 1) (FI 6 (M.1 17 - 1) + 1)) := by
  obtain ⟨k1, k2, k3, k4, k5, k6⟩ := h
  obtain ⟨g1, g2⟩ := k4 hi0
  have e : ptS la ka (N 6 + i) M = (M.1, updA M.2 19 (M.1 17 - 1) (M.2 19 (M.1 17 - 1) + 1)) := by
    unfold ptS
    rw [if_neg (by rw [hc]; decide)]
  rw [e]
  refine ⟨fun j hj => k1 j hj, k2, by show M.1 17 ≤ _; omega, fun _ => ⟨g1, g2⟩, fun k h5 h6 h10 => (updA_n h6).trans (k5 k h5 h6 h10), fun k hk => ?_⟩
  have hk : k < M.1 17 := hk
  by_cases z : k = M.1 17 - 1
  · obtain ⟨ac, ki, fp, ru, ln, a1, a2, a3, a4, a5, a6, a7, a8, a9, a10, a11, a12⟩ := k6 k hk
    rw [z] at a6 a7 a8 a9 a10 a11 a12 ⊢
    refine ⟨ac, ki, fp, ru, ln + 1, a1, a2, by omega, by omega, a5, a6, a7, a8, ?_, a10, a11, Or.inl ⟨g2, ?_⟩⟩
    · show upd (M.2 19) (M.1 17 - 1) (M.2 19 (M.1 17 - 1) + 1) (M.1 17 - 1) = nI (ln + 1)
      rw [upd_s, a9, nI_1]
    · show upd (FI 6) (M.1 17 - 1) (FI 6 (M.1 17 - 1) + 1) (M.1 17 - 1) = nI (ln + 1)
      rw [upd_s]
      rcases a12 with ⟨-, b⟩ | ⟨b, -⟩
      · rw [b, nI_1]
      · rw [g2] at b; exact absurd b (by decide)
  · refine (k6 k hk).of (by omega) (Nat.le_refl _) (fun _ _ => rfl) (fun j _ _ => ?_) rfl ?_
    · show updA M.2 19 (M.1 17 - 1) _ j k = M.2 j k
      by_cases y : j = 19
      · rw [y, updA_s, upd_n z]
      · rw [updA_n y]
    · show upd (FI 6) (M.1 17 - 1) _ k = FI 6 k
      rw [upd_n z]
theorem ki_new (h : KI N A FI0 M i FI) (hc : ptC M.1 M.2 (N 6 + i) (lno M.2 (N 6 + i) la) = true) (h1 : M.1 1 = N 1) {ac ki : Nat} (ha : ac ≤ 100) (hac : lno M.2 (N 6 + i) la = nI ac - 1) (hk4 : ki < 4) (hki : kdI (lno M.2 (N 6 + i) ka) = nI ki) :
    KI N A FI0 (ptS la ka (N 6 + i) M) (i + 1) (updA (updA (updA (updA FI 5 (M.1 17) (nI (ac + 128 * ki + 512 * (N 6 + i) + 32768 * N 13))) 6 (M.1 17) 0) 10 5 (nI (M.1 17 + 1))) 6 (M.1 17) 1) := by
  obtain ⟨k1, k2, k3, k4, k5, k6⟩ := h
  have e : ptS la ka (N 6 + i) M = (updN M.1 17 (M.1 17 + 1), updA (bgA M.1 M.2 (N 6 + i) (lno M.2 (N 6 + i) la) ka) 19 (M.1 17) (bgA M.1 M.2 (N 6 + i) (lno M.2 (N 6 + i) la) ka 19 (M.1 17) + 1)) := by
    unfold ptS
    rw [if_pos hc]
  rw [e]
  have e17 : updN M.1 17 (M.1 17 + 1) 17 = M.1 17 + 1 := updN_s _ _ _
  refine ⟨fun j hj => ?_, ?_, ?_, fun _ => ⟨?_, ?_⟩, fun k h5 h6 h10 => ?_, fun k hk => ?_⟩
  · show upd (FI 10) 5 _ j = FI0 10 j
    rw [upd_n hj]; exact k1 j hj
  · show upd (FI 10) 5 (nI (M.1 17 + 1)) 5 = nI (updN M.1 17 (M.1 17 + 1) 17)
    rw [upd_s, e17]
  · show updN M.1 17 (M.1 17 + 1) 17 ≤ _
    rw [e17]; omega
  · show 0 < updN M.1 17 (M.1 17 + 1) 17
    rw [e17]; omega
  · show upd (M.2 23) (M.1 17) 0 (updN M.1 17 (M.1 17 + 1) 17 - 1) = 0
    rw [e17, Nat.add_sub_cancel, upd_s]
  · rw [updA_n h6, updA_n h10, updA_n h6, updA_n h5]; exact k5 k h5 h6 h10
  · have hk : k < updN M.1 17 (M.1 17 + 1) 17 := hk
    rw [e17] at hk
    by_cases z : k = M.1 17
    · rw [z]
      refine ⟨ac, ki, N 6 + i, N 13, 1, ha, hk4, by omega, Nat.le_refl _, by omega, ?_, ?_, ?_, ?_, ?_, ?_, Or.inl ⟨?_, ?_⟩⟩
      · show upd (M.2 20) (M.1 17) (lno M.2 (N 6 + i) la) (M.1 17) = _
        rw [upd_s, hac]
      · show upd (M.2 21) (M.1 17) (kdI (lno M.2 (N 6 + i) ka)) (M.1 17) = _
        rw [upd_s, hki]
      · show upd (M.2 18) (M.1 17) (nI (N 6 + i)) (M.1 17) = _
        rw [upd_s]
      · show upd (upd (M.2 19) (M.1 17) 0) (M.1 17) (upd (M.2 19) (M.1 17) 0 (M.1 17) + 1) (M.1 17) = nI 1
        rw [upd_s, upd_s]; rfl
      · show upd (M.2 22) (M.1 17) (nI (M.1 1)) (M.1 17) = upd (A 14) (N 13) (nI (N 1)) (N 13)
        rw [upd_s, upd_s, h1]
      · show upd (FI 5) (M.1 17) _ (M.1 17) = _
        rw [upd_s]
      · show upd (M.2 23) (M.1 17) 0 (M.1 17) = 0
        rw [upd_s]
      · show upd (upd (FI 6) (M.1 17) 0) (M.1 17) 1 (M.1 17) = nI 1
        rw [upd_s]; rfl
    · refine (k6 k (by omega)).of (by omega) (Nat.le_refl _) (fun _ _ => rfl) (fun j _ _ => ?_) ?_ ?_
      · show updA (bgA M.1 M.2 (N 6 + i) (lno M.2 (N 6 + i) la) ka) 19 (M.1 17) _ j k = M.2 j k
        unfold bgA updA
        by_cases y19 : j = 19
        · subst y19
          show upd (upd (M.2 19) (M.1 17) 0) (M.1 17) _ k = _
          rw [upd_n z, upd_n z]
        · rw [if_neg y19]
          by_cases y23 : j = 23
          · subst y23; show upd (M.2 23) (M.1 17) _ k = _; rw [upd_n z]
          · rw [if_neg y23]
            by_cases y22 : j = 22
            · subst y22; show upd (M.2 22) (M.1 17) _ k = _; rw [upd_n z]
            · rw [if_neg y22]
              by_cases y21 : j = 21
              · subst y21; show upd (M.2 21) (M.1 17) _ k = _; rw [upd_n z]
              · rw [if_neg y21]
                by_cases y20 : j = 20
                · subst y20; show upd (M.2 20) (M.1 17) _ k = _; rw [upd_n z]
                · rw [if_neg y20, if_neg y19]
                  by_cases y18 : j = 18
                  · subst y18; show upd (M.2 18) (M.1 17) _ k = _; rw [upd_n z]
                  · rw [if_neg y18]
      · show upd (FI 5) (M.1 17) _ k = FI 5 k
        rw [upd_n z]
      · show upd (upd (FI 6) (M.1 17) 0) (M.1 17) 1 k = FI 6 k
        rw [upd_n z, upd_n z]
theorem kept_end (h : JJ N A FJ FI0) (hk : KI N A FI0 (ptL la ka (N 6) (N 7) (N, A)) (N 7) FI) (h10 : N 10 = 0) (h7 : 0 < N 7) (h13 : N 13 < 15) :
    JJ (edS la ka (N, A)).1 (edS la ka (N, A)).2 FJ (updA (updA (updA (updA FI 3 (N 13) (nI (N 6 + 64 * N 7 + 4096 * N 1))) 10 2 (nI (N 6 + N 7))) 10 3 0) 10 4 (nI (N 13 + 1))) := by
  obtain ⟨⟨G0, G1, G2, G3, G4, G5⟩, ⟨b1, b2, b3, b4, b5, b6⟩, hO, hP, hF, hR, hD, hV, hS, hT⟩ := h
  have eS : edS la ka (N, A) = (edN (ptL la ka (N 6) (N 7) (N, A)).1, edA (ptL la ka (N 6) (N 7) (N, A)).1 (ptL la ka (N 6) (N 7) (N, A)).2) := rfl
  rw [eS]
  have mN : ∀ k, k ≠ 17 → (ptL la ka (N 6) (N 7) (N, A)).1 k = N k := fun k hk => ptL_N hk _
  have mA : ∀ k, k < 18 ∨ 23 < k → (ptL la ka (N 6) (N 7) (N, A)).2 k = A k := fun k hk => ptL_A hk _
  generalize ptL la ka (N 6) (N 7) (N, A) = M at hk mN mA
  obtain ⟨k1, k2, k3, k4, k5, k6⟩ := hk
  have eo : ∀ k, k ≠ 6 → k ≠ 7 → k ≠ 13 → k ≠ 17 → edN M.1 k = N k := fun k a b c d => by
    unfold edN
    rw [updN_n c, updN_n b, updN_n a, mN k d]
  have e6 : edN M.1 6 = N 6 + N 7 := by show M.1 6 + M.1 7 = _; rw [mN 6 (by decide), mN 7 (by decide)]
  have e7 : edN M.1 7 = 0 := rfl
  have e13 : edN M.1 13 = N 13 + 1 := by show M.1 13 + 1 = _; rw [mN 13 (by decide)]
  have e17 : edN M.1 17 = M.1 17 := by
    unfold edN
    rw [updN_n (by decide), updN_n (by decide), updN_n (by decide)]
  have eA : ∀ k, k ≠ 14 → k ≠ 15 → k ≠ 16 → edA M.1 M.2 k = M.2 k := fun k a b c => by
    unfold edA
    rw [updA_n c, updA_n b, updA_n a]
  have eA2 : ∀ k, k ≠ 14 → k ≠ 15 → k ≠ 16 → (k < 18 ∨ 23 < k) → edA M.1 M.2 k = A k := fun k a b c d => (eA k a b c).trans (mA k d)
  have f10 : ∀ j, updA (updA (updA (updA FI 3 (N 13) (nI (N 6 + 64 * N 7 + 4096 * N 1))) 10 2 (nI (N 6 + N 7))) 10 3 0) 10 4 (nI (N 13 + 1)) 10 j = upd (upd (upd (FI 10) 2 (nI (N 6 + N 7))) 3 0) 4 (nI (N 13 + 1)) j := fun j => rfl
  have fo : ∀ k, k ≠ 3 → k ≠ 10 → updA (updA (updA (updA FI 3 (N 13) (nI (N 6 + 64 * N 7 + 4096 * N 1))) 10 2 (nI (N 6 + N 7))) 10 3 0) 10 4 (nI (N 13 + 1)) k = FI k := fun k a b => by rw [updA_n b, updA_n b, updA_n b, updA_n a]
  have f3e : updA (updA (updA (updA FI 3 (N 13) (nI (N 6 + 64 * N 7 + 4096 * N 1))) 10 2 (nI (N 6 + N 7))) 10 3 0) 10 4 (nI (N 13 + 1)) 3 = upd (FI 3) (N 13) (nI (N 6 + 64 * N 7 + 4096 * N 1)) := rfl
  generalize updA (updA (updA (updA FI 3 (N 13) (nI (N 6 + 64 * N 7 + 4096 * N 1))) 10 2 (nI (N 6 + N 7))) 10 3 0) 10 4 (nI (N 13 + 1)) = FX at f10 fo f3e
  have fo2 : ∀ k, k ≠ 3 → k ≠ 10 → k ≠ 5 → k ≠ 6 → FX k = FI0 k := fun k a b c d => (fo k a b).trans (k5 k c d b)
  show JJ (edN M.1) (edA M.1 M.2) FJ FX
  refine ⟨⟨?_, ?_, ?_, ?_, ?_, ?_⟩, ⟨?_, ?_, ?_, ?_, ?_, ?_⟩, ⟨?_, ?_⟩, ?_, ?_, ?_, ?_, ?_, ?_, ?_, ?_⟩
  · rw [f10, upd_n (by decide), upd_n (by decide), upd_n (by decide), k1 0 (by decide), eo 1 (by decide) (by decide) (by decide) (by decide)]; exact G0
  · rw [f10, upd_n (by decide), upd_n (by decide), upd_n (by decide), k1 1 (by decide), eo 2 (by decide) (by decide) (by decide) (by decide)]; exact G1
  · rw [f10, upd_n (by decide), upd_n (by decide), upd_s, e6]
  · rw [f10, upd_n (by decide), upd_s, e7]; rfl
  · rw [f10, upd_s, e13]
  · rw [f10, upd_n (by decide), upd_n (by decide), upd_n (by decide), k2, e17]
  · rw [eo 1 (by decide) (by decide) (by decide) (by decide)]; exact b1
  · rw [eo 2 (by decide) (by decide) (by decide) (by decide)]; exact b2
  · rw [e6, e7]; omega
  · rw [eo 10 (by decide) (by decide) (by decide) (by decide)]; exact b4
  · rw [e13]; omega
  · rw [e17, e6]; exact k3
  · rw [eA2 11 (by decide) (by decide) (by decide) (by omega), eo 10 (by decide) (by decide) (by decide) (by decide)]; exact hO.1
  · rw [eA2 11 (by decide) (by decide) (by decide) (by omega), eo 10 (by decide) (by decide) (by decide) (by decide)]; exact hO.2
  · intro q hq
    rw [e6, e7] at hq
    rw [fo2 2 (by decide) (by decide) (by decide) (by decide), eA2 12 (by decide) (by decide) (by decide) (by omega), eA2 8 (by decide) (by decide) (by decide) (by omega), eA2 9 (by decide) (by decide) (by decide) (by omega)]
    exact hP q (by omega)
  · intro j hj
    rw [eo 2 (by decide) (by decide) (by decide) (by decide)] at hj
    rw [fo2 4 (by decide) (by decide) (by decide) (by decide), eA2 3 (by decide) (by decide) (by decide) (by omega), eA2 4 (by decide) (by decide) (by decide) (by omega), eA2 5 (by decide) (by decide) (by decide) (by omega)]
    exact hF j hj
  · intro r hr
    rw [e13] at hr
    rw [f3e, k5 3 (by decide) (by decide) (by decide), e6]
    show ∃ f m dy, dy ≤ 9999 ∧ 1 ≤ m ∧ f + m ≤ N 6 + N 7 ∧ upd (M.2 15) (M.1 13) (nI (M.1 6)) r = nI f ∧ upd (M.2 16) (M.1 13) (nI (M.1 7)) r = nI m ∧ upd (M.2 14) (M.1 13) (nI (M.1 1)) r = nI dy ∧ upd (FI0 3) (N 13) (nI (N 6 + 64 * N 7 + 4096 * N 1)) r = nI (f + 64 * m + 4096 * dy)
    rw [mN 13 (by decide), mN 6 (by decide), mN 7 (by decide), mN 1 (by decide), mA 14 (by omega), mA 15 (by omega), mA 16 (by omega)]
    by_cases z : r = N 13
    · rw [z, upd_s, upd_s, upd_s, upd_s]
      exact ⟨N 6, N 7, N 1, b1, h7, Nat.le_refl _, rfl, rfl, rfl, rfl⟩
    · rw [upd_n z, upd_n z, upd_n z, upd_n z]
      obtain ⟨f, m, dy, c1, c2, c3, c4⟩ := hR r (by omega)
      exact ⟨f, m, dy, c1, c2, by omega, c4⟩
  · intro k hk
    rw [e17] at hk
    refine jdR_G.mpr ((k6 k hk).of (by rw [e6]; exact Nat.le_refl _) (by rw [e13]; exact Nat.le_refl _) (fun r hr => ?_) (fun j h18 h23 => ?_) ?_ ?_)
    · show upd (M.2 14) (M.1 13) (nI (M.1 1)) r = _
      rw [mN 13 (by decide), mN 1 (by decide), mA 14 (by omega)]
    · rw [eA j (by omega) (by omega) (by omega)]
    · rw [fo 5 (by decide) (by decide)]
    · rw [fo 6 (by decide) (by decide)]
  · intro r hr
    rw [fo2 7 (by decide) (by decide) (by decide) (by decide), eA2 24 (by decide) (by decide) (by decide) (by omega), eA2 25 (by decide) (by decide) (by decide) (by omega), eA2 26 (by decide) (by decide) (by decide) (by omega)]
    exact hV r hr
  · intro k hk
    rw [fo2 8 (by decide) (by decide) (by decide) (by decide), eA2 27 (by decide) (by decide) (by decide) (by omega)]
    exact hS k hk
  · intro a ha
    rw [fo2 9 (by decide) (by decide) (by decide) (by decide), eA2 28 (by decide) (by decide) (by decide) (by omega)]
    exact hT.1 a ha
  · intro a h6a ha
    rw [eA2 28 (by decide) (by decide) (by decide) (by omega)]
    exact hT.2 a h6a ha
end Kept

