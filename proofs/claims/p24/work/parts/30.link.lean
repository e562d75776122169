/-! The keeper's numbers are the reference's: Lk; the methods keep it. -/
def LkD (S : KS) (N : Nat → Nat) : Prop := S.day = nI (N 1) ∧ N 1 ≤ 9999 ∧ S.kept = nI (N 6)
def LkF (S : KS) (N : Nat → Nat) (A : Nat → Nat → Int32) : Prop := S.ln 0 = N 2 ∧ S.nn 2 = N 2 ∧ N 2 ≤ 10 ∧ ∀ j, j < N 2 → S.fm j 0 = A 3 j ∧ S.fm j 1 = A 4 j ∧ S.fm j 2 = A 5 j ∧ ∃ a b d : Nat, a < 8 ∧ b < 8 ∧ d < 10000 ∧ A 4 j = nI a ∧ A 5 j = nI b ∧ A 3 j = nI d
def LkR (S : KS) (N : Nat → Nat) (A : Nat → Nat → Int32) : Prop := S.ln 1 = N 13 ∧ S.nn 5 = N 13 + 1 ∧ S.oR = N 13 ∧ N 13 ≤ 15 ∧ S.nn 3 = S.nn 5 + 4 ∧ S.rF (N 13) = N 6 ∧ S.ln (N 13 + 4) = N 7 ∧
  ∀ r, r < N 13 → A 14 r = S.rD r ∧ A 15 r = nI (S.rF r) ∧ A 16 r = nI (S.ln (r + 4)) ∧ 1 ≤ S.ln (r + 4) ∧ S.rF r + S.ln (r + 4) ≤ N 6
/-- a page's values lie from 0 to 99 -/
def v99 (f : Nat → Int32) (n : Nat) : Prop := ∀ k, k < n → ∃ a : Nat, a < 100 ∧ f k = nI a
def LkP (S : KS) (N : Nat → Nat) (A : Nat → Nat → Int32) : Prop := S.nn 6 = N 6 + N 7 + 1 ∧ S.nn 7 = S.nn 6 ∧ S.oP = N 6 + N 7 ∧ N 6 + N 7 ≤ 120 ∧ S.pS (N 6 + N 7) = N 10 ∧ N 10 ≤ 8 ∧ S.pC (N 6 + N 7) = 1 ∧ (∀ k, k < N 10 → A 11 k = S.pV (N 6 + N 7) k) ∧ v99 (S.pV (N 6 + N 7)) (N 10) ∧
  ∀ p, p < N 6 + N 7 → S.pS p ≤ 8 ∧ A 8 p = nI (S.pS p) ∧ A 12 p = S.pC p ∧ (∀ k, k < S.pS p → A 9 (8 * p + k) = S.pV p k) ∧ v99 (S.pV p) (S.pS p)
def dRel (S : KS) (A : Nat → Nat → Int32) (d : Nat) : Prop := (∃ f n : Nat, S.dI d 0 = nI f ∧ S.dI d 3 = nI n ∧ A 18 d = nI (S.rF (S.dR d) + f) ∧ A 19 d = nI n ∧ f + n ≤ S.ln (S.dR d + 4)) ∧ A 20 d = S.dI d 1 ∧ A 21 d = S.dI d 2 ∧ A 22 d = S.rD (S.dR d) ∧ A 23 d = S.dI d 4 ∧ (A 20 d = -1 ∨ ∃ a, a < 100 ∧ A 20 d = nI a) ∧ ∃ k, k < 4 ∧ A 21 d = nI k
def LkQ (S : KS) (N : Nat → Nat) (A : Nat → Nat → Int32) : Prop := S.ln 2 = N 17 ∧ S.nn 8 = N 17 ∧ N 17 ≤ N 6 ∧ ∀ d, d < N 17 → S.dR d < N 13 ∧ dRel S A d
def LkV (S : KS) (A : Nat → Nat → Int32) : Prop := S.ln 3 = 4 ∧ S.nn 9 = 4 ∧ (∀ r, r < 4 → S.rd r 0 = bI (decide (r = 0)) ∧ S.rd r 1 = A 24 r ∧ S.rd r 2 = A 25 r ∧ S.rd r 3 = A 26 r) ∧ (∀ k, k < 4 → S.sp k = A 27 k) ∧ ∀ a, a < 100 → S.he a = A 28 a ∧ ∃ z, A 28 a = bI z
def Lk (S : KS) (N : Nat → Nat) (A : Nat → Nat → Int32) : Prop := LkD S N ∧ LkF S N A ∧ LkR S N A ∧ LkP S N A ∧ LkQ S N A ∧ LkV S A
theorem Lk_v {S T : KS} {N : Nat → Nat} {A : Nat → Nat → Int32} (h : S.v = T.v) (hT : Lk T N A) : Lk S N A := by
  have h1 : Lk T.v N A := hT
  rw [← h] at h1
  exact h1
section LinkKeeps
variable {S : KS} {N : Nat → Nat} {A : Nat → Nat → Int32}
theorem Lk.pass (h : Lk S N A) {j : Nat} (hj : N 1 + j ≤ 9999) : Lk (S.sday (nI (N 1 + j))) (updN N 1 (N 1 + j)) A := by
  obtain ⟨hD, hF, hR, hP, hQ, hV⟩ := h
  exact ⟨⟨rfl, hj, hD.2.2⟩, hF, hR, hP, hQ, hV⟩
theorem Lk.format (h : Lk S N A) {a b d : Nat} (ha : a < 10000) (hb : b < 8) (hd : d < 8) (h2 : N 2 < 10) : Lk (((S.snn (updN S.nn 2 (S.nn 2 + 1))).sfm (updF S.fm (S.nn 2) (f3 (nI a) (nI b) (nI d)))).sln (updN S.ln 0 (S.ln 0 + 1))) (updN N 2 (N 2 + 1)) (updA (updA (updA A 3 (N 2) (nI a)) 4 (N 2) (nI b)) 5 (N 2) (nI d)) := by
  obtain ⟨hD, hF, hR, hP, hQ, hV⟩ := h
  obtain ⟨f1, f2, f3_, f4⟩ := hF
  have e4 : ∀ r, updN S.ln 0 (S.ln 0 + 1) (r + 4) = S.ln (r + 4) := fun r => updN_n (by omega)
  refine ⟨hD, ⟨?_, ?_, ?_, ?_⟩, ?_, hP, ?_, hV⟩
  · show updN S.ln 0 (S.ln 0 + 1) 0 = updN N 2 (N 2 + 1) 2
    rw [updN_s, updN_s, f1]
  · show updN S.nn 2 (S.nn 2 + 1) 2 = updN N 2 (N 2 + 1) 2
    rw [updN_s, updN_s, f2]
  · show updN N 2 (N 2 + 1) 2 ≤ 10
    rw [updN_s]; omega
  · intro j hj
    have hj : j < updN N 2 (N 2 + 1) 2 := hj
    rw [updN_s] at hj
    show updF S.fm (S.nn 2) (f3 (nI a) (nI b) (nI d)) j 0 = upd (A 3) (N 2) (nI a) j ∧ updF S.fm (S.nn 2) (f3 (nI a) (nI b) (nI d)) j 1 = upd (A 4) (N 2) (nI b) j ∧ updF S.fm (S.nn 2) (f3 (nI a) (nI b) (nI d)) j 2 = upd (A 5) (N 2) (nI d) j ∧ ∃ a' b' d' : Nat, a' < 8 ∧ b' < 8 ∧ d' < 10000 ∧ upd (A 4) (N 2) (nI b) j = nI a' ∧ upd (A 5) (N 2) (nI d) j = nI b' ∧ upd (A 3) (N 2) (nI a) j = nI d'
    by_cases e : j = N 2
    · rw [e, ← f2, updF_s, f2, upd_s, upd_s, upd_s]
      exact ⟨rfl, rfl, rfl, b, d, a, hb, hd, ha, rfl, rfl, rfl⟩
    · rw [updF_n (by rw [f2]; exact e), upd_n e, upd_n e, upd_n e]
      exact f4 j (by omega)
  · obtain ⟨r1, r2, r3, r4, r5, r6, r7, r8⟩ := hR
    refine ⟨r1, r2, r3, r4, r5, r6, (e4 _).trans r7, fun r hr => ?_⟩
    have h9 := r8 r hr
    rw [← e4 r] at h9
    exact h9
  · obtain ⟨q1, q2, q3, q4⟩ := hQ
    refine ⟨q1, q2, q3, fun d' hd' => ⟨(q4 d' hd').1, ?_⟩⟩
    have h9 := (q4 d' hd').2
    unfold dRel at h9
    rw [← e4 (S.dR d')] at h9
    exact h9
theorem Lk.line (h : Lk S N A) {a : Nat} (ha : a < 100) (h2 : N 10 < 8) : Lk ((S.spV (upd2 S.pV S.oP (S.pS S.oP) (nI a))).spS (updN S.pS S.oP (S.pS S.oP + 1))) (updN N 10 (N 10 + 1)) (updA A 11 (N 10) (nI a)) := by
  obtain ⟨hD, hF, hR, hP, hQ, hV⟩ := h
  obtain ⟨p1, p2, p3, p4, p5, p6, p7, p8, p9, p10⟩ := hP
  refine ⟨hD, hF, hR, ⟨p1, p2, p3, p4, ?_, ?_, p7, ?_, ?_, ?_⟩, hQ, hV⟩
  · show updN S.pS S.oP (S.pS S.oP + 1) (N 6 + N 7) = updN N 10 (N 10 + 1) 10
    rw [p3, updN_s, updN_s, p5]
  · show updN N 10 (N 10 + 1) 10 ≤ 8
    rw [updN_s]; omega
  · intro k hk
    have hk : k < updN N 10 (N 10 + 1) 10 := hk
    rw [updN_s] at hk
    show upd (A 11) (N 10) (nI a) k = upd2 S.pV S.oP (S.pS S.oP) (nI a) (N 6 + N 7) k
    rw [p3, upd2_s, p5]
    by_cases e : k = N 10
    · rw [e, upd_s, upd_s]
    · rw [upd_n e, upd_n e]; exact p8 k (by omega)
  · intro k hk
    have hk : k < updN N 10 (N 10 + 1) 10 := hk
    rw [updN_s] at hk
    show ∃ a' : Nat, a' < 100 ∧ upd2 S.pV S.oP (S.pS S.oP) (nI a) (N 6 + N 7) k = nI a'
    rw [p3, upd2_s, p5]
    by_cases e : k = N 10
    · rw [e, upd_s]; exact ⟨a, ha, rfl⟩
    · rw [upd_n e]; exact p9 k (by omega)
  · intro p hp
    have hne : p ≠ S.oP := by rw [p3]; exact Nat.ne_of_lt hp
    have h9 := p10 p hp
    show updN S.pS S.oP (S.pS S.oP + 1) p ≤ 8 ∧ A 8 p = nI (updN S.pS S.oP (S.pS S.oP + 1) p) ∧ A 12 p = S.pC p ∧ (∀ k, k < updN S.pS S.oP (S.pS S.oP + 1) p → A 9 (8 * p + k) = upd2 S.pV S.oP (S.pS S.oP) (nI a) p k) ∧ v99 (upd2 S.pV S.oP (S.pS S.oP) (nI a) p) (updN S.pS S.oP (S.pS S.oP + 1) p)
    rw [updN_n hne, upd2_n hne]
    exact h9
theorem Lk.feed (h : Lk S N A) (h6 : N 6 + N 7 + 1 ≤ 120) : Lk (cpT S) (ePN N) (ePA N A) := by
  obtain ⟨hD, hF, hR, hP, hQ, hV⟩ := h
  obtain ⟨r1, r2, r3, r4, r5, r6, r7, r8⟩ := hR
  obtain ⟨p1, p2, p3, p4, p5, p6, p7, p8, p9, p10⟩ := hP
  obtain ⟨q1, q2, q3, q4⟩ := hQ
  have e4 : ∀ r, r < N 13 → updN S.ln (S.oR + 4) (S.ln (S.oR + 4) + 1) (r + 4) = S.ln (r + 4) := fun r hr => updN_n (by omega)
  have e5 : ∀ r, r < 4 → updN S.ln (S.oR + 4) (S.ln (S.oR + 4) + 1) r = S.ln r := fun r hr => updN_n (by omega)
  have eN6 : ePN N 6 + ePN N 7 = N 6 + N 7 + 1 := rfl
  have e6 : S.nn 6 = N 6 + N 7 + 1 := p1
  refine ⟨hD, ?_, ⟨?_, r2, r3, r4, r5, r6, ?_, ?_⟩, ⟨?_, ?_, ?_, ?_, ?_, ?_, ?_, ?_, ?_, ?_⟩, ⟨?_, q2, q3, ?_⟩, ?_⟩
  · obtain ⟨f1, f2, f3_, f4⟩ := hF
    exact ⟨(e5 0 (by decide)).trans f1, f2, f3_, f4⟩
  · exact (e5 1 (by decide)).trans r1
  · show updN S.ln (S.oR + 4) (S.ln (S.oR + 4) + 1) (N 13 + 4) = N 7 + 1
    rw [r3, updN_s, r7]
  · intro r hr
    have h9 := r8 r hr
    rw [← e4 r hr] at h9
    exact h9
  · show updN (updN S.nn 7 (S.nn 7 + 1)) 6 (S.nn 6 + 1) 6 = N 6 + N 7 + 1 + 1
    rw [updN_s, e6]
  · show updN (updN S.nn 7 (S.nn 7 + 1)) 6 (S.nn 6 + 1) 7 = updN (updN S.nn 7 (S.nn 7 + 1)) 6 (S.nn 6 + 1) 6
    rw [updN_s, updN_n (by decide), updN_s, p2]
  · exact e6
  · exact h6
  · show updN S.pS (S.nn 6) 0 (N 6 + N 7 + 1) = 0
    rw [← e6, updN_s]
  · exact Nat.zero_le _
  · show upd S.pC (S.nn 6) 1 (N 6 + N 7 + 1) = 1
    rw [← e6, upd_s]
  · intro k hk; exact absurd hk (Nat.not_lt_zero _)
  · intro k hk; exact absurd hk (Nat.not_lt_zero _)
  · intro p hp
    have hp : p < N 6 + N 7 + 1 := hp
    have hne : p ≠ S.nn 6 := by omega
    have hne7 : p ≠ S.nn 7 := by omega
    show updN S.pS (S.nn 6) 0 p ≤ 8 ∧ upd (A 8) (N 6 + N 7) (nI (N 10)) p = nI (updN S.pS (S.nn 6) 0 p) ∧ upd (A 12) (N 6 + N 7) 1 p = upd S.pC (S.nn 6) 1 p ∧ (∀ k, k < updN S.pS (S.nn 6) 0 p → (if 8 * (N 6 + N 7) ≤ 8 * p + k ∧ 8 * p + k < 8 * (N 6 + N 7) + N 10 then A 11 (8 * p + k - 8 * (N 6 + N 7)) else A 9 (8 * p + k)) = updF S.pV (S.nn 7) (fun _ => 0) p k) ∧ v99 (updF S.pV (S.nn 7) (fun _ => 0) p) (updN S.pS (S.nn 6) 0 p)
    rw [updN_n hne, upd_n hne, updF_n hne7]
    by_cases e : p = N 6 + N 7
    · rw [e, upd_s, upd_s, p5, p7]
      refine ⟨p6, rfl, rfl, fun k hk => ?_, p9⟩
      rw [if_pos ⟨by omega, by omega⟩, show 8 * (N 6 + N 7) + k - 8 * (N 6 + N 7) = k by omega]
      exact p8 k hk
    · have h9 := p10 p (by omega)
      rw [upd_n e, upd_n e]
      refine ⟨h9.1, h9.2.1, h9.2.2.1, fun k hk => ?_, h9.2.2.2.2⟩
      have h8 := h9.1
      rw [if_neg (fun z => by omega)]
      exact h9.2.2.2.1 k hk
  · exact (e5 2 (by decide)).trans q1
  · intro d hd
    have h9 := (q4 d hd).2
    refine ⟨(q4 d hd).1, ?_⟩
    unfold dRel at h9
    rw [← e4 (S.dR d) (q4 d hd).1] at h9
    exact h9
  · obtain ⟨v1, v2⟩ := hV
    exact ⟨(e5 3 (by decide)).trans v1, v2⟩
theorem Lk.reprint (h : Lk S N A) {r pg c : Nat} (hr : r < N 13) : Lk (S.spC (rpC S.pC (S.rF r + pg) (S.rF r + S.ln (r + 4)) (nI c))) N (rpA A (S.rF r) pg (S.ln (r + 4)) (nI c)) := by
  obtain ⟨hD, hF, hR, hP, hQ, hV⟩ := h
  obtain ⟨p1, p2, p3, p4, p5, p6, p7, p8, p9, p10⟩ := hP
  have h8 := hR.2.2.2.2.2.2.2 r hr
  refine ⟨hD, hF, hR, ⟨p1, p2, p3, p4, p5, p6, ?_, p8, p9, fun p hp => ?_⟩, hQ, hV⟩
  · show (if S.rF r + pg ≤ N 6 + N 7 ∧ N 6 + N 7 < S.rF r + S.ln (r + 4) then S.pC (N 6 + N 7) + nI c else S.pC (N 6 + N 7)) = 1
    rw [if_neg (fun z => by omega)]
    exact p7
  · have h9 := p10 p hp
    refine ⟨h9.1, h9.2.1, ?_, h9.2.2.2⟩
    show (if S.rF r + pg ≤ p ∧ p < S.rF r + S.ln (r + 4) then A 12 p + nI c else A 12 p) = (if S.rF r + pg ≤ p ∧ p < S.rF r + S.ln (r + 4) then S.pC p + nI c else S.pC p)
    rw [h9.2.2.1]
theorem Lk.view (h : Lk S N A) {r : Nat} (hr : r < 4) (f l b : Int32) : Lk (S.srd (updF S.rd r (upd (upd (upd (S.rd r) 1 f) 2 l) 3 b))) N (updA (updA (updA A 24 r f) 25 r l) 26 r b) := by
  obtain ⟨hD, hF, hR, hP, hQ, v1, v2, v3, v4, v5⟩ := h
  refine ⟨hD, hF, hR, hP, hQ, v1, v2, fun q hq => ?_, v4, v5⟩
  show updF S.rd r (upd (upd (upd (S.rd r) 1 f) 2 l) 3 b) q 0 = bI (decide (q = 0)) ∧ updF S.rd r (upd (upd (upd (S.rd r) 1 f) 2 l) 3 b) q 1 = upd (A 24) r f q ∧ updF S.rd r (upd (upd (upd (S.rd r) 1 f) 2 l) 3 b) q 2 = upd (A 25) r l q ∧ updF S.rd r (upd (upd (upd (S.rd r) 1 f) 2 l) 3 b) q 3 = upd (A 26) r b q
  by_cases e : q = r
  · rw [e, updF_s]
    exact ⟨(v3 r hr).1, (upd_s (A 24) r f).symm, (upd_s (A 25) r l).symm, (upd_s (A 26) r b).symm⟩
  · rw [updF_n e, upd_n e, upd_n e, upd_n e]
    exact v3 q hq
theorem Lk.span (h : Lk S N A) {k : Nat} (x : Int32) : Lk (S.ssp (upd S.sp k x)) N (updA A 27 k x) := by
  obtain ⟨hD, hF, hR, hP, hQ, v1, v2, v3, v4, v5⟩ := h
  refine ⟨hD, hF, hR, hP, hQ, v1, v2, v3, fun q hq => ?_, v5⟩
  show upd S.sp k x q = upd (A 27) k x q
  unfold upd
  rw [v4 q hq]
theorem Lk.hold (h : Lk S N A) {k : Nat} (y : Bool) : Lk (S.she (upd S.he k (bI y))) N (updA A 28 k (bI y)) := by
  obtain ⟨hD, hF, hR, hP, hQ, v1, v2, v3, v4, v5⟩ := h
  refine ⟨hD, hF, hR, hP, hQ, v1, v2, v3, v4, fun q hq => ?_⟩
  show upd S.he k (bI y) q = upd (A 28) k (bI y) q ∧ ∃ z, upd (A 28) k (bI y) q = bI z
  by_cases e : q = k
  · rw [e, upd_s, upd_s]; exact ⟨rfl, y, rfl⟩
  · rw [upd_n e, upd_n e]; exact v5 q hq
-- the same questions
theorem Lk.day (h : Lk S N A) : S.day = nI (N 1) := h.1.1
theorem Lk.sees (h : Lk S N A) {r d : Nat} (hr : r < 4) (hd : d < N 17) : seeS S r d = seeb A r d := by
  obtain ⟨hD, hF, hR, hP, hQ, v1, v2, v3, v4, v5⟩ := h
  obtain ⟨-, e1, -, -, e4, -⟩ := (hQ.2.2.2 d hd).2
  obtain ⟨-, w1, w2, -⟩ := v3 r hr
  unfold seeS seeC seeb inb
  rw [w1, w2, e1, e4, Bool.and_comm]
  congr 1
  · by_cases z : S.dI d 1 = -1
    · rw [if_pos z, if_pos z]
      by_cases z0 : r = 0
      · rw [decide_eq_true z0, decide_eq_true (show nI r = 0 by rw [z0]; rfl)]
      · rw [decide_eq_false z0, decide_eq_false (show ¬ nI r = 0 from fun y => z0 ((nI_eq (b := 0) (by omega) (by decide)).mp y))]
    · rw [if_neg z, if_neg z]
      congr 1
      by_cases y : A 25 r < S.dI d 1
      · rw [decide_eq_true y, decide_eq_false (Int32.not_le.mpr y)]; rfl
      · rw [decide_eq_false y, decide_eq_true (Int32.not_lt.mp y)]; rfl
theorem Lk.over (h : Lk S N A) {d : Nat} (hd : d < N 17) : clP S d = clB A (nI (N 1)) d := by
  obtain ⟨hD, hF, hR, hP, hQ, v1, v2, v3, v4, v5⟩ := h
  obtain ⟨-, e1, e2, e3, e4, e5, k, hk, e6⟩ := (hQ.2.2.2 d hd).2
  unfold clP clB stB ovC hdC
  rw [e3, e4, hD.1, ← e1, ← e2, e6, isK_nI hk (by decide), nI_clamp (by omega), v4 k hk, Bool.true_and]
  have hh : (isK 100 (A 20 d) && !decide (S.he (A 20 d).toNatClampNeg = 0)) = (!decide (A 20 d = -1) && !decide (A 28 (A 20 d).toNatClampNeg = 0)) := by
    rcases e5 with z | ⟨a, ha, z⟩
    · rw [z]; rfl
    · rw [z, isK_nI ha (by decide), nI_clamp (by omega), (v5 a ha).1, decide_eq_false (show ¬ nI a = -1 from ne_m1 (by omega))]; rfl
  rw [hh]
  cases decide (S.dI d 4 = 0) <;> cases (!decide (nI (N 1) ≤ S.rD (S.dR d) + A 27 k)) <;> cases (!decide (A 20 d = -1) && !decide (A 28 (A 20 d).toNatClampNeg = 0)) <;> rfl
end LinkKeeps

