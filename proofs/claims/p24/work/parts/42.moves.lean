/-! What the other calls make of the law's numbers. -/
def setI (FI : Nat → Nat → Int32) (k : Nat) (g : Nat → Int32) : Nat → Nat → Int32 := fun j => if j = k then g else FI j
theorem setI_upd {FI : Nat → Nat → Int32} {k i : Nat} {g : Nat → Int32} {x : Int32} : updA (setI FI k g) k i x = setI FI k (upd g i x) := by
  funext j
  unfold updA setI
  by_cases e : j = k
  · rw [if_pos e, if_pos e, if_pos rfl]
  · rw [if_neg e, if_neg e, if_neg e]
theorem setI_0 {FI : Nat → Nat → Int32} {k : Nat} : setI FI k (FI k) = FI := by
  funext j
  unfold setI
  by_cases e : j = k
  · rw [if_pos e, e]
  · rw [if_neg e]
theorem setI_n {FI : Nat → Nat → Int32} {k j : Nat} {g : Nat → Int32} (h : j ≠ k) : setI FI k g j = FI j := if_neg h
theorem setI_s {FI : Nat → Nat → Int32} {k : Nat} {g : Nat → Int32} : setI FI k g k = g := if_pos rfl
/-- those below i that P tells are taken away -/
def clF (g : Nat → Int32) (P : Nat → Bool) (i : Nat) : Nat → Int32 := fun q => if q < i ∧ P q = true then - g q else g q
theorem clF_0 {g : Nat → Int32} {P : Nat → Bool} : clF g P 0 = g := by funext q; exact if_neg (fun z => Nat.not_lt_zero _ z.1)
theorem clF_at {g : Nat → Int32} {P : Nat → Bool} {i : Nat} : clF g P i i = g i := if_neg (fun z => Nat.lt_irrefl _ z.1)
theorem clF_t {g : Nat → Int32} {P : Nat → Bool} {i : Nat} (h : P i = true) : upd (clF g P i) i (- g i) = clF g P (i + 1) := by
  funext q
  by_cases e : q = i
  · rw [e, upd_s]
    exact (if_pos ⟨Nat.lt_succ_self i, h⟩).symm
  · rw [upd_n e]
    unfold clF
    by_cases z : q < i ∧ P q = true
    · rw [if_pos z, if_pos ⟨by omega, z.2⟩]
    · rw [if_neg z, if_neg (fun y => z ⟨by omega, y.2⟩)]
theorem clF_f {g : Nat → Int32} {P : Nat → Bool} {i : Nat} (h : P i = false) : clF g P i = clF g P (i + 1) := by
  funext q
  unfold clF
  by_cases z : q < i ∧ P q = true
  · rw [if_pos z, if_pos ⟨by omega, z.2⟩]
  · rw [if_neg z, if_neg (fun y => ?_)]
    by_cases e : q = i
    · rw [e, h] at y; exact absurd y.2 (by decide)
    · exact z ⟨by omega, y.2⟩
section JMoves
variable {N : Nat → Nat} {A FI : Nat → Nat → Int32} {FJ : Nat → Nat → Int64}
theorem JJ.pass (h : JJ N A FJ FI) {d : Nat} (hd : N 1 + d ≤ 9999) : JJ (updN N 1 (N 1 + d)) A FJ (updA FI 10 0 (nI (N 1 + d))) := by
  obtain ⟨⟨G0, G1, G2, G3, G4, G5⟩, ⟨b1, b2, b3, b4, b5, b6⟩, hO, hP, hF, hR, hD, hV, hS, hT⟩ := h
  exact ⟨⟨upd_s (FI 10) 0 _, G1, G2, G3, G4, G5⟩, ⟨hd, b2, b3, b4, b5, b6⟩, hO, hP, hF, hR, hD, hV, hS, hT⟩
theorem JJ.format (h : JJ N A FJ FI) {dy a b : Nat} (hd : dy < 10000) (ha : a < 8) (hb : b < 8) (h2 : N 2 < 10) : JJ (updN N 2 (N 2 + 1)) (updA (updA (updA A 3 (N 2) (nI dy)) 4 (N 2) (nI a)) 5 (N 2) (nI b)) FJ (updA (updA FI 4 (N 2) (nI (64 * dy + 8 * a + b))) 10 1 (nI (N 2 + 1))) := by
  obtain ⟨⟨G0, G1, G2, G3, G4, G5⟩, ⟨b1, b2, b3, b4, b5, b6⟩, hO, hP, hF, hR, hD, hV, hS, hT⟩ := h
  refine ⟨⟨G0, upd_s (FI 10) 1 _, G2, G3, G4, G5⟩, ⟨b1, h2, b3, b4, b5, b6⟩, hO, hP, fun j hj => ?_, hR, hD, hV, hS, hT⟩
  have hj : j < N 2 + 1 := hj
  show ∃ dy' a' b', dy' < 10000 ∧ a' < 8 ∧ b' < 8 ∧ upd (A 3) (N 2) (nI dy) j = nI dy' ∧ upd (A 4) (N 2) (nI a) j = nI a' ∧ upd (A 5) (N 2) (nI b) j = nI b' ∧ upd (FI 4) (N 2) (nI (64 * dy + 8 * a + b)) j = nI (64 * dy' + 8 * a' + b')
  by_cases e : j = N 2
  · rw [e, upd_s, upd_s, upd_s, upd_s]
    exact ⟨dy, a, b, hd, ha, hb, rfl, rfl, rfl, rfl⟩
  · rw [upd_n e, upd_n e, upd_n e, upd_n e]
    exact hF j (by omega)
theorem JJ.reprint (h : JJ N A FJ FI) (f pg m c : Nat) : JJ N (rpA A f pg m (nI c)) FJ (setI FI 2 (rpC (FI 2) (f + pg) (f + m) (nI c))) := by
  obtain ⟨hG, hB, hO, hP, hF, hR, hD, hV, hS, hT⟩ := h
  refine ⟨hG, hB, hO, fun q hq => ⟨?_, (hP q hq).2⟩, hF, hR, hD, hV, hS, hT⟩
  show (if f + pg ≤ q ∧ q < f + m then FI 2 q + nI c else FI 2 q) = (if f + pg ≤ q ∧ q < f + m then A 12 q + nI c else A 12 q)
  rw [(hP q hq).1]
theorem JJ.view (h : JJ N A FJ FI) {r f l b : Nat} (hf : f < 100) (hl : l < 100) (hb : b < 9) : JJ N (updA (updA (updA A 24 r (nI f)) 25 r (nI l)) 26 r (nI b - 1)) FJ (updA FI 7 r (nI (f + 128 * l + 16384 * b))) := by
  obtain ⟨hG, hB, hO, hP, hF, hR, hD, hV, hS, hT⟩ := h
  refine ⟨hG, hB, hO, hP, hF, hR, hD, fun q hq => ?_, hS, hT⟩
  show ∃ f' l' b', f' < 100 ∧ l' < 100 ∧ b' < 9 ∧ upd (A 24) r (nI f) q = nI f' ∧ upd (A 25) r (nI l) q = nI l' ∧ upd (A 26) r (nI b - 1) q = nI b' - 1 ∧ upd (FI 7) r (nI (f + 128 * l + 16384 * b)) q = nI (f' + 128 * l' + 16384 * b')
  by_cases e : q = r
  · rw [e, upd_s, upd_s, upd_s, upd_s]
    exact ⟨f, l, b, hf, hl, hb, rfl, rfl, rfl, rfl⟩
  · rw [upd_n e, upd_n e, upd_n e, upd_n e]
    exact hV q hq
theorem JJ.span (h : JJ N A FJ FI) {k x : Nat} (hx : x < 10000) : JJ N (updA A 27 k (nI x)) FJ (updA FI 8 k (nI x)) := by
  obtain ⟨hG, hB, hO, hP, hF, hR, hD, hV, hS, hT⟩ := h
  refine ⟨hG, hB, hO, hP, hF, hR, hD, hV, fun q hq => ?_, hT⟩
  show ∃ y, y < 10000 ∧ upd (A 27) k (nI x) q = nI y ∧ upd (FI 8) k (nI x) q = nI y
  by_cases e : q = k
  · rw [e, upd_s, upd_s]; exact ⟨x, hx, rfl, rfl⟩
  · rw [upd_n e, upd_n e]; exact hS q hq
theorem JJ.hold (h : JJ N A FJ FI) {a : Nat} (ha : a < 6) (z : Bool) : JJ N (updA A 28 a (bI z)) FJ (updA FI 9 a (bI z)) := by
  obtain ⟨hG, hB, hO, hP, hF, hR, hD, hV, hS, hT⟩ := h
  refine ⟨hG, hB, hO, hP, hF, hR, hD, hV, hS, fun q hq => ?_, fun q hq hq2 => ?_⟩
  · show ∃ y, upd (A 28) a (bI z) q = bI y ∧ upd (FI 9) a (bI z) q = bI y
    by_cases e : q = a
    · rw [e, upd_s, upd_s]; exact ⟨z, rfl, rfl⟩
    · rw [upd_n e, upd_n e]; exact hT.1 q hq
  · show upd (A 28) a (bI z) q = 0
    rw [upd_n (by omega)]; exact hT.2 q hq hq2
theorem JJ.clear (h : JJ N A FJ FI) : JJ N (clA A (nI (N 1)) (N 17)) FJ (setI FI 6 (clF (FI 6) (clB A (nI (N 1))) (N 17))) := by
  obtain ⟨hG, hB, hO, hP, hF, hR, hD, hV, hS, hT⟩ := h
  refine ⟨hG, hB, hO, hP, hF, hR, fun k hk => ?_, hV, hS, hT⟩
  obtain ⟨ac, ki, fp, ru, ln, a1, a2, a3, a4, a5, a6, a7, a8, a9, a10, a11, a12⟩ := hD k hk
  refine ⟨ac, ki, fp, ru, ln, a1, a2, a3, a4, a5, a6, a7, a8, a9, a10, a11, ?_⟩
  show ((if k < N 17 ∧ clB A (nI (N 1)) k = true then (1 : Int32) else A 23 k) = 0 ∧ (if k < N 17 ∧ clB A (nI (N 1)) k = true then - FI 6 k else FI 6 k) = nI ln) ∨ ((if k < N 17 ∧ clB A (nI (N 1)) k = true then (1 : Int32) else A 23 k) = 1 ∧ (if k < N 17 ∧ clB A (nI (N 1)) k = true then - FI 6 k else FI 6 k) = - nI ln)
  by_cases z : k < N 17 ∧ clB A (nI (N 1)) k = true
  · rw [if_pos z, if_pos z]
    have h0 : A 23 k = 0 := by
      have h9 := z.2
      unfold clB at h9
      simp only [Bool.and_eq_true, decide_eq_true_eq] at h9
      exact h9.1
    rcases a12 with ⟨-, b⟩ | ⟨b, -⟩
    · exact Or.inr ⟨rfl, by rw [b]⟩
    · rw [h0] at b; exact absurd b (by decide)
  · rw [if_neg z, if_neg z]
    exact a12
end JMoves

