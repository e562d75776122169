/-! The state of the keeper as numbers; the reference's object and arrays that hold it. Scalars N by the field's number (1 day, 2 formats, 6 kept, 7 ended, 10 typed, 13 runs, 17 documents), arrays A by the field's number. -/
def updN (N : Nat → Nat) (k v : Nat) : Nat → Nat := fun j => if j = k then v else N j
def updA (A : Nat → Nat → Int32) (k i : Nat) (x : Int32) : Nat → Nat → Int32 := fun j => if j = k then upd (A k) i x else A j
def tI (th : Int32) (N : Nat → Nat) : Nat → Int32 := fun k => if k = 0 then th else nI (N k)
def bI (b : Bool) : Int32 := if b then 1 else 0
theorem bI_0 {b : Bool} : bI b = 0 ↔ b = false := by cases b <;> decide
theorem bI_n {b : Bool} : ¬ bI b = 0 ↔ b = true := by cases b <;> decide
theorem bI_nar (b : Bool) : narrow .boolean (.int (bI b)) = .int (bI b) := by cases b <;> rfl
/-- v lies from lo to hi -/
def inb (v lo hi : Int32) : Bool := !decide (v < lo) && decide (v ≤ hi)
theorem inb_t {v lo hi : Int32} : inb v lo hi = true ↔ ¬ v < lo ∧ v ≤ hi := by simp [inb]
theorem inb_f {v lo hi : Int32} : inb v lo hi = false ↔ (v < lo ∨ ¬ v ≤ hi) := by
  cases h : inb v lo hi with
  | false =>
    refine ⟨fun _ => ?_, fun _ => rfl⟩
    by_cases h1 : v < lo
    · exact Or.inl h1
    · exact Or.inr fun h2 => by rw [inb_t.mpr ⟨h1, h2⟩] at h; cases h
  | true => exact ⟨(fun h2 => nomatch h2), fun h2 => absurd (inb_t.mp h) (by rcases h2 with h2 | h2 <;> simp [h2])⟩
/-- a value from 0 to n is a number -/
theorem inb_nat {v : Int32} {n : Nat} (hn : n < 2 ^ 31) (h : inb v 0 (nI n) = true) : ∃ j : Nat, j ≤ n ∧ v = nI j := by
  obtain ⟨h1, h2⟩ := inb_t.mp h
  obtain ⟨j, hj, rfl⟩ := nI_of h1
  exact ⟨j, (nI_leI hj hn).mp h2, rfl⟩
theorem inb_nI {j n : Nat} (hj : j ≤ n) (hn : n < 2 ^ 31) : inb (nI j) 0 (nI n) = true := inb_t.mpr ⟨nI_pos (by omega), (nI_leI (by omega) hn).mpr hj⟩
/-- .. below n, as Java says it: to n - 1 -/
theorem inb_lt {v : Int32} {n : Nat} (hn : n < 2 ^ 31) : inb v 0 (nI n - 1) = true ↔ ∃ j : Nat, j < n ∧ v = nI j := by
  cases n with
  | zero =>
    refine ⟨fun h => ?_, fun ⟨j, hj, _⟩ => absurd hj (Nat.not_lt_zero j)⟩
    obtain ⟨h1, h2⟩ := inb_t.mp h
    obtain ⟨j, hj, rfl⟩ := nI_of h1
    have h3 : (nI j).toInt ≤ (nI 0 - 1 : Int32).toInt := Int32.le_iff_toInt_le.mp h2
    rw [nI_toInt hj, show (nI 0 - 1 : Int32).toInt = -1 from by decide] at h3
    omega
  | succ n =>
    rw [nI_pred]
    refine ⟨fun h => ?_, fun ⟨j, hj, e⟩ => by rw [e]; exact inb_nI (by omega) (by omega)⟩
    obtain ⟨j, hj, e⟩ := inb_nat (by omega) h
    exact ⟨j, by omega, e⟩
-- ===== the reference's cells =====
def mIs (k : Nat) : Bool := [0, 3, 4, 5, 8, 9, 11, 12, 14, 15, 16, 18, 19, 20, 21, 22, 23, 24, 25, 26, 27, 28].contains k
def mfs (am : Nat → Nat) (I : Nat → Int32) : List Value :=
  [.int (I 0), .int (I 1), .int (I 2), .ref (am 3), .ref (am 4), .ref (am 5), .int (I 6), .int (I 7), .ref (am 8), .ref (am 9), .int (I 10), .ref (am 11), .ref (am 12), .int (I 13), .ref (am 14), .ref (am 15), .ref (am 16), .int (I 17),
   .ref (am 18), .ref (am 19), .ref (am 20), .ref (am 21), .ref (am 22), .ref (am 23), .ref (am 24), .ref (am 25), .ref (am 26), .ref (am 27), .ref (am 28)]
def mlen : Nat → Nat
  | 3 => 10 | 4 => 10 | 5 => 10 | 8 => 121 | 9 => 968 | 11 => 8 | 12 => 121 | 14 => 15 | 15 => 15 | 16 => 15
  | 18 => 120 | 19 => 120 | 20 => 120 | 21 => 120 | 22 => 120 | 23 => 120 | 28 => 100 | _ => 4
def marr (G : Gx) (k : Nat) (f : Nat → Int32) : va_E := match k with
  | 23 => eZ G 120 f
  | 28 => eZ G 100 f
  | k => eI G (mlen k) f
/-- the reference at am 0, its arrays at am k; since w0 nothing else has changed -/
def Mz (G : Gx) (am : Nat → Nat) (w0 : Wd) (I : Nat → Int32) (A : Nat → Nat → Int32) (w : Wd) : Prop :=
  w (am 0) = some (eO 7 (mfs am I)) ∧ (∀ k, mIs k = true → k ≠ 0 → w (am k) = some (marr G k (A k))) ∧ (∀ k, mIs k = true → (gH G).size ≤ am k) ∧ (∀ i j, mIs i = true → mIs j = true → am i = am j → i = j) ∧ ∀ a, (∀ k, mIs k = true → a ≠ am k) → w a = w0 a
theorem Mz.to {G : Gx} {am : Nat → Nat} {w0 w : Wd} {I I' : Nat → Int32} {A A' : Nat → Nat → Int32} (h : Mz G am w0 I A w) (hI : I = I') (hA : A = A') : Mz G am w0 I' A' w := by subst hI; subst hA; exact h
theorem Mz.base {G : Gx} {am : Nat → Nat} {w0 w : Wd} {I : Nat → Int32} {A : Nat → Nat → Int32} (h : Mz G am w0 I A w) : Mz G am w I A w := ⟨h.1, h.2.1, h.2.2.1, h.2.2.2.1, fun _ _ => rfl⟩
theorem Mz.putI {G : Gx} {am : Nat → Nat} {w0 w : Wd} {I : Nat → Int32} {A : Nat → Nat → Int32} (h : Mz G am w0 I A w) (k : Nat) (x : Int32) : Mz G am w0 (upd I k x) A (up w (am 0) (eO 7 (mfs am (upd I k x)))) := by
  obtain ⟨h1, h2, h3, h4, h5⟩ := h
  refine ⟨up_s _ _ _, fun j hj h0 => ?_, h3, h4, fun a ha => (up_n (ha 0 rfl)).trans (h5 a ha)⟩
  rw [up_n (fun e => h0 (h4 j 0 hj rfl e))]
  exact h2 j hj h0
theorem Mz.putA {G : Gx} {am : Nat → Nat} {w0 w : Wd} {I : Nat → Int32} {A : Nat → Nat → Int32} (h : Mz G am w0 I A w) {k : Nat} (hk : mIs k = true) (h0 : k ≠ 0) (i : Nat) (x : Int32) : Mz G am w0 I (updA A k i x) (up w (am k) (marr G k (upd (A k) i x))) := by
  obtain ⟨h1, h2, h3, h4, h5⟩ := h
  refine ⟨?_, fun j hj hj0 => ?_, h3, h4, fun a ha => (up_n (ha k hk)).trans (h5 a ha)⟩
  · rw [up_n (fun e => h0 (h4 0 k rfl hk e).symm)]
    exact h1
  · by_cases hjk : j = k
    · subst hjk
      rw [up_s]
      unfold updA
      rw [if_pos rfl]
    · rw [up_n (fun e => hjk (h4 j k hj hk e))]
      unfold updA
      rw [if_neg hjk]
      exact h2 j hj hj0
section ModelRows
variable {G : Gx} {R : Room} {cc : ByteArray} {own : String} {Y : Yx} {C : Cx} {Q : State → Prop} {pc : Nat} {L : List (Option Value)} {st : List Value} {w w0 : Wd} {c kk : Nat} {am : Nat → Nat} {I : Nat → Int32} {A : Nat → Nat → Int32}
theorem g_mput {idx k : Nat} {x : Int32} (hM : Mz G am w0 I A w) (d : decode cc pc = .ok (.putfield idx, 3)) (hl : FL own idx TX6 k) (hlt : k < 29) (hfin : (TX6 k).2.2.2 = false) (hty : tyX6 k = .int) (hfs : (mfs am I).set k (.int x) = mfs am (upd I k x)) (h : ∀ w1, Mz G am w0 (upd I k x) A w1 → Go G R cc own Y C Q (pc + 3) L st w1 c kk) : Go G R cc own Y C Q pc L (.int x :: .ref (am 0) :: st) w c kk :=
  g_putf kc7 d hl hlt hfin hM.1 (hM.2.2.1 0 rfl) (by rw [hty]; rfl) (by rw [hty]; rfl) hlt hfs (h _ (hM.putI k x))
theorem g_miald {k n i : Nat} (hM : Mz G am w0 I A w) (hk : mIs k = true) (h0 : k ≠ 0) (hm : ∀ f, marr G k f = eI G n f) (d : decode cc pc = .ok (.iaload, 1)) (hi : i < n) (hn : n < 2 ^ 31) (h : Go G R cc own Y C Q (pc + 1) L (.int (A k i) :: st) w c kk) : Go G R cc own Y C Q pc L (.int (nI i) :: .ref (am k) :: st) w c kk := by
  refine g_iald d ((hM.2.1 k hk h0).trans (by rw [hm])) (vp_in_nI hi hn) ?_
  rw [nI_clamp (by omega)]
  exact h
theorem g_mzald {k n i : Nat} (hM : Mz G am w0 I A w) (hk : mIs k = true) (h0 : k ≠ 0) (hm : ∀ f, marr G k f = eZ G n f) (d : decode cc pc = .ok (.baload, 1)) (hi : i < n) (hn : n < 2 ^ 31) (h : Go G R cc own Y C Q (pc + 1) L (.int (A k i) :: st) w c kk) : Go G R cc own Y C Q pc L (.int (nI i) :: .ref (am k) :: st) w c kk := by
  refine g_zald d ((hM.2.1 k hk h0).trans (by rw [hm])) (vp_in_nI hi hn) ?_
  rw [nI_clamp (by omega)]
  exact h
theorem g_miast {k n i : Nat} {x : Int32} (hM : Mz G am w0 I A w) (hk : mIs k = true) (h0 : k ≠ 0) (hm : ∀ f, marr G k f = eI G n f) (d : decode cc pc = .ok (.iastore, 1)) (hi : i < n) (hn : n < 2 ^ 31) (h : ∀ w1, Mz G am w0 I (updA A k i x) w1 → Go G R cc own Y C Q (pc + 1) L st w1 c kk) : Go G R cc own Y C Q pc L (.int x :: .int (nI i) :: .ref (am k) :: st) w c kk := by
  refine g_iast d ((hM.2.1 k hk h0).trans (by rw [hm])) (hM.2.2.1 k hk) (vp_in_nI hi hn) ?_
  rw [nI_clamp (by omega)]
  have h9 := hM.putA hk h0 i x
  rw [hm] at h9
  exact h _ h9
theorem g_mzast {k n i : Nat} {x : Int32} (hM : Mz G am w0 I A w) (hk : mIs k = true) (h0 : k ≠ 0) (hm : ∀ f, marr G k f = eZ G n f) (d : decode cc pc = .ok (.bastore, 1)) (hi : i < n) (hn : n < 2 ^ 31) (hx : narrow .boolean (.int x) = .int x) (h : ∀ w1, Mz G am w0 I (updA A k i x) w1 → Go G R cc own Y C Q (pc + 1) L st w1 c kk) : Go G R cc own Y C Q pc L (.int x :: .int (nI i) :: .ref (am k) :: st) w c kk := by
  refine g_zast d ((hM.2.1 k hk h0).trans (by rw [hm])) (hM.2.2.1 k hk) (vp_in_nI hi hn) hx ?_
  rw [nI_clamp (by omega)]
  have h9 := hM.putA hk h0 i x
  rw [hm] at h9
  exact h _ h9
end ModelRows
/-- what the numbers keep to, at every time -/
def Wf (N : Nat → Nat) (A : Nat → Nat → Int32) : Prop :=
  N 1 ≤ 9999 ∧ N 2 ≤ 10 ∧ N 6 + N 7 ≤ 120 ∧ N 10 ≤ 8 ∧ N 13 ≤ 15 ∧ N 17 ≤ N 6 ∧
  (∀ f, f < N 2 → ∃ a b d : Nat, a < 8 ∧ b < 8 ∧ d < 10000 ∧ A 4 f = nI a ∧ A 5 f = nI b ∧ A 3 f = nI d) ∧
  (∀ p, p < N 6 + N 7 → ∃ n : Nat, n ≤ 8 ∧ A 8 p = nI n)
