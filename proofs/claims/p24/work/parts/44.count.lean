/-! What isTold counts, as numbers. -/
theorem cnB_s (f : Nat → Bool) (n : Nat) : cnB f (n + 1) = cnB f n + (if f n = true then 1 else 0) := rfl
theorem cnB_t {f : Nat → Bool} {n : Nat} (h : f n = true) : cnB f (n + 1) = cnB f n + 1 := by rw [cnB_s, if_pos h]
theorem cnB_f {f : Nat → Bool} {n : Nat} (h : f n = false) : cnB f (n + 1) = cnB f n := by rw [cnB_s, if_neg (by rw [h]; decide), Nat.add_zero]
theorem cnB_mono {f : Nat → Bool} {a : Nat} : ∀ {b : Nat}, a ≤ b → cnB f a ≤ cnB f b
  | 0, h => by rw [Nat.le_zero.mp h]; exact Nat.le_refl _
  | b + 1, h => by
    by_cases e : a = b + 1
    · rw [e]; exact Nat.le_refl _
    · have h1 := cnB_mono (f := f) (a := a) (b := b) (by omega)
      rw [cnB_s]
      omega
theorem fC_hit {P : Nat → Bool} {n k : Nat} (hn : n < 1000) (hk : k < n) (hP : P k = true) : ∀ c, c ≤ n → n - c ≤ k → fC P (nI (cnB P k)) n c (cnB P (n - c)) = nI k
  | 0, _, h => absurd h (by omega)
  | c + 1, hc, h => by
    have e1 : n - c = n - (c + 1) + 1 := by omega
    have hle := cnB_le P k
    have hle2 := cnB_le P (n - (c + 1))
    show (if P (n - (c + 1)) = true then (if nI (cnB P (n - (c + 1))) = nI (cnB P k) then nI (n - (c + 1)) else fC P (nI (cnB P k)) n c (cnB P (n - (c + 1)) + 1)) else fC P (nI (cnB P k)) n c (cnB P (n - (c + 1)))) = nI k
    by_cases hp : P (n - (c + 1)) = true
    · rw [if_pos hp]
      by_cases e : n - (c + 1) = k
      · rw [e, if_pos rfl]
      · have h2 := cnB_mono (f := P) (a := n - (c + 1) + 1) (b := k) (by omega)
        rw [cnB_t hp] at h2
        rw [if_neg (fun z => by have := (nI_eq (by omega) (by omega)).mp z; omega), ← cnB_t hp, ← e1]
        exact fC_hit hn hk hP c (by omega) (by omega)
    · have hp2 : P (n - (c + 1)) = false := by cases hx : P (n - (c + 1)) <;> simp_all
      have e : n - (c + 1) ≠ k := fun z => by rw [z] at hp; exact hp hP
      rw [if_neg hp, ← cnB_f hp2, ← e1]
      exact fC_hit hn hk hP c (by omega) (by omega)
theorem fC_miss {P : Nat → Bool} {n m : Nat} (hn : n < 1000) (hm : m < 1000) (h : cnB P n ≤ m) : ∀ c, c ≤ n → fC P (nI m) n c (cnB P (n - c)) = -1
  | 0, _ => rfl
  | c + 1, hc => by
    have e1 : n - c = n - (c + 1) + 1 := by omega
    have hle2 := cnB_le P (n - (c + 1))
    show (if P (n - (c + 1)) = true then (if nI (cnB P (n - (c + 1))) = nI m then nI (n - (c + 1)) else fC P (nI m) n c (cnB P (n - (c + 1)) + 1)) else fC P (nI m) n c (cnB P (n - (c + 1)))) = -1
    by_cases hp : P (n - (c + 1)) = true
    · have h2 := cnB_mono (f := P) (a := n - (c + 1) + 1) (b := n) (by omega)
      rw [cnB_t hp] at h2
      rw [if_pos hp, if_neg (fun z => by have := (nI_eq (by omega) (by omega)).mp z; omega), ← cnB_t hp, ← e1]
      exact fC_miss hn hm h c (by omega)
    · have hp2 : P (n - (c + 1)) = false := by cases hx : P (n - (c + 1)) <;> simp_all
      rw [if_neg hp, ← cnB_f hp2, ← e1]
      exact fC_miss hn hm h c (by omega)
theorem fC_neg {P : Nat → Bool} {n : Nat} : ∀ c b, b + c < 2 ^ 31 → fC P (-1) n c b = -1
  | 0, _, _ => rfl
  | c + 1, b, h => by
    show (if P (n - (c + 1)) = true then (if nI b = -1 then nI (n - (c + 1)) else fC P (-1) n c (b + 1)) else fC P (-1) n c b) = -1
    rw [if_neg (ne_m1 (by omega)), fC_neg c (b + 1) (by omega), fC_neg c b (by omega)]
    split <;> rfl
theorem allB_t {f : Nat → Bool} : ∀ {n : Nat}, allB f n = true ↔ ∀ k, k < n → f k = true
  | 0 => ⟨fun _ k hk => absurd hk (Nat.not_lt_zero k), fun _ => rfl⟩
  | n + 1 => by
    show (allB f n && f n) = true ↔ _
    rw [Bool.and_eq_true, allB_t (n := n)]
    refine ⟨fun h k hk => ?_, fun h => ⟨fun k hk => h k (by omega), h n (Nat.lt_succ_self n)⟩⟩
    by_cases e : k = n
    · rw [e]; exact h.2
    · exact h.1 k (by omega)
theorem allB_0 {f : Nat → Bool} {n k : Nat} (hk : k < n) (h : f k = false) : allB f n = false := by
  cases hb : allB f n with
  | false => rfl
  | true => rw [allB_t.mp hb k hk] at h; cases h
section Told
variable {N : Nat → Nat} {A FI : Nat → Nat → Int32} {FJ : Nat → Nat → Int64}
theorem lno_at {q m l : Nat} (h : A 8 q = nI m) (hm : m ≤ 8) (hl : l < 1000) : lno A q l = if l < m then A 9 (8 * q + l) else -1 := by
  unfold lno
  rw [h]
  by_cases z : l < m
  · rw [if_pos z, if_pos (nI_lt z (by omega))]
  · rw [if_neg z, if_neg (fun y => z ((nI_ltI (by omega) (by omega)).mp y))]
/-- two pages are the same number when their lines are -/
theorem pgE_iff (hP : JP N A FJ FI) {a b : Nat} (ha : a < N 6 + N 7) (hb : b < N 6 + N 7) : FJ 1 a = FJ 1 b ↔ pgE A a b = true := by
  obtain ⟨-, n, a1, a2, a3, a4⟩ := hP a ha
  obtain ⟨-, m, b1, b2, b3, b4⟩ := hP b hb
  rw [a4, b4, pgv_inj a1 b1 a3 b3, pgE_at a2 (by omega), Bool.and_eq_true, decide_eq_true_eq, allB_t, a2, b2]
  refine ⟨fun ⟨e1, e2⟩ => ⟨by rw [e1], fun k hk => decide_eq_true ?_⟩, fun ⟨e1, e2⟩ => ?_⟩
  · rw [lno_at a2 a1 (by omega), lno_at b2 b1 (by omega), if_pos hk, if_pos (by omega)]
    exact e2 k hk
  · have e3 := (nI_eq (by omega) (by omega)).mp e1
    refine ⟨e3, fun k hk => ?_⟩
    have h9 := of_decide_eq_true (e2 k hk)
    rw [lno_at a2 a1 (by omega), lno_at b2 b1 (by omega), if_pos hk, if_pos (by omega)] at h9
    exact h9
/-- the sum that bundle gives, where an account is asked -/
def bqS (A : Nat → Nat → Int32) (j ac k : Nat) : Int32 := if ac = 0 then 0 else buS A j (nI ac - 1) k
theorem bqS_0 {j ac : Nat} : bqS A j ac 0 = 0 := by
  unfold bqS
  split <;> rfl
theorem bqS_n {j ac k : Nat} (h : ac = 0 ∨ ¬ A 20 k = nI ac - 1 ∨ seeb A j k = false) : bqS A j ac (k + 1) = bqS A j ac k := by
  unfold bqS
  by_cases e : ac = 0
  · rw [if_pos e, if_pos e]
  · rw [if_neg e, if_neg e]
    show buS A j (nI ac - 1) k + (if buP A j (nI ac - 1) k = true then A 19 k else 0) = _
    rw [if_neg, Int32.add_zero]
    unfold buP
    rcases h with h | h | h
    · exact absurd h e
    · rw [decide_eq_false h, Bool.and_false]; decide
    · rw [h, Bool.false_and]; decide
theorem bqS_s {j ac k : Nat} (h0 : ac ≠ 0) (h : A 20 k = nI ac - 1) (hs : seeb A j k = true) : bqS A j ac (k + 1) = bqS A j ac k + A 19 k := by
  unfold bqS
  rw [if_neg h0, if_neg h0]
  show buS A j (nI ac - 1) k + (if buP A j (nI ac - 1) k = true then A 19 k else 0) = _
  rw [if_pos]
  unfold buP
  rw [hs, decide_eq_true h]; rfl
theorem see_there {j k : Nat} (h : seeb A j k = true) : A 23 k = 0 := by
  unfold seeb at h
  rw [Bool.and_eq_true, decide_eq_true_eq] at h
  exact h.2
end Told

