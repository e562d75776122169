/-! The state of the keeper as numbers: scalars N (1 day, 2 formats, 6 kept, 7 pages of the open run, 10 typed, 13 runs, 17 documents), arrays A; what the calls make of it. -/
theorem tI_0 {th t : Int32} {N : Nat → Nat} : upd (tI th N) 0 t = tI t N := by
  funext j
  unfold upd tI
  by_cases h : j = 0
  · rw [if_pos h, if_pos h]
  · rw [if_neg h, if_neg h, if_neg h]
theorem tI_k {t : Int32} {N : Nat → Nat} {k v : Nat} (hk : k ≠ 0) : upd (tI t N) k (nI v) = tI t (updN N k v) := by
  funext j
  unfold upd tI updN
  by_cases h : j = k
  · subst h
    rw [if_pos rfl, if_neg hk, if_pos rfl]
  · rw [if_neg h]
    by_cases h0 : j = 0
    · rw [if_pos h0, if_pos h0]
    · rw [if_neg h0, if_neg h0, if_neg h]
/-- line k of page p, -1 if the page does not have it -/
def lno (A : Nat → Nat → Int32) (p k : Nat) : Int32 := if nI k < A 8 p then A 9 (8 * p + k) else -1
/-- whether the reader r sees the document d -/
def seeb (A : Nat → Nat → Int32) (r d : Nat) : Bool := (if A 20 d = -1 then decide (nI r = 0) else inb (A 20 d) (A 24 r) (A 25 r)) && decide (A 23 d = 0)
/-- the format that counts on the day dy, of the first f told -/
def fmS (A : Nat → Nat → Int32) (dy : Int32) : Nat → Option Nat
  | 0 => none
  | f + 1 => if (decide (A 3 f ≤ dy) && (match fmS A dy f with | none => true | some g => decide (A 3 g ≤ A 3 f))) = true then some f else fmS A dy f
def oI : Option Nat → Int32
  | none => -1
  | some g => nI g
theorem fmS_lt {A : Nat → Nat → Int32} {dy : Int32} : ∀ {f g : Nat}, fmS A dy f = some g → g < f
  | 0, g, h => by cases h
  | f + 1, g, h => by
    unfold fmS at h
    by_cases hc : (decide (A 3 f ≤ dy) && (match fmS A dy f with | none => true | some g => decide (A 3 g ≤ A 3 f))) = true
    · rw [if_pos hc] at h
      cases h
      exact Nat.lt_succ_self _
    · rw [if_neg hc] at h
      exact Nat.lt_succ_of_lt (fmS_lt h)
theorem ne_m1 {n : Nat} (h : n < 2 ^ 31) : ¬ nI n = -1 := fun e => by
  have h1 := nI_toInt h
  rw [e] at h1
  have h2 : (-1 : Int32).toInt = -1 := by decide
  omega
theorem idx_lt {i n : Nat} (hi : i < 2 ^ 31) (hn : n < 2 ^ 31) (h : ¬ nI n ≤ nI i) : i < n := Nat.lt_of_not_le fun z => h ((nI_leI hn hi).mpr z)
theorem idx_ge {i n : Nat} (hi : i < 2 ^ 31) (hn : n < 2 ^ 31) (h : nI n ≤ nI i) : n ≤ i := (nI_leI hn hi).mp h
/-- the lines of the page that is ended, copied behind 8 * p: the first k of them -/
def cpy9 (A : Nat → Nat → Int32) (p k : Nat) : Nat → Nat → Int32 := fun j => if j = 9 then (fun q => if 8 * p ≤ q ∧ q < 8 * p + k then A 11 (q - 8 * p) else A 9 q) else A j
theorem cpy9_0 {A : Nat → Nat → Int32} {p : Nat} : cpy9 A p 0 = A := by
  funext j q
  unfold cpy9
  by_cases h : j = 9
  · rw [if_pos h, h]
    show (if _ then _ else _) = _
    rw [if_neg (by omega)]
  · rw [if_neg h]
theorem cpy9_n {A : Nat → Nat → Int32} {p k j : Nat} (h : j ≠ 9) : cpy9 A p k j = A j := if_neg h
theorem cpy9_s {A : Nat → Nat → Int32} {p k : Nat} : updA (cpy9 A p k) 9 (8 * p + k) (cpy9 A p k 11 k) = cpy9 A p (k + 1) := by
  rw [cpy9_n (by decide)]
  funext j q
  unfold updA
  by_cases h : j = 9
  · subst h
    rw [if_pos rfl]
    unfold upd cpy9
    rw [if_pos rfl, if_pos rfl]
    show (if q = 8 * p + k then A 11 k else (if _ then _ else _)) = (if _ then _ else _)
    by_cases hq : q = 8 * p + k
    · rw [if_pos hq, if_pos (by omega), hq]; congr 1; omega
    · rw [if_neg hq]
      by_cases h2 : 8 * p ≤ q ∧ q < 8 * p + k
      · rw [if_pos h2, if_pos (by omega)]
      · rw [if_neg h2, if_neg (by omega)]
  · rw [if_neg h, cpy9_n h, cpy9_n h]
/-- the numbers behind the end of a page -/
def ePA (N : Nat → Nat) (A : Nat → Nat → Int32) : Nat → Nat → Int32 := updA (cpy9 (updA A 8 (N 6 + N 7) (nI (N 10))) (N 6 + N 7) (N 10)) 12 (N 6 + N 7) 1
def ePN (N : Nat → Nat) : Nat → Nat := updN (updN N 10 0) 7 (N 7 + 1)
/-- the kind out of a line's value -/
def kdI (v : Int32) : Int32 := if v = -1 then 0 else v - v / 4 * 4
/-- a document begun at page p -/
def bgA (N : Nat → Nat) (A : Nat → Nat → Int32) (p : Nat) (its : Int32) (kl : Nat) : Nat → Nat → Int32 :=
  updA (updA (updA (updA (updA (updA A 18 (N 17) (nI p)) 19 (N 17) 0) 20 (N 17) its) 21 (N 17) (kdI (lno A p kl))) 22 (N 17) (nI (N 1))) 23 (N 17) 0
/-- whether page p begins a document -/
def ptC (N : Nat → Nat) (A : Nat → Nat → Int32) (p : Nat) (its : Int32) : Bool := decide (p = N 6) || (!decide (its = -1) && !decide (A 20 (N 17 - 1) = its))
abbrev SS : Type := (Nat → Nat) × (Nat → Nat → Int32)
/-- one page put to the documents -/
def ptS (la ka p : Nat) (S : SS) : SS :=
  if ptC S.1 S.2 p (lno S.2 p la) = true then (updN S.1 17 (S.1 17 + 1), updA (bgA S.1 S.2 p (lno S.2 p la) ka) 19 (S.1 17) (bgA S.1 S.2 p (lno S.2 p la) ka 19 (S.1 17) + 1))
  else (S.1, updA S.2 19 (S.1 17 - 1) (S.2 19 (S.1 17 - 1) + 1))
/-- the first n pages behind the kept ones -/
def ptL (la ka kept : Nat) : Nat → SS → SS
  | 0, S => S
  | n + 1, S => ptS la ka (kept + n) (ptL la ka kept n S)
theorem ptS_N {la ka p k : Nat} {S : SS} (hk : k ≠ 17) : (ptS la ka p S).1 k = S.1 k := by
  unfold ptS
  split
  · exact if_neg hk
  · rfl
theorem ptL_N {la ka kept k : Nat} {S : SS} (hk : k ≠ 17) : ∀ n, (ptL la ka kept n S).1 k = S.1 k
  | 0 => rfl
  | n + 1 => (ptS_N hk).trans (ptL_N hk n)
theorem ptS_d {la ka p : Nat} {S : SS} : (ptS la ka p S).1 17 = S.1 17 ∨ (ptS la ka p S).1 17 = S.1 17 + 1 := by
  unfold ptS
  split
  · exact Or.inr rfl
  · exact Or.inl rfl
theorem ptL_d {la ka kept : Nat} {S : SS} : ∀ n, (ptL la ka kept n S).1 17 ≤ S.1 17 + n
  | 0 => Nat.le_refl _
  | n + 1 => by
    have h1 := ptL_d (la := la) (ka := ka) (kept := kept) (S := S) n
    have h2 := ptS_d (la := la) (ka := ka) (p := kept + n) (S := ptL la ka kept n S)
    show (ptS la ka (kept + n) (ptL la ka kept n S)).1 17 ≤ _
    omega
theorem ptL_ge {la ka kept : Nat} {S : SS} : ∀ n, S.1 17 ≤ (ptL la ka kept n S).1 17
  | 0 => Nat.le_refl _
  | n + 1 => by
    have h1 := ptL_ge (la := la) (ka := ka) (kept := kept) (S := S) n
    have h2 := ptS_d (la := la) (ka := ka) (p := kept + n) (S := ptL la ka kept n S)
    show _ ≤ (ptS la ka (kept + n) (ptL la ka kept n S)).1 17
    omega
theorem ptL_1 {la ka : Nat} {S : SS} : ∀ n, 0 < n → S.1 17 + 1 ≤ (ptL la ka (S.1 6) n S).1 17
  | 0, h => absurd h (Nat.lt_irrefl _)
  | n + 1, _ => by
    cases n with
    | zero =>
      show S.1 17 + 1 ≤ (ptS la ka (S.1 6 + 0) S).1 17
      unfold ptS
      rw [if_pos (by unfold ptC; simp)]
      exact Nat.le_refl _
    | succ n =>
      have h1 := ptL_1 (la := la) (ka := ka) (S := S) (n + 1) (Nat.succ_pos _)
      have h2 := ptS_d (la := la) (ka := ka) (p := S.1 6 + (n + 1)) (S := ptL la ka (S.1 6) (n + 1) S)
      show _ ≤ (ptS la ka (S.1 6 + (n + 1)) (ptL la ka (S.1 6) (n + 1) S)).1 17
      omega
/-- the lines of the account and of the kind, by the format that counts -/
def fmOk (N : Nat → Nat) (A : Nat → Nat → Int32) (la ka : Nat) : Prop := (fmS A (nI (N 1)) (N 2) = none ∧ la = 0 ∧ ka = 1) ∨ ∃ g, fmS A (nI (N 1)) (N 2) = some g ∧ A 4 g = nI la ∧ A 5 g = nI ka
/-- the numbers behind the end of a run: its pages S stand ready, none open but what is left out -/
def edA (N : Nat → Nat) (A : Nat → Nat → Int32) : Nat → Nat → Int32 := updA (updA (updA A 14 (N 13) (nI (N 1))) 15 (N 13) (nI (N 6))) 16 (N 13) (nI (N 7))
def edN (N : Nat → Nat) : Nat → Nat := updN (updN (updN N 6 (N 6 + N 7)) 7 0) 13 (N 13 + 1)
def edS (la ka : Nat) (S : SS) : SS := (edN (ptL la ka (S.1 6) (S.1 7) S).1, edA (ptL la ka (S.1 6) (S.1 7) S).1 (ptL la ka (S.1 6) (S.1 7) S).2)
theorem ePA_n {N : Nat → Nat} {A : Nat → Nat → Int32} {k : Nat} (h8 : k ≠ 8) (h9 : k ≠ 9) (h12 : k ≠ 12) : ePA N A k = A k := by
  unfold ePA updA
  rw [if_neg h12, cpy9_n h9, if_neg h8]
theorem fmS_congr {A B : Nat → Nat → Int32} {dy : Int32} (h : A 3 = B 3) : ∀ n, fmS A dy n = fmS B dy n
  | 0 => rfl
  | n + 1 => by
    unfold fmS
    rw [fmS_congr h n, h]
theorem fmOk_eP {N : Nat → Nat} {A : Nat → Nat → Int32} {la ka : Nat} (h : fmOk N A la ka) : fmOk (ePN N) (ePA N A) la ka := by
  have e : fmS (ePA N A) (nI (ePN N 1)) (ePN N 2) = fmS A (nI (N 1)) (N 2) := fmS_congr (ePA_n (by decide) (by decide) (by decide)) (N 2)
  unfold fmOk
  rw [e, ePA_n (k := 4) (by decide) (by decide) (by decide), ePA_n (k := 5) (by decide) (by decide) (by decide)]
  exact h
def allB (f : Nat → Bool) : Nat → Bool
  | 0 => true
  | n + 1 => allB f n && f n
theorem allB_f {f : Nat → Bool} {k : Nat} (h : allB f k = false) : ∀ n, k ≤ n → allB f n = false
  | n, hn => by
    induction n with
    | zero => rw [show k = 0 by omega] at h; exact h
    | succ n ih =>
      by_cases hk : k = n + 1
      · rw [← hk]; exact h
      · show (allB f n && f n) = false
        rw [ih (by omega)]
        rfl
/-- two pages hold the same lines -/
def pgE (A : Nat → Nat → Int32) (a b : Nat) : Bool := decide (A 8 a = A 8 b) && allB (fun k => decide (lno A a k = lno A b k)) (A 8 a).toNatClampNeg
theorem pgE_at {A : Nat → Nat → Int32} {a b sa : Nat} (hsa : A 8 a = nI sa) (h : sa < 2 ^ 31) : pgE A a b = (decide (A 8 a = A 8 b) && allB (fun k => decide (lno A a k = lno A b k)) sa) := by
  unfold pgE
  rw [show (A 8 a).toNatClampNeg = sa by rw [hsa]; exact nI_clamp h]
/-- two runs are alike -/
def ruE (A : Nat → Nat → Int32) (r1 r2 : Nat) : Bool := (decide (A 14 r1 = A 14 r2) && decide (A 16 r1 = A 16 r2)) && allB (fun p => pgE A ((A 15 r1).toNatClampNeg + p) ((A 15 r2).toNatClampNeg + p)) (A 16 r1).toNatClampNeg
theorem ruE_at {A : Nat → Nat → Int32} {r1 r2 f1 f2 n : Nat} (h1 : A 15 r1 = nI f1) (h2 : A 15 r2 = nI f2) (hn : A 16 r1 = nI n) (b1 : f1 < 2 ^ 31) (b2 : f2 < 2 ^ 31) (b3 : n < 2 ^ 31) : ruE A r1 r2 = ((decide (A 14 r1 = A 14 r2) && decide (A 16 r1 = A 16 r2)) && allB (fun p => pgE A (f1 + p) (f2 + p)) n) := by
  unfold ruE
  rw [show (A 16 r1).toNatClampNeg = n by rw [hn]; exact nI_clamp b3, show (A 15 r1).toNatClampNeg = f1 by rw [h1]; exact nI_clamp b1, show (A 15 r2).toNatClampNeg = f2 by rw [h2]; exact nI_clamp b2]
theorem dec1 (x : Int32) : x + Int32.ofInt (-1) = x - 1 := by rw [Int32.sub_eq_add_neg]; rfl
/-- the first of the runs below n that f tells, as the reference looks for it: from the last on -/
def fdn (f : Nat → Bool) (n : Nat) : Nat → Int32
  | 0 => -1
  | c + 1 => if f (n - (c + 1)) then nI (n - (c + 1)) else fdn f n c
/-- what the runs keep to -/
def WfR (N : Nat → Nat) (A : Nat → Nat → Int32) : Prop := ∀ r, r < N 13 → ∃ f n : Nat, A 15 r = nI f ∧ A 16 r = nI n ∧ 1 ≤ n ∧ f + n ≤ N 6
/-- c copies more of the pages from f + pg to f + i -/
def rpA (A : Nat → Nat → Int32) (f pg i : Nat) (c : Int32) : Nat → Nat → Int32 := fun j => if j = 12 then (fun q => if f + pg ≤ q ∧ q < f + i then A 12 q + c else A 12 q) else A j
theorem rpA_n {A : Nat → Nat → Int32} {f pg i j : Nat} {c : Int32} (h : j ≠ 12) : rpA A f pg i c j = A j := if_neg h
theorem rpA_0 {A : Nat → Nat → Int32} {f pg : Nat} {c : Int32} : rpA A f pg pg c = A := by
  funext j q
  unfold rpA
  by_cases h : j = 12
  · rw [if_pos h, h]
    show (if _ then _ else _) = _
    rw [if_neg (by omega)]
  · rw [if_neg h]
theorem rpA_s {A : Nat → Nat → Int32} {f pg i : Nat} {c : Int32} (hi : pg ≤ i) : updA (rpA A f pg i c) 12 (f + i) (rpA A f pg i c 12 (f + i) + c) = rpA A f pg (i + 1) c := by
  funext j q
  unfold updA
  by_cases h : j = 12
  · subst h
    rw [if_pos rfl]
    unfold upd rpA
    rw [if_pos rfl, if_pos rfl]
    show (if q = f + i then (if _ then _ else _) + c else (if _ then _ else _)) = (if _ then _ else _)
    by_cases hq : q = f + i
    · rw [if_pos hq, if_neg (by omega), if_pos (by omega), hq]
    · rw [if_neg hq]
      by_cases h2 : f + pg ≤ q ∧ q < f + i
      · rw [if_pos h2, if_pos (by omega)]
      · rw [if_neg h2, if_neg (by omega)]
  · rw [if_neg h, rpA_n h, rpA_n h]
/-- whether the reader finds the document -/
def fdP (A : Nat → Nat → Int32) (r : Nat) (ac ki dy : Int32) (d : Nat) : Bool := seeb A r d && ((decide (ac = -1) || decide (A 20 d = ac)) && ((decide (ki = -1) || decide (A 21 d = ki)) && !decide (A 22 d < dy)))
/-- the one of the last c documents of nd that comes behind b others and has the index idx -/
def fC (P : Nat → Bool) (idx : Int32) (nd : Nat) : Nat → Nat → Int32
  | 0, _ => -1
  | c + 1, b => if P (nd - (c + 1)) = true then (if nI b = idx then nI (nd - (c + 1)) else fC P idx nd c (b + 1)) else fC P idx nd c b
/-- whether the document is kept by its account -/
def stB (A : Nat → Nat → Int32) (d : Nat) : Bool := !decide (A 20 d = -1) && !decide (A 28 (A 20 d).toNatClampNeg = 0)
/-- whether the document goes on the day dy -/
def clB (A : Nat → Nat → Int32) (dy : Int32) (d : Nat) : Bool := decide (A 23 d = 0) && (!stB A d && !decide (dy ≤ A 22 d + A 27 (A 21 d).toNatClampNeg))
/-- the first i documents gone through -/
def clA (A : Nat → Nat → Int32) (dy : Int32) (i : Nat) : Nat → Nat → Int32 := fun j => if j = 23 then (fun q => if q < i ∧ clB A dy q = true then 1 else A 23 q) else A j
def cnB (f : Nat → Bool) : Nat → Nat
  | 0 => 0
  | n + 1 => cnB f n + (if f n = true then 1 else 0)
theorem cnB_le (f : Nat → Bool) : ∀ n, cnB f n ≤ n
  | 0 => Nat.le_refl _
  | n + 1 => by
    have h := cnB_le f n
    show cnB f n + (if f n = true then 1 else 0) ≤ n + 1
    split <;> omega
theorem clA_n {A : Nat → Nat → Int32} {dy : Int32} {i j : Nat} (h : j ≠ 23) : clA A dy i j = A j := if_neg h
theorem clA_0 {A : Nat → Nat → Int32} {dy : Int32} : clA A dy 0 = A := by
  funext j q
  unfold clA
  by_cases h : j = 23
  · rw [if_pos h, h]
    show (if _ then _ else _) = _
    rw [if_neg (by omega)]
  · rw [if_neg h]
theorem clA_at {A : Nat → Nat → Int32} {dy : Int32} {i : Nat} : clA A dy i 23 i = A 23 i := by
  unfold clA
  rw [if_pos rfl]
  show (if _ then _ else _) = _
  rw [if_neg (by omega)]
theorem clA_t {A : Nat → Nat → Int32} {dy : Int32} {i : Nat} (h : clB A dy i = true) : updA (clA A dy i) 23 i 1 = clA A dy (i + 1) := by
  funext j q
  unfold updA
  by_cases hj : j = 23
  · subst hj
    rw [if_pos rfl]
    unfold upd clA
    rw [if_pos rfl, if_pos rfl]
    show (if q = i then (1 : Int32) else (if q < i ∧ clB A dy q = true then 1 else A 23 q)) = (if q < i + 1 ∧ clB A dy q = true then 1 else A 23 q)
    by_cases hq : q = i
    · rw [if_pos hq, if_pos ⟨by omega, by rw [hq]; exact h⟩]
    · rw [if_neg hq]
      by_cases h2 : q < i ∧ clB A dy q = true
      · rw [if_pos h2, if_pos ⟨by omega, h2.2⟩]
      · rw [if_neg h2, if_neg (fun z => h2 ⟨by omega, z.2⟩)]
  · rw [if_neg hj, clA_n hj, clA_n hj]
theorem clA_f {A : Nat → Nat → Int32} {dy : Int32} {i : Nat} (h : clB A dy i = false) : clA A dy i = clA A dy (i + 1) := by
  funext j q
  unfold clA
  by_cases hj : j = 23
  · rw [if_pos hj, if_pos hj]
    show (if _ then _ else _) = (if _ then _ else _)
    by_cases h2 : q < i ∧ clB A dy q = true
    · rw [if_pos h2, if_pos ⟨by omega, h2.2⟩]
    · rw [if_neg h2, if_neg (fun z => by
        by_cases hq : q = i
        · rw [hq, h] at z; exact absurd z.2 (by decide)
        · exact h2 ⟨by omega, z.2⟩)]
  · rw [if_neg hj, if_neg hj]
/-- what the documents keep to -/
def WfD (N : Nat → Nat) (A : Nat → Nat → Int32) : Prop := ∀ d, d < N 17 → (A 20 d = -1 ∨ ∃ a, a < 100 ∧ A 20 d = nI a) ∧ (∃ k, k < 4 ∧ A 21 d = nI k)
def buP (A : Nat → Nat → Int32) (r : Nat) (ac : Int32) (d : Nat) : Bool := seeb A r d && decide (A 20 d = ac)
def buS (A : Nat → Nat → Int32) (r : Nat) (ac : Int32) : Nat → Int32
  | 0 => 0
  | n + 1 => buS A r ac n + (if buP A r ac n = true then A 19 n else 0)
