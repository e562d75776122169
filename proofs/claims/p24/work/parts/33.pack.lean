/-! Numbers packed into ints and longs; the law's arrays as the state's numbers: JJ. The rows wb_, pf_ are pasted. -/
theorem wb_tb (n : Nat) : (lN n).toBitVec = BitVec.ofNat 64 n := rfl
theorem wb_inj {a b : Int64} (h : a.toBitVec = b.toBitVec) : a = b := Int64.toBitVec_inj.mp h
theorem wb_of32 (x : Int32) : ∃ n, n < 2 ^ 32 ∧ x = nI n := ⟨x.toBitVec.toNat, x.toBitVec.isLt, Int32.toBitVec_inj.mp (by show _ = BitVec.ofNat 32 _; simp)⟩
theorem wb_c : ∀ k, k < 64 → ((nI k).toInt64 &&& 63) = lN k := by decide +kernel
theorem wb_sm : ∀ k, k < 64 → (BitVec.ofNat 64 k).smod 64 = BitVec.ofNat 64 k := by decide +kernel
theorem wb_lt2 {a b : Nat} (h : a < b) : 2 ^ a < 2 ^ b := Nat.pow_lt_pow_right (by decide) h
theorem wb_shl (n : Nat) {k : Nat} (hk : k < 64) : lN n <<< ((nI k).toInt64 &&& 63) = lN (n * 2 ^ k) := by
  rw [wb_c k hk]
  apply wb_inj
  rw [Int64.toBitVec_shiftLeft, wb_tb, wb_tb, wb_tb, wb_sm k hk]
  apply BitVec.eq_of_toNat_eq
  rw [BitVec.shiftLeft_eq', BitVec.toNat_shiftLeft, BitVec.toNat_ofNat, BitVec.toNat_ofNat, BitVec.toNat_ofNat, Nat.mod_eq_of_lt (show k < 2 ^ 64 by omega), Nat.shiftLeft_eq, Nat.mul_mod, Nat.mod_mod, ← Nat.mul_mod]
theorem wb_and {a b : Nat} (ha : a < 2 ^ 64) (hb : b < 2 ^ 64) : lN a &&& lN b = lN (a &&& b) := by
  apply wb_inj
  rw [Int64.toBitVec_and, wb_tb, wb_tb, wb_tb]
  apply BitVec.eq_of_toNat_eq
  rw [BitVec.toNat_and, BitVec.toNat_ofNat, BitVec.toNat_ofNat, BitVec.toNat_ofNat, Nat.mod_eq_of_lt ha, Nat.mod_eq_of_lt hb, Nat.mod_eq_of_lt (Nat.and_lt_two_pow _ hb)]
theorem wb_mask {n k : Nat} (hn : n < 2 ^ 64) (hk : k < 64) : lN n &&& lN (2 ^ k - 1) = lN (n % 2 ^ k) := by
  rw [wb_and hn (by have := wb_lt2 hk; omega), Nat.and_two_pow_sub_one_eq_mod]
theorem pf_lI {a : Nat} (h : a < 2 ^ 63) : (lN a).toInt = (a : Int) := lg_ofNat_toInt h
theorem pf_shr {a d : Nat} {D : Int64} (hD : (D.toBitVec.smod 64).toNat = d) (h : a < 2 ^ 62) : lN a >>> D = lN (a / 2 ^ d) := by
  have hd : a / 2 ^ d ≤ a := Nat.div_le_self _ _
  apply Int64.toInt_inj.mp
  have e : (lN a >>> D).toInt = (lN a).toInt >>> d := by
    rw [← hD]
    exact BitVec.toInt_sshiftRight ..
  rw [e, Int.shiftRight_eq_div_pow, pf_lI (by omega), pf_lI (by omega)]
  rfl
-- ===== ints =====
theorem i_and {a : Nat} (h : a < 2 ^ 31) {m : Int32} (k : Nat) (hm : m.toBitVec.toNat = 2 ^ k - 1) : nI a &&& m = nI (a % 2 ^ k) := pk_andN (by omega) k hm
theorem i127 {a : Nat} (h : a < 2 ^ 31) : nI a &&& 127 = nI (a % 128) := i_and h 7 (by decide)
theorem i63 {a : Nat} (h : a < 2 ^ 31) : nI a &&& 63 = nI (a % 64) := i_and h 6 (by decide)
theorem i7 {a : Nat} (h : a < 2 ^ 31) : nI a &&& 7 = nI (a % 8) := i_and h 3 (by decide)
theorem i3 {a : Nat} (h : a < 2 ^ 31) : nI a &&& 3 = nI (a % 4) := i_and h 2 (by decide)
theorem s3 {a : Nat} (h : a < 2 ^ 31) : nI a >>> ((3 : Int32) &&& 31) = nI (a / 8) := pk_shrN h _ 3 (by decide)
theorem s6 {a : Nat} (h : a < 2 ^ 31) : nI a >>> ((6 : Int32) &&& 31) = nI (a / 64) := pk_shrN h _ 6 (by decide)
theorem s7 {a : Nat} (h : a < 2 ^ 31) : nI a >>> ((7 : Int32) &&& 31) = nI (a / 128) := pk_shrN h _ 7 (by decide)
theorem s9 {a : Nat} (h : a < 2 ^ 31) : nI a >>> ((9 : Int32) &&& 31) = nI (a / 512) := pk_shrN h _ 9 (by decide)
theorem s12 {a : Nat} (h : a < 2 ^ 31) : nI a >>> ((12 : Int32) &&& 31) = nI (a / 4096) := pk_shrN h _ 12 (by decide)
theorem s14 {a : Nat} (h : a < 2 ^ 31) : nI a >>> ((14 : Int32) &&& 31) = nI (a / 16384) := pk_shrN h _ 14 (by decide)
theorem s15 {a : Nat} (h : a < 2 ^ 31) : nI a >>> ((15 : Int32) &&& 31) = nI (a / 32768) := pk_shrN h _ 15 (by decide)
/-- a number below m out of any int -/
def lowN (v : Int32) (m : Nat) : Nat := v.toBitVec.toNat / 2 % m
theorem lowN_lt (v : Int32) {m : Nat} (h : 0 < m) : lowN v m < m := Nat.mod_lt _ h
theorem low_eq (v : Int32) {m : Nat} (h0 : 0 < m) (hm : m < 2 ^ 31) : (v.toUInt32 >>> (Int32.toUInt32 1 &&& Int32.toUInt32 31)).toInt32 - (v.toUInt32 >>> (Int32.toUInt32 1 &&& Int32.toUInt32 31)).toInt32 / nI m * nI m = nI (lowN v m) := by
  obtain ⟨n, hn, rfl⟩ := wb_of32 v
  rw [pk_ushrN hn 1 1 (by decide), pk_rem (by omega) h0 hm]
  unfold lowN
  rw [pk_tn hn]
-- ===== a page in a long =====
def vsm (f : Nat → Nat) : Nat → Nat
  | 0 => 0
  | n + 1 => vsm f n + f n * 128 ^ n
def pgk (n : Nat) (f : Nat → Nat) : Nat := n + 16 * vsm f n
theorem vsm_lt {f : Nat → Nat} : ∀ {n : Nat}, (∀ k, k < n → f k < 128) → vsm f n < 128 ^ n
  | 0, _ => by show 0 < 128 ^ 0; decide
  | n + 1, h => by
    have h1 := vsm_lt (f := f) (n := n) (fun k hk => h k (by omega))
    have h2 : f n * 128 ^ n ≤ 127 * 128 ^ n := Nat.mul_le_mul_right _ (by have := h n (Nat.lt_succ_self n); omega)
    show vsm f n + f n * 128 ^ n < 128 ^ (n + 1)
    rw [Nat.pow_succ]
    omega
theorem vsm_at {f : Nat → Nat} : ∀ {n l : Nat}, (∀ k, k < n → f k < 128) → l < n → vsm f n / 128 ^ l % 128 = f l
  | 0, l, _, hl => absurd hl (Nat.not_lt_zero l)
  | n + 1, l, h, hl => by
    have hp : 0 < 128 ^ l := Nat.pow_pos (by decide)
    show (vsm f n + f n * 128 ^ n) / 128 ^ l % 128 = f l
    by_cases e : l = n
    · subst e
      rw [Nat.add_mul_div_right _ _ hp, Nat.div_eq_of_lt (vsm_lt (fun k hk => h k (by omega))), Nat.zero_add]
      exact Nat.mod_eq_of_lt (h l (Nat.lt_succ_self l))
    · obtain ⟨d, rfl⟩ : ∃ d, n = l + 1 + d := ⟨n - (l + 1), by omega⟩
      have e2 : f (l + 1 + d) * 128 ^ (l + 1 + d) = 128 ^ l * (128 * (128 ^ d * f (l + 1 + d))) := by
        rw [Nat.pow_add, Nat.pow_succ, Nat.mul_comm (f (l + 1 + d)), Nat.mul_assoc, Nat.mul_assoc]
      rw [e2, Nat.add_mul_div_left _ _ hp, Nat.add_mul_mod_self_left]
      exact vsm_at (fun k hk => h k (by omega)) (by omega)
theorem vsm_congr {f g : Nat → Nat} : ∀ {n : Nat}, (∀ k, k < n → f k = g k) → vsm f n = vsm g n
  | 0, _ => rfl
  | n + 1, h => by
    show vsm f n + f n * 128 ^ n = vsm g n + g n * 128 ^ n
    rw [vsm_congr (fun k hk => h k (by omega)), h n (Nat.lt_succ_self n)]
theorem pgk_congr {f g : Nat → Nat} {n : Nat} (h : ∀ k, k < n → f k = g k) : pgk n f = pgk n g := by unfold pgk; rw [vsm_congr h]
theorem pgk_16 {f : Nat → Nat} {n : Nat} (h : n < 16) : pgk n f % 16 = n := by unfold pgk; omega
theorem pgk_d {f : Nat → Nat} {n : Nat} (h : n < 16) : pgk n f / 16 = vsm f n := by unfold pgk; omega
theorem pw_47 (l : Nat) : 2 ^ (4 + 7 * l) = 16 * 128 ^ l := by rw [Nat.pow_add, Nat.pow_mul]
theorem pgk_at {f : Nat → Nat} {n l : Nat} (hn : n < 16) (h : ∀ k, k < n → f k < 128) (hl : l < n) : pgk n f / 2 ^ (4 + 7 * l) % 128 = f l := by
  rw [pw_47, ← Nat.div_div_eq_div_mul, pgk_d hn]
  exact vsm_at h hl
theorem pgk_lt {f : Nat → Nat} {n : Nat} (hn : n ≤ 8) (h : ∀ k, k < n → f k < 128) : pgk n f < 2 ^ 61 := by
  have h1 := vsm_lt h
  have h2 : 128 ^ n ≤ 128 ^ 8 := Nat.pow_le_pow_right (by decide) hn
  have h3 : 128 ^ 8 = 72057594037927936 := by decide
  unfold pgk
  omega
theorem pgk_snoc {f : Nat → Nat} {n v : Nat} : pgk n f + 1 + v * 2 ^ (4 + 7 * n) = pgk (n + 1) (fun k => if k = n then v else f k) := by
  unfold pgk
  show _ = n + 1 + 16 * (vsm (fun k => if k = n then v else f k) n + (if n = n then v else f n) * 128 ^ n)
  rw [if_pos rfl, vsm_congr (g := f) (fun k hk => if_neg (by omega)), pw_47, Nat.mul_add, Nat.mul_left_comm]
  omega
theorem pgk_inj {f g : Nat → Nat} {n m : Nat} (hn : n < 16) (hm : m < 16) (h1 : ∀ k, k < n → f k < 128) (h2 : ∀ k, k < m → g k < 128) (e : pgk n f = pgk m g) : n = m ∧ ∀ l, l < n → f l = g l := by
  have e1 : n = m := by rw [← pgk_16 (f := f) hn, e, pgk_16 hm]
  subst e1
  exact ⟨rfl, fun l hl => by rw [← pgk_at hn h1 hl, e, pgk_at hn h2 hl]⟩
-- ===== the page's lines as the state has them =====
def pgf (f : Nat → Int32) (a : Nat) : Nat → Nat := fun k => (f (a + k)).toNatClampNeg
def pgv (n : Nat) (f : Nat → Int32) (a : Nat) : Int64 := lN (pgk n (pgf f a))
def vOk (f : Nat → Int32) (a n : Nat) : Prop := ∀ k, k < n → ∃ v, v < 100 ∧ f (a + k) = nI v
theorem pgf_at {f : Nat → Int32} {a n k : Nat} (h : vOk f a n) (hk : k < n) : pgf f a k < 100 ∧ f (a + k) = nI (pgf f a k) := by
  obtain ⟨v, hv, e⟩ := h k hk
  unfold pgf
  rw [e, nI_clamp (by omega)]
  exact ⟨hv, rfl⟩
theorem pgf_128 {f : Nat → Int32} {a n : Nat} (h : vOk f a n) : ∀ k, k < n → pgf f a k < 128 := fun k hk => by have := (pgf_at h hk).1; omega
/-- how many lines: the low four bits -/
theorem pgv_lines {f : Nat → Int32} {a n : Nat} (hn : n ≤ 8) (h : vOk f a n) : ((pgv n f a) &&& 15).toInt32 = nI n := by
  have h1 := pgk_lt hn (pgf_128 h)
  unfold pgv
  rw [show (15 : Int64) = lN (2 ^ 4 - 1) from rfl, wb_mask (by omega) (by decide), lN_i]
  rw [show 2 ^ 4 = 16 from rfl, pgk_16 (by omega)]
theorem pgv_at {f : Nat → Int32} {a n l : Nat} (hn : n ≤ 8) (h : vOk f a n) (hl : l < n) : (((pgv n f a) >>> ((nI (4 + 7 * l)).toInt64 &&& 63)) &&& 127).toInt32 = f (a + l) := by
  have h1 := pgk_lt hn (pgf_128 h)
  unfold pgv
  rw [wb_c _ (by omega), pf_shr (d := 4 + 7 * l) ?_ (by omega), show (127 : Int64) = lN (2 ^ 7 - 1) from rfl, wb_mask (Nat.lt_of_le_of_lt (Nat.div_le_self _ _) (by omega)) (by decide), lN_i]
  · rw [show 2 ^ 7 = 128 from rfl, pgk_at (by omega) (pgf_128 h) hl]
    exact (pgf_at h hl).2.symm
  · rw [show (lN (4 + 7 * l)).toBitVec = BitVec.ofNat 64 (4 + 7 * l) from rfl, wb_sm _ (by omega), BitVec.toNat_ofNat, Nat.mod_eq_of_lt (by omega)]
theorem pgv_add {f : Nat → Int32} {n v : Nat} (hn : n < 8) (hv : v < 100) : pgv n f 0 + (1 + (nI v).toInt64 <<< ((nI (4 + 7 * n)).toInt64 &&& 63)) = pgv (n + 1) (upd f n (nI v)) 0 := by
  unfold pgv
  rw [nI_l (by omega), wb_shl _ (by omega), show (1 : Int64) = lN 1 from rfl, lN_add, lN_add, ← Nat.add_assoc, pgk_snoc]
  congr 1
  refine pgk_congr (fun k hk => ?_)
  show (if k = n then v else (f (0 + k)).toNatClampNeg) = (upd f n (nI v) (0 + k)).toNatClampNeg
  rw [Nat.zero_add]
  by_cases e : k = n
  · rw [if_pos e, e, upd_s, nI_clamp (by omega)]
  · rw [if_neg e, upd_n e]
theorem pgv_inj {f g : Nat → Int32} {a b n m : Nat} (hn : n ≤ 8) (hm : m ≤ 8) (h1 : vOk f a n) (h2 : vOk g b m) : pgv n f a = pgv m g b ↔ n = m ∧ ∀ l, l < n → f (a + l) = g (b + l) := by
  have k1 := pgk_lt hn (pgf_128 h1)
  have k2 := pgk_lt hm (pgf_128 h2)
  refine ⟨fun e => ?_, fun ⟨e, e2⟩ => ?_⟩
  · have e3 : pgk n (pgf f a) = pgk m (pgf g b) := (pk_lEQ (by omega) (by omega)).mp e
    obtain ⟨e4, e5⟩ := pgk_inj (by omega) (by omega) (pgf_128 h1) (pgf_128 h2) e3
    refine ⟨e4, fun l hl => ?_⟩
    rw [(pgf_at h1 hl).2, (pgf_at h2 (by omega)).2, e5 l hl]
  · subst e
    unfold pgv
    rw [pgk_congr (fun k hk => ?_)]
    unfold pgf
    rw [e2 k hk]
-- ===== the law's arrays =====
def updJ (F : Nat → Nat → Int64) (k i : Nat) (x : Int64) : Nat → Nat → Int64 := fun j => if j = k then vp_updL (F k) i x else F j
/-- the law's numbers: day, formats, pages kept, pages of the open run, runs, documents -/
def JG (N : Nat → Nat) (FI : Nat → Nat → Int32) : Prop := FI 10 0 = nI (N 1) ∧ FI 10 1 = nI (N 2) ∧ FI 10 2 = nI (N 6) ∧ FI 10 3 = nI (N 7) ∧ FI 10 4 = nI (N 13) ∧ FI 10 5 = nI (N 17)
def JB (N : Nat → Nat) : Prop := N 1 ≤ 9999 ∧ N 2 ≤ 10 ∧ N 6 + N 7 ≤ 59 ∧ N 10 ≤ 8 ∧ N 13 ≤ 15 ∧ N 17 ≤ N 6
def JO (N : Nat → Nat) (A : Nat → Nat → Int32) (FJ : Nat → Nat → Int64) : Prop := vOk (A 11) 0 (N 10) ∧ FJ 0 0 = pgv (N 10) (A 11) 0
def JP (N : Nat → Nat) (A : Nat → Nat → Int32) (FJ : Nat → Nat → Int64) (FI : Nat → Nat → Int32) : Prop := ∀ q, q < N 6 + N 7 → FI 2 q = A 12 q ∧ ∃ m, m ≤ 8 ∧ A 8 q = nI m ∧ vOk (A 9) (8 * q) m ∧ FJ 1 q = pgv m (A 9) (8 * q)
def JF (N : Nat → Nat) (A : Nat → Nat → Int32) (FI : Nat → Nat → Int32) : Prop := ∀ j, j < N 2 → ∃ dy a b, dy < 10000 ∧ a < 8 ∧ b < 8 ∧ A 3 j = nI dy ∧ A 4 j = nI a ∧ A 5 j = nI b ∧ FI 4 j = nI (64 * dy + 8 * a + b)
def JR (N : Nat → Nat) (A : Nat → Nat → Int32) (FI : Nat → Nat → Int32) : Prop := ∀ r, r < N 13 → ∃ f m dy, dy ≤ 9999 ∧ 1 ≤ m ∧ f + m ≤ N 6 ∧ A 15 r = nI f ∧ A 16 r = nI m ∧ A 14 r = nI dy ∧ FI 3 r = nI (f + 64 * m + 4096 * dy)
def jdR (N : Nat → Nat) (A : Nat → Nat → Int32) (FI : Nat → Nat → Int32) (k : Nat) : Prop := ∃ ac ki fp ru ln, ac ≤ 100 ∧ ki < 4 ∧ fp + ln ≤ N 6 ∧ 1 ≤ ln ∧ ru < N 13 ∧ A 20 k = nI ac - 1 ∧ A 21 k = nI ki ∧ A 18 k = nI fp ∧ A 19 k = nI ln ∧ A 22 k = A 14 ru ∧ FI 5 k = nI (ac + 128 * ki + 512 * fp + 32768 * ru) ∧ (A 23 k = 0 ∧ FI 6 k = nI ln ∨ A 23 k = 1 ∧ FI 6 k = - nI ln)
def JD (N : Nat → Nat) (A : Nat → Nat → Int32) (FI : Nat → Nat → Int32) : Prop := ∀ k, k < N 17 → jdR N A FI k
def JV (A : Nat → Nat → Int32) (FI : Nat → Nat → Int32) : Prop := ∀ r, r < 4 → ∃ f l b, f < 100 ∧ l < 100 ∧ b < 9 ∧ A 24 r = nI f ∧ A 25 r = nI l ∧ A 26 r = nI b - 1 ∧ FI 7 r = nI (f + 128 * l + 16384 * b)
def JS (A : Nat → Nat → Int32) (FI : Nat → Nat → Int32) : Prop := ∀ k, k < 4 → ∃ x, x < 10000 ∧ A 27 k = nI x ∧ FI 8 k = nI x
def JT (A : Nat → Nat → Int32) (FI : Nat → Nat → Int32) : Prop := (∀ a, a < 6 → ∃ z, A 28 a = bI z ∧ FI 9 a = bI z) ∧ ∀ a, 6 ≤ a → a < 100 → A 28 a = 0
def JJ (N : Nat → Nat) (A : Nat → Nat → Int32) (FJ : Nat → Nat → Int64) (FI : Nat → Nat → Int32) : Prop := JG N FI ∧ JB N ∧ JO N A FJ ∧ JP N A FJ FI ∧ JF N A FI ∧ JR N A FI ∧ JD N A FI ∧ JV A FI ∧ JS A FI ∧ JT A FI
-- reading packed numbers
theorem pd_f {dy a b : Nat} (h : dy < 10000) (ha : a < 8) (hb : b < 8) : nI (64 * dy + 8 * a + b) >>> ((6 : Int32) &&& 31) = nI dy ∧ (nI (64 * dy + 8 * a + b) >>> ((3 : Int32) &&& 31)) &&& 7 = nI a ∧ nI (64 * dy + 8 * a + b) &&& 7 = nI b := by
  refine ⟨?_, ?_, ?_⟩
  · rw [s6 (by omega)]; congr 1; omega
  · rw [s3 (by omega), i7 (by omega)]; congr 1; omega
  · rw [i7 (by omega)]; congr 1; omega
theorem pd_r {f m dy : Nat} (h : dy ≤ 9999) (hf : f < 64) (hm : m < 64) : nI (f + 64 * m + 4096 * dy) &&& 63 = nI f ∧ (nI (f + 64 * m + 4096 * dy) >>> ((6 : Int32) &&& 31)) &&& 63 = nI m ∧ nI (f + 64 * m + 4096 * dy) >>> ((12 : Int32) &&& 31) = nI dy ∧ nI (f + 64 * m + 4096 * dy) >>> ((6 : Int32) &&& 31) = nI (m + 64 * dy) := by
  refine ⟨?_, ?_, ?_, ?_⟩
  · rw [i63 (by omega)]; congr 1; omega
  · rw [s6 (by omega), i63 (by omega)]; congr 1; omega
  · rw [s12 (by omega)]; congr 1; omega
  · rw [s6 (by omega)]; congr 1; omega
theorem pd_d {ac ki fp ru : Nat} (ha : ac ≤ 100) (hk : ki < 4) (hf : fp < 64) (hr : ru < 15) : nI (ac + 128 * ki + 512 * fp + 32768 * ru) &&& 127 = nI ac ∧ (nI (ac + 128 * ki + 512 * fp + 32768 * ru) >>> ((7 : Int32) &&& 31)) &&& 3 = nI ki ∧ (nI (ac + 128 * ki + 512 * fp + 32768 * ru) >>> ((9 : Int32) &&& 31)) &&& 63 = nI fp ∧ nI (ac + 128 * ki + 512 * fp + 32768 * ru) >>> ((15 : Int32) &&& 31) = nI ru := by
  refine ⟨?_, ?_, ?_, ?_⟩
  · rw [i127 (by omega)]; congr 1; omega
  · rw [s7 (by omega), i3 (by omega)]; congr 1; omega
  · rw [s9 (by omega), i63 (by omega)]; congr 1; omega
  · rw [s15 (by omega)]; congr 1; omega
theorem pd_v {f l b : Nat} (hf : f < 100) (hl : l < 100) (hb : b < 9) : nI (f + 128 * l + 16384 * b) &&& 127 = nI f ∧ (nI (f + 128 * l + 16384 * b) >>> ((7 : Int32) &&& 31)) &&& 127 = nI l ∧ nI (f + 128 * l + 16384 * b) >>> ((14 : Int32) &&& 31) = nI b := by
  refine ⟨?_, ?_, ?_⟩
  · rw [i127 (by omega)]; congr 1; omega
  · rw [s7 (by omega), i127 (by omega)]; congr 1; omega
  · rw [s14 (by omega)]; congr 1; omega

