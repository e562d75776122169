/-! The keeper over the abstract state (N, A): Inv0, and a contract a case. -/
def Inv0 (G : Gx) (X : Nat → Prop) (w0 : Wd) (kp : Nat) (N : Nat → Nat) (A : Nat → Nat → Int32) (w : Wd) : Prop := ∃ S, Kl G X w0 S w ∧ Lk S N A ∧ S.ad 0 0 = kp
theorem allB_congr {f g : Nat → Bool} : ∀ {n : Nat}, (∀ k, k < n → f k = g k) → allB f n = allB g n
  | 0, _ => rfl
  | n + 1, h => by
    show (allB f n && f n) = (allB g n && g n)
    rw [allB_congr (fun k hk => h k (by omega)), h n (Nat.lt_succ_self _)]
theorem fdn_congr {f g : Nat → Bool} {n : Nat} (h : ∀ k, k < n → f k = g k) : ∀ {c : Nat}, c ≤ n → fdn f n c = fdn g n c
  | 0, _ => rfl
  | c + 1, hc => by
    show (if f (n - (c + 1)) = true then nI (n - (c + 1)) else fdn f n c) = (if g (n - (c + 1)) = true then nI (n - (c + 1)) else fdn g n c)
    rw [h _ (by omega), fdn_congr h (by omega)]
theorem fC_congr {f g : Nat → Bool} {ix : Int32} {n : Nat} (h : ∀ k, k < n → f k = g k) : ∀ {c b : Nat}, c ≤ n → fC f ix n c b = fC g ix n c b
  | 0, _, _ => rfl
  | c + 1, b, hc => by
    show (if f (n - (c + 1)) = true then (if nI b = ix then nI (n - (c + 1)) else fC f ix n c (b + 1)) else fC f ix n c b) = (if g (n - (c + 1)) = true then (if nI b = ix then nI (n - (c + 1)) else fC g ix n c (b + 1)) else fC g ix n c b)
    rw [h _ (by omega), fC_congr h (by omega), fC_congr h (by omega)]
theorem cnB_congr {f g : Nat → Bool} : ∀ {n : Nat}, (∀ k, k < n → f k = g k) → cnB f n = cnB g n
  | 0, _ => rfl
  | n + 1, h => by
    show cnB f n + (if f n = true then 1 else 0) = cnB g n + (if g n = true then 1 else 0)
    rw [cnB_congr (fun k hk => h k (by omega)), h n (Nat.lt_succ_self _)]
theorem dec_sym {α : Type} (a b : α) {d1 : Decidable (a = b)} {d2 : Decidable (b = a)} : decide (a = b) = decide (b = a) := by
  by_cases h : a = b
  · rw [decide_eq_true h, decide_eq_true h.symm]
  · rw [decide_eq_false h, decide_eq_false (fun z => h z.symm)]
theorem nat_of {x lo hi : Int32} (h : inb x lo hi = true) (h0 : 0 ≤ lo) : ∃ j : Nat, j < 2 ^ 31 ∧ x = nI j := nI_of (fun z => (inb_t.mp h).1 (Int32.lt_of_lt_of_le z h0))
theorem nat_le {x lo hi : Int32} {n : Nat} (h : inb x lo hi = true) (h0 : 0 ≤ lo) (hn : hi = nI n) (hn2 : n < 2 ^ 31) : ∃ j : Nat, j ≤ n ∧ x = nI j := by
  obtain ⟨j, hj, rfl⟩ := nat_of h h0
  exact ⟨j, (nI_leI hj hn2).mp (hn ▸ (inb_t.mp h).2), rfl⟩
theorem isK_inb4 (x : Int32) : isK 4 x = inb x 0 3 := by
  unfold isK inb
  congr 1
  by_cases h : nI 4 ≤ x
  · rw [decide_eq_true h, decide_eq_false (fun z => absurd (Int32.le_trans h z) (by decide))]; rfl
  · rw [decide_eq_false h, decide_eq_true (show x ≤ 3 by
      rw [Int32.le_iff_toInt_le] at h ⊢
      have e1 : (nI 4).toInt = 4 := by decide
      have e2 : (3 : Int32).toInt = 3 := by decide
      omega)]; rfl
theorem isK_inb100 (x : Int32) : isK 100 x = inb x 0 99 := by
  unfold isK inb
  congr 1
  by_cases h : nI 100 ≤ x
  · rw [decide_eq_true h, decide_eq_false (fun z => absurd (Int32.le_trans h z) (by decide))]; rfl
  · rw [decide_eq_false h, decide_eq_true (show x ≤ 99 by
      rw [Int32.le_iff_toInt_le] at h ⊢
      have e1 : (nI 100).toInt = 100 := by decide
      have e2 : (99 : Int32).toInt = 99 := by decide
      omega)]; rfl
section Ops
variable {G : Gx} {X : Nat → Prop} {w0 w : Wd} {kp : Nat} {N : Nat → Nat} {A : Nat → Nat → Int32}
theorem cl_V {y : MethodName} {cw : Cond} {rm : Room} {As : List Value} {v v' : Int32} (h : Ct G y cw rm As w (PV (.int v) w)) (e : v = v') : Ct G y cw rm As w (PV (.int v') w) := e ▸ h
theorem cl_K {y : MethodName} {cw : Cond} {rm : Room} {As : List Value} {v v' : Int32} {T : KS} {N' : Nat → Nat} {A' : Nat → Nat → Int32} (h : Ct G y cw rm As w (PB (.int v) (fun w' => Kl G X w0 T w'))) (e : v = v') (hL : Lk T N' A') (ha : T.ad 0 0 = kp) : Ct G y cw rm As w (PB (.int v') (Inv0 G X w0 kp N' A')) := h.mono (fun r w' h => ⟨by rw [h.1, e], T, h.2, hL, ha⟩)
theorem cl_Q {y : MethodName} {cw : Cond} {rm : Room} {As : List Value} {v v' : Int32} {S T : KS} {N' : Nat → Nat} {A' : Nat → Nat → Int32} (h : Ct G y cw rm As w (PB (.int v) (KQ G X w0 S T))) (e : v = v') (hL : Lk T N' A') (ha : S.ad 0 0 = kp) : Ct G y cw rm As w (PB (.int v') (Inv0 G X w0 kp N' A')) := h.mono (fun r w' h => ⟨by rw [h.1, e], by obtain ⟨S', a1, a2, a3⟩ := h.2; exact ⟨S', a1, Lk_v a2 hL, a3.trans ha⟩⟩)
/-- what an end of the open run wants -/
theorem Lk.ko {S : KS} (hL : Lk S N A) (h7 : 0 < N 7) : KO S := by
  obtain ⟨hD, ⟨f1, f2, f3_, f4⟩, ⟨r1, r2, r3, r4, r5, r6, r7, r8⟩, ⟨p1, p2, p3, p4, p5, p6, p7, p8, p9, p10⟩, ⟨q1, q2, q3, q4⟩, -⟩ := hL
  have e : S.ln (S.oR + 4) = N 7 := by rw [r3, r7]
  refine ⟨by rw [r3, r1], r5, by omega, by omega, by omega, by omega, by rw [q1, q2], by omega, fun i hi => ?_⟩
  obtain ⟨g1, -, -, a, b, d, -, -, hd, -, -, g2⟩ := f4 i (by omega)
  rw [g1, g2]
  exact nI_pos' (by omega)
theorem Lk.fmOk {S : KS} (hL : Lk S N A) : ∃ la ka, la < 8 ∧ ka < 8 ∧ fmOk N A la ka := by
  obtain ⟨hD, ⟨f1, f2, f3_, f4⟩, -⟩ := hL
  cases hf : fmS A (nI (N 1)) (N 2) with
  | none => exact ⟨0, 1, by decide, by decide, Or.inl ⟨hf, rfl, rfl⟩⟩
  | some g =>
    obtain ⟨-, -, -, a, b, d, ha, hb, -, e1, e2, -⟩ := f4 g (fmS_lt hf)
    exact ⟨a, b, ha, hb, Or.inr ⟨g, hf, e1, e2⟩⟩
theorem Lk.runs {S : KS} (hL : Lk S N A) {r j : Nat} (hr : r < N 13) (hj : j < N 13) : rnC S r j = ruE A j r := by
  obtain ⟨hD, -, ⟨r1, r2, r3, r4, r5, r6, r7, r8⟩, ⟨p1, p2, p3, p4, p5, p6, p7, p8, p9, p10⟩, -⟩ := hL
  obtain ⟨a1, a2, a3, a4, a5⟩ := r8 r hr
  obtain ⟨b1, b2, b3, b4, b5⟩ := r8 j hj
  unfold rnC ruE
  rw [a1, a2, a3, b1, b2, b3, nI_clamp (by omega), nI_clamp (by omega), nI_clamp (by omega), dec_sym (S.rD r) (S.rD j), dec_sym (nI (S.ln (r + 4))) (nI (S.ln (j + 4)))]
  by_cases hl : nI (S.ln (j + 4)) = nI (S.ln (r + 4))
  · have hl2 := (nI_eq (by omega) (by omega)).mp hl
    congr 1
    rw [hl2]
    refine allB_congr (fun k hk => ?_)
    obtain ⟨c1, c2, -, c3, -⟩ := p10 (S.rF r + k) (by omega)
    obtain ⟨d1, d2, -, d3, -⟩ := p10 (S.rF j + k) (by omega)
    unfold pgC pgE
    rw [c2, d2, nI_clamp (by omega), dec_sym (nI (S.pS (S.rF r + k))) (nI (S.pS (S.rF j + k)))]
    by_cases hz : nI (S.pS (S.rF j + k)) = nI (S.pS (S.rF r + k))
    · have hz2 := (nI_eq (by omega) (by omega)).mp hz
      congr 1
      rw [hz2]
      refine allB_congr (fun m hm => ?_)
      unfold lno
      rw [c2, d2, if_pos (nI_lt hm (by omega)), if_pos (nI_lt (show m < S.pS (S.rF j + k) by omega) (by omega)), c3 m hm, d3 m (by omega)]
      exact dec_sym _ _
    · rw [decide_eq_false hz, Bool.false_and, Bool.false_and]
  · rw [decide_eq_false hl, Bool.and_false, Bool.false_and, Bool.false_and]
theorem clC_lk {S : KS} (hL : Lk S N A) : Lk (S.sdI (clC S (S.ln 2))) N (clA A (nI (N 1)) (N 17)) := by
  have hov := fun d hd => hL.over (d := d) hd
  obtain ⟨hD, hF, hR, hP, ⟨q1, q2, q3, q4⟩, hV⟩ := hL
  refine ⟨hD, hF, hR, hP, ⟨q1, q2, q3, fun d hd => ⟨(q4 d hd).1, ?_⟩⟩, hV⟩
  have h9 := (q4 d hd).2
  have hc := hov d hd
  unfold dRel at h9 ⊢
  show (∃ f n : Nat, clC S (S.ln 2) d 0 = nI f ∧ clC S (S.ln 2) d 3 = nI n ∧ A 18 d = nI (S.rF (S.dR d) + f) ∧ A 19 d = nI n ∧ f + n ≤ S.ln (S.dR d + 4)) ∧ A 20 d = clC S (S.ln 2) d 1 ∧ A 21 d = clC S (S.ln 2) d 2 ∧ A 22 d = S.rD (S.dR d) ∧ (if d < N 17 ∧ clB A (nI (N 1)) d = true then (1 : Int32) else A 23 d) = clC S (S.ln 2) d 4 ∧ (A 20 d = -1 ∨ ∃ a, a < 100 ∧ A 20 d = nI a) ∧ ∃ k, k < 4 ∧ A 21 d = nI k
  cases hb : clB A (nI (N 1)) d with
  | true =>
    have e : clC S (S.ln 2) d = upd (S.dI d) 4 1 := if_pos ⟨by omega, by rw [hc, hb]⟩
    rw [e, if_pos ⟨hd, rfl⟩]
    obtain ⟨g1, g2, g3, g4, g5, g6⟩ := h9
    exact ⟨g1, g2, g3, g4, rfl, g6⟩
  | false =>
    have e : clC S (S.ln 2) d = S.dI d := if_neg (fun z => by rw [hc, hb] at z; exact absurd z.2 (by decide))
    rw [e, if_neg (fun z => absurd z.2 (by decide))]
    exact h9
theorem Lk.buy {S : KS} (hL : Lk S N A) {r : Nat} (hr : r < 4) {y : Int32} : ∀ n, n ≤ N 17 → buC S r y n = buS A r y n
  | 0, _ => rfl
  | n + 1, hn => by
    have ih := Lk.buy hL hr (y := y) n (by omega)
    have hs := hL.sees hr (d := n) (by omega)
    obtain ⟨-, ⟨f, m, d0, d3, d18, e0, -⟩, e1, -⟩ := hL.2.2.2.2.1.2.2.2 n (by omega)
    show buC S r y n + (if buCP S r y n = true then S.dI n 3 else 0) = buS A r y n + (if buP A r y n = true then A 19 n else 0)
    have eP : buCP S r y n = buP A r y n := by
      unfold buCP buP
      rw [hs, e1, Bool.and_comm]
    rw [ih, eP, d3, e0]
theorem Lk.fnd {S : KS} (hL : Lk S N A) {r : Nat} (hr : r < 4) {ac ki dy : Int32} {d : Nat} (hd : d < N 17) : fnP S r ac ki dy d = fdP A r ac ki dy d := by
  have hs := hL.sees hr hd
  obtain ⟨-, -, e1, e2, e3, -⟩ := hL.2.2.2.2.1.2.2.2 d hd
  unfold fnP fdP fitB
  rw [hs, e1, e2, e3, dec_sym ac (S.dI d 1), dec_sym ki (S.dI d 2)]
theorem hasB_inb {s : Nat} (hs : s ≤ 8) (l : Int32) : hasB (nI s) l = inb l 0 (nI s - 1) := by
  by_cases h : l < 0
  · rw [inb_f.mpr (Or.inl h)]
    unfold hasB
    rw [decide_eq_true h]; rfl
  · obtain ⟨j, hj, rfl⟩ := nI_of h
    rw [hasB_n hs hj]
    by_cases hjs : j < s
    · rw [decide_eq_true hjs, (inb_lt (by omega)).mpr ⟨j, hjs, rfl⟩]
    · rw [decide_eq_false hjs]
      cases hb : inb (nI j) 0 (nI s - 1) with
      | false => rfl
      | true =>
        obtain ⟨j2, hj2, e⟩ := (inb_lt (by omega)).mp hb
        have := (nI_eq hj (by omega)).mp e
        omega
theorem kn_pass_a (hI : Inv0 G X w0 kp N A w) {x : Int32} (hb : inb x 1 1000 = false) : Ct G yX5_pass kw_X5_pass rm_X5_pass [.ref kp, .int x] w (PX "java/lang/IllegalArgumentException" w) := by
  obtain ⟨S, hK, hL, rfl⟩ := hI
  obtain ⟨hD, ⟨f1, f2, f3_, f4⟩, ⟨r1, r2, r3, r4, r5, r6, r7, r8⟩, ⟨p1, p2, p3, p4, p5, p6, p7, p8, p9, p10⟩, ⟨q1, q2, q3, q4⟩, ⟨v1, v2, v3, v4, v5⟩⟩ := id hL
  exact kt_pass_a hK hb
theorem kn_pass_b (hI : Inv0 G X w0 kp N A w) {j : Nat} (hb : inb (nI j) 1 1000 = true) (hj : j ≤ 1000) (h : 9999 < N 1 + j) : Ct G yX5_pass kw_X5_pass rm_X5_pass [.ref kp, .int (nI j)] w (PX "java/lang/IllegalStateException" w) := by
  obtain ⟨S, hK, hL, rfl⟩ := hI
  obtain ⟨hD, ⟨f1, f2, f3_, f4⟩, ⟨r1, r2, r3, r4, r5, r6, r7, r8⟩, ⟨p1, p2, p3, p4, p5, p6, p7, p8, p9, p10⟩, ⟨q1, q2, q3, q4⟩, ⟨v1, v2, v3, v4, v5⟩⟩ := id hL
  exact kt_pass_b hK hb (by rw [hD.1, nI_add]; have := hD.2.1; exact nI_ge (a := 9999) (by omega) (by omega))
theorem kn_pass_c (hI : Inv0 G X w0 kp N A w) {j : Nat} (hb : inb (nI j) 1 1000 = true) (hj : j ≤ 1000) (h : N 1 + j ≤ 9999) : Ct G yX5_pass kw_X5_pass rm_X5_pass [.ref kp, .int (nI j)] w (PB (.int (nI (N 1 + j))) (Inv0 G X w0 kp (updN N 1 (N 1 + j)) A)) := by
  obtain ⟨S, hK, hL, rfl⟩ := hI
  obtain ⟨hD, ⟨f1, f2, f3_, f4⟩, ⟨r1, r2, r3, r4, r5, r6, r7, r8⟩, ⟨p1, p2, p3, p4, p5, p6, p7, p8, p9, p10⟩, ⟨q1, q2, q3, q4⟩, ⟨v1, v2, v3, v4, v5⟩⟩ := id hL
  have hk := kt_pass_c hK hb (by rw [hD.1, nI_add]; exact nI_le (b := 9999) h (by decide))
  rw [show S.day + nI j = nI (N 1 + j) by rw [hD.1, nI_add]] at hk
  exact cl_K hk rfl (hL.pass h) rfl
theorem kn_format_a1 (hI : Inv0 G X w0 kp N A w) {x y z : Int32} (h1 : inb x 0 9999 = false) : Ct G yX5_format kw_X5_format rm_X5_format [.ref kp, .int x, .int y, .int z] w (PX "java/lang/IllegalArgumentException" w) := by
  obtain ⟨S, hK, hL, rfl⟩ := hI
  obtain ⟨hD, ⟨f1, f2, f3_, f4⟩, ⟨r1, r2, r3, r4, r5, r6, r7, r8⟩, ⟨p1, p2, p3, p4, p5, p6, p7, p8, p9, p10⟩, ⟨q1, q2, q3, q4⟩, ⟨v1, v2, v3, v4, v5⟩⟩ := id hL
  exact kt_format_a1 hK h1
theorem kn_format_a2 (hI : Inv0 G X w0 kp N A w) {x y z : Int32} (h1 : inb x 0 9999 = true) (h2 : inb y 0 7 = false) : Ct G yX5_format kw_X5_format rm_X5_format [.ref kp, .int x, .int y, .int z] w (PX "java/lang/IllegalArgumentException" w) := by
  obtain ⟨S, hK, hL, rfl⟩ := hI
  obtain ⟨hD, ⟨f1, f2, f3_, f4⟩, ⟨r1, r2, r3, r4, r5, r6, r7, r8⟩, ⟨p1, p2, p3, p4, p5, p6, p7, p8, p9, p10⟩, ⟨q1, q2, q3, q4⟩, ⟨v1, v2, v3, v4, v5⟩⟩ := id hL
  exact kt_format_a2 hK h1 h2
theorem kn_format_a3 (hI : Inv0 G X w0 kp N A w) {x y z : Int32} (h1 : inb x 0 9999 = true) (h2 : inb y 0 7 = true) (h3 : inb z 0 7 = false) : Ct G yX5_format kw_X5_format rm_X5_format [.ref kp, .int x, .int y, .int z] w (PX "java/lang/IllegalArgumentException" w) := by
  obtain ⟨S, hK, hL, rfl⟩ := hI
  obtain ⟨hD, ⟨f1, f2, f3_, f4⟩, ⟨r1, r2, r3, r4, r5, r6, r7, r8⟩, ⟨p1, p2, p3, p4, p5, p6, p7, p8, p9, p10⟩, ⟨q1, q2, q3, q4⟩, ⟨v1, v2, v3, v4, v5⟩⟩ := id hL
  exact kt_format_a3 hK h1 h2 h3
theorem kn_format_b (hI : Inv0 G X w0 kp N A w) {a b d : Nat} (ha : a < 10000) (hb : b < 8) (hd : d < 8) (h : N 2 = 10) : Ct G yX5_format kw_X5_format rm_X5_format [.ref kp, .int (nI a), .int (nI b), .int (nI d)] w (PX "java/lang/IllegalStateException" w) := by
  obtain ⟨S, hK, hL, rfl⟩ := hI
  obtain ⟨hD, ⟨f1, f2, f3_, f4⟩, ⟨r1, r2, r3, r4, r5, r6, r7, r8⟩, ⟨p1, p2, p3, p4, p5, p6, p7, p8, p9, p10⟩, ⟨q1, q2, q3, q4⟩, ⟨v1, v2, v3, v4, v5⟩⟩ := id hL
  exact kt_format_b hK (inb_nI (n := 9999) (by omega) (by decide)) (inb_nI (n := 7) (by omega) (by decide)) (inb_nI (n := 7) (by omega) (by decide)) (by omega)
theorem kn_format_c (hI : Inv0 G X w0 kp N A w) {a b d : Nat} (ha : a < 10000) (hb : b < 8) (hd : d < 8) (h : N 2 < 10) : Ct G yX5_format kw_X5_format rm_X5_format [.ref kp, .int (nI a), .int (nI b), .int (nI d)] w (PB (.int (nI (N 2 + 1))) (Inv0 G X w0 kp (updN N 2 (N 2 + 1)) (updA (updA (updA A 3 (N 2) (nI a)) 4 (N 2) (nI b)) 5 (N 2) (nI d)))) := by
  obtain ⟨S, hK, hL, rfl⟩ := hI
  obtain ⟨hD, ⟨f1, f2, f3_, f4⟩, ⟨r1, r2, r3, r4, r5, r6, r7, r8⟩, ⟨p1, p2, p3, p4, p5, p6, p7, p8, p9, p10⟩, ⟨q1, q2, q3, q4⟩, ⟨v1, v2, v3, v4, v5⟩⟩ := id hL
  exact cl_Q (kt_format_c hK (inb_nI (n := 9999) (by omega) (by decide)) (inb_nI (n := 7) (by omega) (by decide)) (inb_nI (n := 7) (by omega) (by decide)) (by omega) (by omega)) (by rw [f1]) (hL.format ha hb hd h) rfl
theorem kn_line_a (hI : Inv0 G X w0 kp N A w) {x : Int32} (h1 : inb x 0 99 = false) : Ct G yX5_line kw_X5_line rm_X5_line [.ref kp, .int x] w (PX "java/lang/IllegalArgumentException" w) := by
  obtain ⟨S, hK, hL, rfl⟩ := hI
  obtain ⟨hD, ⟨f1, f2, f3_, f4⟩, ⟨r1, r2, r3, r4, r5, r6, r7, r8⟩, ⟨p1, p2, p3, p4, p5, p6, p7, p8, p9, p10⟩, ⟨q1, q2, q3, q4⟩, ⟨v1, v2, v3, v4, v5⟩⟩ := id hL
  exact kt_line_a hK h1
theorem kn_line_b (hI : Inv0 G X w0 kp N A w) {a : Nat} (ha : a < 100) (h : N 10 = 8) : Ct G yX5_line kw_X5_line rm_X5_line [.ref kp, .int (nI a)] w (PX "java/lang/IllegalStateException" w) := by
  obtain ⟨S, hK, hL, rfl⟩ := hI
  obtain ⟨hD, ⟨f1, f2, f3_, f4⟩, ⟨r1, r2, r3, r4, r5, r6, r7, r8⟩, ⟨p1, p2, p3, p4, p5, p6, p7, p8, p9, p10⟩, ⟨q1, q2, q3, q4⟩, ⟨v1, v2, v3, v4, v5⟩⟩ := id hL
  exact kt_line_b hK (inb_nI (n := 99) (by omega) (by decide)) (by rw [p3, p5]; exact h)
theorem kn_line_c (hI : Inv0 G X w0 kp N A w) {a : Nat} (ha : a < 100) (h : N 10 < 8) : Ct G yX5_line kw_X5_line rm_X5_line [.ref kp, .int (nI a)] w (PB (.int (nI (N 10 + 1))) (Inv0 G X w0 kp (updN N 10 (N 10 + 1)) (updA A 11 (N 10) (nI a)))) := by
  obtain ⟨S, hK, hL, rfl⟩ := hI
  obtain ⟨hD, ⟨f1, f2, f3_, f4⟩, ⟨r1, r2, r3, r4, r5, r6, r7, r8⟩, ⟨p1, p2, p3, p4, p5, p6, p7, p8, p9, p10⟩, ⟨q1, q2, q3, q4⟩, ⟨v1, v2, v3, v4, v5⟩⟩ := id hL
  exact cl_K (kt_line_c hK (inb_nI (n := 99) (by omega) (by decide)) (by rw [p3, p5]; exact h)) (by rw [p3, p5]) (hL.line ha h) rfl
theorem kn_feed (hI : Inv0 G X w0 kp N A w) (h : N 6 + N 7 + 1 ≤ 120) : Ct G yX5_feed kw_X5_feed rm_X5_feed [.ref kp] w (PB (.int (nI (N 7 + 1))) (Inv0 G X w0 kp (ePN N) (ePA N A))) := by
  obtain ⟨S, hK, hL, rfl⟩ := hI
  obtain ⟨hD, ⟨f1, f2, f3_, f4⟩, ⟨r1, r2, r3, r4, r5, r6, r7, r8⟩, ⟨p1, p2, p3, p4, p5, p6, p7, p8, p9, p10⟩, ⟨q1, q2, q3, q4⟩, ⟨v1, v2, v3, v4, v5⟩⟩ := id hL
  have e : S.kept + nI (S.ln (S.oR + 4)) + 1 = nI (N 6 + N 7 + 1) := by rw [hD.2.2, r3, r7, nI_add, nI_1]
  exact cl_Q (kt_feed_b hK (by rw [e]; exact nI_le h (by decide)) (by rw [p3, r3, r6, r7]) p2.symm (by rw [r3, r7]; omega)) (by rw [r3, r7]) (hL.feed h) rfl
theorem kn_end_a (hI : Inv0 G X w0 kp N A w) (h : (N 10 = 0 ∧ N 7 = 0) ∨ N 13 = 15) : Ct G yX5_end kw_X5_end rm_X5_end [.ref kp] w (PX "java/lang/IllegalStateException" w) := by
  obtain ⟨S, hK, hL, rfl⟩ := hI
  obtain ⟨hD, ⟨f1, f2, f3_, f4⟩, ⟨r1, r2, r3, r4, r5, r6, r7, r8⟩, ⟨p1, p2, p3, p4, p5, p6, p7, p8, p9, p10⟩, ⟨q1, q2, q3, q4⟩, ⟨v1, v2, v3, v4, v5⟩⟩ := id hL
  have eL : S.ln (S.oR + 4) = N 7 := by rw [r3, r7]
  have eS : S.pS S.oP = N 10 := by rw [p3, p5]
  by_cases h0 : N 10 = 0
  · have hE : decide (nI (S.pS S.oP) = 0) = true := by rw [eS, h0]; rfl
    by_cases h7 : N 7 = 0
    · exact kt_end_a0 hK hE (by rw [eL]; exact h7)
    · exact kt_end_a1n hK hE (by omega) (by omega)
  · have hE : decide (nI (S.pS S.oP) = 0) = false := by
      rw [eS]
      exact decide_eq_false (fun z => h0 ((nI_eq (b := 0) (by omega) (by decide)).mp z))
    exact kt_end_a1y hK hE (by omega)
theorem kn_end_n (hI : Inv0 G X w0 kp N A w) {la ka : Nat} (hla : la < 8) (hka : ka < 8) (hfm : fmOk N A la ka) (h0 : N 10 = 0) (h7 : 0 < N 7) (h13 : N 13 < 15) : Ct G yX5_end kw_X5_end rm_X5_end [.ref kp] w (PB (.int (nI (N 13))) (Inv0 G X w0 kp (edS la ka (N, A)).1 (edS la ka (N, A)).2)) := by
  obtain ⟨S, hK, hL, rfl⟩ := hI
  obtain ⟨hD, ⟨f1, f2, f3_, f4⟩, ⟨r1, r2, r3, r4, r5, r6, r7, r8⟩, ⟨p1, p2, p3, p4, p5, p6, p7, p8, p9, p10⟩, ⟨q1, q2, q3, q4⟩, ⟨v1, v2, v3, v4, v5⟩⟩ := id hL
  have eL : S.ln (S.oR + 4) = N 7 := by rw [r3, r7]
  have eS : S.pS S.oP = N 10 := by rw [p3, p5]
  have hE : decide (nI (S.pS S.oP) = 0) = true := by rw [eS, h0]; rfl
  have e : ∀ n, S.kept + nI n = nI (N 6 + n) := fun n => by rw [hD.2.2, nI_add]
  have hk := kt_end_n hK hE (hL.ko h7) (by omega) (by rw [eL, e]; exact nI_le p4 (by decide))
  exact cl_Q hk (by rw [r1]) (hL.ended hla hka hfm h0 h7 h13) rfl
theorem kn_end_y (hI : Inv0 G X w0 kp N A w) {la ka : Nat} (hla : la < 8) (hka : ka < 8) (hfm : fmOk N A la ka) (h0 : ¬ N 10 = 0) (h6 : N 6 + N 7 + 1 ≤ 120) (h13 : N 13 < 15) : Ct G yX5_end kw_X5_end rm_X5_end [.ref kp] w (PB (.int (nI (N 13))) (Inv0 G X w0 kp (edS la ka (ePN N, ePA N A)).1 (edS la ka (ePN N, ePA N A)).2)) := by
  obtain ⟨S, hK, hL, rfl⟩ := hI
  obtain ⟨hD, ⟨f1, f2, f3_, f4⟩, ⟨r1, r2, r3, r4, r5, r6, r7, r8⟩, ⟨p1, p2, p3, p4, p5, p6, p7, p8, p9, p10⟩, ⟨q1, q2, q3, q4⟩, ⟨v1, v2, v3, v4, v5⟩⟩ := id hL
  have eL : S.ln (S.oR + 4) = N 7 := by rw [r3, r7]
  have eS : S.pS S.oP = N 10 := by rw [p3, p5]
  have hE : decide (nI (S.pS S.oP) = 0) = false := by
    rw [eS]
    exact decide_eq_false (fun z => h0 ((nI_eq (b := 0) (by omega) (by decide)).mp z))
  have e : ∀ n, S.kept + nI n = nI (N 6 + n) := fun n => by rw [hD.2.2, nI_add]
  have hL2 := hL.feed h6
  have hk := kt_end_y hK hE (by rw [p3, r3, r6, r7]) p2.symm (by rw [r3, r7]; omega) (hL2.ko (Nat.succ_pos _)) (by omega) (by rw [eL, e]; exact nI_le (by omega) (by decide))
  exact cl_Q hk (by rw [r1]) (hL2.ended hla hka (fmOk_eP hfm) rfl (Nat.succ_pos _) h13) rfl
theorem kn_documents (hI : Inv0 G X w0 kp N A w)  : Ct G yX5_documents kw_X5_documents rm_X5_documents [.ref kp] w (PV (.int (nI (N 17))) w) := by
  obtain ⟨S, hK, hL, rfl⟩ := hI
  obtain ⟨hD, ⟨f1, f2, f3_, f4⟩, ⟨r1, r2, r3, r4, r5, r6, r7, r8⟩, ⟨p1, p2, p3, p4, p5, p6, p7, p8, p9, p10⟩, ⟨q1, q2, q3, q4⟩, ⟨v1, v2, v3, v4, v5⟩⟩ := id hL
  exact cl_V (kt_documents hK) (by rw [q1])
theorem kn_isThere_a (hI : Inv0 G X w0 kp N A w) {x : Int32} (h : inb x 0 (nI (N 17) - 1) = false) : Ct G yX5_isThere kw_X5_isThere rm_X5_isThere [.ref kp, .int x] w (PX "java/lang/IndexOutOfBoundsException" w) := by
  obtain ⟨S, hK, hL, rfl⟩ := hI
  obtain ⟨hD, ⟨f1, f2, f3_, f4⟩, ⟨r1, r2, r3, r4, r5, r6, r7, r8⟩, ⟨p1, p2, p3, p4, p5, p6, p7, p8, p9, p10⟩, ⟨q1, q2, q3, q4⟩, ⟨v1, v2, v3, v4, v5⟩⟩ := id hL
  exact kt_isThere_a hK (by rw [q1]; exact h)
theorem kn_account_a (hI : Inv0 G X w0 kp N A w) {x : Int32} (h : inb x 0 (nI (N 17) - 1) = false) : Ct G yX5_account kw_X5_account rm_X5_account [.ref kp, .int x] w (PX "java/lang/IndexOutOfBoundsException" w) := by
  obtain ⟨S, hK, hL, rfl⟩ := hI
  obtain ⟨hD, ⟨f1, f2, f3_, f4⟩, ⟨r1, r2, r3, r4, r5, r6, r7, r8⟩, ⟨p1, p2, p3, p4, p5, p6, p7, p8, p9, p10⟩, ⟨q1, q2, q3, q4⟩, ⟨v1, v2, v3, v4, v5⟩⟩ := id hL
  exact kt_account_a hK (by rw [q1]; exact h)
theorem kn_kind_a (hI : Inv0 G X w0 kp N A w) {x : Int32} (h : inb x 0 (nI (N 17) - 1) = false) : Ct G yX5_kind kw_X5_kind rm_X5_kind [.ref kp, .int x] w (PX "java/lang/IndexOutOfBoundsException" w) := by
  obtain ⟨S, hK, hL, rfl⟩ := hI
  obtain ⟨hD, ⟨f1, f2, f3_, f4⟩, ⟨r1, r2, r3, r4, r5, r6, r7, r8⟩, ⟨p1, p2, p3, p4, p5, p6, p7, p8, p9, p10⟩, ⟨q1, q2, q3, q4⟩, ⟨v1, v2, v3, v4, v5⟩⟩ := id hL
  exact kt_kind_a hK (by rw [q1]; exact h)
theorem kn_length_a (hI : Inv0 G X w0 kp N A w) {x : Int32} (h : inb x 0 (nI (N 17) - 1) = false) : Ct G yX5_length kw_X5_length rm_X5_length [.ref kp, .int x] w (PX "java/lang/IndexOutOfBoundsException" w) := by
  obtain ⟨S, hK, hL, rfl⟩ := hI
  obtain ⟨hD, ⟨f1, f2, f3_, f4⟩, ⟨r1, r2, r3, r4, r5, r6, r7, r8⟩, ⟨p1, p2, p3, p4, p5, p6, p7, p8, p9, p10⟩, ⟨q1, q2, q3, q4⟩, ⟨v1, v2, v3, v4, v5⟩⟩ := id hL
  exact kt_length_a hK (by rw [q1]; exact h)
theorem kn_isThere_b (hI : Inv0 G X w0 kp N A w) {j : Nat} (hj : j < N 17) : Ct G yX5_isThere kw_X5_isThere rm_X5_isThere [.ref kp, .int (nI j)] w (PV (.int (bI (decide (A 23 j = 0)))) w) := by
  obtain ⟨S, hK, hL, rfl⟩ := hI
  obtain ⟨hD, ⟨f1, f2, f3_, f4⟩, ⟨r1, r2, r3, r4, r5, r6, r7, r8⟩, ⟨p1, p2, p3, p4, p5, p6, p7, p8, p9, p10⟩, ⟨q1, q2, q3, q4⟩, ⟨v1, v2, v3, v4, v5⟩⟩ := id hL
  obtain ⟨-, ⟨f, n, d0, d3, d18, e0, -⟩, e1, e2, e3, e4, -⟩ := q4 j hj
  exact cl_V (kt_isThere_b hK (by omega)) (by rw [e4])
theorem kn_account_b (hI : Inv0 G X w0 kp N A w) {j : Nat} (hj : j < N 17) : Ct G yX5_account kw_X5_account rm_X5_account [.ref kp, .int (nI j)] w (PV (.int (A 20 j)) w) := by
  obtain ⟨S, hK, hL, rfl⟩ := hI
  obtain ⟨hD, ⟨f1, f2, f3_, f4⟩, ⟨r1, r2, r3, r4, r5, r6, r7, r8⟩, ⟨p1, p2, p3, p4, p5, p6, p7, p8, p9, p10⟩, ⟨q1, q2, q3, q4⟩, ⟨v1, v2, v3, v4, v5⟩⟩ := id hL
  obtain ⟨-, ⟨f, n, d0, d3, d18, e0, -⟩, e1, e2, e3, e4, -⟩ := q4 j hj
  exact cl_V (kt_account_b hK (by omega)) e1.symm
theorem kn_kind_b (hI : Inv0 G X w0 kp N A w) {j : Nat} (hj : j < N 17) : Ct G yX5_kind kw_X5_kind rm_X5_kind [.ref kp, .int (nI j)] w (PV (.int (A 21 j)) w) := by
  obtain ⟨S, hK, hL, rfl⟩ := hI
  obtain ⟨hD, ⟨f1, f2, f3_, f4⟩, ⟨r1, r2, r3, r4, r5, r6, r7, r8⟩, ⟨p1, p2, p3, p4, p5, p6, p7, p8, p9, p10⟩, ⟨q1, q2, q3, q4⟩, ⟨v1, v2, v3, v4, v5⟩⟩ := id hL
  obtain ⟨-, ⟨f, n, d0, d3, d18, e0, -⟩, e1, e2, e3, e4, -⟩ := q4 j hj
  exact cl_V (kt_kind_b hK (by omega)) e2.symm
theorem kn_length_b (hI : Inv0 G X w0 kp N A w) {j : Nat} (hj : j < N 17) : Ct G yX5_length kw_X5_length rm_X5_length [.ref kp, .int (nI j)] w (PV (.int (A 19 j)) w) := by
  obtain ⟨S, hK, hL, rfl⟩ := hI
  obtain ⟨hD, ⟨f1, f2, f3_, f4⟩, ⟨r1, r2, r3, r4, r5, r6, r7, r8⟩, ⟨p1, p2, p3, p4, p5, p6, p7, p8, p9, p10⟩, ⟨q1, q2, q3, q4⟩, ⟨v1, v2, v3, v4, v5⟩⟩ := id hL
  obtain ⟨-, ⟨f, n, d0, d3, d18, e0, -⟩, e1, e2, e3, e4, -⟩ := q4 j hj
  exact cl_V (kt_length_b hK (by omega)) (by rw [d3, e0])
theorem kn_pages_a (hI : Inv0 G X w0 kp N A w) {x : Int32} (h : inb x 0 (nI (N 13) - 1) = false) : Ct G yX5_pages kw_X5_pages rm_X5_pages [.ref kp, .int x] w (PX "java/lang/IndexOutOfBoundsException" w) := by
  obtain ⟨S, hK, hL, rfl⟩ := hI
  obtain ⟨hD, ⟨f1, f2, f3_, f4⟩, ⟨r1, r2, r3, r4, r5, r6, r7, r8⟩, ⟨p1, p2, p3, p4, p5, p6, p7, p8, p9, p10⟩, ⟨q1, q2, q3, q4⟩, ⟨v1, v2, v3, v4, v5⟩⟩ := id hL
  exact kt_pages_a hK (by rw [r1]; exact h)
theorem kn_twice_a (hI : Inv0 G X w0 kp N A w) {x : Int32} (h : inb x 0 (nI (N 13) - 1) = false) : Ct G yX5_twice kw_X5_twice rm_X5_twice [.ref kp, .int x] w (PX "java/lang/IndexOutOfBoundsException" w) := by
  obtain ⟨S, hK, hL, rfl⟩ := hI
  obtain ⟨hD, ⟨f1, f2, f3_, f4⟩, ⟨r1, r2, r3, r4, r5, r6, r7, r8⟩, ⟨p1, p2, p3, p4, p5, p6, p7, p8, p9, p10⟩, ⟨q1, q2, q3, q4⟩, ⟨v1, v2, v3, v4, v5⟩⟩ := id hL
  exact kt_twice_a hK (by rw [r1]; exact h)
theorem kn_copies_a (hI : Inv0 G X w0 kp N A w) {x y : Int32} (h : inb x 0 (nI (N 13) - 1) = false) : Ct G yX5_copies kw_X5_copies rm_X5_copies [.ref kp, .int x, .int y] w (PX "java/lang/IndexOutOfBoundsException" w) := by
  obtain ⟨S, hK, hL, rfl⟩ := hI
  obtain ⟨hD, ⟨f1, f2, f3_, f4⟩, ⟨r1, r2, r3, r4, r5, r6, r7, r8⟩, ⟨p1, p2, p3, p4, p5, p6, p7, p8, p9, p10⟩, ⟨q1, q2, q3, q4⟩, ⟨v1, v2, v3, v4, v5⟩⟩ := id hL
  exact kt_copies_a hK (by rw [r1]; exact h)
theorem kn_reprint_a (hI : Inv0 G X w0 kp N A w) {x y z : Int32} (h : inb x 0 (nI (N 13) - 1) = false) : Ct G yX5_reprint kw_X5_reprint rm_X5_reprint [.ref kp, .int x, .int y, .int z] w (PX "java/lang/IndexOutOfBoundsException" w) := by
  obtain ⟨S, hK, hL, rfl⟩ := hI
  obtain ⟨hD, ⟨f1, f2, f3_, f4⟩, ⟨r1, r2, r3, r4, r5, r6, r7, r8⟩, ⟨p1, p2, p3, p4, p5, p6, p7, p8, p9, p10⟩, ⟨q1, q2, q3, q4⟩, ⟨v1, v2, v3, v4, v5⟩⟩ := id hL
  exact kt_reprint_a hK (by rw [r1]; exact h)
theorem kn_pages_b (hI : Inv0 G X w0 kp N A w) {j : Nat} (hj : j < N 13) : Ct G yX5_pages kw_X5_pages rm_X5_pages [.ref kp, .int (nI j)] w (PV (.int (A 16 j)) w) := by
  obtain ⟨S, hK, hL, rfl⟩ := hI
  obtain ⟨hD, ⟨f1, f2, f3_, f4⟩, ⟨r1, r2, r3, r4, r5, r6, r7, r8⟩, ⟨p1, p2, p3, p4, p5, p6, p7, p8, p9, p10⟩, ⟨q1, q2, q3, q4⟩, ⟨v1, v2, v3, v4, v5⟩⟩ := id hL
  exact cl_V (kt_pages_b hK (by omega)) (r8 j hj).2.2.1.symm
theorem kn_twice_b (hI : Inv0 G X w0 kp N A w) {j : Nat} (hj : j < N 13) : Ct G yX5_twice kw_X5_twice rm_X5_twice [.ref kp, .int (nI j)] w (PV (.int (fdn (fun r => ruE A r j) j j)) w) := by
  obtain ⟨S, hK, hL, rfl⟩ := hI
  obtain ⟨hD, ⟨f1, f2, f3_, f4⟩, ⟨r1, r2, r3, r4, r5, r6, r7, r8⟩, ⟨p1, p2, p3, p4, p5, p6, p7, p8, p9, p10⟩, ⟨q1, q2, q3, q4⟩, ⟨v1, v2, v3, v4, v5⟩⟩ := id hL
  have h8 : ∀ p, p < S.nn 6 → S.pS p ≤ 8 := fun p hp => by
    by_cases e : p = N 6 + N 7
    · rw [e, p5]; exact p6
    · exact (p10 p (by omega)).1
  refine cl_V (kt_twice_b hK (by omega) h8) (fdn_congr (fun k hk => ?_) (Nat.le_refl _))
  exact hL.runs hj (by omega)
theorem kn_copies_b (hI : Inv0 G X w0 kp N A w) {j m : Nat} {y : Int32} (hj : j < N 13) (hm : A 16 j = nI m) (hb : inb y 0 (nI m - 1) = false) : Ct G yX5_copies kw_X5_copies rm_X5_copies [.ref kp, .int (nI j), .int y] w (PX "java/lang/IndexOutOfBoundsException" w) := by
  obtain ⟨S, hK, hL, rfl⟩ := hI
  obtain ⟨hD, ⟨f1, f2, f3_, f4⟩, ⟨r1, r2, r3, r4, r5, r6, r7, r8⟩, ⟨p1, p2, p3, p4, p5, p6, p7, p8, p9, p10⟩, ⟨q1, q2, q3, q4⟩, ⟨v1, v2, v3, v4, v5⟩⟩ := id hL
  obtain ⟨c1, c2, c3, c4, c5⟩ := r8 j hj
  exact kt_copies_b hK (by omega) (by rw [← c3, hm]; exact hb)
theorem kn_copies_c (hI : Inv0 G X w0 kp N A w) {j f m g : Nat} (hj : j < N 13) (hf : A 15 j = nI f) (hf2 : f < 1000) (hm : A 16 j = nI m) (hm2 : m < 1000) (hg : g < m) : Ct G yX5_copies kw_X5_copies rm_X5_copies [.ref kp, .int (nI j), .int (nI g)] w (PV (.int (A 12 (f + g))) w) := by
  obtain ⟨S, hK, hL, rfl⟩ := hI
  obtain ⟨hD, ⟨f1, f2, f3_, f4⟩, ⟨r1, r2, r3, r4, r5, r6, r7, r8⟩, ⟨p1, p2, p3, p4, p5, p6, p7, p8, p9, p10⟩, ⟨q1, q2, q3, q4⟩, ⟨v1, v2, v3, v4, v5⟩⟩ := id hL
  obtain ⟨c1, c2, c3, c4, c5⟩ := r8 j hj
  have e1 : f = S.rF j := (nI_eq (by omega) (by omega)).mp (hf.symm.trans c2)
  have e2 : m = S.ln (j + 4) := (nI_eq (by omega) (by omega)).mp (hm.symm.trans c3)
  rw [e1]
  exact cl_V (kt_copies_c hK (by omega) (by omega)) (p10 _ (by omega)).2.2.1.symm
theorem kn_reprint_b (hI : Inv0 G X w0 kp N A w) {j m : Nat} {y z : Int32} (hj : j < N 13) (hm : A 16 j = nI m) (hb : inb y 0 (nI m - 1) = false) : Ct G yX5_reprint kw_X5_reprint rm_X5_reprint [.ref kp, .int (nI j), .int y, .int z] w (PX "java/lang/IndexOutOfBoundsException" w) := by
  obtain ⟨S, hK, hL, rfl⟩ := hI
  obtain ⟨hD, ⟨f1, f2, f3_, f4⟩, ⟨r1, r2, r3, r4, r5, r6, r7, r8⟩, ⟨p1, p2, p3, p4, p5, p6, p7, p8, p9, p10⟩, ⟨q1, q2, q3, q4⟩, ⟨v1, v2, v3, v4, v5⟩⟩ := id hL
  obtain ⟨c1, c2, c3, c4, c5⟩ := r8 j hj
  exact kt_reprint_b hK (by omega) (by rw [← c3, hm]; exact hb)
theorem kn_reprint_c (hI : Inv0 G X w0 kp N A w) {j m g : Nat} {z : Int32} (hj : j < N 13) (hm : A 16 j = nI m) (hm2 : m < 1000) (hg : g < m) (hz : inb z 1 9 = false) : Ct G yX5_reprint kw_X5_reprint rm_X5_reprint [.ref kp, .int (nI j), .int (nI g), .int z] w (PX "java/lang/IllegalArgumentException" w) := by
  obtain ⟨S, hK, hL, rfl⟩ := hI
  obtain ⟨hD, ⟨f1, f2, f3_, f4⟩, ⟨r1, r2, r3, r4, r5, r6, r7, r8⟩, ⟨p1, p2, p3, p4, p5, p6, p7, p8, p9, p10⟩, ⟨q1, q2, q3, q4⟩, ⟨v1, v2, v3, v4, v5⟩⟩ := id hL
  obtain ⟨c1, c2, c3, c4, c5⟩ := r8 j hj
  have e2 : m = S.ln (j + 4) := (nI_eq (by omega) (by omega)).mp (hm.symm.trans c3)
  exact kt_reprint_c hK (by omega) (by omega) hz
theorem kn_reprint_d (hI : Inv0 G X w0 kp N A w) {j f m g c : Nat} (hj : j < N 13) (hf : A 15 j = nI f) (hf2 : f < 1000) (hm : A 16 j = nI m) (hm2 : m < 1000) (hg : g < m) (hc1 : 1 ≤ c) (hc9 : c ≤ 9) : Ct G yX5_reprint kw_X5_reprint rm_X5_reprint [.ref kp, .int (nI j), .int (nI g), .int (nI c)] w (PB (.int (nI (c * (m - g)))) (Inv0 G X w0 kp N (rpA A f g m (nI c)))) := by
  obtain ⟨S, hK, hL, rfl⟩ := hI
  obtain ⟨hD, ⟨f1, f2, f3_, f4⟩, ⟨r1, r2, r3, r4, r5, r6, r7, r8⟩, ⟨p1, p2, p3, p4, p5, p6, p7, p8, p9, p10⟩, ⟨q1, q2, q3, q4⟩, ⟨v1, v2, v3, v4, v5⟩⟩ := id hL
  obtain ⟨c1, c2, c3, c4, c5⟩ := r8 j hj
  have e1 : f = S.rF j := (nI_eq (by omega) (by omega)).mp (hf.symm.trans c2)
  have e2 : m = S.ln (j + 4) := (nI_eq (by omega) (by omega)).mp (hm.symm.trans c3)
  have hz : inb (nI c) 1 9 = true := inb_t.mpr ⟨fun z => absurd ((nI_ltI (b := 1) (by omega) (by decide)).mp z) (by omega), (nI_leI (b := 9) (by omega) (by decide)).mpr hc9⟩
  rw [e1, e2]
  exact cl_K (kt_reprint_d hK (by omega) (by omega) hc9 hz) rfl (hL.reprint hj) rfl
theorem kn_found_a1 (hI : Inv0 G X w0 kp N A w) {x ac ki dy ix : Int32} (h : inb x 0 3 = false) : Ct G yX5_found kw_X5_found rm_X5_found [.ref kp, .int x, .int ac, .int ki, .int dy, .int ix] w (PX "java/lang/IllegalArgumentException" w) := by
  obtain ⟨S, hK, hL, rfl⟩ := hI
  obtain ⟨hD, ⟨f1, f2, f3_, f4⟩, ⟨r1, r2, r3, r4, r5, r6, r7, r8⟩, ⟨p1, p2, p3, p4, p5, p6, p7, p8, p9, p10⟩, ⟨q1, q2, q3, q4⟩, ⟨v1, v2, v3, v4, v5⟩⟩ := id hL
  exact kt_found_a1 hK (by rw [v1]; exact h)
theorem kn_found_a2 (hI : Inv0 G X w0 kp N A w) {j : Nat} {ac ki dy ix : Int32} (hj : j < 4) (h1 : inb ac (-1) 99 = false) : Ct G yX5_found kw_X5_found rm_X5_found [.ref kp, .int (nI j), .int ac, .int ki, .int dy, .int ix] w (PX "java/lang/IllegalArgumentException" w) := by
  obtain ⟨S, hK, hL, rfl⟩ := hI
  obtain ⟨hD, ⟨f1, f2, f3_, f4⟩, ⟨r1, r2, r3, r4, r5, r6, r7, r8⟩, ⟨p1, p2, p3, p4, p5, p6, p7, p8, p9, p10⟩, ⟨q1, q2, q3, q4⟩, ⟨v1, v2, v3, v4, v5⟩⟩ := id hL
  exact kt_found_a2 hK (by omega) h1
theorem kn_found_a3 (hI : Inv0 G X w0 kp N A w) {j : Nat} {ac ki dy ix : Int32} (hj : j < 4) (h1 : inb ac (-1) 99 = true) (h2 : inb ki (-1) 3 = false) : Ct G yX5_found kw_X5_found rm_X5_found [.ref kp, .int (nI j), .int ac, .int ki, .int dy, .int ix] w (PX "java/lang/IllegalArgumentException" w) := by
  obtain ⟨S, hK, hL, rfl⟩ := hI
  obtain ⟨hD, ⟨f1, f2, f3_, f4⟩, ⟨r1, r2, r3, r4, r5, r6, r7, r8⟩, ⟨p1, p2, p3, p4, p5, p6, p7, p8, p9, p10⟩, ⟨q1, q2, q3, q4⟩, ⟨v1, v2, v3, v4, v5⟩⟩ := id hL
  exact kt_found_a3 hK (by omega) h1 h2
theorem kn_found_a4 (hI : Inv0 G X w0 kp N A w) {j : Nat} {ac ki dy ix : Int32} (hj : j < 4) (h1 : inb ac (-1) 99 = true) (h2 : inb ki (-1) 3 = true) (h3 : inb dy 0 9999 = false) : Ct G yX5_found kw_X5_found rm_X5_found [.ref kp, .int (nI j), .int ac, .int ki, .int dy, .int ix] w (PX "java/lang/IllegalArgumentException" w) := by
  obtain ⟨S, hK, hL, rfl⟩ := hI
  obtain ⟨hD, ⟨f1, f2, f3_, f4⟩, ⟨r1, r2, r3, r4, r5, r6, r7, r8⟩, ⟨p1, p2, p3, p4, p5, p6, p7, p8, p9, p10⟩, ⟨q1, q2, q3, q4⟩, ⟨v1, v2, v3, v4, v5⟩⟩ := id hL
  exact kt_found_a4 hK (by omega) h1 h2 h3
theorem kn_found_b (hI : Inv0 G X w0 kp N A w) {j : Nat} {ac ki dy ix : Int32} (hj : j < 4) (h1 : inb ac (-1) 99 = true) (h2 : inb ki (-1) 3 = true) (h3 : inb dy 0 9999 = true) (hz : fC (fdP A j ac ki dy) ix (N 17) (N 17) 0 = -1) : Ct G yX5_found kw_X5_found rm_X5_found [.ref kp, .int (nI j), .int ac, .int ki, .int dy, .int ix] w (PX "java/lang/IndexOutOfBoundsException" w) := by
  obtain ⟨S, hK, hL, rfl⟩ := hI
  obtain ⟨hD, ⟨f1, f2, f3_, f4⟩, ⟨r1, r2, r3, r4, r5, r6, r7, r8⟩, ⟨p1, p2, p3, p4, p5, p6, p7, p8, p9, p10⟩, ⟨q1, q2, q3, q4⟩, ⟨v1, v2, v3, v4, v5⟩⟩ := id hL
  have hk := kt_found_b (ix := ix) hK (show j < S.ln 3 by omega) (v3 j (by omega)).1 h1 h2 h3
  have e : fC (fnP S j ac ki dy) ix (S.ln 2) (S.ln 2) 0 = fC (fdP A j ac ki dy) ix (N 17) (N 17) 0 := by
    rw [q1]
    exact fC_congr (fun k hk => hL.fnd (by omega) hk) (Nat.le_refl _)
  rw [e] at hk
  refine hk.mono (fun r w' hr => ?_)
  rcases hr.2 with ⟨_, z⟩ | ⟨z, _⟩
  · exact ⟨z, hr.1⟩
  · exact absurd hz z
theorem kn_found_c (hI : Inv0 G X w0 kp N A w) {j : Nat} {ac ki dy ix : Int32} (hj : j < 4) (h1 : inb ac (-1) 99 = true) (h2 : inb ki (-1) 3 = true) (h3 : inb dy 0 9999 = true) {d : Nat} (hd : d < 1000) (hz : fC (fdP A j ac ki dy) ix (N 17) (N 17) 0 = nI d) : Ct G yX5_found kw_X5_found rm_X5_found [.ref kp, .int (nI j), .int ac, .int ki, .int dy, .int ix] w (PV (.int (nI d)) w) := by
  obtain ⟨S, hK, hL, rfl⟩ := hI
  obtain ⟨hD, ⟨f1, f2, f3_, f4⟩, ⟨r1, r2, r3, r4, r5, r6, r7, r8⟩, ⟨p1, p2, p3, p4, p5, p6, p7, p8, p9, p10⟩, ⟨q1, q2, q3, q4⟩, ⟨v1, v2, v3, v4, v5⟩⟩ := id hL
  have hk := kt_found_b (ix := ix) hK (show j < S.ln 3 by omega) (v3 j (by omega)).1 h1 h2 h3
  have e : fC (fnP S j ac ki dy) ix (S.ln 2) (S.ln 2) 0 = fC (fdP A j ac ki dy) ix (N 17) (N 17) 0 := by
    rw [q1]
    exact fC_congr (fun k hk => hL.fnd (by omega) hk) (Nat.le_refl _)
  rw [e] at hk
  refine hk.mono (fun r w' hr => ?_)
  rcases hr.2 with ⟨z, _⟩ | ⟨_, z⟩
  · exact absurd (hz.symm.trans z) (ne_m1 (by omega))
  · exact ⟨z.trans (by rw [hz]), hr.1⟩
theorem kn_bundle_a1 (hI : Inv0 G X w0 kp N A w) {x y : Int32} (h : inb x 0 3 = false) : Ct G yX5_bundle kw_X5_bundle rm_X5_bundle [.ref kp, .int x, .int y] w (PX "java/lang/IllegalArgumentException" w) := by
  obtain ⟨S, hK, hL, rfl⟩ := hI
  obtain ⟨hD, ⟨f1, f2, f3_, f4⟩, ⟨r1, r2, r3, r4, r5, r6, r7, r8⟩, ⟨p1, p2, p3, p4, p5, p6, p7, p8, p9, p10⟩, ⟨q1, q2, q3, q4⟩, ⟨v1, v2, v3, v4, v5⟩⟩ := id hL
  exact kt_bundle_a1 hK (by rw [v1]; exact h)
theorem kn_bundle_a2 (hI : Inv0 G X w0 kp N A w) {j : Nat} {y : Int32} (hj : j < 4) (h : inb y 0 99 = false) : Ct G yX5_bundle kw_X5_bundle rm_X5_bundle [.ref kp, .int (nI j), .int y] w (PX "java/lang/IllegalArgumentException" w) := by
  obtain ⟨S, hK, hL, rfl⟩ := hI
  obtain ⟨hD, ⟨f1, f2, f3_, f4⟩, ⟨r1, r2, r3, r4, r5, r6, r7, r8⟩, ⟨p1, p2, p3, p4, p5, p6, p7, p8, p9, p10⟩, ⟨q1, q2, q3, q4⟩, ⟨v1, v2, v3, v4, v5⟩⟩ := id hL
  exact kt_bundle_a2 hK (by omega) h
theorem kn_bundle_b (hI : Inv0 G X w0 kp N A w) {j : Nat} {y : Int32} (hj : j < 4) (h : inb y 0 99 = true) : Ct G yX5_bundle kw_X5_bundle rm_X5_bundle [.ref kp, .int (nI j), .int y] w (PV (.int (buS A j y (N 17))) w) := by
  obtain ⟨S, hK, hL, rfl⟩ := hI
  obtain ⟨hD, ⟨f1, f2, f3_, f4⟩, ⟨r1, r2, r3, r4, r5, r6, r7, r8⟩, ⟨p1, p2, p3, p4, p5, p6, p7, p8, p9, p10⟩, ⟨q1, q2, q3, q4⟩, ⟨v1, v2, v3, v4, v5⟩⟩ := id hL
  exact cl_V (kt_bundle_b hK (by omega) (v3 j (by omega)).1 h) (by rw [q1]; exact hL.buy (by omega) _ (Nat.le_refl _))
theorem kn_read_a (hI : Inv0 G X w0 kp N A w) {x d g l : Int32} (h : inb x 0 3 = false) : Ct G yX5_read kw_X5_read rm_X5_read [.ref kp, .int x, .int d, .int g, .int l] w (PX "java/lang/IllegalArgumentException" w) := by
  obtain ⟨S, hK, hL, rfl⟩ := hI
  obtain ⟨hD, ⟨f1, f2, f3_, f4⟩, ⟨r1, r2, r3, r4, r5, r6, r7, r8⟩, ⟨p1, p2, p3, p4, p5, p6, p7, p8, p9, p10⟩, ⟨q1, q2, q3, q4⟩, ⟨v1, v2, v3, v4, v5⟩⟩ := id hL
  exact kt_read_a hK (by rw [v1]; exact h)
theorem kn_read_b1 (hI : Inv0 G X w0 kp N A w) {j : Nat} {d g l : Int32} (hj : j < 4) (h : inb d 0 (nI (N 17) - 1) = false) : Ct G yX5_read kw_X5_read rm_X5_read [.ref kp, .int (nI j), .int d, .int g, .int l] w (PX "java/lang/IndexOutOfBoundsException" w) := by
  obtain ⟨S, hK, hL, rfl⟩ := hI
  obtain ⟨hD, ⟨f1, f2, f3_, f4⟩, ⟨r1, r2, r3, r4, r5, r6, r7, r8⟩, ⟨p1, p2, p3, p4, p5, p6, p7, p8, p9, p10⟩, ⟨q1, q2, q3, q4⟩, ⟨v1, v2, v3, v4, v5⟩⟩ := id hL
  exact kt_read_b1 hK (by omega) (by rw [q1]; exact h)
theorem kn_read_b2 (hI : Inv0 G X w0 kp N A w) {j d m : Nat} {g l : Int32} (hj : j < 4) (hd : d < N 17) (hm : A 19 d = nI m) (hm2 : m < 1000) (hg : inb g 0 (nI m - 1) = false) : Ct G yX5_read kw_X5_read rm_X5_read [.ref kp, .int (nI j), .int (nI d), .int g, .int l] w (PX "java/lang/IndexOutOfBoundsException" w) := by
  obtain ⟨S, hK, hL, rfl⟩ := hI
  obtain ⟨hD, ⟨f1, f2, f3_, f4⟩, ⟨r1, r2, r3, r4, r5, r6, r7, r8⟩, ⟨p1, p2, p3, p4, p5, p6, p7, p8, p9, p10⟩, ⟨q1, q2, q3, q4⟩, ⟨v1, v2, v3, v4, v5⟩⟩ := id hL
  obtain ⟨hdr, ⟨f, n, d0, d3, d18, d19, hfn⟩, -⟩ := q4 d hd
  have hd2 : d < S.ln 2 := by omega
  have hj3 : j < S.ln 3 := by omega
  have hrr := r8 _ hdr
  have en : n = m := (nI_eq (by omega) (by omega)).mp (d19.symm.trans hm)
  exact kt_read_b2 hK hj3 hd2 d0 d3 hfn (by rw [en]; exact hg)
theorem kn_read_b3 (hI : Inv0 G X w0 kp N A w) {j d m fp g z : Nat} {l : Int32} (hj : j < 4) (hd : d < N 17) (hm : A 19 d = nI m) (hm2 : m < 1000) (hfp : A 18 d = nI fp) (hfp2 : fp < 1000) (hg : g < m) (hz : A 8 (fp + g) = nI z) (hz8 : z ≤ 8) (hl : inb l 0 (nI z - 1) = false) : Ct G yX5_read kw_X5_read rm_X5_read [.ref kp, .int (nI j), .int (nI d), .int (nI g), .int l] w (PX "java/lang/IndexOutOfBoundsException" w) := by
  obtain ⟨S, hK, hL, rfl⟩ := hI
  obtain ⟨hD, ⟨f1, f2, f3_, f4⟩, ⟨r1, r2, r3, r4, r5, r6, r7, r8⟩, ⟨p1, p2, p3, p4, p5, p6, p7, p8, p9, p10⟩, ⟨q1, q2, q3, q4⟩, ⟨v1, v2, v3, v4, v5⟩⟩ := id hL
  obtain ⟨hdr, ⟨f, n, d0, d3, d18, d19, hfn⟩, -⟩ := q4 d hd
  have hd2 : d < S.ln 2 := by omega
  have hj3 : j < S.ln 3 := by omega
  have hrr := r8 _ hdr
  have en : n = m := (nI_eq (by omega) (by omega)).mp (d19.symm.trans hm)
  have hp := p10 (S.rF (S.dR d) + (f + g)) (by omega)
  have eP : S.rF (S.dR d) + (f + g) = fp + g := by
    have := (nI_eq (by omega) (by omega)).mp (d18.symm.trans hfp)
    omega
  rw [eP] at hp
  have e8 : S.pS (fp + g) = z := (nI_eq (by have := hp.1; omega) (by omega)).mp (hp.2.1.symm.trans hz)
  have hbb := hasB_inb hp.1 l
  rw [← eP] at hbb e8
  exact kt_read_b3 hK hj3 hd2 d0 d3 hfn (by omega) (hbb.trans (by rw [e8]; exact hl))
theorem kn_read_c (hI : Inv0 G X w0 kp N A w) {j d m fp g z : Nat} {l : Nat} (hj : j < 4) (hd : d < N 17) (hm : A 19 d = nI m) (hm2 : m < 1000) (hfp : A 18 d = nI fp) (hfp2 : fp < 1000) (hg : g < m) (hz : A 8 (fp + g) = nI z) (hz8 : z ≤ 8) (hl : l < z) (hs : seeb A j d = false) : Ct G yX5_read kw_X5_read rm_X5_read [.ref kp, .int (nI j), .int (nI d), .int (nI g), .int (nI l)] w (PX "java/util/NoSuchElementException" w) := by
  obtain ⟨S, hK, hL, rfl⟩ := hI
  obtain ⟨hD, ⟨f1, f2, f3_, f4⟩, ⟨r1, r2, r3, r4, r5, r6, r7, r8⟩, ⟨p1, p2, p3, p4, p5, p6, p7, p8, p9, p10⟩, ⟨q1, q2, q3, q4⟩, ⟨v1, v2, v3, v4, v5⟩⟩ := id hL
  obtain ⟨hdr, ⟨f, n, d0, d3, d18, d19, hfn⟩, -⟩ := q4 d hd
  have hd2 : d < S.ln 2 := by omega
  have hj3 : j < S.ln 3 := by omega
  have hrr := r8 _ hdr
  have en : n = m := (nI_eq (by omega) (by omega)).mp (d19.symm.trans hm)
  have hp := p10 (S.rF (S.dR d) + (f + g)) (by omega)
  have eP : S.rF (S.dR d) + (f + g) = fp + g := by
    have := (nI_eq (by omega) (by omega)).mp (d18.symm.trans hfp)
    omega
  rw [eP] at hp
  have e8 : S.pS (fp + g) = z := (nI_eq (by have := hp.1; omega) (by omega)).mp (hp.2.1.symm.trans hz)
  have hbb := hasB_inb hp.1 (nI l)
  rw [← eP] at hbb e8
  have hse := hL.sees (r := j) (by omega) hd
  have hlk := (v3 j (by omega)).1
  exact kt_read_c hK hj3 hlk hd2 d0 d3 hfn (by omega) (hbb.trans (by rw [e8]; exact (inb_lt (by omega)).mpr ⟨l, hl, rfl⟩)) (hse.trans hs)
theorem kn_read_d (hI : Inv0 G X w0 kp N A w) {j d m fp g z : Nat} {l : Nat} (hj : j < 4) (hd : d < N 17) (hm : A 19 d = nI m) (hm2 : m < 1000) (hfp : A 18 d = nI fp) (hfp2 : fp < 1000) (hg : g < m) (hz : A 8 (fp + g) = nI z) (hz8 : z ≤ 8) (hl : l < z) (hs : seeb A j d = true) : Ct G yX5_read kw_X5_read rm_X5_read [.ref kp, .int (nI j), .int (nI d), .int (nI g), .int (nI l)] w (PV (.int (if A 26 j = nI l then -1 else A 9 (8 * (fp + g) + l))) w) := by
  obtain ⟨S, hK, hL, rfl⟩ := hI
  obtain ⟨hD, ⟨f1, f2, f3_, f4⟩, ⟨r1, r2, r3, r4, r5, r6, r7, r8⟩, ⟨p1, p2, p3, p4, p5, p6, p7, p8, p9, p10⟩, ⟨q1, q2, q3, q4⟩, ⟨v1, v2, v3, v4, v5⟩⟩ := id hL
  obtain ⟨hdr, ⟨f, n, d0, d3, d18, d19, hfn⟩, -⟩ := q4 d hd
  have hd2 : d < S.ln 2 := by omega
  have hj3 : j < S.ln 3 := by omega
  have hrr := r8 _ hdr
  have en : n = m := (nI_eq (by omega) (by omega)).mp (d19.symm.trans hm)
  have hp := p10 (S.rF (S.dR d) + (f + g)) (by omega)
  have eP : S.rF (S.dR d) + (f + g) = fp + g := by
    have := (nI_eq (by omega) (by omega)).mp (d18.symm.trans hfp)
    omega
  rw [eP] at hp
  have e8 : S.pS (fp + g) = z := (nI_eq (by have := hp.1; omega) (by omega)).mp (hp.2.1.symm.trans hz)
  have hbb := hasB_inb hp.1 (nI l)
  rw [← eP] at hbb e8
  have hse := hL.sees (r := j) (by omega) hd
  have hlk := (v3 j (by omega)).1
  refine cl_V (kt_read_d hK hj3 hlk hd2 d0 d3 hfn (by omega) (hbb.trans (by rw [e8]; exact (inb_lt (by omega)).mpr ⟨l, hl, rfl⟩)) (hse.trans hs)) ?_
  rw [(v3 j (by omega)).2.2.2, nI_clamp (by omega)]
  by_cases y : nI l = A 26 j
  · rw [if_pos y, if_pos y.symm]
  · rw [if_neg y, if_neg (fun x => y x.symm), eP]
    rw [eP] at e8
    exact (hp.2.2.2.1 l (by omega)).symm
theorem kn_view_a1 (hI : Inv0 G X w0 kp N A w) {x f l b : Int32} (h : inb x 0 3 = false) : Ct G yX5_view kw_X5_view rm_X5_view [.ref kp, .int x, .int f, .int l, .int b] w (PX "java/lang/IllegalArgumentException" w) := by
  obtain ⟨S, hK, hL, rfl⟩ := hI
  obtain ⟨hD, ⟨f1, f2, f3_, f4⟩, ⟨r1, r2, r3, r4, r5, r6, r7, r8⟩, ⟨p1, p2, p3, p4, p5, p6, p7, p8, p9, p10⟩, ⟨q1, q2, q3, q4⟩, ⟨v1, v2, v3, v4, v5⟩⟩ := id hL
  exact kt_view_a1 hK (by rw [v1]; exact h)
theorem kn_view_a2 (hI : Inv0 G X w0 kp N A w) {j : Nat} {f l b : Int32} (hj : j < 4) (h1 : inb f 0 99 = false) : Ct G yX5_view kw_X5_view rm_X5_view [.ref kp, .int (nI j), .int f, .int l, .int b] w (PX "java/lang/IllegalArgumentException" w) := by
  obtain ⟨S, hK, hL, rfl⟩ := hI
  obtain ⟨hD, ⟨f1, f2, f3_, f4⟩, ⟨r1, r2, r3, r4, r5, r6, r7, r8⟩, ⟨p1, p2, p3, p4, p5, p6, p7, p8, p9, p10⟩, ⟨q1, q2, q3, q4⟩, ⟨v1, v2, v3, v4, v5⟩⟩ := id hL
  exact kt_view_a2 hK (by omega) h1
theorem kn_view_a3 (hI : Inv0 G X w0 kp N A w) {j : Nat} {f l b : Int32} (hj : j < 4) (h1 : inb f 0 99 = true) (h2 : inb l f 99 = false) : Ct G yX5_view kw_X5_view rm_X5_view [.ref kp, .int (nI j), .int f, .int l, .int b] w (PX "java/lang/IllegalArgumentException" w) := by
  obtain ⟨S, hK, hL, rfl⟩ := hI
  obtain ⟨hD, ⟨f1, f2, f3_, f4⟩, ⟨r1, r2, r3, r4, r5, r6, r7, r8⟩, ⟨p1, p2, p3, p4, p5, p6, p7, p8, p9, p10⟩, ⟨q1, q2, q3, q4⟩, ⟨v1, v2, v3, v4, v5⟩⟩ := id hL
  exact kt_view_a3 hK (by omega) h1 h2
theorem kn_view_a4 (hI : Inv0 G X w0 kp N A w) {j : Nat} {f l b : Int32} (hj : j < 4) (h1 : inb f 0 99 = true) (h2 : inb l f 99 = true) (h3 : inb b (-1) 7 = false) : Ct G yX5_view kw_X5_view rm_X5_view [.ref kp, .int (nI j), .int f, .int l, .int b] w (PX "java/lang/IllegalArgumentException" w) := by
  obtain ⟨S, hK, hL, rfl⟩ := hI
  obtain ⟨hD, ⟨f1, f2, f3_, f4⟩, ⟨r1, r2, r3, r4, r5, r6, r7, r8⟩, ⟨p1, p2, p3, p4, p5, p6, p7, p8, p9, p10⟩, ⟨q1, q2, q3, q4⟩, ⟨v1, v2, v3, v4, v5⟩⟩ := id hL
  exact kt_view_a4 hK (by omega) h1 h2 h3
theorem kn_view_b (hI : Inv0 G X w0 kp N A w) {j : Nat} {f l b : Int32} (hj : j < 4) (h1 : inb f 0 99 = true) (h2 : inb l f 99 = true) (h3 : inb b (-1) 7 = true) : Ct G yX5_view kw_X5_view rm_X5_view [.ref kp, .int (nI j), .int f, .int l, .int b] w (PN (Inv0 G X w0 kp N (updA (updA (updA A 24 j f) 25 j l) 26 j b))) := by
  obtain ⟨S, hK, hL, rfl⟩ := hI
  obtain ⟨hD, ⟨f1, f2, f3_, f4⟩, ⟨r1, r2, r3, r4, r5, r6, r7, r8⟩, ⟨p1, p2, p3, p4, p5, p6, p7, p8, p9, p10⟩, ⟨q1, q2, q3, q4⟩, ⟨v1, v2, v3, v4, v5⟩⟩ := id hL
  exact (kt_view_b hK (show j < S.ln 3 by omega) h1 h2 h3).mono (fun r w' hr => ⟨hr.1, _, hr.2, hL.view hj f l b, rfl⟩)
theorem kn_span_a1 (hI : Inv0 G X w0 kp N A w) {x y : Int32} (h : inb x 0 3 = false) : Ct G yX5_span kw_X5_span rm_X5_span [.ref kp, .int x, .int y] w (PX "java/lang/IllegalArgumentException" w) := by
  obtain ⟨S, hK, hL, rfl⟩ := hI
  obtain ⟨hD, ⟨f1, f2, f3_, f4⟩, ⟨r1, r2, r3, r4, r5, r6, r7, r8⟩, ⟨p1, p2, p3, p4, p5, p6, p7, p8, p9, p10⟩, ⟨q1, q2, q3, q4⟩, ⟨v1, v2, v3, v4, v5⟩⟩ := id hL
  exact kt_span_a1 hK (by rw [isK_inb4]; exact h)
theorem kn_span_a2 (hI : Inv0 G X w0 kp N A w) {j : Nat} {y : Int32} (hj : j < 4) (h2 : inb y 0 9999 = false) : Ct G yX5_span kw_X5_span rm_X5_span [.ref kp, .int (nI j), .int y] w (PX "java/lang/IllegalArgumentException" w) := by
  obtain ⟨S, hK, hL, rfl⟩ := hI
  obtain ⟨hD, ⟨f1, f2, f3_, f4⟩, ⟨r1, r2, r3, r4, r5, r6, r7, r8⟩, ⟨p1, p2, p3, p4, p5, p6, p7, p8, p9, p10⟩, ⟨q1, q2, q3, q4⟩, ⟨v1, v2, v3, v4, v5⟩⟩ := id hL
  exact kt_span_a2 hK (by rw [isK_inb4]; exact inb_nI (n := 3) (by omega) (by decide)) h2
theorem kn_span_b (hI : Inv0 G X w0 kp N A w) {j : Nat} {y : Int32} (hj : j < 4) (h2 : inb y 0 9999 = true) : Ct G yX5_span kw_X5_span rm_X5_span [.ref kp, .int (nI j), .int y] w (PB (.int (A 27 j)) (Inv0 G X w0 kp N (updA A 27 j y))) := by
  obtain ⟨S, hK, hL, rfl⟩ := hI
  obtain ⟨hD, ⟨f1, f2, f3_, f4⟩, ⟨r1, r2, r3, r4, r5, r6, r7, r8⟩, ⟨p1, p2, p3, p4, p5, p6, p7, p8, p9, p10⟩, ⟨q1, q2, q3, q4⟩, ⟨v1, v2, v3, v4, v5⟩⟩ := id hL
  exact cl_K (kt_span_b hK hj h2) (v4 j hj) (hL.span y) rfl
theorem kn_hold_a (hI : Inv0 G X w0 kp N A w) {x : Int32} {y : Bool} (h : inb x 0 99 = false) : Ct G yX5_hold kw_X5_hold rm_X5_hold [.ref kp, .int x, .int (bI y)] w (PX "java/lang/IllegalArgumentException" w) := by
  obtain ⟨S, hK, hL, rfl⟩ := hI
  obtain ⟨hD, ⟨f1, f2, f3_, f4⟩, ⟨r1, r2, r3, r4, r5, r6, r7, r8⟩, ⟨p1, p2, p3, p4, p5, p6, p7, p8, p9, p10⟩, ⟨q1, q2, q3, q4⟩, ⟨v1, v2, v3, v4, v5⟩⟩ := id hL
  exact kt_hold_a hK (by rw [isK_inb100]; exact h)
theorem kn_hold_b (hI : Inv0 G X w0 kp N A w) {j : Nat} {y : Bool} (hj : j < 100) : Ct G yX5_hold kw_X5_hold rm_X5_hold [.ref kp, .int (nI j), .int (bI y)] w (PB (.int (A 28 j)) (Inv0 G X w0 kp N (updA A 28 j (bI y)))) := by
  obtain ⟨S, hK, hL, rfl⟩ := hI
  obtain ⟨hD, ⟨f1, f2, f3_, f4⟩, ⟨r1, r2, r3, r4, r5, r6, r7, r8⟩, ⟨p1, p2, p3, p4, p5, p6, p7, p8, p9, p10⟩, ⟨q1, q2, q3, q4⟩, ⟨v1, v2, v3, v4, v5⟩⟩ := id hL
  obtain ⟨e1, z, e2⟩ := v5 j hj
  exact cl_K (kt_hold_b hK hj (e1.trans e2)) e2.symm (hL.hold y) rfl
theorem kn_clear (hI : Inv0 G X w0 kp N A w)  : Ct G yX5_clear kw_X5_clear rm_X5_clear [.ref kp] w (PB (.int (nI (cnB (clB A (nI (N 1))) (N 17)))) (Inv0 G X w0 kp N (clA A (nI (N 1)) (N 17)))) := by
  obtain ⟨S, hK, hL, rfl⟩ := hI
  obtain ⟨hD, ⟨f1, f2, f3_, f4⟩, ⟨r1, r2, r3, r4, r5, r6, r7, r8⟩, ⟨p1, p2, p3, p4, p5, p6, p7, p8, p9, p10⟩, ⟨q1, q2, q3, q4⟩, ⟨v1, v2, v3, v4, v5⟩⟩ := id hL
  have e : cnB (clP S) (S.ln 2) = cnB (clB A (nI (N 1))) (N 17) := by
    rw [q1]
    exact cnB_congr (fun k hk => hL.over hk)
  exact cl_K (kt_clear hK) (by rw [e]) (clC_lk hL) rfl
end Ops
