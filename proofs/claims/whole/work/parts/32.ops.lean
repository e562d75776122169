/-! Each method: the keeper and the reference together. -/
def Inv0 (G : Gx) (X : Nat → Prop) (w0 : Wd) (kp : Nat) (N : Nat → Nat) (A : Nat → Nat → Int32) (w : Wd) : Prop := ∃ S, Kl G X w0 S w ∧ Lk S N A ∧ S.ad 0 0 = kp
def PCl (G : Gx) (X : Nat → Prop) (w0 : Wd) (kp : Nat) (r : RV) (N : Nat → Nat) (A : Nat → Nat → Int32) : RV → Wd → Prop := fun rv w' => rv = r ∧ Inv0 G X w0 kp N A w'
def Ag (es : List String) (r : RV) (th : Nat) (v : Int32) : Prop := (th = 0 ∧ r = .inl (some (.int v))) ∨ ∃ E, es[th - 1]? = some E ∧ 0 < th ∧ r = .inr E
def MC (G : Gx) (am : Nat → Nat) (N : Nat → Nat) (A : Nat → Nat → Int32) (y : MethodName) (cw : Cond) (rm : Room) (args : List Value) (th : Nat) (v : Int32) (N' : Nat → Nat) (A' : Nat → Nat → Int32) : Prop := ∀ (w0 w1 : Wd) (th0 : Int32), Mz G am w0 (tI th0 N) A w1 → Ct G y cw rm (.ref (am 0) :: args) w1 (PB (.int v) (Mz G am w0 (tI (nI th) N') A'))
theorem allB_congr {f g : Nat → Bool} : ∀ {n : Nat}, (∀ k, k < n → f k = g k) → allB f n = allB g n
  | 0, _ => rfl
  | n + 1, h => by
    show (allB f n && f n) = (allB g n && g n)
    rw [allB_congr (fun k hk => h k (by omega)), h n (Nat.lt_succ_self _)]
theorem fdn_congr {f g : Nat → Bool} {n : Nat} (h : ∀ k, k < n → f k = g k) : ∀ {c : Nat}, c ≤ n → fdn f n c = fdn g n c
  | 0, _ => rfl
  | c + 1, hc => by
    show (if f (n - (c + 1)) = true then nI (n - (c + 1)) else fdn f n c) = (if g (n - (c + 1)) = true then nI (n - (c + 1)) else fdn g n c)
    rw [h _ (by omega), fdn_congr h (by omega)]
theorem fC_congr {f g : Nat → Bool} {ix : Int32} {n : Nat} (h : ∀ k, k < n → f k = g k) : ∀ {c b : Nat}, c ≤ n → fC f ix n c b = fC g ix n c b
  | 0, _, _ => rfl
  | c + 1, b, hc => by
    show (if f (n - (c + 1)) = true then (if nI b = ix then nI (n - (c + 1)) else fC f ix n c (b + 1)) else fC f ix n c b) = (if g (n - (c + 1)) = true then (if nI b = ix then nI (n - (c + 1)) else fC g ix n c (b + 1)) else fC g ix n c b)
    rw [h _ (by omega), fC_congr h (by omega), fC_congr h (by omega)]
theorem cnB_congr {f g : Nat → Bool} : ∀ {n : Nat}, (∀ k, k < n → f k = g k) → cnB f n = cnB g n
  | 0, _ => rfl
  | n + 1, h => by
    show cnB f n + (if f n = true then 1 else 0) = cnB g n + (if g n = true then 1 else 0)
    rw [cnB_congr (fun k hk => h k (by omega)), h n (Nat.lt_succ_self _)]
theorem dec_sym {α : Type} (a b : α) {d1 : Decidable (a = b)} {d2 : Decidable (b = a)} : decide (a = b) = decide (b = a) := by
  by_cases h : a = b
  · rw [decide_eq_true h, decide_eq_true h.symm]
  · rw [decide_eq_false h, decide_eq_false (fun z => h z.symm)]
theorem nat_of {x lo hi : Int32} (h : inb x lo hi = true) (h0 : 0 ≤ lo) : ∃ j : Nat, j < 2 ^ 31 ∧ x = nI j := nI_of (fun z => (inb_t.mp h).1 (Int32.lt_of_lt_of_le z h0))
theorem nat_le {x lo hi : Int32} {n : Nat} (h : inb x lo hi = true) (h0 : 0 ≤ lo) (hn : hi = nI n) (hn2 : n < 2 ^ 31) : ∃ j : Nat, j ≤ n ∧ x = nI j := by
  obtain ⟨j, hj, rfl⟩ := nat_of h h0
  exact ⟨j, (nI_leI hj hn2).mp (hn ▸ (inb_t.mp h).2), rfl⟩
theorem isK_inb4 (x : Int32) : isK 4 x = inb x 0 3 := by
  unfold isK inb
  congr 1
  by_cases h : nI 4 ≤ x
  · rw [decide_eq_true h, decide_eq_false (fun z => absurd (Int32.le_trans h z) (by decide))]; rfl
  · rw [decide_eq_false h, decide_eq_true (show x ≤ 3 by
      rw [Int32.le_iff_toInt_le] at h ⊢
      have e1 : (nI 4).toInt = 4 := by decide
      have e2 : (3 : Int32).toInt = 3 := by decide
      omega)]; rfl
theorem isK_inb100 (x : Int32) : isK 100 x = inb x 0 99 := by
  unfold isK inb
  congr 1
  by_cases h : nI 100 ≤ x
  · rw [decide_eq_true h, decide_eq_false (fun z => absurd (Int32.le_trans h z) (by decide))]; rfl
  · rw [decide_eq_false h, decide_eq_true (show x ≤ 99 by
      rw [Int32.le_iff_toInt_le] at h ⊢
      have e1 : (nI 100).toInt = 100 := by decide
      have e2 : (99 : Int32).toInt = 99 := by decide
      omega)]; rfl
section Ops
variable {G : Gx} {X : Nat → Prop} {w0 w : Wd} {kp : Nat} {am : Nat → Nat} {N : Nat → Nat} {A : Nat → Nat → Int32}
theorem cl_X {y : MethodName} {cw : Cond} {rm : Room} {As : List Value} {E : String} (hI : Inv0 G X w0 kp N A w) (h : Ct G y cw rm As w (PX E w)) : Ct G y cw rm As w (PCl G X w0 kp (.inr E) N A) := h.mono (fun r w' h => ⟨h.1, h.2 ▸ hI⟩)
theorem cl_V {y : MethodName} {cw : Cond} {rm : Room} {As : List Value} {v v' : Int32} (hI : Inv0 G X w0 kp N A w) (h : Ct G y cw rm As w (PV (.int v) w)) (e : v = v') : Ct G y cw rm As w (PCl G X w0 kp (.inl (some (.int v'))) N A) := h.mono (fun r w' h => ⟨by rw [h.1, e], h.2 ▸ hI⟩)
theorem cl_K {y : MethodName} {cw : Cond} {rm : Room} {As : List Value} {v v' : Int32} {T : KS} {N' : Nat → Nat} {A' : Nat → Nat → Int32} (h : Ct G y cw rm As w (PB (.int v) (fun w' => Kl G X w0 T w'))) (e : v = v') (hL : Lk T N' A') (ha : T.ad 0 0 = kp) : Ct G y cw rm As w (PCl G X w0 kp (.inl (some (.int v'))) N' A') := h.mono (fun r w' h => ⟨by rw [h.1, e], T, h.2, hL, ha⟩)
theorem cl_Q {y : MethodName} {cw : Cond} {rm : Room} {As : List Value} {v v' : Int32} {S T : KS} {N' : Nat → Nat} {A' : Nat → Nat → Int32} (h : Ct G y cw rm As w (PB (.int v) (KQ G X w0 S T))) (e : v = v') (hL : Lk T N' A') (ha : S.ad 0 0 = kp) : Ct G y cw rm As w (PCl G X w0 kp (.inl (some (.int v'))) N' A') := h.mono (fun r w' h => ⟨by rw [h.1, e], by obtain ⟨S', a1, a2, a3⟩ := h.2; exact ⟨S', a1, Lk_v a2 hL, a3.trans ha⟩⟩)

theorem op_pass (hI : Inv0 G X w0 kp N A w) (x : Int32) : ∃ (r : RV) (th : Nat) (v : Int32) (N' : Nat → Nat) (A' : Nat → Nat → Int32), Ct G yX5_pass kw_X5_pass rm_X5_pass [.ref kp, .int x] w (PCl G X w0 kp r N' A') ∧ Ag ["java/lang/IllegalArgumentException", "java/lang/IllegalStateException"] r th v ∧ MC G am N A yX6_pass kw_X6_pass rm_X6_pass [.int x] th v N' A' := by
  have hI0 := hI
  obtain ⟨S, hK, hL, rfl⟩ := hI
  obtain ⟨hD, ⟨f1, f2, f3_, f4⟩, ⟨r1, r2, r3, r4, r5, r6, r7, r8⟩, ⟨p1, p2, p3, p4, p5, p6, p7, p8, p9, p10⟩, ⟨q1, q2, q3, q4⟩, ⟨v1, v2, v3, v4, v5⟩⟩ := id hL
  have hI := hI0
  cases hb : inb x 1 1000 with
  | false => exact ⟨_, 1, 0, N, A, cl_X hI (kt_pass_a hK hb), Or.inr ⟨_, rfl, by decide, rfl⟩, fun w0 w1 th0 hM => mt_pass_a hM hb⟩
  | true =>
    obtain ⟨j, hj, rfl⟩ := nat_le (n := 1000) hb (by decide) rfl (by decide)
    by_cases h2 : nI (N 1) + nI j ≤ 9999
    · have hle : N 1 + j ≤ 9999 := by
        have := hD.2.1
        rw [nI_add] at h2
        exact (nI_leI (b := 9999) (by omega) (by decide)).mp h2
      have hk := kt_pass_c hK hb (by rw [hD.1]; exact h2)
      rw [show S.day + nI j = nI (N 1 + j) by rw [hD.1, nI_add]] at hk
      exact ⟨_, 0, _, _, _, cl_K (hk) rfl (hL.pass hle) rfl, Or.inl ⟨rfl, rfl⟩, fun w0 w1 th0 hM => mt_pass_c hM hb h2⟩
    · exact ⟨_, 2, 0, N, A, cl_X hI (kt_pass_b hK hb (by rw [hD.1]; exact h2)), Or.inr ⟨_, rfl, by decide, rfl⟩, fun w0 w1 th0 hM => mt_pass_b hM hb h2⟩
theorem op_format (hI : Inv0 G X w0 kp N A w) (x y z : Int32) : ∃ (r : RV) (th : Nat) (v : Int32) (N' : Nat → Nat) (A' : Nat → Nat → Int32), Ct G yX5_format kw_X5_format rm_X5_format [.ref kp, .int x, .int y, .int z] w (PCl G X w0 kp r N' A') ∧ Ag ["java/lang/IllegalArgumentException", "java/lang/IllegalStateException"] r th v ∧ MC G am N A yX6_format kw_X6_format rm_X6_format [.int x, .int y, .int z] th v N' A' := by
  have hI0 := hI
  obtain ⟨S, hK, hL, rfl⟩ := hI
  obtain ⟨hD, ⟨f1, f2, f3_, f4⟩, ⟨r1, r2, r3, r4, r5, r6, r7, r8⟩, ⟨p1, p2, p3, p4, p5, p6, p7, p8, p9, p10⟩, ⟨q1, q2, q3, q4⟩, ⟨v1, v2, v3, v4, v5⟩⟩ := id hL
  have hI := hI0
  cases h1 : inb x 0 9999 with
  | false => exact ⟨_, 1, 0, N, A, cl_X hI (kt_format_a1 hK h1), Or.inr ⟨_, rfl, by decide, rfl⟩, fun w0 w1 th0 hM => mt_format_a1 hM h1⟩
  | true =>
    cases h2 : inb y 0 7 with
    | false => exact ⟨_, 1, 0, N, A, cl_X hI (kt_format_a2 hK h1 h2), Or.inr ⟨_, rfl, by decide, rfl⟩, fun w0 w1 th0 hM => mt_format_a2 hM h1 h2⟩
    | true =>
      cases h3 : inb z 0 7 with
      | false => exact ⟨_, 1, 0, N, A, cl_X hI (kt_format_a3 hK h1 h2 h3), Or.inr ⟨_, rfl, by decide, rfl⟩, fun w0 w1 th0 hM => mt_format_a3 hM h1 h2 h3⟩
      | true =>
        by_cases h4 : N 2 < 10
        · obtain ⟨a, ha, rfl⟩ := nat_le (n := 9999) h1 (by decide) rfl (by decide)
          obtain ⟨b, hb, rfl⟩ := nat_le (n := 7) h2 (by decide) rfl (by decide)
          obtain ⟨d, hd, rfl⟩ := nat_le (n := 7) h3 (by decide) rfl (by decide)
          exact ⟨_, 0, _, _, _, cl_Q (kt_format_c hK h1 h2 h3 (by omega) (by omega)) (by rw [f1]) (hL.format (by omega) (by omega) (by omega) h4) rfl, Or.inl ⟨rfl, rfl⟩, fun w0 w1 th0 hM => mt_format_c hM h1 h2 h3 h4⟩
        · exact ⟨_, 2, 0, N, A, cl_X hI (kt_format_b hK h1 h2 h3 (by omega)), Or.inr ⟨_, rfl, by decide, rfl⟩, fun w0 w1 th0 hM => mt_format_b hM h1 h2 h3 (by omega)⟩
theorem op_line (hI : Inv0 G X w0 kp N A w) (x : Int32) : ∃ (r : RV) (th : Nat) (v : Int32) (N' : Nat → Nat) (A' : Nat → Nat → Int32), Ct G yX5_line kw_X5_line rm_X5_line [.ref kp, .int x] w (PCl G X w0 kp r N' A') ∧ Ag ["java/lang/IllegalArgumentException", "java/lang/IllegalStateException"] r th v ∧ MC G am N A yX6_line kw_X6_line rm_X6_line [.int x] th v N' A' := by
  have hI0 := hI
  obtain ⟨S, hK, hL, rfl⟩ := hI
  obtain ⟨hD, ⟨f1, f2, f3_, f4⟩, ⟨r1, r2, r3, r4, r5, r6, r7, r8⟩, ⟨p1, p2, p3, p4, p5, p6, p7, p8, p9, p10⟩, ⟨q1, q2, q3, q4⟩, ⟨v1, v2, v3, v4, v5⟩⟩ := id hL
  have hI := hI0
  cases h1 : inb x 0 99 with
  | false => exact ⟨_, 1, 0, N, A, cl_X hI (kt_line_a hK h1), Or.inr ⟨_, rfl, by decide, rfl⟩, fun w0 w1 th0 hM => mt_line_a hM h1⟩
  | true =>
    by_cases h2 : N 10 < 8
    · obtain ⟨a, ha, rfl⟩ := nat_le (n := 99) h1 (by decide) rfl (by decide)
      exact ⟨_, 0, _, _, _, cl_K (kt_line_c hK h1 (by rw [p3, p5]; exact h2)) (by rw [p3, p5]) (hL.line (by omega) h2) rfl, Or.inl ⟨rfl, rfl⟩, fun w0 w1 th0 hM => mt_line_c hM h1 h2⟩
    · exact ⟨_, 2, 0, N, A, cl_X hI (kt_line_b hK h1 (by rw [p3, p5]; omega)), Or.inr ⟨_, rfl, by decide, rfl⟩, fun w0 w1 th0 hM => mt_line_b hM h1 (by omega)⟩
theorem op_feed (hI : Inv0 G X w0 kp N A w)  : ∃ (r : RV) (th : Nat) (v : Int32) (N' : Nat → Nat) (A' : Nat → Nat → Int32), Ct G yX5_feed kw_X5_feed rm_X5_feed [.ref kp] w (PCl G X w0 kp r N' A') ∧ Ag ["java/lang/IllegalStateException"] r th v ∧ MC G am N A yX6_feed kw_X6_feed rm_X6_feed [] th v N' A' := by
  have hI0 := hI
  obtain ⟨S, hK, hL, rfl⟩ := hI
  obtain ⟨hD, ⟨f1, f2, f3_, f4⟩, ⟨r1, r2, r3, r4, r5, r6, r7, r8⟩, ⟨p1, p2, p3, p4, p5, p6, p7, p8, p9, p10⟩, ⟨q1, q2, q3, q4⟩, ⟨v1, v2, v3, v4, v5⟩⟩ := id hL
  have hI := hI0
  have e : S.kept + nI (S.ln (S.oR + 4)) + 1 = nI (N 6 + N 7 + 1) := by rw [hD.2.2, r3, r7, nI_add, nI_1]
  by_cases h : N 6 + N 7 + 1 ≤ 120
  · exact ⟨_, 0, _, _, _, cl_Q (kt_feed_b hK (by rw [e]; exact nI_le h (by decide)) (by rw [p3, r3, r6, r7]) p2.symm (by rw [r3, r7]; omega)) (by rw [r3, r7]) (hL.feed h) rfl, Or.inl ⟨rfl, rfl⟩, fun w0 w1 th0 hM => mt_feed_b hM h p6⟩
  · exact ⟨_, 1, 0, N, A, cl_X hI (kt_feed_a hK (by rw [e]; exact nI_ge (a := 120) (by omega) (by omega))), Or.inr ⟨_, rfl, by decide, rfl⟩, fun w0 w1 th0 hM => mt_feed_a hM (by omega) (by omega)⟩
/-- what an end of the open run wants -/
theorem Lk.ko {S : KS} (hL : Lk S N A) (h7 : 0 < N 7) : KO S := by
  obtain ⟨hD, ⟨f1, f2, f3_, f4⟩, ⟨r1, r2, r3, r4, r5, r6, r7, r8⟩, ⟨p1, p2, p3, p4, p5, p6, p7, p8, p9, p10⟩, ⟨q1, q2, q3, q4⟩, -⟩ := hL
  have e : S.ln (S.oR + 4) = N 7 := by rw [r3, r7]
  refine ⟨by rw [r3, r1], r5, by omega, by omega, by omega, by omega, by rw [q1, q2], by omega, fun i hi => ?_⟩
  obtain ⟨g1, -, -, a, b, d, -, -, hd, -, -, g2⟩ := f4 i (by omega)
  rw [g1, g2]
  exact nI_pos' (by omega)
theorem Lk.fmOk {S : KS} (hL : Lk S N A) : ∃ la ka, la < 8 ∧ ka < 8 ∧ fmOk N A la ka := by
  obtain ⟨hD, ⟨f1, f2, f3_, f4⟩, -⟩ := hL
  cases hf : fmS A (nI (N 1)) (N 2) with
  | none => exact ⟨0, 1, by decide, by decide, Or.inl ⟨hf, rfl, rfl⟩⟩
  | some g =>
    obtain ⟨-, -, -, a, b, d, ha, hb, -, e1, e2, -⟩ := f4 g (fmS_lt hf)
    exact ⟨a, b, ha, hb, Or.inr ⟨g, hf, e1, e2⟩⟩

theorem op_end (hI : Inv0 G X w0 kp N A w)  : ∃ (r : RV) (th : Nat) (v : Int32) (N' : Nat → Nat) (A' : Nat → Nat → Int32), Ct G yX5_end kw_X5_end rm_X5_end [.ref kp] w (PCl G X w0 kp r N' A') ∧ Ag ["java/lang/IllegalStateException"] r th v ∧ MC G am N A yX6_end kw_X6_end rm_X6_end [] th v N' A' := by
  have hI0 := hI
  obtain ⟨S, hK, hL, rfl⟩ := hI
  obtain ⟨hD, ⟨f1, f2, f3_, f4⟩, ⟨r1, r2, r3, r4, r5, r6, r7, r8⟩, ⟨p1, p2, p3, p4, p5, p6, p7, p8, p9, p10⟩, ⟨q1, q2, q3, q4⟩, ⟨v1, v2, v3, v4, v5⟩⟩ := id hL
  have hI := hI0
  have eL : S.ln (S.oR + 4) = N 7 := by rw [r3, r7]
  have eS : S.pS S.oP = N 10 := by rw [p3, p5]
  obtain ⟨la, ka, hla, hka, hfm⟩ := hL.fmOk
  have e : ∀ n, S.kept + nI n = nI (N 6 + n) := fun n => by rw [hD.2.2, nI_add]
  by_cases h0 : N 10 = 0
  · have hE : decide (nI (S.pS S.oP) = 0) = true := by rw [eS, h0]; rfl
    by_cases h7 : N 7 = 0
    · exact ⟨_, 1, 0, N, A, cl_X hI (kt_end_a0 hK hE (by rw [eL]; exact h7)), Or.inr ⟨_, rfl, by decide, rfl⟩, fun w0 w1 th0 hM => mt_end_a0 hM p4 p6 r4 h0 h7⟩
    · by_cases h13 : N 13 < 15
      · have hk := kt_end_n hK hE (hL.ko (by omega)) (by omega) (by rw [eL, e]; exact nI_le p4 (by decide))
        exact ⟨_, 0, _, _, _, cl_Q (hk) (by rw [r1]) (hL.ended hla hka hfm h0 (by omega) h13) rfl, Or.inl ⟨rfl, rfl⟩, fun w0 w1 th0 hM => mt_end_n hM p4 p6 r4 h0 (by omega) h13 hla hka f3_ hfm q3⟩
      · exact ⟨_, 1, 0, N, A, cl_X hI (kt_end_a1n hK hE (by omega) (by omega)), Or.inr ⟨_, rfl, by decide, rfl⟩, fun w0 w1 th0 hM => mt_end_a1n hM p4 p6 r4 h0 (by omega) (by omega)⟩
  · have hE : decide (nI (S.pS S.oP) = 0) = false := by
      rw [eS]
      exact decide_eq_false (fun z => h0 ((nI_eq (b := 0) (by omega) (by decide)).mp z))
    by_cases h13 : N 13 < 15
    · by_cases h6 : N 6 + (N 7 + 1) ≤ 120
      · have hL2 := hL.feed (by omega)
        have hk := kt_end_y hK hE (by rw [p3, r3, r6, r7]) p2.symm (by rw [r3, r7]; omega) (hL2.ko (Nat.succ_pos _)) (by omega) (by rw [eL, e]; exact nI_le h6 (by decide))
        exact ⟨_, 0, _, _, _, cl_Q (hk) (by rw [r1]) (hL2.ended hla hka (fmOk_eP hfm) rfl (Nat.succ_pos _) h13) rfl, Or.inl ⟨rfl, rfl⟩, fun w0 w1 th0 hM => mt_end_y hM p4 p6 r4 (by omega) h13 h6 hla hka f3_ hfm q3⟩
      · exact ⟨_, 1, 0, N, A, cl_X hI (kt_end_a2y hK hE (by omega) (by rw [eL, e]; exact nI_ge (a := 120) (by omega) (by omega))), Or.inr ⟨_, rfl, by decide, rfl⟩, fun w0 w1 th0 hM => mt_end_a2y hM p4 p6 r4 (by omega) h13 (by omega)⟩
    · exact ⟨_, 1, 0, N, A, cl_X hI (kt_end_a1y hK hE (by omega)), Or.inr ⟨_, rfl, by decide, rfl⟩, fun w0 w1 th0 hM => mt_end_a1y hM p4 p6 r4 (by omega) (by omega)⟩
theorem op_pages (hI : Inv0 G X w0 kp N A w) (x : Int32) : ∃ (r : RV) (th : Nat) (v : Int32) (N' : Nat → Nat) (A' : Nat → Nat → Int32), Ct G yX5_pages kw_X5_pages rm_X5_pages [.ref kp, .int x] w (PCl G X w0 kp r N' A') ∧ Ag ["java/lang/IndexOutOfBoundsException"] r th v ∧ MC G am N A yX6_pages kw_X6_pages rm_X6_pages [.int x] th v N' A' := by
  have hI0 := hI
  obtain ⟨S, hK, hL, rfl⟩ := hI
  obtain ⟨hD, ⟨f1, f2, f3_, f4⟩, ⟨r1, r2, r3, r4, r5, r6, r7, r8⟩, ⟨p1, p2, p3, p4, p5, p6, p7, p8, p9, p10⟩, ⟨q1, q2, q3, q4⟩, ⟨v1, v2, v3, v4, v5⟩⟩ := id hL
  have hI := hI0
  cases h : inb x 0 (nI (N 13) - 1) with
  | false => exact ⟨_, 1, 0, N, A, cl_X hI (kt_pages_a hK (by rw [r1]; exact h)), Or.inr ⟨_, rfl, by decide, rfl⟩, fun w0 w1 th0 hM => mt_pages_a hM h⟩
  | true =>
    obtain ⟨j, hj, rfl⟩ := (inb_lt (by omega)).mp h
    exact ⟨_, 0, _, N, A, cl_V hI (kt_pages_b hK (by omega)) (r8 j hj).2.2.1.symm, Or.inl ⟨rfl, rfl⟩, fun w0 w1 th0 hM => mt_pages_b hM h (by omega)⟩
theorem Lk.runs {S : KS} (hL : Lk S N A) {r j : Nat} (hr : r < N 13) (hj : j < N 13) : rnC S r j = ruE A j r := by
  obtain ⟨hD, -, ⟨r1, r2, r3, r4, r5, r6, r7, r8⟩, ⟨p1, p2, p3, p4, p5, p6, p7, p8, p9, p10⟩, -⟩ := hL
  obtain ⟨a1, a2, a3, a4, a5⟩ := r8 r hr
  obtain ⟨b1, b2, b3, b4, b5⟩ := r8 j hj
  unfold rnC ruE
  rw [a1, a2, a3, b1, b2, b3, nI_clamp (by omega), nI_clamp (by omega), nI_clamp (by omega), dec_sym (S.rD r) (S.rD j), dec_sym (nI (S.ln (r + 4))) (nI (S.ln (j + 4)))]
  by_cases hl : nI (S.ln (j + 4)) = nI (S.ln (r + 4))
  · have hl2 := (nI_eq (by omega) (by omega)).mp hl
    congr 1
    rw [hl2]
    refine allB_congr (fun k hk => ?_)
    obtain ⟨c1, c2, -, c3, -⟩ := p10 (S.rF r + k) (by omega)
    obtain ⟨d1, d2, -, d3, -⟩ := p10 (S.rF j + k) (by omega)
    unfold pgC pgE
    rw [c2, d2, nI_clamp (by omega), dec_sym (nI (S.pS (S.rF r + k))) (nI (S.pS (S.rF j + k)))]
    by_cases hz : nI (S.pS (S.rF j + k)) = nI (S.pS (S.rF r + k))
    · have hz2 := (nI_eq (by omega) (by omega)).mp hz
      congr 1
      rw [hz2]
      refine allB_congr (fun m hm => ?_)
      unfold lno
      rw [c2, d2, if_pos (nI_lt hm (by omega)), if_pos (nI_lt (show m < S.pS (S.rF j + k) by omega) (by omega)), c3 m hm, d3 m (by omega)]
      exact dec_sym _ _
    · rw [decide_eq_false hz, Bool.false_and, Bool.false_and]
  · rw [decide_eq_false hl, Bool.and_false, Bool.false_and, Bool.false_and]

theorem op_twice (hI : Inv0 G X w0 kp N A w) (x : Int32) : ∃ (r : RV) (th : Nat) (v : Int32) (N' : Nat → Nat) (A' : Nat → Nat → Int32), Ct G yX5_twice kw_X5_twice rm_X5_twice [.ref kp, .int x] w (PCl G X w0 kp r N' A') ∧ Ag ["java/lang/IndexOutOfBoundsException"] r th v ∧ MC G am N A yX6_twice kw_X6_twice rm_X6_twice [.int x] th v N' A' := by
  have hI0 := hI
  obtain ⟨S, hK, hL, rfl⟩ := hI
  obtain ⟨hD, ⟨f1, f2, f3_, f4⟩, ⟨r1, r2, r3, r4, r5, r6, r7, r8⟩, ⟨p1, p2, p3, p4, p5, p6, p7, p8, p9, p10⟩, ⟨q1, q2, q3, q4⟩, ⟨v1, v2, v3, v4, v5⟩⟩ := id hL
  have hI := hI0
  cases h : inb x 0 (nI (N 13) - 1) with
  | false => exact ⟨_, 1, 0, N, A, cl_X hI (kt_twice_a hK (by rw [r1]; exact h)), Or.inr ⟨_, rfl, by decide, rfl⟩, fun w0 w1 th0 hM => mt_twice_a hM h⟩
  | true =>
    obtain ⟨j, hj, rfl⟩ := (inb_lt (by omega)).mp h
    have h8 : ∀ p, p < S.nn 6 → S.pS p ≤ 8 := fun p hp => by
      by_cases e : p = N 6 + N 7
      · rw [e, p5]; exact p6
      · exact (p10 p (by omega)).1
    exact ⟨_, 0, _, N, A, cl_V hI (kt_twice_b hK (by omega) h8) (fdn_congr (fun k hk => hL.runs hj (by omega)) (Nat.le_refl _)), Or.inl ⟨rfl, rfl⟩, fun w0 w1 th0 hM => mt_twice_b hM h hj r4 (by omega) (fun r hr => ⟨S.rF r, S.ln (r + 4), (r8 r hr).2.1, (r8 r hr).2.2.1, (r8 r hr).2.2.2.1, (r8 r hr).2.2.2.2⟩) (fun p hp => ⟨S.pS p, (p10 p (by omega)).1, (p10 p (by omega)).2.1⟩)⟩
end Ops
