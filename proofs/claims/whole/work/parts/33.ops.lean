/-! The other methods together. -/
section Ops2
variable {G : Gx} {X : Nat → Prop} {w0 w : Wd} {kp : Nat} {am : Nat → Nat} {N : Nat → Nat} {A : Nat → Nat → Int32}
theorem ip_t {am : Nat → Nat} {N : Nat → Nat} {A : Nat → Nat → Int32} {w0 : Wd} {th : Int32} {r n : Nat} {pg : Int32} {b : Bool} (h : inb (nI r) 0 (nI (N 13) - 1) = true) (hr : r < 15) (hn : A 16 r = nI n) (hb : inb pg 0 (nI n - 1) = b) : ∀ {w : Wd}, Mz G am w0 (tI th N) A w → Ct G yX6_isPage kw_X6_isPage rm_X6_isPage [.ref (am 0), .int (nI r), .int pg] w (PV (.int (bI b)) w) := by
  intro w hM
  have h9 := mt_isPage_b (pg := pg) hM h hr
  rw [hn, hb] at h9
  exact h9

theorem op_copies (hI : Inv0 G X w0 kp N A w) (x y : Int32) : ∃ (r : RV) (th : Nat) (v : Int32) (N' : Nat → Nat) (A' : Nat → Nat → Int32), Ct G yX5_copies kw_X5_copies rm_X5_copies [.ref kp, .int x, .int y] w (PCl G X w0 kp r N' A') ∧ Ag ["java/lang/IndexOutOfBoundsException"] r th v ∧ MC G am N A yX6_copies kw_X6_copies rm_X6_copies [.int x, .int y] th v N' A' := by
  have hI0 := hI
  obtain ⟨S, hK, hL, rfl⟩ := hI
  obtain ⟨hD, ⟨f1, f2, f3_, f4⟩, ⟨r1, r2, r3, r4, r5, r6, r7, r8⟩, ⟨p1, p2, p3, p4, p5, p6, p7, p8, p9, p10⟩, ⟨q1, q2, q3, q4⟩, ⟨v1, v2, v3, v4, v5⟩⟩ := id hL
  have hI := hI0
  cases h : inb x 0 (nI (N 13) - 1) with
  | false => exact ⟨_, 1, 0, N, A, cl_X hI (kt_copies_a hK (by rw [r1]; exact h)), Or.inr ⟨_, rfl, by decide, rfl⟩, fun w0 w1 th0 hM => mt_copies_a hM (fun hM => mt_isPage_a hM h)⟩
  | true =>
    obtain ⟨j, hj, rfl⟩ := (inb_lt (by omega)).mp h
    obtain ⟨c1, c2, c3, c4, c5⟩ := r8 j hj
    cases hb : inb y 0 (nI (S.ln (j + 4)) - 1) with
    | false => exact ⟨_, 1, 0, N, A, cl_X hI (kt_copies_b hK (by omega) hb), Or.inr ⟨_, rfl, by decide, rfl⟩, fun w0 w1 th0 hM => mt_copies_a hM (ip_t h (by omega) c3 hb)⟩
    | true =>
      obtain ⟨g, hg, rfl⟩ := (inb_lt (by omega)).mp hb
      exact ⟨_, 0, _, N, A, cl_V hI (kt_copies_c hK (by omega) hg) (p10 _ (by omega)).2.2.1.symm, Or.inl ⟨rfl, rfl⟩, fun w0 w1 th0 hM => mt_copies_b hM (ip_t h (by omega) c3 hb) (by omega) c2 (by omega)⟩
theorem op_reprint (hI : Inv0 G X w0 kp N A w) (x y z : Int32) : ∃ (r : RV) (th : Nat) (v : Int32) (N' : Nat → Nat) (A' : Nat → Nat → Int32), Ct G yX5_reprint kw_X5_reprint rm_X5_reprint [.ref kp, .int x, .int y, .int z] w (PCl G X w0 kp r N' A') ∧ Ag ["java/lang/IndexOutOfBoundsException", "java/lang/IllegalArgumentException"] r th v ∧ MC G am N A yX6_reprint kw_X6_reprint rm_X6_reprint [.int x, .int y, .int z] th v N' A' := by
  have hI0 := hI
  obtain ⟨S, hK, hL, rfl⟩ := hI
  obtain ⟨hD, ⟨f1, f2, f3_, f4⟩, ⟨r1, r2, r3, r4, r5, r6, r7, r8⟩, ⟨p1, p2, p3, p4, p5, p6, p7, p8, p9, p10⟩, ⟨q1, q2, q3, q4⟩, ⟨v1, v2, v3, v4, v5⟩⟩ := id hL
  have hI := hI0
  cases h : inb x 0 (nI (N 13) - 1) with
  | false => exact ⟨_, 1, 0, N, A, cl_X hI (kt_reprint_a hK (by rw [r1]; exact h)), Or.inr ⟨_, rfl, by decide, rfl⟩, fun w0 w1 th0 hM => mt_reprint_a hM (fun hM => mt_isPage_a hM h)⟩
  | true =>
    obtain ⟨j, hj, rfl⟩ := (inb_lt (by omega)).mp h
    obtain ⟨c1, c2, c3, c4, c5⟩ := r8 j hj
    cases hb : inb y 0 (nI (S.ln (j + 4)) - 1) with
    | false => exact ⟨_, 1, 0, N, A, cl_X hI (kt_reprint_b hK (by omega) hb), Or.inr ⟨_, rfl, by decide, rfl⟩, fun w0 w1 th0 hM => mt_reprint_a hM (ip_t h (by omega) c3 hb)⟩
    | true =>
      obtain ⟨g, hg, rfl⟩ := (inb_lt (by omega)).mp hb
      cases hz : inb z 1 9 with
      | false => exact ⟨_, 2, 0, N, A, cl_X hI (kt_reprint_c hK (by omega) hg hz), Or.inr ⟨_, rfl, by decide, rfl⟩, fun w0 w1 th0 hM => mt_reprint_b hM (ip_t h (by omega) c3 hb) hz⟩
      | true =>
        obtain ⟨c, hc, rfl⟩ := nat_le (n := 9) hz (by decide) rfl (by decide)
        exact ⟨_, 0, _, _, _, cl_K (kt_reprint_d hK (by omega) hg hc hz) rfl (hL.reprint hj) rfl, Or.inl ⟨rfl, rfl⟩, fun w0 w1 th0 hM => mt_reprint_c hM (ip_t h (by omega) c3 hb) hz (by omega) c3 c2 (by omega) (by omega)⟩
theorem op_documents (hI : Inv0 G X w0 kp N A w)  : ∃ (r : RV) (th : Nat) (v : Int32) (N' : Nat → Nat) (A' : Nat → Nat → Int32), Ct G yX5_documents kw_X5_documents rm_X5_documents [.ref kp] w (PCl G X w0 kp r N' A') ∧ Ag [] r th v ∧ MC G am N A yX6_documents kw_X6_documents rm_X6_documents [] th v N' A' := by
  have hI0 := hI
  obtain ⟨S, hK, hL, rfl⟩ := hI
  obtain ⟨hD, ⟨f1, f2, f3_, f4⟩, ⟨r1, r2, r3, r4, r5, r6, r7, r8⟩, ⟨p1, p2, p3, p4, p5, p6, p7, p8, p9, p10⟩, ⟨q1, q2, q3, q4⟩, ⟨v1, v2, v3, v4, v5⟩⟩ := id hL
  have hI := hI0
  exact ⟨_, 0, _, N, A, cl_V hI (kt_documents hK) (by rw [q1]), Or.inl ⟨rfl, rfl⟩, fun w0 w1 th0 hM => mt_documents hM⟩
theorem op_account (hI : Inv0 G X w0 kp N A w) (x : Int32) : ∃ (r : RV) (th : Nat) (v : Int32) (N' : Nat → Nat) (A' : Nat → Nat → Int32), Ct G yX5_account kw_X5_account rm_X5_account [.ref kp, .int x] w (PCl G X w0 kp r N' A') ∧ Ag ["java/lang/IndexOutOfBoundsException"] r th v ∧ MC G am N A yX6_account kw_X6_account rm_X6_account [.int x] th v N' A' := by
  have hI0 := hI
  obtain ⟨S, hK, hL, rfl⟩ := hI
  obtain ⟨hD, ⟨f1, f2, f3_, f4⟩, ⟨r1, r2, r3, r4, r5, r6, r7, r8⟩, ⟨p1, p2, p3, p4, p5, p6, p7, p8, p9, p10⟩, ⟨q1, q2, q3, q4⟩, ⟨v1, v2, v3, v4, v5⟩⟩ := id hL
  have hI := hI0
  cases h : inb x 0 (nI (N 17) - 1) with
  | false => exact ⟨_, 1, 0, N, A, cl_X hI (kt_account_a hK (by rw [q1]; exact h)), Or.inr ⟨_, rfl, by decide, rfl⟩, fun w0 w1 th0 hM => mt_account_a hM h⟩
  | true =>
    obtain ⟨j, hj, rfl⟩ := (inb_lt (by omega)).mp h
    obtain ⟨-, ⟨f, n, d0, d3, d18, e0, -⟩, e1, e2, -⟩ := q4 j hj
    exact ⟨_, 0, _, N, A, cl_V hI (kt_account_b hK (by omega)) e1.symm, Or.inl ⟨rfl, rfl⟩, fun w0 w1 th0 hM => mt_account_b hM h (by omega)⟩
theorem op_kind (hI : Inv0 G X w0 kp N A w) (x : Int32) : ∃ (r : RV) (th : Nat) (v : Int32) (N' : Nat → Nat) (A' : Nat → Nat → Int32), Ct G yX5_kind kw_X5_kind rm_X5_kind [.ref kp, .int x] w (PCl G X w0 kp r N' A') ∧ Ag ["java/lang/IndexOutOfBoundsException"] r th v ∧ MC G am N A yX6_kind kw_X6_kind rm_X6_kind [.int x] th v N' A' := by
  have hI0 := hI
  obtain ⟨S, hK, hL, rfl⟩ := hI
  obtain ⟨hD, ⟨f1, f2, f3_, f4⟩, ⟨r1, r2, r3, r4, r5, r6, r7, r8⟩, ⟨p1, p2, p3, p4, p5, p6, p7, p8, p9, p10⟩, ⟨q1, q2, q3, q4⟩, ⟨v1, v2, v3, v4, v5⟩⟩ := id hL
  have hI := hI0
  cases h : inb x 0 (nI (N 17) - 1) with
  | false => exact ⟨_, 1, 0, N, A, cl_X hI (kt_kind_a hK (by rw [q1]; exact h)), Or.inr ⟨_, rfl, by decide, rfl⟩, fun w0 w1 th0 hM => mt_kind_a hM h⟩
  | true =>
    obtain ⟨j, hj, rfl⟩ := (inb_lt (by omega)).mp h
    obtain ⟨-, ⟨f, n, d0, d3, d18, e0, -⟩, e1, e2, -⟩ := q4 j hj
    exact ⟨_, 0, _, N, A, cl_V hI (kt_kind_b hK (by omega)) e2.symm, Or.inl ⟨rfl, rfl⟩, fun w0 w1 th0 hM => mt_kind_b hM h (by omega)⟩
theorem op_length (hI : Inv0 G X w0 kp N A w) (x : Int32) : ∃ (r : RV) (th : Nat) (v : Int32) (N' : Nat → Nat) (A' : Nat → Nat → Int32), Ct G yX5_length kw_X5_length rm_X5_length [.ref kp, .int x] w (PCl G X w0 kp r N' A') ∧ Ag ["java/lang/IndexOutOfBoundsException"] r th v ∧ MC G am N A yX6_length kw_X6_length rm_X6_length [.int x] th v N' A' := by
  have hI0 := hI
  obtain ⟨S, hK, hL, rfl⟩ := hI
  obtain ⟨hD, ⟨f1, f2, f3_, f4⟩, ⟨r1, r2, r3, r4, r5, r6, r7, r8⟩, ⟨p1, p2, p3, p4, p5, p6, p7, p8, p9, p10⟩, ⟨q1, q2, q3, q4⟩, ⟨v1, v2, v3, v4, v5⟩⟩ := id hL
  have hI := hI0
  cases h : inb x 0 (nI (N 17) - 1) with
  | false => exact ⟨_, 1, 0, N, A, cl_X hI (kt_length_a hK (by rw [q1]; exact h)), Or.inr ⟨_, rfl, by decide, rfl⟩, fun w0 w1 th0 hM => mt_length_a hM h⟩
  | true =>
    obtain ⟨j, hj, rfl⟩ := (inb_lt (by omega)).mp h
    obtain ⟨-, ⟨f, n, d0, d3, d18, e0, -⟩, e1, e2, -⟩ := q4 j hj
    exact ⟨_, 0, _, N, A, cl_V hI (kt_length_b hK (by omega)) (by rw [d3, e0]), Or.inl ⟨rfl, rfl⟩, fun w0 w1 th0 hM => mt_length_b hM h (by omega)⟩
theorem op_isThere (hI : Inv0 G X w0 kp N A w) (x : Int32) : ∃ (r : RV) (th : Nat) (v : Int32) (N' : Nat → Nat) (A' : Nat → Nat → Int32), Ct G yX5_isThere kw_X5_isThere rm_X5_isThere [.ref kp, .int x] w (PCl G X w0 kp r N' A') ∧ Ag ["java/lang/IndexOutOfBoundsException"] r th v ∧ MC G am N A yX6_isThere kw_X6_isThere rm_X6_isThere [.int x] th v N' A' := by
  have hI0 := hI
  obtain ⟨S, hK, hL, rfl⟩ := hI
  obtain ⟨hD, ⟨f1, f2, f3_, f4⟩, ⟨r1, r2, r3, r4, r5, r6, r7, r8⟩, ⟨p1, p2, p3, p4, p5, p6, p7, p8, p9, p10⟩, ⟨q1, q2, q3, q4⟩, ⟨v1, v2, v3, v4, v5⟩⟩ := id hL
  have hI := hI0
  cases h : inb x 0 (nI (N 17) - 1) with
  | false => exact ⟨_, 1, 0, N, A, cl_X hI (kt_isThere_a hK (by rw [q1]; exact h)), Or.inr ⟨_, rfl, by decide, rfl⟩, fun w0 w1 th0 hM => mt_isThere_a hM h⟩
  | true =>
    obtain ⟨j, hj, rfl⟩ := (inb_lt (by omega)).mp h
    obtain ⟨-, -, -, -, -, e4, -⟩ := q4 j hj
    exact ⟨_, 0, _, N, A, cl_V hI (kt_isThere_b hK (by omega)) (by rw [e4]), Or.inl ⟨rfl, rfl⟩, fun w0 w1 th0 hM => mt_isThere_b hM h (by omega)⟩
theorem op_span (hI : Inv0 G X w0 kp N A w) (x y : Int32) : ∃ (r : RV) (th : Nat) (v : Int32) (N' : Nat → Nat) (A' : Nat → Nat → Int32), Ct G yX5_span kw_X5_span rm_X5_span [.ref kp, .int x, .int y] w (PCl G X w0 kp r N' A') ∧ Ag ["java/lang/IllegalArgumentException"] r th v ∧ MC G am N A yX6_span kw_X6_span rm_X6_span [.int x, .int y] th v N' A' := by
  have hI0 := hI
  obtain ⟨S, hK, hL, rfl⟩ := hI
  obtain ⟨hD, ⟨f1, f2, f3_, f4⟩, ⟨r1, r2, r3, r4, r5, r6, r7, r8⟩, ⟨p1, p2, p3, p4, p5, p6, p7, p8, p9, p10⟩, ⟨q1, q2, q3, q4⟩, ⟨v1, v2, v3, v4, v5⟩⟩ := id hL
  have hI := hI0
  cases h : inb x 0 3 with
  | false => exact ⟨_, 1, 0, N, A, cl_X hI (kt_span_a1 hK (by rw [isK_inb4]; exact h)), Or.inr ⟨_, rfl, by decide, rfl⟩, fun w0 w1 th0 hM => mt_span_a1 hM h⟩
  | true =>
    cases h2 : inb y 0 9999 with
    | false => exact ⟨_, 1, 0, N, A, cl_X hI (kt_span_a2 hK (by rw [isK_inb4]; exact h) h2), Or.inr ⟨_, rfl, by decide, rfl⟩, fun w0 w1 th0 hM => mt_span_a2 hM h h2⟩
    | true =>
      obtain ⟨j, hj, rfl⟩ := nat_le (n := 3) h (by decide) rfl (by decide)
      exact ⟨_, 0, _, _, _, cl_K (kt_span_b hK (by omega) h2) (v4 j (by omega)) (hL.span y) rfl, Or.inl ⟨rfl, rfl⟩, fun w0 w1 th0 hM => mt_span_b hM h h2 (by omega)⟩
theorem op_hold (hI : Inv0 G X w0 kp N A w) (x : Int32) (y : Bool) : ∃ (r : RV) (th : Nat) (v : Int32) (N' : Nat → Nat) (A' : Nat → Nat → Int32), Ct G yX5_hold kw_X5_hold rm_X5_hold [.ref kp, .int x, .int (bI y)] w (PCl G X w0 kp r N' A') ∧ Ag ["java/lang/IllegalArgumentException"] r th v ∧ MC G am N A yX6_hold kw_X6_hold rm_X6_hold [.int x, .int (bI y)] th v N' A' := by
  have hI0 := hI
  obtain ⟨S, hK, hL, rfl⟩ := hI
  obtain ⟨hD, ⟨f1, f2, f3_, f4⟩, ⟨r1, r2, r3, r4, r5, r6, r7, r8⟩, ⟨p1, p2, p3, p4, p5, p6, p7, p8, p9, p10⟩, ⟨q1, q2, q3, q4⟩, ⟨v1, v2, v3, v4, v5⟩⟩ := id hL
  have hI := hI0
  cases h : inb x 0 99 with
  | false => exact ⟨_, 1, 0, N, A, cl_X hI (kt_hold_a hK (by rw [isK_inb100]; exact h)), Or.inr ⟨_, rfl, by decide, rfl⟩, fun w0 w1 th0 hM => mt_hold_a hM h⟩
  | true =>
    obtain ⟨j, hj, rfl⟩ := nat_le (n := 99) h (by decide) rfl (by decide)
    obtain ⟨e1, z, e2⟩ := v5 j (by omega)
    exact ⟨_, 0, _, _, _, cl_K (kt_hold_b hK (by omega) (e1.trans e2)) e2.symm (hL.hold y) rfl, Or.inl ⟨rfl, rfl⟩, fun w0 w1 th0 hM => mt_hold_b hM h (by omega) (bI_nar y) (by rw [e2]; exact bI_nar z)⟩
theorem clC_lk {S : KS} (hL : Lk S N A) : Lk (S.sdI (clC S (S.ln 2))) N (clA A (nI (N 1)) (N 17)) := by
  have hov := fun d hd => hL.over (d := d) hd
  obtain ⟨hD, hF, hR, hP, ⟨q1, q2, q3, q4⟩, hV⟩ := hL
  refine ⟨hD, hF, hR, hP, ⟨q1, q2, q3, fun d hd => ⟨(q4 d hd).1, ?_⟩⟩, hV⟩
  have h9 := (q4 d hd).2
  have hc := hov d hd
  unfold dRel at h9 ⊢
  show (∃ f n : Nat, clC S (S.ln 2) d 0 = nI f ∧ clC S (S.ln 2) d 3 = nI n ∧ A 18 d = nI (S.rF (S.dR d) + f) ∧ A 19 d = nI n ∧ f + n ≤ S.ln (S.dR d + 4)) ∧ A 20 d = clC S (S.ln 2) d 1 ∧ A 21 d = clC S (S.ln 2) d 2 ∧ A 22 d = S.rD (S.dR d) ∧ (if d < N 17 ∧ clB A (nI (N 1)) d = true then (1 : Int32) else A 23 d) = clC S (S.ln 2) d 4 ∧ (A 20 d = -1 ∨ ∃ a, a < 100 ∧ A 20 d = nI a) ∧ ∃ k, k < 4 ∧ A 21 d = nI k
  cases hb : clB A (nI (N 1)) d with
  | true =>
    have e : clC S (S.ln 2) d = upd (S.dI d) 4 1 := if_pos ⟨by omega, by rw [hc, hb]⟩
    rw [e, if_pos ⟨hd, rfl⟩]
    obtain ⟨g1, g2, g3, g4, g5, g6⟩ := h9
    exact ⟨g1, g2, g3, g4, rfl, g6⟩
  | false =>
    have e : clC S (S.ln 2) d = S.dI d := if_neg (fun z => by rw [hc, hb] at z; exact absurd z.2 (by decide))
    rw [e, if_neg (fun z => absurd z.2 (by decide))]
    exact h9

theorem op_clear (hI : Inv0 G X w0 kp N A w)  : ∃ (r : RV) (th : Nat) (v : Int32) (N' : Nat → Nat) (A' : Nat → Nat → Int32), Ct G yX5_clear kw_X5_clear rm_X5_clear [.ref kp] w (PCl G X w0 kp r N' A') ∧ Ag [] r th v ∧ MC G am N A yX6_clear kw_X6_clear rm_X6_clear [] th v N' A' := by
  have hI0 := hI
  obtain ⟨S, hK, hL, rfl⟩ := hI
  obtain ⟨hD, ⟨f1, f2, f3_, f4⟩, ⟨r1, r2, r3, r4, r5, r6, r7, r8⟩, ⟨p1, p2, p3, p4, p5, p6, p7, p8, p9, p10⟩, ⟨q1, q2, q3, q4⟩, ⟨v1, v2, v3, v4, v5⟩⟩ := id hL
  have hI := hI0
  have hW : WfD N A := fun d hd => by
    obtain ⟨-, -, -, -, -, -, e5, e6⟩ := q4 d hd
    exact ⟨e5, e6⟩
  have e : cnB (clP S) (S.ln 2) = cnB (clB A (nI (N 1))) (N 17) := by
    rw [q1]
    exact cnB_congr (fun k hk => hL.over hk)
  exact ⟨_, 0, _, _, _, cl_K (kt_clear hK) (by rw [e]) (clC_lk hL) rfl, Or.inl ⟨rfl, rfl⟩, fun w0 w1 th0 hM => mt_clear hM (by omega) hW⟩
theorem Lk.buy {S : KS} (hL : Lk S N A) {r : Nat} (hr : r < 4) {y : Int32} : ∀ n, n ≤ N 17 → buC S r y n = buS A r y n
  | 0, _ => rfl
  | n + 1, hn => by
    have ih := Lk.buy hL hr (y := y) n (by omega)
    have hs := hL.sees hr (d := n) (by omega)
    obtain ⟨-, ⟨f, m, d0, d3, d18, e0, -⟩, e1, -⟩ := hL.2.2.2.2.1.2.2.2 n (by omega)
    show buC S r y n + (if buCP S r y n = true then S.dI n 3 else 0) = buS A r y n + (if buP A r y n = true then A 19 n else 0)
    have eP : buCP S r y n = buP A r y n := by
      unfold buCP buP
      rw [hs, e1, Bool.and_comm]
    rw [ih, eP, d3, e0]

theorem op_bundle (hI : Inv0 G X w0 kp N A w) (x y : Int32) : ∃ (r : RV) (th : Nat) (v : Int32) (N' : Nat → Nat) (A' : Nat → Nat → Int32), Ct G yX5_bundle kw_X5_bundle rm_X5_bundle [.ref kp, .int x, .int y] w (PCl G X w0 kp r N' A') ∧ Ag ["java/lang/IllegalArgumentException"] r th v ∧ MC G am N A yX6_bundle kw_X6_bundle rm_X6_bundle [.int x, .int y] th v N' A' := by
  have hI0 := hI
  obtain ⟨S, hK, hL, rfl⟩ := hI
  obtain ⟨hD, ⟨f1, f2, f3_, f4⟩, ⟨r1, r2, r3, r4, r5, r6, r7, r8⟩, ⟨p1, p2, p3, p4, p5, p6, p7, p8, p9, p10⟩, ⟨q1, q2, q3, q4⟩, ⟨v1, v2, v3, v4, v5⟩⟩ := id hL
  have hI := hI0
  cases h : inb x 0 3 with
  | false => exact ⟨_, 1, 0, N, A, cl_X hI (kt_bundle_a1 hK (by rw [v1]; exact h)), Or.inr ⟨_, rfl, by decide, rfl⟩, fun w0 w1 th0 hM => mt_bundle_a1 hM h⟩
  | true =>
    obtain ⟨j, hj, rfl⟩ := nat_le (n := 3) h (by decide) rfl (by decide)
    cases h2 : inb y 0 99 with
    | false => exact ⟨_, 1, 0, N, A, cl_X hI (kt_bundle_a2 hK (by omega) h2), Or.inr ⟨_, rfl, by decide, rfl⟩, fun w0 w1 th0 hM => mt_bundle_a2 hM h h2⟩
    | true =>
      exact ⟨_, 0, _, N, A, cl_V hI (kt_bundle_b hK (by omega) (v3 j (by omega)).1 h2) (by rw [q1]; exact hL.buy (by omega) _ (Nat.le_refl _)), Or.inl ⟨rfl, rfl⟩, fun w0 w1 th0 hM => mt_bundle_b hM h h2 (by omega) (by omega)⟩
theorem Lk.fnd {S : KS} (hL : Lk S N A) {r : Nat} (hr : r < 4) {ac ki dy : Int32} {d : Nat} (hd : d < N 17) : fnP S r ac ki dy d = fdP A r ac ki dy d := by
  have hs := hL.sees hr hd
  obtain ⟨-, -, e1, e2, e3, -⟩ := hL.2.2.2.2.1.2.2.2 d hd
  unfold fnP fdP fitB
  rw [hs, e1, e2, e3, dec_sym ac (S.dI d 1), dec_sym ki (S.dI d 2)]

theorem op_found (hI : Inv0 G X w0 kp N A w) (x ac ki dy ix : Int32) : ∃ (r : RV) (th : Nat) (v : Int32) (N' : Nat → Nat) (A' : Nat → Nat → Int32), Ct G yX5_found kw_X5_found rm_X5_found [.ref kp, .int x, .int ac, .int ki, .int dy, .int ix] w (PCl G X w0 kp r N' A') ∧ Ag ["java/lang/IllegalArgumentException", "java/lang/IndexOutOfBoundsException"] r th v ∧ MC G am N A yX6_found kw_X6_found rm_X6_found [.int x, .int ac, .int ki, .int dy, .int ix] th v N' A' := by
  have hI0 := hI
  obtain ⟨S, hK, hL, rfl⟩ := hI
  obtain ⟨hD, ⟨f1, f2, f3_, f4⟩, ⟨r1, r2, r3, r4, r5, r6, r7, r8⟩, ⟨p1, p2, p3, p4, p5, p6, p7, p8, p9, p10⟩, ⟨q1, q2, q3, q4⟩, ⟨v1, v2, v3, v4, v5⟩⟩ := id hL
  have hI := hI0
  cases h : inb x 0 3 with
  | false => exact ⟨_, 1, 0, N, A, cl_X hI (kt_found_a1 hK (by rw [v1]; exact h)), Or.inr ⟨_, rfl, by decide, rfl⟩, fun w0 w1 th0 hM => mt_found_a1 hM h⟩
  | true =>
    obtain ⟨j, hj, rfl⟩ := nat_le (n := 3) h (by decide) rfl (by decide)
    cases h1 : inb ac (-1) 99 with
    | false => exact ⟨_, 1, 0, N, A, cl_X hI (kt_found_a2 hK (by omega) h1), Or.inr ⟨_, rfl, by decide, rfl⟩, fun w0 w1 th0 hM => mt_found_a2 hM h h1⟩
    | true =>
      cases h2 : inb ki (-1) 3 with
      | false => exact ⟨_, 1, 0, N, A, cl_X hI (kt_found_a3 hK (by omega) h1 h2), Or.inr ⟨_, rfl, by decide, rfl⟩, fun w0 w1 th0 hM => mt_found_a3 hM h h1 h2⟩
      | true =>
        cases h3 : inb dy 0 9999 with
        | false => exact ⟨_, 1, 0, N, A, cl_X hI (kt_found_a4 hK (by omega) h1 h2 h3), Or.inr ⟨_, rfl, by decide, rfl⟩, fun w0 w1 th0 hM => mt_found_a4 hM h h1 h2 h3⟩
        | true =>
          have hk := kt_found_b (ix := ix) hK (show j < S.ln 3 by omega) (v3 j (by omega)).1 h1 h2 h3
          have hm := fun (w0 w1 : Wd) (th0 : Int32) (hM : Mz G am w0 (tI th0 N) A w1) => mt_found_b (ix := ix) hM h h1 h2 h3 (show j < 4 by omega) (by omega)
          have e : fC (fnP S j ac ki dy) ix (S.ln 2) (S.ln 2) 0 = fC (fdP A j ac ki dy) ix (N 17) (N 17) 0 := by
            rw [q1]
            exact fC_congr (fun k hk => hL.fnd (by omega) hk) (Nat.le_refl _)
          rw [e] at hk
          by_cases hz : fC (fdP A j ac ki dy) ix (N 17) (N 17) 0 = -1
          · refine ⟨_, 2, 0, N, A, cl_X hI (hk.mono (P' := PX "java/lang/IndexOutOfBoundsException" w) (fun r w' hr => ?_)), Or.inr ⟨_, rfl, by decide, rfl⟩, fun w0 w1 th0 hM => ?_⟩
            · rcases hr.2 with ⟨_, z⟩ | ⟨z, _⟩
              · exact ⟨z, hr.1⟩
              · exact absurd hz z
            · have h9 := hm w0 w1 th0 hM
              rw [if_pos hz, if_pos hz] at h9
              exact h9
          · refine ⟨_, 0, _, N, A, cl_V (v' := fC (fdP A j ac ki dy) ix (N 17) (N 17) 0) hI (hk.mono (P' := PV _ w) (fun r w' hr => ?_)) rfl, Or.inl ⟨rfl, rfl⟩, fun w0 w1 th0 hM => ?_⟩
            · rcases hr.2 with ⟨z, _⟩ | ⟨_, z⟩
              · exact absurd z hz
              · exact ⟨z, hr.1⟩
            · have h9 := hm w0 w1 th0 hM
              rw [if_neg hz, if_neg hz] at h9
              exact h9
theorem op_view (hI : Inv0 G X w0 kp N A w) (x f l b : Int32) : ∃ (r : RV) (th : Nat) (N' : Nat → Nat) (A' : Nat → Nat → Int32), Ct G yX5_view kw_X5_view rm_X5_view [.ref kp, .int x, .int f, .int l, .int b] w (PCl G X w0 kp r N' A') ∧ ((th = 0 ∧ r = .inl none) ∨ (th = 1 ∧ r = .inr "java/lang/IllegalArgumentException")) ∧ ∀ (w0 w1 : Wd) (th0 : Int32), Mz G am w0 (tI th0 N) A w1 → Ct G yX6_view kw_X6_view rm_X6_view [.ref (am 0), .int x, .int f, .int l, .int b] w1 (PN (Mz G am w0 (tI (nI th) N') A')) := by
  have hI0 := hI
  obtain ⟨S, hK, hL, rfl⟩ := hI
  obtain ⟨hD, ⟨f1, f2, f3_, f4⟩, ⟨r1, r2, r3, r4, r5, r6, r7, r8⟩, ⟨p1, p2, p3, p4, p5, p6, p7, p8, p9, p10⟩, ⟨q1, q2, q3, q4⟩, ⟨v1, v2, v3, v4, v5⟩⟩ := id hL
  have hI := hI0
  cases h : inb x 0 3 with
  | false => exact ⟨_, 1, N, A, cl_X hI (kt_view_a1 hK (by rw [v1]; exact h)), Or.inr ⟨rfl, rfl⟩, fun w0 w1 th0 hM => mt_view_a1 hM h⟩
  | true =>
    obtain ⟨j, hj, rfl⟩ := nat_le (n := 3) h (by decide) rfl (by decide)
    cases h1 : inb f 0 99 with
    | false => exact ⟨_, 1, N, A, cl_X hI (kt_view_a2 hK (by omega) h1), Or.inr ⟨rfl, rfl⟩, fun w0 w1 th0 hM => mt_view_a2 hM h h1⟩
    | true =>
      cases h2 : inb l f 99 with
      | false => exact ⟨_, 1, N, A, cl_X hI (kt_view_a3 hK (by omega) h1 h2), Or.inr ⟨rfl, rfl⟩, fun w0 w1 th0 hM => mt_view_a3 hM h h1 h2⟩
      | true =>
        cases h3 : inb b (-1) 7 with
        | false => exact ⟨_, 1, N, A, cl_X hI (kt_view_a4 hK (by omega) h1 h2 h3), Or.inr ⟨rfl, rfl⟩, fun w0 w1 th0 hM => mt_view_a4 hM h h1 h2 h3⟩
        | true =>
          refine ⟨.inl none, 0, N, _, (kt_view_b hK (show j < S.ln 3 by omega) h1 h2 h3).mono (fun r w' hr => ⟨hr.1, _, hr.2, hL.view (by omega) f l b, rfl⟩), Or.inl ⟨rfl, rfl⟩, fun w0 w1 th0 hM => mt_view_b hM h h1 h2 h3 (by omega)⟩
end Ops2
