/-! read, the keeper and the reference together. -/
theorem hasB_inb {s : Nat} (hs : s ≤ 8) (l : Int32) : hasB (nI s) l = inb l 0 (nI s - 1) := by
  by_cases h : l < 0
  · rw [inb_f.mpr (Or.inl h)]
    unfold hasB
    rw [decide_eq_true h]; rfl
  · obtain ⟨j, hj, rfl⟩ := nI_of h
    rw [hasB_n hs hj]
    by_cases hjs : j < s
    · rw [decide_eq_true hjs, (inb_lt (by omega)).mpr ⟨j, hjs, rfl⟩]
    · rw [decide_eq_false hjs]
      cases hb : inb (nI j) 0 (nI s - 1) with
      | false => rfl
      | true =>
        obtain ⟨j2, hj2, e⟩ := (inb_lt (by omega)).mp hb
        have := (nI_eq hj (by omega)).mp e
        omega
section Ops3
variable {G : Gx} {X : Nat → Prop} {w0 w : Wd} {kp : Nat} {am : Nat → Nat} {N : Nat → Nat} {A : Nat → Nat → Int32}
theorem op_read (hI : Inv0 G X w0 kp N A w) (x d g l : Int32) : ∃ (r : RV) (th : Nat) (v : Int32) (N' : Nat → Nat) (A' : Nat → Nat → Int32), Ct G yX5_read kw_X5_read rm_X5_read [.ref kp, .int x, .int d, .int g, .int l] w (PCl G X w0 kp r N' A') ∧ Ag ["java/lang/IllegalArgumentException", "java/lang/IndexOutOfBoundsException", "java/util/NoSuchElementException"] r th v ∧ MC G am N A yX6_read kw_X6_read rm_X6_read [.int x, .int d, .int g, .int l] th v N' A' := by
  have hI0 := hI
  obtain ⟨S, hK, hL, rfl⟩ := hI
  obtain ⟨hD, ⟨f1, f2, f3_, f4⟩, ⟨r1, r2, r3, r4, r5, r6, r7, r8⟩, ⟨p1, p2, p3, p4, p5, p6, p7, p8, p9, p10⟩, ⟨q1, q2, q3, q4⟩, ⟨v1, v2, v3, v4, v5⟩⟩ := id hL
  have hI := hI0
  cases h : inb x 0 3 with
  | false => exact ⟨_, 1, 0, N, A, cl_X hI (kt_read_a hK (by rw [v1]; exact h)), Or.inr ⟨_, rfl, by decide, rfl⟩, fun w0 w1 th0 hM => mt_read_a hM h⟩
  | true =>
    obtain ⟨j, hj, rfl⟩ := nat_le (n := 3) h (by decide) rfl (by decide)
    have hj3 : j < S.ln 3 := by omega
    have hlk := (v3 j (by omega)).1
    cases hd : inb d 0 (nI (N 17) - 1) with
    | false => exact ⟨_, 2, 0, N, A, cl_X hI (kt_read_b1 hK hj3 (by rw [q1]; exact hd)), Or.inr ⟨_, rfl, by decide, rfl⟩, fun w0 w1 th0 hM => mt_read_b1 hM h hd⟩
    | true =>
      obtain ⟨d, hdn, rfl⟩ := (inb_lt (by omega)).mp hd
      obtain ⟨hdr, ⟨f, n, d0, d3, d18, d19, hfn⟩, -⟩ := q4 d hdn
      have hd2 : d < S.ln 2 := by omega
      have hrr := r8 _ hdr
      cases hg : inb g 0 (nI n - 1) with
      | false => exact ⟨_, 2, 0, N, A, cl_X hI (kt_read_b2 hK hj3 hd2 d0 d3 hfn hg), Or.inr ⟨_, rfl, by decide, rfl⟩, fun w0 w1 th0 hM => mt_read_b2 hM h hd (by omega) d19 hg⟩
      | true =>
        obtain ⟨g, hgn, rfl⟩ := (inb_lt (by omega)).mp hg
        have hp := p10 (S.rF (S.dR d) + (f + g)) (by omega)
        have eP : S.rF (S.dR d) + (f + g) = S.rF (S.dR d) + f + g := by omega
        have e8 : A 8 (S.rF (S.dR d) + f + g) = nI (S.pS (S.rF (S.dR d) + (f + g))) := by rw [← eP]; exact hp.2.1
        have hbb := hasB_inb hp.1 l
        cases hl : inb l 0 (nI (S.pS (S.rF (S.dR d) + (f + g))) - 1) with
        | false => exact ⟨_, 2, 0, N, A, cl_X hI (kt_read_b3 hK hj3 hd2 d0 d3 hfn hgn (hbb.trans hl)), Or.inr ⟨_, rfl, by decide, rfl⟩, fun w0 w1 th0 hM => mt_read_b3 hM h hd (by omega) d19 hg d18 (by omega) e8 hl⟩
        | true =>
          obtain ⟨m, hm, rfl⟩ := (inb_lt (by have := hp.1; omega)).mp hl
          have hm8 : m < 8 := by have := hp.1; omega
          have hse := hL.sees (r := j) (by omega) hdn
          cases hs : seeb A j d with
          | false => exact ⟨_, 3, 0, N, A, cl_X hI (kt_read_c hK hj3 hlk hd2 d0 d3 hfn hgn (hbb.trans hl) (hse.trans hs)), Or.inr ⟨_, rfl, by decide, rfl⟩, fun w0 w1 th0 hM => mt_read_c hM h hd (by omega) d19 hg d18 (by omega) e8 hl hm8 (by omega) hs⟩
          | true =>
            have ev : (if nI m = S.rd j 3 then (-1 : Int32) else S.pV (S.rF (S.dR d) + (f + g)) (nI m).toNatClampNeg) = (if A 26 j = nI m then -1 else lno A (S.rF (S.dR d) + f + g) m) := by
              rw [(v3 j (by omega)).2.2.2, nI_clamp (by omega)]
              by_cases z : nI m = A 26 j
              · rw [if_pos z, if_pos z.symm]
              · rw [if_neg z, if_neg (fun y => z y.symm)]
                unfold lno
                rw [e8, if_pos (nI_lt hm (by have := hp.1; omega)), ← eP]
                exact (hp.2.2.2.1 m hm).symm
            exact ⟨_, 0, _, N, A, cl_V hI (kt_read_d hK hj3 hlk hd2 d0 d3 hfn hgn (hbb.trans hl) (hse.trans hs)) ev, Or.inl ⟨rfl, rfl⟩, fun w0 w1 th0 hM => mt_read_d hM h hd (by omega) d19 hg d18 (by omega) e8 hl hm8 (by omega) hs⟩
end Ops3
