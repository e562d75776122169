/-! Each call of the law, both sides. -/
theorem WQ.ch {G : Gx} {X : Nat → Prop} {w w1 : Wd} {kp ou th : Nat} {x y : Int64} {N : Nat → Nat} {A : Nat → Nat → Int32} (h : WQ G X w kp ou th x N A w1) (h0 : 0 < th) : WQ G X w kp ou th y N A w1 := by
  rcases h with ⟨z, _⟩ | z
  · omega
  · exact Or.inr z
section Bos
variable {G : Gx} {X : Nat → Prop} {w : Wd} {kp ou : Nat} {am : Nat → Nat} {N : Nat → Nat} {A : Nat → Nat → Int32} {th0 : Int32}
theorem bo_pass (hF : Fx G X am ou) (hJ : Jn G X kp am ou th0 N A w) (x : Int32) : ∃ (th : Nat) (v : Int32) (N' : Nat → Nat) (A' : Nat → Nat → Int32), th ≤ 3 ∧ Ct G yL_pass kw_L_pass rm_L_pass [.ref kp, .int x, .ref ou] w (PB (.int (nI th)) (WQ G X w kp ou th v.toInt64 N' A')) ∧
    ∀ w1, WQ G X w kp ou th v.toInt64 N' A' w1 → Ct G yX6_pass kw_X6_pass rm_X6_pass [.ref (am 0), .int x] w1 (PB (.int v) (fun w2 => Jn G X kp am ou (nI th) N' A' w2 ∧ (∃ f : Nat → Int64, w2 ou = some (eJ G 1 f) ∧ (th = 0 → f 0 = v.toInt64)) ∧ ∀ a, (∀ k, mIs k = true → a ≠ am k) → w2 a = w1 a)) := by
  obtain ⟨hI, hM, f0, ho⟩ := hJ
  obtain ⟨r, th, v, N', A', hc, hag, hm⟩ := op_pass (am := am) hI x
  have hL : Ct G yL_pass kw_L_pass rm_L_pass [.ref kp, .int x, .ref ou] w (PB (.int (nI th)) (WQ G X w kp ou th v.toInt64 N' A')) := by
    rcases hag with ⟨rfl, rfl⟩ | ⟨E, hE, hth, rfl⟩
    · exact lw_pass_0 hI hF.1 hF.2.1 hF.2.2.1 ho hc
    · match th, hE, hth with
      | 1, hE, _ =>
        cases hE
        exact (lw_pass_1 (v := v) hI hF.1 hF.2.1 hF.2.2.1 ho hc).mono (fun r9 w9 h9 => ⟨h9.1, h9.2.ch (by decide)⟩)
      | 2, hE, _ =>
        cases hE
        exact (lw_pass_2 (v := v) hI hF.1 hF.2.1 hF.2.2.1 ho hc).mono (fun r9 w9 h9 => ⟨h9.1, h9.2.ch (by decide)⟩)
      | n + 3, hE, _ => exact absurd hE (by simp)
  have h3 : th ≤ 3 := by
    rcases hag with ⟨rfl, -⟩ | ⟨E, hE, hth, -⟩
    · exact Nat.zero_le _
    · match th, hE, hth with
      | 1, _, _ => decide
      | 2, _, _ => decide
      | 3, _, _ => decide
      | n + 4, hE, _ => exact absurd hE (by simp)
  refine ⟨th, v, N', A', h3, hL, fun w1 h1 => ?_⟩
  obtain ⟨w9, hI1⟩ := h1.inv
  obtain ⟨f, hf1, hf2⟩ := h1.out ho hF.1
  exact (hm w1 w1 th0 (h1.mz hM hF.2.2.2.1 hF.2.2.2.2.1)).mono (fun r9 w2 h9 => ⟨h9.1, (Jn.of hF hI1 h9.2 hf1 rfl rfl).1, ⟨f, (Jn.of hF hI1 h9.2 hf1 rfl rfl).2, hf2⟩, h9.2.2.2.2.2⟩)
theorem bo_format (hF : Fx G X am ou) (hJ : Jn G X kp am ou th0 N A w) (x y z : Int32) : ∃ (th : Nat) (v : Int32) (N' : Nat → Nat) (A' : Nat → Nat → Int32), th ≤ 3 ∧ Ct G yL_format kw_L_format rm_L_format [.ref kp, .int x, .int y, .int z, .ref ou] w (PB (.int (nI th)) (WQ G X w kp ou th v.toInt64 N' A')) ∧
    ∀ w1, WQ G X w kp ou th v.toInt64 N' A' w1 → Ct G yX6_format kw_X6_format rm_X6_format [.ref (am 0), .int x, .int y, .int z] w1 (PB (.int v) (fun w2 => Jn G X kp am ou (nI th) N' A' w2 ∧ (∃ f : Nat → Int64, w2 ou = some (eJ G 1 f) ∧ (th = 0 → f 0 = v.toInt64)) ∧ ∀ a, (∀ k, mIs k = true → a ≠ am k) → w2 a = w1 a)) := by
  obtain ⟨hI, hM, f0, ho⟩ := hJ
  obtain ⟨r, th, v, N', A', hc, hag, hm⟩ := op_format (am := am) hI x y z
  have hL : Ct G yL_format kw_L_format rm_L_format [.ref kp, .int x, .int y, .int z, .ref ou] w (PB (.int (nI th)) (WQ G X w kp ou th v.toInt64 N' A')) := by
    rcases hag with ⟨rfl, rfl⟩ | ⟨E, hE, hth, rfl⟩
    · exact lw_format_0 hI hF.1 hF.2.1 hF.2.2.1 ho hc
    · match th, hE, hth with
      | 1, hE, _ =>
        cases hE
        exact (lw_format_1 (v := v) hI hF.1 hF.2.1 hF.2.2.1 ho hc).mono (fun r9 w9 h9 => ⟨h9.1, h9.2.ch (by decide)⟩)
      | 2, hE, _ =>
        cases hE
        exact (lw_format_2 (v := v) hI hF.1 hF.2.1 hF.2.2.1 ho hc).mono (fun r9 w9 h9 => ⟨h9.1, h9.2.ch (by decide)⟩)
      | n + 3, hE, _ => exact absurd hE (by simp)
  have h3 : th ≤ 3 := by
    rcases hag with ⟨rfl, -⟩ | ⟨E, hE, hth, -⟩
    · exact Nat.zero_le _
    · match th, hE, hth with
      | 1, _, _ => decide
      | 2, _, _ => decide
      | 3, _, _ => decide
      | n + 4, hE, _ => exact absurd hE (by simp)
  refine ⟨th, v, N', A', h3, hL, fun w1 h1 => ?_⟩
  obtain ⟨w9, hI1⟩ := h1.inv
  obtain ⟨f, hf1, hf2⟩ := h1.out ho hF.1
  exact (hm w1 w1 th0 (h1.mz hM hF.2.2.2.1 hF.2.2.2.2.1)).mono (fun r9 w2 h9 => ⟨h9.1, (Jn.of hF hI1 h9.2 hf1 rfl rfl).1, ⟨f, (Jn.of hF hI1 h9.2 hf1 rfl rfl).2, hf2⟩, h9.2.2.2.2.2⟩)
theorem bo_line (hF : Fx G X am ou) (hJ : Jn G X kp am ou th0 N A w) (x : Int32) : ∃ (th : Nat) (v : Int32) (N' : Nat → Nat) (A' : Nat → Nat → Int32), th ≤ 3 ∧ Ct G yL_line kw_L_line rm_L_line [.ref kp, .int x, .ref ou] w (PB (.int (nI th)) (WQ G X w kp ou th v.toInt64 N' A')) ∧
    ∀ w1, WQ G X w kp ou th v.toInt64 N' A' w1 → Ct G yX6_line kw_X6_line rm_X6_line [.ref (am 0), .int x] w1 (PB (.int v) (fun w2 => Jn G X kp am ou (nI th) N' A' w2 ∧ (∃ f : Nat → Int64, w2 ou = some (eJ G 1 f) ∧ (th = 0 → f 0 = v.toInt64)) ∧ ∀ a, (∀ k, mIs k = true → a ≠ am k) → w2 a = w1 a)) := by
  obtain ⟨hI, hM, f0, ho⟩ := hJ
  obtain ⟨r, th, v, N', A', hc, hag, hm⟩ := op_line (am := am) hI x
  have hL : Ct G yL_line kw_L_line rm_L_line [.ref kp, .int x, .ref ou] w (PB (.int (nI th)) (WQ G X w kp ou th v.toInt64 N' A')) := by
    rcases hag with ⟨rfl, rfl⟩ | ⟨E, hE, hth, rfl⟩
    · exact lw_line_0 hI hF.1 hF.2.1 hF.2.2.1 ho hc
    · match th, hE, hth with
      | 1, hE, _ =>
        cases hE
        exact (lw_line_1 (v := v) hI hF.1 hF.2.1 hF.2.2.1 ho hc).mono (fun r9 w9 h9 => ⟨h9.1, h9.2.ch (by decide)⟩)
      | 2, hE, _ =>
        cases hE
        exact (lw_line_2 (v := v) hI hF.1 hF.2.1 hF.2.2.1 ho hc).mono (fun r9 w9 h9 => ⟨h9.1, h9.2.ch (by decide)⟩)
      | n + 3, hE, _ => exact absurd hE (by simp)
  have h3 : th ≤ 3 := by
    rcases hag with ⟨rfl, -⟩ | ⟨E, hE, hth, -⟩
    · exact Nat.zero_le _
    · match th, hE, hth with
      | 1, _, _ => decide
      | 2, _, _ => decide
      | 3, _, _ => decide
      | n + 4, hE, _ => exact absurd hE (by simp)
  refine ⟨th, v, N', A', h3, hL, fun w1 h1 => ?_⟩
  obtain ⟨w9, hI1⟩ := h1.inv
  obtain ⟨f, hf1, hf2⟩ := h1.out ho hF.1
  exact (hm w1 w1 th0 (h1.mz hM hF.2.2.2.1 hF.2.2.2.2.1)).mono (fun r9 w2 h9 => ⟨h9.1, (Jn.of hF hI1 h9.2 hf1 rfl rfl).1, ⟨f, (Jn.of hF hI1 h9.2 hf1 rfl rfl).2, hf2⟩, h9.2.2.2.2.2⟩)
theorem bo_feed (hF : Fx G X am ou) (hJ : Jn G X kp am ou th0 N A w)  : ∃ (th : Nat) (v : Int32) (N' : Nat → Nat) (A' : Nat → Nat → Int32), th ≤ 3 ∧ Ct G yL_feed kw_L_feed rm_L_feed [.ref kp, .ref ou] w (PB (.int (nI th)) (WQ G X w kp ou th v.toInt64 N' A')) ∧
    ∀ w1, WQ G X w kp ou th v.toInt64 N' A' w1 → Ct G yX6_feed kw_X6_feed rm_X6_feed [.ref (am 0)] w1 (PB (.int v) (fun w2 => Jn G X kp am ou (nI th) N' A' w2 ∧ (∃ f : Nat → Int64, w2 ou = some (eJ G 1 f) ∧ (th = 0 → f 0 = v.toInt64)) ∧ ∀ a, (∀ k, mIs k = true → a ≠ am k) → w2 a = w1 a)) := by
  obtain ⟨hI, hM, f0, ho⟩ := hJ
  obtain ⟨r, th, v, N', A', hc, hag, hm⟩ := op_feed (am := am) hI 
  have hL : Ct G yL_feed kw_L_feed rm_L_feed [.ref kp, .ref ou] w (PB (.int (nI th)) (WQ G X w kp ou th v.toInt64 N' A')) := by
    rcases hag with ⟨rfl, rfl⟩ | ⟨E, hE, hth, rfl⟩
    · exact lw_feed_0 hI hF.1 hF.2.1 hF.2.2.1 ho hc
    · match th, hE, hth with
      | 1, hE, _ =>
        cases hE
        exact (lw_feed_1 (v := v) hI hF.1 hF.2.1 hF.2.2.1 ho hc).mono (fun r9 w9 h9 => ⟨h9.1, h9.2.ch (by decide)⟩)
      | n + 2, hE, _ => exact absurd hE (by simp)
  have h3 : th ≤ 3 := by
    rcases hag with ⟨rfl, -⟩ | ⟨E, hE, hth, -⟩
    · exact Nat.zero_le _
    · match th, hE, hth with
      | 1, _, _ => decide
      | 2, _, _ => decide
      | 3, _, _ => decide
      | n + 4, hE, _ => exact absurd hE (by simp)
  refine ⟨th, v, N', A', h3, hL, fun w1 h1 => ?_⟩
  obtain ⟨w9, hI1⟩ := h1.inv
  obtain ⟨f, hf1, hf2⟩ := h1.out ho hF.1
  exact (hm w1 w1 th0 (h1.mz hM hF.2.2.2.1 hF.2.2.2.2.1)).mono (fun r9 w2 h9 => ⟨h9.1, (Jn.of hF hI1 h9.2 hf1 rfl rfl).1, ⟨f, (Jn.of hF hI1 h9.2 hf1 rfl rfl).2, hf2⟩, h9.2.2.2.2.2⟩)
theorem bo_end (hF : Fx G X am ou) (hJ : Jn G X kp am ou th0 N A w)  : ∃ (th : Nat) (v : Int32) (N' : Nat → Nat) (A' : Nat → Nat → Int32), th ≤ 3 ∧ Ct G yL_end kw_L_end rm_L_end [.ref kp, .ref ou] w (PB (.int (nI th)) (WQ G X w kp ou th v.toInt64 N' A')) ∧
    ∀ w1, WQ G X w kp ou th v.toInt64 N' A' w1 → Ct G yX6_end kw_X6_end rm_X6_end [.ref (am 0)] w1 (PB (.int v) (fun w2 => Jn G X kp am ou (nI th) N' A' w2 ∧ (∃ f : Nat → Int64, w2 ou = some (eJ G 1 f) ∧ (th = 0 → f 0 = v.toInt64)) ∧ ∀ a, (∀ k, mIs k = true → a ≠ am k) → w2 a = w1 a)) := by
  obtain ⟨hI, hM, f0, ho⟩ := hJ
  obtain ⟨r, th, v, N', A', hc, hag, hm⟩ := op_end (am := am) hI 
  have hL : Ct G yL_end kw_L_end rm_L_end [.ref kp, .ref ou] w (PB (.int (nI th)) (WQ G X w kp ou th v.toInt64 N' A')) := by
    rcases hag with ⟨rfl, rfl⟩ | ⟨E, hE, hth, rfl⟩
    · exact lw_end_0 hI hF.1 hF.2.1 hF.2.2.1 ho hc
    · match th, hE, hth with
      | 1, hE, _ =>
        cases hE
        exact (lw_end_1 (v := v) hI hF.1 hF.2.1 hF.2.2.1 ho hc).mono (fun r9 w9 h9 => ⟨h9.1, h9.2.ch (by decide)⟩)
      | n + 2, hE, _ => exact absurd hE (by simp)
  have h3 : th ≤ 3 := by
    rcases hag with ⟨rfl, -⟩ | ⟨E, hE, hth, -⟩
    · exact Nat.zero_le _
    · match th, hE, hth with
      | 1, _, _ => decide
      | 2, _, _ => decide
      | 3, _, _ => decide
      | n + 4, hE, _ => exact absurd hE (by simp)
  refine ⟨th, v, N', A', h3, hL, fun w1 h1 => ?_⟩
  obtain ⟨w9, hI1⟩ := h1.inv
  obtain ⟨f, hf1, hf2⟩ := h1.out ho hF.1
  exact (hm w1 w1 th0 (h1.mz hM hF.2.2.2.1 hF.2.2.2.2.1)).mono (fun r9 w2 h9 => ⟨h9.1, (Jn.of hF hI1 h9.2 hf1 rfl rfl).1, ⟨f, (Jn.of hF hI1 h9.2 hf1 rfl rfl).2, hf2⟩, h9.2.2.2.2.2⟩)
theorem bo_pages (hF : Fx G X am ou) (hJ : Jn G X kp am ou th0 N A w) (x : Int32) : ∃ (th : Nat) (v : Int32) (N' : Nat → Nat) (A' : Nat → Nat → Int32), th ≤ 3 ∧ Ct G yL_pages kw_L_pages rm_L_pages [.ref kp, .int x, .ref ou] w (PB (.int (nI th)) (WQ G X w kp ou th v.toInt64 N' A')) ∧
    ∀ w1, WQ G X w kp ou th v.toInt64 N' A' w1 → Ct G yX6_pages kw_X6_pages rm_X6_pages [.ref (am 0), .int x] w1 (PB (.int v) (fun w2 => Jn G X kp am ou (nI th) N' A' w2 ∧ (∃ f : Nat → Int64, w2 ou = some (eJ G 1 f) ∧ (th = 0 → f 0 = v.toInt64)) ∧ ∀ a, (∀ k, mIs k = true → a ≠ am k) → w2 a = w1 a)) := by
  obtain ⟨hI, hM, f0, ho⟩ := hJ
  obtain ⟨r, th, v, N', A', hc, hag, hm⟩ := op_pages (am := am) hI x
  have hL : Ct G yL_pages kw_L_pages rm_L_pages [.ref kp, .int x, .ref ou] w (PB (.int (nI th)) (WQ G X w kp ou th v.toInt64 N' A')) := by
    rcases hag with ⟨rfl, rfl⟩ | ⟨E, hE, hth, rfl⟩
    · exact lw_pages_0 hI hF.1 hF.2.1 hF.2.2.1 ho hc
    · match th, hE, hth with
      | 1, hE, _ =>
        cases hE
        exact (lw_pages_1 (v := v) hI hF.1 hF.2.1 hF.2.2.1 ho hc).mono (fun r9 w9 h9 => ⟨h9.1, h9.2.ch (by decide)⟩)
      | n + 2, hE, _ => exact absurd hE (by simp)
  have h3 : th ≤ 3 := by
    rcases hag with ⟨rfl, -⟩ | ⟨E, hE, hth, -⟩
    · exact Nat.zero_le _
    · match th, hE, hth with
      | 1, _, _ => decide
      | 2, _, _ => decide
      | 3, _, _ => decide
      | n + 4, hE, _ => exact absurd hE (by simp)
  refine ⟨th, v, N', A', h3, hL, fun w1 h1 => ?_⟩
  obtain ⟨w9, hI1⟩ := h1.inv
  obtain ⟨f, hf1, hf2⟩ := h1.out ho hF.1
  exact (hm w1 w1 th0 (h1.mz hM hF.2.2.2.1 hF.2.2.2.2.1)).mono (fun r9 w2 h9 => ⟨h9.1, (Jn.of hF hI1 h9.2 hf1 rfl rfl).1, ⟨f, (Jn.of hF hI1 h9.2 hf1 rfl rfl).2, hf2⟩, h9.2.2.2.2.2⟩)
theorem bo_twice (hF : Fx G X am ou) (hJ : Jn G X kp am ou th0 N A w) (x : Int32) : ∃ (th : Nat) (v : Int32) (N' : Nat → Nat) (A' : Nat → Nat → Int32), th ≤ 3 ∧ Ct G yL_twice kw_L_twice rm_L_twice [.ref kp, .int x, .ref ou] w (PB (.int (nI th)) (WQ G X w kp ou th v.toInt64 N' A')) ∧
    ∀ w1, WQ G X w kp ou th v.toInt64 N' A' w1 → Ct G yX6_twice kw_X6_twice rm_X6_twice [.ref (am 0), .int x] w1 (PB (.int v) (fun w2 => Jn G X kp am ou (nI th) N' A' w2 ∧ (∃ f : Nat → Int64, w2 ou = some (eJ G 1 f) ∧ (th = 0 → f 0 = v.toInt64)) ∧ ∀ a, (∀ k, mIs k = true → a ≠ am k) → w2 a = w1 a)) := by
  obtain ⟨hI, hM, f0, ho⟩ := hJ
  obtain ⟨r, th, v, N', A', hc, hag, hm⟩ := op_twice (am := am) hI x
  have hL : Ct G yL_twice kw_L_twice rm_L_twice [.ref kp, .int x, .ref ou] w (PB (.int (nI th)) (WQ G X w kp ou th v.toInt64 N' A')) := by
    rcases hag with ⟨rfl, rfl⟩ | ⟨E, hE, hth, rfl⟩
    · exact lw_twice_0 hI hF.1 hF.2.1 hF.2.2.1 ho hc
    · match th, hE, hth with
      | 1, hE, _ =>
        cases hE
        exact (lw_twice_1 (v := v) hI hF.1 hF.2.1 hF.2.2.1 ho hc).mono (fun r9 w9 h9 => ⟨h9.1, h9.2.ch (by decide)⟩)
      | n + 2, hE, _ => exact absurd hE (by simp)
  have h3 : th ≤ 3 := by
    rcases hag with ⟨rfl, -⟩ | ⟨E, hE, hth, -⟩
    · exact Nat.zero_le _
    · match th, hE, hth with
      | 1, _, _ => decide
      | 2, _, _ => decide
      | 3, _, _ => decide
      | n + 4, hE, _ => exact absurd hE (by simp)
  refine ⟨th, v, N', A', h3, hL, fun w1 h1 => ?_⟩
  obtain ⟨w9, hI1⟩ := h1.inv
  obtain ⟨f, hf1, hf2⟩ := h1.out ho hF.1
  exact (hm w1 w1 th0 (h1.mz hM hF.2.2.2.1 hF.2.2.2.2.1)).mono (fun r9 w2 h9 => ⟨h9.1, (Jn.of hF hI1 h9.2 hf1 rfl rfl).1, ⟨f, (Jn.of hF hI1 h9.2 hf1 rfl rfl).2, hf2⟩, h9.2.2.2.2.2⟩)
theorem bo_account (hF : Fx G X am ou) (hJ : Jn G X kp am ou th0 N A w) (x : Int32) : ∃ (th : Nat) (v : Int32) (N' : Nat → Nat) (A' : Nat → Nat → Int32), th ≤ 3 ∧ Ct G yL_account kw_L_account rm_L_account [.ref kp, .int x, .ref ou] w (PB (.int (nI th)) (WQ G X w kp ou th v.toInt64 N' A')) ∧
    ∀ w1, WQ G X w kp ou th v.toInt64 N' A' w1 → Ct G yX6_account kw_X6_account rm_X6_account [.ref (am 0), .int x] w1 (PB (.int v) (fun w2 => Jn G X kp am ou (nI th) N' A' w2 ∧ (∃ f : Nat → Int64, w2 ou = some (eJ G 1 f) ∧ (th = 0 → f 0 = v.toInt64)) ∧ ∀ a, (∀ k, mIs k = true → a ≠ am k) → w2 a = w1 a)) := by
  obtain ⟨hI, hM, f0, ho⟩ := hJ
  obtain ⟨r, th, v, N', A', hc, hag, hm⟩ := op_account (am := am) hI x
  have hL : Ct G yL_account kw_L_account rm_L_account [.ref kp, .int x, .ref ou] w (PB (.int (nI th)) (WQ G X w kp ou th v.toInt64 N' A')) := by
    rcases hag with ⟨rfl, rfl⟩ | ⟨E, hE, hth, rfl⟩
    · exact lw_account_0 hI hF.1 hF.2.1 hF.2.2.1 ho hc
    · match th, hE, hth with
      | 1, hE, _ =>
        cases hE
        exact (lw_account_1 (v := v) hI hF.1 hF.2.1 hF.2.2.1 ho hc).mono (fun r9 w9 h9 => ⟨h9.1, h9.2.ch (by decide)⟩)
      | n + 2, hE, _ => exact absurd hE (by simp)
  have h3 : th ≤ 3 := by
    rcases hag with ⟨rfl, -⟩ | ⟨E, hE, hth, -⟩
    · exact Nat.zero_le _
    · match th, hE, hth with
      | 1, _, _ => decide
      | 2, _, _ => decide
      | 3, _, _ => decide
      | n + 4, hE, _ => exact absurd hE (by simp)
  refine ⟨th, v, N', A', h3, hL, fun w1 h1 => ?_⟩
  obtain ⟨w9, hI1⟩ := h1.inv
  obtain ⟨f, hf1, hf2⟩ := h1.out ho hF.1
  exact (hm w1 w1 th0 (h1.mz hM hF.2.2.2.1 hF.2.2.2.2.1)).mono (fun r9 w2 h9 => ⟨h9.1, (Jn.of hF hI1 h9.2 hf1 rfl rfl).1, ⟨f, (Jn.of hF hI1 h9.2 hf1 rfl rfl).2, hf2⟩, h9.2.2.2.2.2⟩)
theorem bo_kind (hF : Fx G X am ou) (hJ : Jn G X kp am ou th0 N A w) (x : Int32) : ∃ (th : Nat) (v : Int32) (N' : Nat → Nat) (A' : Nat → Nat → Int32), th ≤ 3 ∧ Ct G yL_kind kw_L_kind rm_L_kind [.ref kp, .int x, .ref ou] w (PB (.int (nI th)) (WQ G X w kp ou th v.toInt64 N' A')) ∧
    ∀ w1, WQ G X w kp ou th v.toInt64 N' A' w1 → Ct G yX6_kind kw_X6_kind rm_X6_kind [.ref (am 0), .int x] w1 (PB (.int v) (fun w2 => Jn G X kp am ou (nI th) N' A' w2 ∧ (∃ f : Nat → Int64, w2 ou = some (eJ G 1 f) ∧ (th = 0 → f 0 = v.toInt64)) ∧ ∀ a, (∀ k, mIs k = true → a ≠ am k) → w2 a = w1 a)) := by
  obtain ⟨hI, hM, f0, ho⟩ := hJ
  obtain ⟨r, th, v, N', A', hc, hag, hm⟩ := op_kind (am := am) hI x
  have hL : Ct G yL_kind kw_L_kind rm_L_kind [.ref kp, .int x, .ref ou] w (PB (.int (nI th)) (WQ G X w kp ou th v.toInt64 N' A')) := by
    rcases hag with ⟨rfl, rfl⟩ | ⟨E, hE, hth, rfl⟩
    · exact lw_kind_0 hI hF.1 hF.2.1 hF.2.2.1 ho hc
    · match th, hE, hth with
      | 1, hE, _ =>
        cases hE
        exact (lw_kind_1 (v := v) hI hF.1 hF.2.1 hF.2.2.1 ho hc).mono (fun r9 w9 h9 => ⟨h9.1, h9.2.ch (by decide)⟩)
      | n + 2, hE, _ => exact absurd hE (by simp)
  have h3 : th ≤ 3 := by
    rcases hag with ⟨rfl, -⟩ | ⟨E, hE, hth, -⟩
    · exact Nat.zero_le _
    · match th, hE, hth with
      | 1, _, _ => decide
      | 2, _, _ => decide
      | 3, _, _ => decide
      | n + 4, hE, _ => exact absurd hE (by simp)
  refine ⟨th, v, N', A', h3, hL, fun w1 h1 => ?_⟩
  obtain ⟨w9, hI1⟩ := h1.inv
  obtain ⟨f, hf1, hf2⟩ := h1.out ho hF.1
  exact (hm w1 w1 th0 (h1.mz hM hF.2.2.2.1 hF.2.2.2.2.1)).mono (fun r9 w2 h9 => ⟨h9.1, (Jn.of hF hI1 h9.2 hf1 rfl rfl).1, ⟨f, (Jn.of hF hI1 h9.2 hf1 rfl rfl).2, hf2⟩, h9.2.2.2.2.2⟩)
theorem bo_length (hF : Fx G X am ou) (hJ : Jn G X kp am ou th0 N A w) (x : Int32) : ∃ (th : Nat) (v : Int32) (N' : Nat → Nat) (A' : Nat → Nat → Int32), th ≤ 3 ∧ Ct G yL_length kw_L_length rm_L_length [.ref kp, .int x, .ref ou] w (PB (.int (nI th)) (WQ G X w kp ou th v.toInt64 N' A')) ∧
    ∀ w1, WQ G X w kp ou th v.toInt64 N' A' w1 → Ct G yX6_length kw_X6_length rm_X6_length [.ref (am 0), .int x] w1 (PB (.int v) (fun w2 => Jn G X kp am ou (nI th) N' A' w2 ∧ (∃ f : Nat → Int64, w2 ou = some (eJ G 1 f) ∧ (th = 0 → f 0 = v.toInt64)) ∧ ∀ a, (∀ k, mIs k = true → a ≠ am k) → w2 a = w1 a)) := by
  obtain ⟨hI, hM, f0, ho⟩ := hJ
  obtain ⟨r, th, v, N', A', hc, hag, hm⟩ := op_length (am := am) hI x
  have hL : Ct G yL_length kw_L_length rm_L_length [.ref kp, .int x, .ref ou] w (PB (.int (nI th)) (WQ G X w kp ou th v.toInt64 N' A')) := by
    rcases hag with ⟨rfl, rfl⟩ | ⟨E, hE, hth, rfl⟩
    · exact lw_length_0 hI hF.1 hF.2.1 hF.2.2.1 ho hc
    · match th, hE, hth with
      | 1, hE, _ =>
        cases hE
        exact (lw_length_1 (v := v) hI hF.1 hF.2.1 hF.2.2.1 ho hc).mono (fun r9 w9 h9 => ⟨h9.1, h9.2.ch (by decide)⟩)
      | n + 2, hE, _ => exact absurd hE (by simp)
  have h3 : th ≤ 3 := by
    rcases hag with ⟨rfl, -⟩ | ⟨E, hE, hth, -⟩
    · exact Nat.zero_le _
    · match th, hE, hth with
      | 1, _, _ => decide
      | 2, _, _ => decide
      | 3, _, _ => decide
      | n + 4, hE, _ => exact absurd hE (by simp)
  refine ⟨th, v, N', A', h3, hL, fun w1 h1 => ?_⟩
  obtain ⟨w9, hI1⟩ := h1.inv
  obtain ⟨f, hf1, hf2⟩ := h1.out ho hF.1
  exact (hm w1 w1 th0 (h1.mz hM hF.2.2.2.1 hF.2.2.2.2.1)).mono (fun r9 w2 h9 => ⟨h9.1, (Jn.of hF hI1 h9.2 hf1 rfl rfl).1, ⟨f, (Jn.of hF hI1 h9.2 hf1 rfl rfl).2, hf2⟩, h9.2.2.2.2.2⟩)
theorem bo_isThere (hF : Fx G X am ou) (hJ : Jn G X kp am ou th0 N A w) (x : Int32) : ∃ (th : Nat) (v : Int32) (N' : Nat → Nat) (A' : Nat → Nat → Int32), th ≤ 3 ∧ Ct G yL_isThere kw_L_isThere rm_L_isThere [.ref kp, .int x, .ref ou] w (PB (.int (nI th)) (WQ G X w kp ou th (if v = 0 then 0 else 1) N' A')) ∧
    ∀ w1, WQ G X w kp ou th (if v = 0 then 0 else 1) N' A' w1 → Ct G yX6_isThere kw_X6_isThere rm_X6_isThere [.ref (am 0), .int x] w1 (PB (.int v) (fun w2 => Jn G X kp am ou (nI th) N' A' w2 ∧ (∃ f : Nat → Int64, w2 ou = some (eJ G 1 f) ∧ (th = 0 → f 0 = (if v = 0 then 0 else 1))) ∧ ∀ a, (∀ k, mIs k = true → a ≠ am k) → w2 a = w1 a)) := by
  obtain ⟨hI, hM, f0, ho⟩ := hJ
  obtain ⟨r, th, v, N', A', hc, hag, hm⟩ := op_isThere (am := am) hI x
  have hL : Ct G yL_isThere kw_L_isThere rm_L_isThere [.ref kp, .int x, .ref ou] w (PB (.int (nI th)) (WQ G X w kp ou th (if v = 0 then 0 else 1) N' A')) := by
    rcases hag with ⟨rfl, rfl⟩ | ⟨E, hE, hth, rfl⟩
    · exact lw_isThere_0 hI hF.1 hF.2.1 hF.2.2.1 ho hc
    · match th, hE, hth with
      | 1, hE, _ =>
        cases hE
        exact (lw_isThere_1 (v := v) hI hF.1 hF.2.1 hF.2.2.1 ho hc).mono (fun r9 w9 h9 => ⟨h9.1, h9.2.ch (by decide)⟩)
      | n + 2, hE, _ => exact absurd hE (by simp)
  have h3 : th ≤ 3 := by
    rcases hag with ⟨rfl, -⟩ | ⟨E, hE, hth, -⟩
    · exact Nat.zero_le _
    · match th, hE, hth with
      | 1, _, _ => decide
      | 2, _, _ => decide
      | 3, _, _ => decide
      | n + 4, hE, _ => exact absurd hE (by simp)
  refine ⟨th, v, N', A', h3, hL, fun w1 h1 => ?_⟩
  obtain ⟨w9, hI1⟩ := h1.inv
  obtain ⟨f, hf1, hf2⟩ := h1.out ho hF.1
  exact (hm w1 w1 th0 (h1.mz hM hF.2.2.2.1 hF.2.2.2.2.1)).mono (fun r9 w2 h9 => ⟨h9.1, (Jn.of hF hI1 h9.2 hf1 rfl rfl).1, ⟨f, (Jn.of hF hI1 h9.2 hf1 rfl rfl).2, hf2⟩, h9.2.2.2.2.2⟩)
theorem bo_reprint (hF : Fx G X am ou) (hJ : Jn G X kp am ou th0 N A w) (x y z : Int32) : ∃ (th : Nat) (v : Int32) (N' : Nat → Nat) (A' : Nat → Nat → Int32), th ≤ 3 ∧ Ct G yL_reprint kw_L_reprint rm_L_reprint [.ref kp, .int x, .int y, .int z, .ref ou] w (PB (.int (nI th)) (WQ G X w kp ou th v.toInt64 N' A')) ∧
    ∀ w1, WQ G X w kp ou th v.toInt64 N' A' w1 → Ct G yX6_reprint kw_X6_reprint rm_X6_reprint [.ref (am 0), .int x, .int y, .int z] w1 (PB (.int v) (fun w2 => Jn G X kp am ou (nI th) N' A' w2 ∧ (∃ f : Nat → Int64, w2 ou = some (eJ G 1 f) ∧ (th = 0 → f 0 = v.toInt64)) ∧ ∀ a, (∀ k, mIs k = true → a ≠ am k) → w2 a = w1 a)) := by
  obtain ⟨hI, hM, f0, ho⟩ := hJ
  obtain ⟨r, th, v, N', A', hc, hag, hm⟩ := op_reprint (am := am) hI x y z
  have hL : Ct G yL_reprint kw_L_reprint rm_L_reprint [.ref kp, .int x, .int y, .int z, .ref ou] w (PB (.int (nI th)) (WQ G X w kp ou th v.toInt64 N' A')) := by
    rcases hag with ⟨rfl, rfl⟩ | ⟨E, hE, hth, rfl⟩
    · exact lw_reprint_0 hI hF.1 hF.2.1 hF.2.2.1 ho hc
    · match th, hE, hth with
      | 1, hE, _ =>
        cases hE
        exact (lw_reprint_1 (v := v) hI hF.1 hF.2.1 hF.2.2.1 ho hc).mono (fun r9 w9 h9 => ⟨h9.1, h9.2.ch (by decide)⟩)
      | 2, hE, _ =>
        cases hE
        exact (lw_reprint_2 (v := v) hI hF.1 hF.2.1 hF.2.2.1 ho hc).mono (fun r9 w9 h9 => ⟨h9.1, h9.2.ch (by decide)⟩)
      | n + 3, hE, _ => exact absurd hE (by simp)
  have h3 : th ≤ 3 := by
    rcases hag with ⟨rfl, -⟩ | ⟨E, hE, hth, -⟩
    · exact Nat.zero_le _
    · match th, hE, hth with
      | 1, _, _ => decide
      | 2, _, _ => decide
      | 3, _, _ => decide
      | n + 4, hE, _ => exact absurd hE (by simp)
  refine ⟨th, v, N', A', h3, hL, fun w1 h1 => ?_⟩
  obtain ⟨w9, hI1⟩ := h1.inv
  obtain ⟨f, hf1, hf2⟩ := h1.out ho hF.1
  exact (hm w1 w1 th0 (h1.mz hM hF.2.2.2.1 hF.2.2.2.2.1)).mono (fun r9 w2 h9 => ⟨h9.1, (Jn.of hF hI1 h9.2 hf1 rfl rfl).1, ⟨f, (Jn.of hF hI1 h9.2 hf1 rfl rfl).2, hf2⟩, h9.2.2.2.2.2⟩)
theorem bo_copies (hF : Fx G X am ou) (hJ : Jn G X kp am ou th0 N A w) (x y : Int32) : ∃ (th : Nat) (v : Int32) (N' : Nat → Nat) (A' : Nat → Nat → Int32), th ≤ 3 ∧ Ct G yL_copies kw_L_copies rm_L_copies [.ref kp, .int x, .int y, .ref ou] w (PB (.int (nI th)) (WQ G X w kp ou th v.toInt64 N' A')) ∧
    ∀ w1, WQ G X w kp ou th v.toInt64 N' A' w1 → Ct G yX6_copies kw_X6_copies rm_X6_copies [.ref (am 0), .int x, .int y] w1 (PB (.int v) (fun w2 => Jn G X kp am ou (nI th) N' A' w2 ∧ (∃ f : Nat → Int64, w2 ou = some (eJ G 1 f) ∧ (th = 0 → f 0 = v.toInt64)) ∧ ∀ a, (∀ k, mIs k = true → a ≠ am k) → w2 a = w1 a)) := by
  obtain ⟨hI, hM, f0, ho⟩ := hJ
  obtain ⟨r, th, v, N', A', hc, hag, hm⟩ := op_copies (am := am) hI x y
  have hL : Ct G yL_copies kw_L_copies rm_L_copies [.ref kp, .int x, .int y, .ref ou] w (PB (.int (nI th)) (WQ G X w kp ou th v.toInt64 N' A')) := by
    rcases hag with ⟨rfl, rfl⟩ | ⟨E, hE, hth, rfl⟩
    · exact lw_copies_0 hI hF.1 hF.2.1 hF.2.2.1 ho hc
    · match th, hE, hth with
      | 1, hE, _ =>
        cases hE
        exact (lw_copies_1 (v := v) hI hF.1 hF.2.1 hF.2.2.1 ho hc).mono (fun r9 w9 h9 => ⟨h9.1, h9.2.ch (by decide)⟩)
      | n + 2, hE, _ => exact absurd hE (by simp)
  have h3 : th ≤ 3 := by
    rcases hag with ⟨rfl, -⟩ | ⟨E, hE, hth, -⟩
    · exact Nat.zero_le _
    · match th, hE, hth with
      | 1, _, _ => decide
      | 2, _, _ => decide
      | 3, _, _ => decide
      | n + 4, hE, _ => exact absurd hE (by simp)
  refine ⟨th, v, N', A', h3, hL, fun w1 h1 => ?_⟩
  obtain ⟨w9, hI1⟩ := h1.inv
  obtain ⟨f, hf1, hf2⟩ := h1.out ho hF.1
  exact (hm w1 w1 th0 (h1.mz hM hF.2.2.2.1 hF.2.2.2.2.1)).mono (fun r9 w2 h9 => ⟨h9.1, (Jn.of hF hI1 h9.2 hf1 rfl rfl).1, ⟨f, (Jn.of hF hI1 h9.2 hf1 rfl rfl).2, hf2⟩, h9.2.2.2.2.2⟩)
theorem bo_found (hF : Fx G X am ou) (hJ : Jn G X kp am ou th0 N A w) (x ac ki dy ix : Int32) : ∃ (th : Nat) (v : Int32) (N' : Nat → Nat) (A' : Nat → Nat → Int32), th ≤ 3 ∧ Ct G yL_found kw_L_found rm_L_found [.ref kp, .int x, .int ac, .int ki, .int dy, .int ix, .ref ou] w (PB (.int (nI th)) (WQ G X w kp ou th v.toInt64 N' A')) ∧
    ∀ w1, WQ G X w kp ou th v.toInt64 N' A' w1 → Ct G yX6_found kw_X6_found rm_X6_found [.ref (am 0), .int x, .int ac, .int ki, .int dy, .int ix] w1 (PB (.int v) (fun w2 => Jn G X kp am ou (nI th) N' A' w2 ∧ (∃ f : Nat → Int64, w2 ou = some (eJ G 1 f) ∧ (th = 0 → f 0 = v.toInt64)) ∧ ∀ a, (∀ k, mIs k = true → a ≠ am k) → w2 a = w1 a)) := by
  obtain ⟨hI, hM, f0, ho⟩ := hJ
  obtain ⟨r, th, v, N', A', hc, hag, hm⟩ := op_found (am := am) hI x ac ki dy ix
  have hL : Ct G yL_found kw_L_found rm_L_found [.ref kp, .int x, .int ac, .int ki, .int dy, .int ix, .ref ou] w (PB (.int (nI th)) (WQ G X w kp ou th v.toInt64 N' A')) := by
    rcases hag with ⟨rfl, rfl⟩ | ⟨E, hE, hth, rfl⟩
    · exact lw_found_0 hI hF.1 hF.2.1 hF.2.2.1 ho hc
    · match th, hE, hth with
      | 1, hE, _ =>
        cases hE
        exact (lw_found_1 (v := v) hI hF.1 hF.2.1 hF.2.2.1 ho hc).mono (fun r9 w9 h9 => ⟨h9.1, h9.2.ch (by decide)⟩)
      | 2, hE, _ =>
        cases hE
        exact (lw_found_2 (v := v) hI hF.1 hF.2.1 hF.2.2.1 ho hc).mono (fun r9 w9 h9 => ⟨h9.1, h9.2.ch (by decide)⟩)
      | n + 3, hE, _ => exact absurd hE (by simp)
  have h3 : th ≤ 3 := by
    rcases hag with ⟨rfl, -⟩ | ⟨E, hE, hth, -⟩
    · exact Nat.zero_le _
    · match th, hE, hth with
      | 1, _, _ => decide
      | 2, _, _ => decide
      | 3, _, _ => decide
      | n + 4, hE, _ => exact absurd hE (by simp)
  refine ⟨th, v, N', A', h3, hL, fun w1 h1 => ?_⟩
  obtain ⟨w9, hI1⟩ := h1.inv
  obtain ⟨f, hf1, hf2⟩ := h1.out ho hF.1
  exact (hm w1 w1 th0 (h1.mz hM hF.2.2.2.1 hF.2.2.2.2.1)).mono (fun r9 w2 h9 => ⟨h9.1, (Jn.of hF hI1 h9.2 hf1 rfl rfl).1, ⟨f, (Jn.of hF hI1 h9.2 hf1 rfl rfl).2, hf2⟩, h9.2.2.2.2.2⟩)
theorem bo_read (hF : Fx G X am ou) (hJ : Jn G X kp am ou th0 N A w) (x d g l : Int32) : ∃ (th : Nat) (v : Int32) (N' : Nat → Nat) (A' : Nat → Nat → Int32), th ≤ 3 ∧ Ct G yL_read kw_L_read rm_L_read [.ref kp, .int x, .int d, .int g, .int l, .ref ou] w (PB (.int (nI th)) (WQ G X w kp ou th v.toInt64 N' A')) ∧
    ∀ w1, WQ G X w kp ou th v.toInt64 N' A' w1 → Ct G yX6_read kw_X6_read rm_X6_read [.ref (am 0), .int x, .int d, .int g, .int l] w1 (PB (.int v) (fun w2 => Jn G X kp am ou (nI th) N' A' w2 ∧ (∃ f : Nat → Int64, w2 ou = some (eJ G 1 f) ∧ (th = 0 → f 0 = v.toInt64)) ∧ ∀ a, (∀ k, mIs k = true → a ≠ am k) → w2 a = w1 a)) := by
  obtain ⟨hI, hM, f0, ho⟩ := hJ
  obtain ⟨r, th, v, N', A', hc, hag, hm⟩ := op_read (am := am) hI x d g l
  have hL : Ct G yL_read kw_L_read rm_L_read [.ref kp, .int x, .int d, .int g, .int l, .ref ou] w (PB (.int (nI th)) (WQ G X w kp ou th v.toInt64 N' A')) := by
    rcases hag with ⟨rfl, rfl⟩ | ⟨E, hE, hth, rfl⟩
    · exact lw_read_0 hI hF.1 hF.2.1 hF.2.2.1 ho hc
    · match th, hE, hth with
      | 1, hE, _ =>
        cases hE
        exact (lw_read_1 (v := v) hI hF.1 hF.2.1 hF.2.2.1 ho hc).mono (fun r9 w9 h9 => ⟨h9.1, h9.2.ch (by decide)⟩)
      | 2, hE, _ =>
        cases hE
        exact (lw_read_2 (v := v) hI hF.1 hF.2.1 hF.2.2.1 ho hc).mono (fun r9 w9 h9 => ⟨h9.1, h9.2.ch (by decide)⟩)
      | 3, hE, _ =>
        cases hE
        exact (lw_read_3 (v := v) hI hF.1 hF.2.1 hF.2.2.1 ho hc).mono (fun r9 w9 h9 => ⟨h9.1, h9.2.ch (by decide)⟩)
      | n + 4, hE, _ => exact absurd hE (by simp)
  have h3 : th ≤ 3 := by
    rcases hag with ⟨rfl, -⟩ | ⟨E, hE, hth, -⟩
    · exact Nat.zero_le _
    · match th, hE, hth with
      | 1, _, _ => decide
      | 2, _, _ => decide
      | 3, _, _ => decide
      | n + 4, hE, _ => exact absurd hE (by simp)
  refine ⟨th, v, N', A', h3, hL, fun w1 h1 => ?_⟩
  obtain ⟨w9, hI1⟩ := h1.inv
  obtain ⟨f, hf1, hf2⟩ := h1.out ho hF.1
  exact (hm w1 w1 th0 (h1.mz hM hF.2.2.2.1 hF.2.2.2.2.1)).mono (fun r9 w2 h9 => ⟨h9.1, (Jn.of hF hI1 h9.2 hf1 rfl rfl).1, ⟨f, (Jn.of hF hI1 h9.2 hf1 rfl rfl).2, hf2⟩, h9.2.2.2.2.2⟩)
theorem bo_span (hF : Fx G X am ou) (hJ : Jn G X kp am ou th0 N A w) (x y : Int32) : ∃ (th : Nat) (v : Int32) (N' : Nat → Nat) (A' : Nat → Nat → Int32), th ≤ 3 ∧ Ct G yL_span kw_L_span rm_L_span [.ref kp, .int x, .int y, .ref ou] w (PB (.int (nI th)) (WQ G X w kp ou th v.toInt64 N' A')) ∧
    ∀ w1, WQ G X w kp ou th v.toInt64 N' A' w1 → Ct G yX6_span kw_X6_span rm_X6_span [.ref (am 0), .int x, .int y] w1 (PB (.int v) (fun w2 => Jn G X kp am ou (nI th) N' A' w2 ∧ (∃ f : Nat → Int64, w2 ou = some (eJ G 1 f) ∧ (th = 0 → f 0 = v.toInt64)) ∧ ∀ a, (∀ k, mIs k = true → a ≠ am k) → w2 a = w1 a)) := by
  obtain ⟨hI, hM, f0, ho⟩ := hJ
  obtain ⟨r, th, v, N', A', hc, hag, hm⟩ := op_span (am := am) hI x y
  have hL : Ct G yL_span kw_L_span rm_L_span [.ref kp, .int x, .int y, .ref ou] w (PB (.int (nI th)) (WQ G X w kp ou th v.toInt64 N' A')) := by
    rcases hag with ⟨rfl, rfl⟩ | ⟨E, hE, hth, rfl⟩
    · exact lw_span_0 hI hF.1 hF.2.1 hF.2.2.1 ho hc
    · match th, hE, hth with
      | 1, hE, _ =>
        cases hE
        exact (lw_span_1 (v := v) hI hF.1 hF.2.1 hF.2.2.1 ho hc).mono (fun r9 w9 h9 => ⟨h9.1, h9.2.ch (by decide)⟩)
      | n + 2, hE, _ => exact absurd hE (by simp)
  have h3 : th ≤ 3 := by
    rcases hag with ⟨rfl, -⟩ | ⟨E, hE, hth, -⟩
    · exact Nat.zero_le _
    · match th, hE, hth with
      | 1, _, _ => decide
      | 2, _, _ => decide
      | 3, _, _ => decide
      | n + 4, hE, _ => exact absurd hE (by simp)
  refine ⟨th, v, N', A', h3, hL, fun w1 h1 => ?_⟩
  obtain ⟨w9, hI1⟩ := h1.inv
  obtain ⟨f, hf1, hf2⟩ := h1.out ho hF.1
  exact (hm w1 w1 th0 (h1.mz hM hF.2.2.2.1 hF.2.2.2.2.1)).mono (fun r9 w2 h9 => ⟨h9.1, (Jn.of hF hI1 h9.2 hf1 rfl rfl).1, ⟨f, (Jn.of hF hI1 h9.2 hf1 rfl rfl).2, hf2⟩, h9.2.2.2.2.2⟩)
theorem bo_hold (hF : Fx G X am ou) (hJ : Jn G X kp am ou th0 N A w) (x : Int32) (y : Bool) : ∃ (th : Nat) (v : Int32) (N' : Nat → Nat) (A' : Nat → Nat → Int32), th ≤ 3 ∧ Ct G yL_hold kw_L_hold rm_L_hold [.ref kp, .int x, .int (bI y), .ref ou] w (PB (.int (nI th)) (WQ G X w kp ou th (if v = 0 then 0 else 1) N' A')) ∧
    ∀ w1, WQ G X w kp ou th (if v = 0 then 0 else 1) N' A' w1 → Ct G yX6_hold kw_X6_hold rm_X6_hold [.ref (am 0), .int x, .int (bI y)] w1 (PB (.int v) (fun w2 => Jn G X kp am ou (nI th) N' A' w2 ∧ (∃ f : Nat → Int64, w2 ou = some (eJ G 1 f) ∧ (th = 0 → f 0 = (if v = 0 then 0 else 1))) ∧ ∀ a, (∀ k, mIs k = true → a ≠ am k) → w2 a = w1 a)) := by
  obtain ⟨hI, hM, f0, ho⟩ := hJ
  obtain ⟨r, th, v, N', A', hc, hag, hm⟩ := op_hold (am := am) hI x y
  have hL : Ct G yL_hold kw_L_hold rm_L_hold [.ref kp, .int x, .int (bI y), .ref ou] w (PB (.int (nI th)) (WQ G X w kp ou th (if v = 0 then 0 else 1) N' A')) := by
    rcases hag with ⟨rfl, rfl⟩ | ⟨E, hE, hth, rfl⟩
    · exact lw_hold_0 hI hF.1 hF.2.1 hF.2.2.1 ho hc
    · match th, hE, hth with
      | 1, hE, _ =>
        cases hE
        exact (lw_hold_1 (v := v) hI hF.1 hF.2.1 hF.2.2.1 ho hc).mono (fun r9 w9 h9 => ⟨h9.1, h9.2.ch (by decide)⟩)
      | n + 2, hE, _ => exact absurd hE (by simp)
  have h3 : th ≤ 3 := by
    rcases hag with ⟨rfl, -⟩ | ⟨E, hE, hth, -⟩
    · exact Nat.zero_le _
    · match th, hE, hth with
      | 1, _, _ => decide
      | 2, _, _ => decide
      | 3, _, _ => decide
      | n + 4, hE, _ => exact absurd hE (by simp)
  refine ⟨th, v, N', A', h3, hL, fun w1 h1 => ?_⟩
  obtain ⟨w9, hI1⟩ := h1.inv
  obtain ⟨f, hf1, hf2⟩ := h1.out ho hF.1
  exact (hm w1 w1 th0 (h1.mz hM hF.2.2.2.1 hF.2.2.2.2.1)).mono (fun r9 w2 h9 => ⟨h9.1, (Jn.of hF hI1 h9.2 hf1 rfl rfl).1, ⟨f, (Jn.of hF hI1 h9.2 hf1 rfl rfl).2, hf2⟩, h9.2.2.2.2.2⟩)
theorem bo_bundle (hF : Fx G X am ou) (hJ : Jn G X kp am ou th0 N A w) (x y : Int32) : ∃ (th : Nat) (v : Int32) (N' : Nat → Nat) (A' : Nat → Nat → Int32), th ≤ 3 ∧ Ct G yL_bundle kw_L_bundle rm_L_bundle [.ref kp, .int x, .int y, .ref ou] w (PB (.int (nI th)) (WQ G X w kp ou th v.toInt64 N' A')) ∧
    ∀ w1, WQ G X w kp ou th v.toInt64 N' A' w1 → Ct G yX6_bundle kw_X6_bundle rm_X6_bundle [.ref (am 0), .int x, .int y] w1 (PB (.int v) (fun w2 => Jn G X kp am ou (nI th) N' A' w2 ∧ (∃ f : Nat → Int64, w2 ou = some (eJ G 1 f) ∧ (th = 0 → f 0 = v.toInt64)) ∧ ∀ a, (∀ k, mIs k = true → a ≠ am k) → w2 a = w1 a)) := by
  obtain ⟨hI, hM, f0, ho⟩ := hJ
  obtain ⟨r, th, v, N', A', hc, hag, hm⟩ := op_bundle (am := am) hI x y
  have hL : Ct G yL_bundle kw_L_bundle rm_L_bundle [.ref kp, .int x, .int y, .ref ou] w (PB (.int (nI th)) (WQ G X w kp ou th v.toInt64 N' A')) := by
    rcases hag with ⟨rfl, rfl⟩ | ⟨E, hE, hth, rfl⟩
    · exact lw_bundle_0 hI hF.1 hF.2.1 hF.2.2.1 ho hc
    · match th, hE, hth with
      | 1, hE, _ =>
        cases hE
        exact (lw_bundle_1 (v := v) hI hF.1 hF.2.1 hF.2.2.1 ho hc).mono (fun r9 w9 h9 => ⟨h9.1, h9.2.ch (by decide)⟩)
      | n + 2, hE, _ => exact absurd hE (by simp)
  have h3 : th ≤ 3 := by
    rcases hag with ⟨rfl, -⟩ | ⟨E, hE, hth, -⟩
    · exact Nat.zero_le _
    · match th, hE, hth with
      | 1, _, _ => decide
      | 2, _, _ => decide
      | 3, _, _ => decide
      | n + 4, hE, _ => exact absurd hE (by simp)
  refine ⟨th, v, N', A', h3, hL, fun w1 h1 => ?_⟩
  obtain ⟨w9, hI1⟩ := h1.inv
  obtain ⟨f, hf1, hf2⟩ := h1.out ho hF.1
  exact (hm w1 w1 th0 (h1.mz hM hF.2.2.2.1 hF.2.2.2.2.1)).mono (fun r9 w2 h9 => ⟨h9.1, (Jn.of hF hI1 h9.2 hf1 rfl rfl).1, ⟨f, (Jn.of hF hI1 h9.2 hf1 rfl rfl).2, hf2⟩, h9.2.2.2.2.2⟩)
theorem bo_documents (hF : Fx G X am ou) (hJ : Jn G X kp am ou th0 N A w) : ∃ (v : Int32) (N' : Nat → Nat) (A' : Nat → Nat → Int32), Ct G yX5_documents kw_X5_documents rm_X5_documents [.ref kp] w (PB (.int v) (Inv0 G X w kp N' A')) ∧
    ∀ w1, Inv0 G X w kp N' A' w1 → Ct G yX6_documents kw_X6_documents rm_X6_documents [.ref (am 0)] w1 (PB (.int v) (fun w2 => Jn G X kp am ou 0 N' A' w2 ∧ ∀ a, (∀ k, mIs k = true → a ≠ am k) → w2 a = w1 a)) := by
  obtain ⟨hI, hM, f0, ho⟩ := hJ
  obtain ⟨r, th, v, N', A', hc, hag, hm⟩ := op_documents (am := am) hI
  rcases hag with ⟨rfl, rfl⟩ | ⟨E, hE, hth, rfl⟩
  · refine ⟨v, N', A', hc, fun w1 h1 => ?_⟩
    have hq : WQ G X w kp ou 1 0 N' A' w1 := Or.inr ⟨by decide, h1⟩
    obtain ⟨f, hf1, -⟩ := hq.out ho hF.1
    exact (hm w1 w1 th0 (hq.mz hM hF.2.2.2.1 hF.2.2.2.2.1)).mono (fun r9 w2 h9 => ⟨h9.1, (Jn.of hF h1 h9.2 hf1 rfl rfl).1, h9.2.2.2.2.2⟩)
  · exact absurd hE (by simp)
theorem bo_clear (hF : Fx G X am ou) (hJ : Jn G X kp am ou th0 N A w) : ∃ (v : Int32) (N' : Nat → Nat) (A' : Nat → Nat → Int32), Ct G yX5_clear kw_X5_clear rm_X5_clear [.ref kp] w (PB (.int v) (Inv0 G X w kp N' A')) ∧
    ∀ w1, Inv0 G X w kp N' A' w1 → Ct G yX6_clear kw_X6_clear rm_X6_clear [.ref (am 0)] w1 (PB (.int v) (fun w2 => Jn G X kp am ou 0 N' A' w2 ∧ ∀ a, (∀ k, mIs k = true → a ≠ am k) → w2 a = w1 a)) := by
  obtain ⟨hI, hM, f0, ho⟩ := hJ
  obtain ⟨r, th, v, N', A', hc, hag, hm⟩ := op_clear (am := am) hI
  rcases hag with ⟨rfl, rfl⟩ | ⟨E, hE, hth, rfl⟩
  · refine ⟨v, N', A', hc, fun w1 h1 => ?_⟩
    have hq : WQ G X w kp ou 1 0 N' A' w1 := Or.inr ⟨by decide, h1⟩
    obtain ⟨f, hf1, -⟩ := hq.out ho hF.1
    exact (hm w1 w1 th0 (hq.mz hM hF.2.2.2.1 hF.2.2.2.2.1)).mono (fun r9 w2 h9 => ⟨h9.1, (Jn.of hF h1 h9.2 hf1 rfl rfl).1, h9.2.2.2.2.2⟩)
  · exact absurd hE (by simp)
theorem bo_view (hF : Fx G X am ou) (hJ : Jn G X kp am ou th0 N A w) (x f l b : Int32) : ∃ (th : Nat) (N' : Nat → Nat) (A' : Nat → Nat → Int32), Ct G yL_view kw_L_view rm_L_view [.ref kp, .int x, .int f, .int l, .int b] w (PB (.int (nI th)) (Inv0 G X w kp N' A')) ∧
    ∀ w1, Inv0 G X w kp N' A' w1 → Ct G yX6_view kw_X6_view rm_X6_view [.ref (am 0), .int x, .int f, .int l, .int b] w1 (PN (fun w2 => Jn G X kp am ou (nI th) N' A' w2 ∧ ∀ a, (∀ k, mIs k = true → a ≠ am k) → w2 a = w1 a)) := by
  obtain ⟨hI, hM, f0, ho⟩ := hJ
  obtain ⟨r, th, N', A', hc, hag, hm⟩ := op_view (am := am) hI x f l b
  have hL : Ct G yL_view kw_L_view rm_L_view [.ref kp, .int x, .int f, .int l, .int b] w (PB (.int (nI th)) (Inv0 G X w kp N' A')) := by
    rcases hag with ⟨rfl, rfl⟩ | ⟨rfl, rfl⟩
    · exact lw_view_0 hI hc
    · exact lw_view_1 hI hc
  refine ⟨th, N', A', hL, fun w1 h1 => ?_⟩
  have hq : WQ G X w kp ou 1 0 N' A' w1 := Or.inr ⟨by decide, h1⟩
  obtain ⟨f9, hf1, -⟩ := hq.out ho hF.1
  exact (hm w1 w1 th0 (hq.mz hM hF.2.2.2.1 hF.2.2.2.2.1)).mono (fun r9 w2 h9 => ⟨h9.1, (Jn.of hF h1 h9.2 hf1 rfl rfl).1, h9.2.2.2.2.2⟩)
end Bos
