/-! The law's loop, and its start. -/
theorem and31 (x : Int32) : ∃ j, j < 32 ∧ x &&& 31 = nI j := by
  refine ⟨(x &&& 31).toBitVec.toNat, ?_, ?_⟩
  · rw [Int32.toBitVec_and, show (31 : Int32).toBitVec = 31#32 from rfl, BitVec.toNat_and]
    exact Nat.lt_of_le_of_lt Nat.and_le_right (by decide)
  · apply Int32.toBitVec_inj.mp
    show _ = (Int32.ofNat _).toBitVec
    rw [show (Int32.ofNat (x &&& 31).toBitVec.toNat).toBitVec = BitVec.ofNat 32 (x &&& 31).toBitVec.toNat from rfl, BitVec.ofNat_toNat, BitVec.setWidth_eq]
theorem sub6 {n : Nat} (h : n < 2 ^ 31) : (nI n - 6).toInt = (n : Int) - 6 := by
  rw [Int32.toInt_sub, nI_toInt h, show (6 : Int32).toInt = 6 from rfl]
  exact Int.bmod_eq_of_le (by omega) (by omega)
theorem lt6 {n i : Nat} (hn : n < 2 ^ 31) (hi : i < 2 ^ 31) : nI n - 6 < nI i ↔ ¬ i + 6 ≤ n := by
  rw [Int32.lt_iff_toInt_lt, sub6 hn, nI_toInt hi]
  omega
section LawLoop
variable {G : Gx} {Y : Yx} {C : Cx} {Q : State → Prop} {X : Nat → Prop} {kp ou sc Ln : Nat} {xs : Nat → Int32} {am : Nat → Nat}
set_option maxRecDepth 100000 in
theorem law_step (hF : Fx G X am ou) (hs : va_X sc Ln xs C.2.2.1 C.2.2.1.heap) (hsb : sc < (gH G).size) (hLn : Ln ≤ 3072) {w : Wd} {N : Nat → Nat} {A : Nat → Nat → Int32} {th0 : Int32} {y5 y6 : Option Value} {i c k : Nat} (hJ : Jn G X kp am ou th0 N A w) (hi : i + 6 ≤ Ln) (hc9 : c + 800 ≤ 601024) (hk9 : k + 8000 ≤ 7293034)
    (hk : ∀ w2 th N' A' c2 k2 x5 x6, Jn G X kp am ou th N' A' w2 → c2 ≤ c + 800 → k2 ≤ k + 8000 → Go G room_1 cL_law RL Y C Q 1432 [some (.ref sc), some (.ref kp), some (.ref (am 0)), some (.ref ou), some (.int (nI i)), x5, x6] [] w2 c2 k2) :
    Go G room_1 cL_law RL Y C Q 33 [some (.ref sc), some (.ref kp), some (.ref (am 0)), some (.ref ou), some (.int (nI i)), y5, y6] [] w c k := by
  refine g_aload0 dL_law_33 ?_
  refine g_iload4 dL_law_34 ?_
  refine g_sald dL_law_36 hs hsb (vp_in_nI (show i < Ln by omega) (by omega)) ?_
  rw [nI_clamp (by omega)]
  refine g_bipush (v := 31) dL_law_37 (by decide) ?_
  refine g_iand dL_law_39 ?_
  obtain ⟨j, hj, ej⟩ := and31 (xs i)
  rw [ej]
  match j, hj with
  | 0, _ =>
    refine g_tblIn (off := 100) (tgt := 140) dL_law_40 (by decide +kernel) (by decide +kernel) (by decide +kernel) (by decide) ?_
    exact la_pass hF hJ hs hsb (by omega) (by omega) hc9 hk9 hk
  | 1, _ =>
    refine g_tblIn (off := 156) (tgt := 196) dL_law_40 (by decide +kernel) (by decide +kernel) (by decide +kernel) (by decide) ?_
    exact la_format hF hJ hs hsb (by omega) (by omega) hc9 hk9 hk
  | 2, _ =>
    refine g_tblIn (off := 236) (tgt := 276) dL_law_40 (by decide +kernel) (by decide +kernel) (by decide +kernel) (by decide) ?_
    exact la_line hF hJ hs hsb (by omega) (by omega) hc9 hk9 hk
  | 3, _ =>
    refine g_tblIn (off := 292) (tgt := 332) dL_law_40 (by decide +kernel) (by decide +kernel) (by decide +kernel) (by decide) ?_
    exact la_feed hF hJ hs hsb (by omega) (by omega) hc9 hk9 hk
  | 4, _ =>
    refine g_tblIn (off := 336) (tgt := 376) dL_law_40 (by decide +kernel) (by decide +kernel) (by decide +kernel) (by decide) ?_
    exact la_end hF hJ hs hsb (by omega) (by omega) hc9 hk9 hk
  | 5, _ =>
    refine g_tblIn (off := 380) (tgt := 420) dL_law_40 (by decide +kernel) (by decide +kernel) (by decide +kernel) (by decide) ?_
    exact la_pages hF hJ hs hsb (by omega) (by omega) hc9 hk9 hk
  | 6, _ =>
    refine g_tblIn (off := 436) (tgt := 476) dL_law_40 (by decide +kernel) (by decide +kernel) (by decide +kernel) (by decide) ?_
    exact la_twice hF hJ hs hsb (by omega) (by omega) hc9 hk9 hk
  | 7, _ =>
    refine g_tblIn (off := 492) (tgt := 532) dL_law_40 (by decide +kernel) (by decide +kernel) (by decide +kernel) (by decide) ?_
    exact la_reprint hF hJ hs hsb (by omega) (by omega) hc9 hk9 hk
  | 8, _ =>
    refine g_tblIn (off := 572) (tgt := 612) dL_law_40 (by decide +kernel) (by decide +kernel) (by decide +kernel) (by decide) ?_
    exact la_copies hF hJ hs hsb (by omega) (by omega) hc9 hk9 hk
  | 9, _ =>
    refine g_tblIn (off := 640) (tgt := 680) dL_law_40 (by decide +kernel) (by decide +kernel) (by decide +kernel) (by decide) ?_
    exact la_documents hF hJ hs hsb (by omega) (by omega) hc9 hk9 hk
  | 10, _ =>
    refine g_tblIn (off := 653) (tgt := 693) dL_law_40 (by decide +kernel) (by decide +kernel) (by decide +kernel) (by decide) ?_
    exact la_isThere hF hJ hs hsb (by omega) (by omega) hc9 hk9 hk
  | 11, _ =>
    refine g_tblIn (off := 716) (tgt := 756) dL_law_40 (by decide +kernel) (by decide +kernel) (by decide +kernel) (by decide) ?_
    exact la_account hF hJ hs hsb (by omega) (by omega) hc9 hk9 hk
  | 12, _ =>
    refine g_tblIn (off := 772) (tgt := 812) dL_law_40 (by decide +kernel) (by decide +kernel) (by decide +kernel) (by decide) ?_
    exact la_kind hF hJ hs hsb (by omega) (by omega) hc9 hk9 hk
  | 13, _ =>
    refine g_tblIn (off := 828) (tgt := 868) dL_law_40 (by decide +kernel) (by decide +kernel) (by decide +kernel) (by decide) ?_
    exact la_length hF hJ hs hsb (by omega) (by omega) hc9 hk9 hk
  | 14, _ =>
    refine g_tblIn (off := 884) (tgt := 924) dL_law_40 (by decide +kernel) (by decide +kernel) (by decide +kernel) (by decide) ?_
    exact la_found hF hJ hs hsb (by omega) (by omega) hc9 hk9 hk
  | 15, _ =>
    refine g_tblIn (off := 988) (tgt := 1028) dL_law_40 (by decide +kernel) (by decide +kernel) (by decide +kernel) (by decide) ?_
    exact la_read hF hJ hs hsb (by omega) (by omega) hc9 hk9 hk
  | 16, _ =>
    refine g_tblIn (off := 1080) (tgt := 1120) dL_law_40 (by decide +kernel) (by decide +kernel) (by decide +kernel) (by decide) ?_
    exact la_view hF hJ hs hsb (by omega) (by omega) hc9 hk9 hk
  | 17, _ =>
    refine g_tblIn (off := 1152) (tgt := 1192) dL_law_40 (by decide +kernel) (by decide +kernel) (by decide +kernel) (by decide) ?_
    exact la_span hF hJ hs hsb (by omega) (by omega) hc9 hk9 hk
  | 18, _ =>
    refine g_tblIn (off := 1220) (tgt := 1260) dL_law_40 (by decide +kernel) (by decide +kernel) (by decide +kernel) (by decide) ?_
    by_cases hz : xs (i + 2) = 0
    · exact la_hold0 hF hJ hs hsb (by omega) (by omega) hz hc9 hk9 hk
    · exact la_hold1 hF hJ hs hsb (by omega) (by omega) hz hc9 hk9 hk
  | 19, _ =>
    refine g_tblIn (off := 1311) (tgt := 1351) dL_law_40 (by decide +kernel) (by decide +kernel) (by decide +kernel) (by decide) ?_
    exact la_clear hF hJ hs hsb (by omega) (by omega) hc9 hk9 hk
  | 20, _ =>
    refine g_tblIn (off := 1324) (tgt := 1364) dL_law_40 (by decide +kernel) (by decide +kernel) (by decide +kernel) (by decide) ?_
    exact la_bundle hF hJ hs hsb (by omega) (by omega) hc9 hk9 hk
  | 21, _ => exact g_tblOut (tgt := 1432) dL_law_40 (Or.inr (by decide +kernel)) (by decide) (hk _ _ _ _ _ _ _ _ hJ (Nat.le_add_right _ _) (Nat.le_add_right _ _))
  | 22, _ => exact g_tblOut (tgt := 1432) dL_law_40 (Or.inr (by decide +kernel)) (by decide) (hk _ _ _ _ _ _ _ _ hJ (Nat.le_add_right _ _) (Nat.le_add_right _ _))
  | 23, _ => exact g_tblOut (tgt := 1432) dL_law_40 (Or.inr (by decide +kernel)) (by decide) (hk _ _ _ _ _ _ _ _ hJ (Nat.le_add_right _ _) (Nat.le_add_right _ _))
  | 24, _ => exact g_tblOut (tgt := 1432) dL_law_40 (Or.inr (by decide +kernel)) (by decide) (hk _ _ _ _ _ _ _ _ hJ (Nat.le_add_right _ _) (Nat.le_add_right _ _))
  | 25, _ => exact g_tblOut (tgt := 1432) dL_law_40 (Or.inr (by decide +kernel)) (by decide) (hk _ _ _ _ _ _ _ _ hJ (Nat.le_add_right _ _) (Nat.le_add_right _ _))
  | 26, _ => exact g_tblOut (tgt := 1432) dL_law_40 (Or.inr (by decide +kernel)) (by decide) (hk _ _ _ _ _ _ _ _ hJ (Nat.le_add_right _ _) (Nat.le_add_right _ _))
  | 27, _ => exact g_tblOut (tgt := 1432) dL_law_40 (Or.inr (by decide +kernel)) (by decide) (hk _ _ _ _ _ _ _ _ hJ (Nat.le_add_right _ _) (Nat.le_add_right _ _))
  | 28, _ => exact g_tblOut (tgt := 1432) dL_law_40 (Or.inr (by decide +kernel)) (by decide) (hk _ _ _ _ _ _ _ _ hJ (Nat.le_add_right _ _) (Nat.le_add_right _ _))
  | 29, _ => exact g_tblOut (tgt := 1432) dL_law_40 (Or.inr (by decide +kernel)) (by decide) (hk _ _ _ _ _ _ _ _ hJ (Nat.le_add_right _ _) (Nat.le_add_right _ _))
  | 30, _ => exact g_tblOut (tgt := 1432) dL_law_40 (Or.inr (by decide +kernel)) (by decide) (hk _ _ _ _ _ _ _ _ hJ (Nat.le_add_right _ _) (Nat.le_add_right _ _))
  | 31, _ => exact g_tblOut (tgt := 1432) dL_law_40 (Or.inr (by decide +kernel)) (by decide) (hk _ _ _ _ _ _ _ _ hJ (Nat.le_add_right _ _) (Nat.le_add_right _ _))
  | n + 32, hj => exact absurd hj (by omega)
set_option maxRecDepth 100000 in
theorem law_loop (hF : Fx G X am ou) (hs : va_X sc Ln xs C.2.2.1 C.2.2.1.heap) (hsb : sc < (gH G).size) (hLn : Ln ≤ 3072) (hend : ∀ (w : Wd) (c k : Nat) (L : List (Option Value)), c ≤ 601024 → k ≤ 7293034 → Go G room_1 cL_law RL Y C Q 1438 L [] w c k) :
    ∀ (n i : Nat), Ln < i + 6 * n → i ≤ Ln + 6 → ∀ (w : Wd) (c k : Nat) (th : Int32) (N : Nat → Nat) (A : Nat → Nat → Int32) (x5 x6 : Option Value), Jn G X kp am ou th N A w → c + 800 * n ≤ 601024 → k + 8000 * n ≤ 7293034 →
      Go G room_1 cL_law RL Y C Q 23 [some (.ref sc), some (.ref kp), some (.ref (am 0)), some (.ref ou), some (.int (nI i)), x5, x6] [] w c k := by
  intro n
  induction n with
  | zero =>
    intro i hn hi w c k th N A x5 x6 hJ hc hk
    refine g_iload4 dL_law_23 ?_
    refine g_aload0 dL_law_25 ?_
    refine g_slen dL_law_26 hs hsb ?_
    refine g_bipush (v := 6) dL_law_27 (by decide) ?_
    refine g_isub dL_law_29 ?_
    exact g_icmp_gt_t (tgt := 1438) dL_law_30 (by decide) ((lt6 (by omega) (by omega)).mpr (by omega)) (hend _ _ _ _ (by omega) (by omega))
  | succ n ih =>
    intro i hn hi w c k th N A x5 x6 hJ hc hk
    refine g_iload4 dL_law_23 ?_
    refine g_aload0 dL_law_25 ?_
    refine g_slen dL_law_26 hs hsb ?_
    refine g_bipush (v := 6) dL_law_27 (by decide) ?_
    refine g_isub dL_law_29 ?_
    by_cases h6 : i + 6 ≤ Ln
    · refine g_icmp_gt_f (tgt := 1438) dL_law_30 (by decide) (fun z => (lt6 (by omega) (by omega)).mp z h6) ?_
      refine law_step hF hs hsb hLn hJ h6 (by omega) (by omega) (fun w2 th2 N2 A2 c2 k2 z5 z6 hJ2 hc2 hk2 => ?_)
      refine g_iinc4 (v' := nI (i + 6)) dL_law_1432 (by rw [show Int32.ofInt 6 = nI 6 from by decide +kernel]; exact nI_add i 6) ?_
      refine g_goto (tgt := 23) dL_law_1435 (by decide) ?_
      exact ih (i + 6) (by omega) (by omega) w2 c2 k2 th2 N2 A2 z5 z6 hJ2 (by omega) (by omega)
    · exact g_icmp_gt_t (tgt := 1438) dL_law_30 (by decide) ((lt6 (by omega) (by omega)).mpr h6) (hend _ _ _ _ (by omega) (by omega))
end LawLoop
theorem Kl.more {G : Gx} {X X' : Nat → Prop} {w0 w w' : Wd} {S : KS} (h : Kl G X w0 S w) (hw : ∀ a, w a ≠ none → w' a = w a) (hX : ∀ x, X' x → w' x ≠ none ∧ (X x ∨ w x = none)) (hXE : X' (gE G)) : Kl G X' w' S w' := by
  have hs : ∀ k i, Lv S k i → w (S.ad k i) ≠ none := fun k i hl e => by
    have h9 := h.at_ k i hl
    rw [e] at h9
    cases h9
  have hE1 : w (gE G) = some (eQ G 0 (fun _ => none)) := (h.X _ h.E.1).1.trans h.E.2
  refine ⟨fun k i hl => (hw _ (hs k i hl)).trans (h.at_ k i hl), h.inj, h.base, fun x hx => ⟨rfl, (hX x hx).1, fun k i hl e => ?_⟩, ⟨hXE, (hw _ (by rw [hE1]; exact Option.some_ne_none _)).trans hE1⟩, h.cl⟩
  rcases (hX x hx).2 with h1 | h1
  · exact (h.X x h1).2.2 k i hl e
  · exact hs k i hl (by rw [e]; exact h1)
theorem jn_start {G : Gx} {X : Nat → Prop} {w0 w1 w2 : Wd} {S : KS} {q2 ou : Nat} {am : Nat → Nat} {g f25 f26 f27 : Nat → Int32} {e2 : va_E} (hK : Kl G X w0 S w1) (q2n : w1 q2 = none) (hM : Mz G am w2 (tI 0 (fun _ => 0)) (A0 f25 f26 f27) w2) (ham : am 0 = q2)
    (hamn : ∀ k, mIs k = true → k ≠ 0 → up w1 q2 e2 (am k) = none) (hfr : ∀ b, b ≠ q2 → up w1 q2 e2 b ≠ none → w2 b = up w1 q2 e2 b) (oun : w2 ou = none) (oub : (gH G).size ≤ ou) (hg : ∀ j, j < 4 → g j = 100) (hf : ∀ i, i < 4 → f25 i = 99 ∧ f26 i = -1 ∧ f27 i = 100) (hSv : S.v = ((rdT (S0 (fun _ _ => 0)) 4).ssp g).v) :
    ∃ X' : Nat → Prop, Fx G X' am ou ∧ Jn G X' (S.ad 0 0) am ou 0 (fun _ => 0) (A0 f25 f26 f27) (up w2 ou (eJ G 1 (fun _ => 0))) := by
  have hE1 : w1 (gE G) = some (eQ G 0 (fun _ => none)) := (hK.X _ hK.E.1).1.trans hK.E.2
  have up1 : ∀ b, w1 b ≠ none → w2 b = w1 b := fun b hb => by
    have hbq : b ≠ q2 := fun e => hb (by rw [e]; exact q2n)
    rw [hfr b hbq (by rw [up_n hbq]; exact hb), up_n hbq]
  have hE2 : w2 (gE G) = some (eQ G 0 (fun _ => none)) := (up1 _ (by rw [hE1]; exact Option.some_ne_none _)).trans hE1
  have hEo : ou ≠ gE G := fun e => by
    rw [e, hE2] at oun
    cases oun
  have hao : ∀ k, mIs k = true → am k ≠ ou := fun k hk e => hM.some hk (by rw [e]; exact oun)
  have ha1 : ∀ k, mIs k = true → w1 (am k) = none := fun k hk => by
    by_cases z : k = 0
    · rw [z, ham]; exact q2n
    · have h := hamn k hk z
      have hne : am k ≠ q2 := fun e => by
        rw [e, up_s] at h
        cases h
      rwa [up_n hne] at h
  have haE : ∀ k, mIs k = true → am k ≠ gE G := fun k hk e => by
    have h9 := ha1 k hk
    rw [e, hE1] at h9
    cases h9
  have hou1 : w1 ou = none := by
    cases hz : w1 ou with
    | none => rfl
    | some e =>
      have h9 := up1 ou (by rw [hz]; exact Option.some_ne_none _)
      rw [oun, hz] at h9
      cases h9
  refine ⟨fun x => x = gE G ∨ (∃ k, mIs k = true ∧ x = am k) ∨ x = ou, ⟨Or.inr (Or.inr rfl), hEo, oub, fun k hk => Or.inr (Or.inl ⟨k, hk, rfl⟩), hao, haE⟩, ⟨S, ?_, lk_start hg hf hSv, rfl⟩, hM.keep (fun k hk => up_n (hao k hk)), _, up_s _ _ _⟩
  refine hK.more (fun a ha => ?_) (fun x hx => ?_) (Or.inl rfl)
  · have h9 : a ≠ ou := fun e => ha (by rw [e]; exact hou1)
    rw [up_n h9]
    exact up1 a ha
  · rcases hx with hx | ⟨k, hk, hx⟩ | hx
    · rw [hx]
      exact ⟨by rw [up_n (Ne.symm hEo), hE2]; exact Option.some_ne_none _, Or.inl hK.E.1⟩
    · rw [hx]
      exact ⟨by rw [up_n (hao k hk)]; exact hM.some hk, Or.inr (ha1 k hk)⟩
    · rw [hx]
      exact ⟨by rw [up_s]; exact Option.some_ne_none _, Or.inr hou1⟩
set_option maxRecDepth 100000 in
theorem law_start {G : Gx} {Y : Yx} {C : Cx} {Q : State → Prop} {sc Ln : Nat} {xs : Nat → Int32} {w : Wd} (hw : w (gE G) = some (eQ G 0 (fun _ => none))) (hs : va_X sc Ln xs C.2.2.1 C.2.2.1.heap) (hsb : sc < (gH G).size) (hLn : Ln ≤ 3072)
    (hend : ∀ (w : Wd) (c k : Nat) (L : List (Option Value)), c ≤ 601024 → k ≤ 7293034 → Go G room_1 cL_law RL Y C Q 1438 L [] w c k) : Go G room_1 cL_law RL Y C Q 0 [some (.ref sc), none, none, none, none, none, none] [] w 0 0 := by
  refine g_new (fs := [.int 0, .null, .null, .null, .int 0, .null, .null, .null, .null, .null, .null]) kc6 dL_law_0 cl_L_8 ins_X5 ini_X5 (by intro j hj; rcases (show j = 0 ∨ j = 1 ∨ j = 2 ∨ j = 3 ∨ j = 4 ∨ j = 5 ∨ j = 6 ∨ j = 7 ∨ j = 8 ∨ j = 9 ∨ j = 10 by omega) with rfl | rfl | rfl | rfl | rfl | rfl | rfl | rfl | rfl | rfl | rfl <;> rfl) (Nat.le_of_ble_eq_true rfl) (Nat.le_of_ble_eq_true rfl) (fun q1 q1n q1b => ?_)
  have hqE : gE G ≠ q1 := ne_of_new hw q1n
  refine g_dup dL_law_3 rfl ?_
  refine g_callI0 (kt_init (X := fun x => x = gE G) (up_s _ _ _) q1b ⟨rfl, by rw [up_n hqE]; exact hw⟩ (fun x hx => ⟨by rw [hx, up_n hqE, hw]; exact Option.some_ne_none _, by rw [hx]; exact hqE⟩)) md_X5_init dL_law_4 ml_L_83 rfl im_X5_init (RmOk.of (Nat.le_of_ble_eq_true rfl) (Nat.le_of_ble_eq_true rfl) (Nat.le_of_ble_eq_true rfl) (Nat.le_of_ble_eq_true rfl) (Nat.le_of_ble_eq_true rfl)) (kr_N (fun w1 hw1 => ?_)) kn_N
  obtain ⟨S, hK, hS0, g, hg, hSv⟩ := hw1
  refine g_astore1 dL_law_7 ?_
  refine g_new (fs := [.int 0, .int 0, .int 0, .null, .null, .null, .int 0, .int 0, .null, .null, .int 0, .null, .null, .int 0, .null, .null, .null, .int 0, .null, .null, .null, .null, .null, .null, .null, .null, .null, .null, .null]) kc7 dL_law_8 cl_L_84 ins_X6 ini_X6 (by intro j hj; rcases (show j = 0 ∨ j = 1 ∨ j = 2 ∨ j = 3 ∨ j = 4 ∨ j = 5 ∨ j = 6 ∨ j = 7 ∨ j = 8 ∨ j = 9 ∨ j = 10 ∨ j = 11 ∨ j = 12 ∨ j = 13 ∨ j = 14 ∨ j = 15 ∨ j = 16 ∨ j = 17 ∨ j = 18 ∨ j = 19 ∨ j = 20 ∨ j = 21 ∨ j = 22 ∨ j = 23 ∨ j = 24 ∨ j = 25 ∨ j = 26 ∨ j = 27 ∨ j = 28 by omega) with rfl | rfl | rfl | rfl | rfl | rfl | rfl | rfl | rfl | rfl | rfl | rfl | rfl | rfl | rfl | rfl | rfl | rfl | rfl | rfl | rfl | rfl | rfl | rfl | rfl | rfl | rfl | rfl | rfl <;> rfl) (Nat.le_of_ble_eq_true rfl) (Nat.le_of_ble_eq_true rfl) (fun q2 q2n q2b => ?_)
  refine g_dup dL_law_11 rfl ?_
  refine g_callI0 (mt_init (up_s _ _ _) q2b) md_X6_init dL_law_12 ml_L_86 rfl im_X6_init (RmOk.of (Nat.le_of_ble_eq_true rfl) (Nat.le_of_ble_eq_true rfl) (Nat.le_of_ble_eq_true rfl) (Nat.le_of_ble_eq_true rfl) (Nat.le_of_ble_eq_true rfl)) (kr_N (fun w1 hw1 => ?_)) kn_N
  obtain ⟨am, f25, f26, f27, hM, ham, hf, hamn, hfr⟩ := hw1
  refine g_astore2 dL_law_15 ?_
  refine g_iconst (v := 1) dL_law_16 (by decide) ?_
  refine g_newJ (N := 1) dL_law_17 ac_long (by decide) (by decide) (Nat.le_of_ble_eq_true rfl) (Nat.le_of_ble_eq_true rfl) (Nat.le_of_ble_eq_true rfl) (fun ou oun oub => ?_)
  obtain ⟨X, hF, hJ⟩ := jn_start hK q2n hM ham hamn hfr oun oub hg hf hSv
  rw [hS0] at hJ
  subst ham
  refine g_astore3 dL_law_19 ?_
  refine g_iconst (v := 0) dL_law_20 (by decide) ?_
  refine g_istore4 dL_law_21 ?_
  exact law_loop hF hs hsb hLn hend 513 0 (by omega) (by omega) _ _ _ _ _ _ _ _ hJ (Nat.le_of_ble_eq_true rfl) (Nat.le_of_ble_eq_true rfl)
