/-! Constructors; new documents, readers, lists, runs, pages; adds. -/
abbrev rm_X1_init : Room := { frames := 1, cells := 0, slots := 0, locals := 20 }

set_option maxRecDepth 100000 in
theorem ct_X1_init {G : Gx} {w : Wd} {q : Nat} {a b d : Int32} (hq : w q = some (eFm 0 0 0)) (hb : (gH G).size ≤ q) : Ct G yX1_init kw_X1_init rm_X1_init [.ref q, .int a, .int b, .int d] w (PN (fun w' => w' = up w q (eFm a b d))) := by
  refine ct_intro RX1 "<init>" (by decide +kernel) rfl rfl rfl (Nat.le_of_ble_eq_true rfl) [some (.ref q), some (.int a), some (.int b), some (.int d)] rfl (fun C => ?_)
  refine g_aload0 dX1_init_0 ?_
  refine g_objInit dX1_init_1 ml_X1_1 im_oi cd_oi (Nat.le_of_ble_eq_true rfl) (Nat.le_of_ble_eq_true rfl) ?_
  refine g_aload0 dX1_init_4 ?_
  refine g_iload1 dX1_init_5 ?_
  refine g_putF (fs' := [.int a, .int 0, .int 0]) kc2 dX1_init_6 fw_X1_7 (by decide) rfl rfl hq hb rfl rfl (Nat.le_of_ble_eq_true rfl) rfl ?_
  refine g_aload0 dX1_init_9 ?_
  refine g_iload2 dX1_init_10 ?_
  refine g_putF (fs' := [.int a, .int b, .int 0]) kc2 dX1_init_11 fw_X1_13 (by decide) rfl rfl (up_s _ _ _) hb rfl rfl (Nat.le_of_ble_eq_true rfl) rfl ?_
  refine g_aload0 dX1_init_14 ?_
  refine g_iload3 dX1_init_15 ?_
  refine g_putF (fs' := [.int a, .int b, .int d]) kc2 dX1_init_16 fw_X1_16 (by decide) rfl rfl (up_s _ _ _) hb rfl rfl (Nat.le_of_ble_eq_true rfl) rfl ?_
  refine g_vret dX1_init_19 ?_ (Nat.le_of_ble_eq_true rfl) (Nat.le_of_ble_eq_true rfl)
  exact ⟨rfl, by rw [up_up, up_up]⟩

abbrev rm_X0_init : Room := { frames := 1, cells := 0, slots := 0, locals := 20 }

set_option maxRecDepth 100000 in
theorem ct_X0_init {G : Gx} {w : Wd} {q r : Nat} {a b d : Int32} {rs : List Value} (hr : w r = some (eO 5 rs)) (hq : w q = some (eO 1 [.null, .int 0, .int 0, .int 0, .int 0, .int 0])) (hb : (gH G).size ≤ q) : Ct G yX0_init kw_X0_init rm_X0_init [.ref q, .ref r, .int a, .int b, .int d] w (PN (fun w' => w' = up w q (eDc r a b d 0 0))) := by
  refine ct_intro RX0 "<init>" (by decide +kernel) rfl rfl rfl (Nat.le_of_ble_eq_true rfl) [some (.ref q), some (.ref r), some (.int a), some (.int b), some (.int d)] rfl (fun C => ?_)
  refine g_aload0 dX0_init_0 ?_
  refine g_objInit dX0_init_1 ml_X0_3 im_oi cd_oi (Nat.le_of_ble_eq_true rfl) (Nat.le_of_ble_eq_true rfl) ?_
  refine g_aload0 dX0_init_4 ?_
  refine g_aload1 dX0_init_5 ?_
  refine g_putF (fs' := [.ref r, .int 0, .int 0, .int 0, .int 0, .int 0]) kc1 dX0_init_6 fw_X0_9 (by decide) rfl rfl hq hb rfl rfl (Nat.le_of_ble_eq_true rfl) rfl ?_
  refine g_aload0 dX0_init_9 ?_
  refine g_iload2 dX0_init_10 ?_
  refine g_putF (fs' := [.ref r, .int a, .int 0, .int 0, .int 0, .int 0]) kc1 dX0_init_11 fw_X0_15 (by decide) rfl rfl (up_s _ _ _) hb rfl rfl (Nat.le_of_ble_eq_true rfl) rfl ?_
  refine g_aload0 dX0_init_14 ?_
  refine g_iload3 dX0_init_15 ?_
  refine g_putF (fs' := [.ref r, .int a, .int b, .int 0, .int 0, .int 0]) kc1 dX0_init_16 fw_X0_19 (by decide) rfl rfl (up_s _ _ _) hb rfl rfl (Nat.le_of_ble_eq_true rfl) rfl ?_
  refine g_aload0 dX0_init_19 ?_
  refine g_iload4 dX0_init_20 ?_
  refine g_putF (fs' := [.ref r, .int a, .int b, .int d, .int 0, .int 0]) kc1 dX0_init_22 fw_X0_22 (by decide) rfl rfl (up_s _ _ _) hb rfl rfl (Nat.le_of_ble_eq_true rfl) rfl ?_
  refine g_vret dX0_init_25 ?_ (Nat.le_of_ble_eq_true rfl) (Nat.le_of_ble_eq_true rfl)
  exact ⟨rfl, by rw [up_up, up_up, up_up]⟩

abbrev rm_X3_init : Room := { frames := 1, cells := 0, slots := 0, locals := 20 }

set_option maxRecDepth 100000 in
theorem ct_X3_init {G : Gx} {w : Wd} {q : Nat} {lk : Bool} (hq : w q = some (eRd 0 0 0 0)) (hb : (gH G).size ≤ q) : Ct G yX3_init kw_X3_init rm_X3_init [.ref q, .int (bI lk)] w (PN (fun w' => w' = up w q (eRd (bI lk) 0 99 (-1)))) := by
  refine ct_intro RX3 "<init>" (by decide +kernel) rfl rfl rfl (Nat.le_of_ble_eq_true rfl) [some (.ref q), some (.int (bI lk))] rfl (fun C => ?_)
  refine g_aload0 dX3_init_0 ?_
  refine g_objInit dX3_init_1 ml_X3_3 im_oi cd_oi (Nat.le_of_ble_eq_true rfl) (Nat.le_of_ble_eq_true rfl) ?_
  refine g_aload0 dX3_init_4 ?_
  refine g_iconst (v := 0) dX3_init_5 (by decide) ?_
  refine g_putf (fs' := [.int 0, .int 0, .int 0, .int 0]) kc4 dX3_init_6 fl_X3_9 (by decide) rfl hq hb rfl rfl (Nat.le_of_ble_eq_true rfl) rfl ?_
  refine g_aload0 dX3_init_9 ?_
  refine g_bipush (v := 99) dX3_init_10 (by decide) ?_
  refine g_putf (fs' := [.int 0, .int 0, .int 99, .int 0]) kc4 dX3_init_12 fl_X3_15 (by decide) rfl (up_s _ _ _) hb rfl rfl (Nat.le_of_ble_eq_true rfl) rfl ?_
  refine g_aload0 dX3_init_15 ?_
  refine g_iconst (v := (-1)) dX3_init_16 (by decide) ?_
  refine g_putf (fs' := [.int 0, .int 0, .int 99, .int (-1)]) kc4 dX3_init_17 fl_X3_18 (by decide) rfl (up_s _ _ _) hb rfl rfl (Nat.le_of_ble_eq_true rfl) rfl ?_
  refine g_aload0 dX3_init_20 ?_
  refine g_iload1 dX3_init_21 ?_
  refine g_putF (fs' := [.int (bI lk), .int 0, .int 99, .int (-1)]) kc4 dX3_init_22 fw_X3_21 (by decide) rfl rfl (up_s _ _ _) hb (bI_nar _) (by cases lk <;> rfl) (Nat.le_of_ble_eq_true rfl) rfl ?_
  refine g_vret dX3_init_25 ?_ (Nat.le_of_ble_eq_true rfl) (Nat.le_of_ble_eq_true rfl)
  exact ⟨rfl, by rw [up_up, up_up, up_up]⟩

abbrev rm_X2_init : Room := { frames := 1, cells := 1, slots := 8, locals := 20 }

set_option maxRecDepth 100000 in
theorem ct_X2_init {G : Gx} {w : Wd} {q : Nat} (hq : w q = some (eO 3 [.null, .int 0, .int 0])) (hb : (gH G).size ≤ q) : Ct G yX2_init kw_X2_init rm_X2_init [.ref q] w (PN (fun w' => ∃ v, w v = none ∧ (gH G).size ≤ v ∧ w' = up (up w v (eI G 8 (fun _ => 0))) q (ePg v 0 1))) := by
  refine ct_intro RX2 "<init>" (by decide +kernel) rfl rfl rfl (Nat.le_of_ble_eq_true rfl) [some (.ref q)] rfl (fun C => ?_)
  refine g_aload0 dX2_init_0 ?_
  refine g_objInit dX2_init_1 ml_X2_3 im_oi cd_oi (Nat.le_of_ble_eq_true rfl) (Nat.le_of_ble_eq_true rfl) ?_
  refine g_aload0 dX2_init_4 ?_
  refine g_bipush (v := 8) dX2_init_5 (by decide) ?_
  refine g_newI (N := 8) dX2_init_7 ac_int (by decide) (by decide) (Nat.le_of_ble_eq_true rfl) (Nat.le_of_ble_eq_true rfl) (Nat.le_of_ble_eq_true rfl) (fun v vn vb => ?_)
  have hqv : q ≠ v := fun e => by rw [e, vn] at hq; cases hq
  refine g_putF (fs' := [.ref v, .int 0, .int 0]) kc3 dX2_init_9 fw_X2_9 (by decide) rfl rfl ((up_n hqv).trans hq) hb rfl rfl (Nat.le_of_ble_eq_true rfl) rfl ?_
  refine g_aload0 dX2_init_12 ?_
  refine g_iconst (v := 1) dX2_init_13 (by decide) ?_
  refine g_putf (fs' := [.ref v, .int 0, .int 1]) kc3 dX2_init_14 fl_X2_15 (by decide) rfl (up_s _ _ _) hb rfl rfl (Nat.le_of_ble_eq_true rfl) rfl ?_
  refine g_vret dX2_init_17 ?_ (Nat.le_of_ble_eq_true rfl) (Nat.le_of_ble_eq_true rfl)
  exact ⟨rfl, v, vn, vb, by rw [up_up]⟩

abbrev rm_X4_init : Room := { frames := 4, cells := 1, slots := 3, locals := 80 }

theorem up_of {w w' : Wd} {a : Nat} {e : va_E} (h1 : w' a = some e) (h2 : ∀ b, b ≠ a → w' b = w b) : w' = up w a e := by
  funext b
  by_cases h : b = a
  · rw [h, up_s, h1]
  · rw [up_n h, h2 b h]
theorem up_cm {w : Wd} {a b : Nat} {e f : va_E} (h : a ≠ b) : up (up w a e) b f = up (up w b f) a e := by
  funext c
  by_cases h1 : c = a
  · rw [h1, up_n h, up_s, up_s]
  · rw [up_n h1]
    by_cases h2 : c = b
    · rw [h2, up_s, up_s]
    · rw [up_n h2, up_n h2, up_n h1]
set_option maxRecDepth 100000 in
theorem ct_X4_init {G : Gx} {w : Wd} {q : Nat} (hq : w q = some (eO 5 [.null, .int 0])) (hb : (gH G).size ≤ q) : Ct G yX4_init kw_X4_init rm_X4_init [.ref q] w (PN (fun w' => ∃ v, w v = none ∧ (gH G).size ≤ v ∧ w' = up (up w v (eLs 0 (gE G) 0)) q (eRn v 0))) := by
  refine ct_intro RX4 "<init>" (by decide +kernel) rfl rfl rfl (Nat.le_of_ble_eq_true rfl) [some (.ref q)] rfl (fun C => ?_)
  refine g_aload0 dX4_init_0 ?_
  refine g_objInit dX4_init_1 ml_X4_1 im_oi cd_oi (Nat.le_of_ble_eq_true rfl) (Nat.le_of_ble_eq_true rfl) ?_
  refine g_aload0 dX4_init_4 ?_
  refine g_new (fs := [.int 0, .null, .int 0]) kc0 dX4_init_5 cl_X4_7 ins_Jx4a65c ini_Jx4a65c (by intro j hj; rcases (show j = 0 ∨ j = 1 ∨ j = 2 by omega) with rfl | rfl | rfl <;> rfl) (Nat.le_of_ble_eq_true rfl) (Nat.le_of_ble_eq_true rfl) (fun v vn vb => ?_)
  have hqv : q ≠ v := fun e => by rw [e, vn] at hq; cases hq
  refine g_dup dX4_init_8 rfl ?_
  refine g_callI0 (ct_arl_init (up_s _ _ _) vb) md_Jx4a65c_init_da8c8 dX4_init_9 ml_X4_9 rfl im_Jx4a65c_init_da8c8 (RmOk.of (Nat.le_of_ble_eq_true rfl) (Nat.le_of_ble_eq_true rfl) (Nat.le_of_ble_eq_true rfl) (Nat.le_of_ble_eq_true rfl) (Nat.le_of_ble_eq_true rfl)) (kr_N (fun w1 hw1 => ?_)) kn_N
  have hw2 := up_of hw1.1 hw1.2
  rw [up_up] at hw2
  subst hw2
  refine g_putF (fs' := [.ref v, .int 0]) kc5 dX4_init_12 fw_X4_10 (by decide) rfl rfl ((up_n hqv).trans hq) hb rfl rfl (Nat.le_of_ble_eq_true rfl) rfl ?_
  refine g_vret dX4_init_15 ?_ (Nat.le_of_ble_eq_true rfl) (Nat.le_of_ble_eq_true rfl)
  exact ⟨rfl, v, vn, vb, rfl⟩

theorem Kl.newD {G : Gx} {X : Nat → Prop} {w0 w : Wd} {S : KS} (hK : Kl G X w0 S w) {q r : Nat} (hq : w q = none) (hb : (gH G).size ≤ q) (hr : r < S.nn 5) (fp ac kd : Int32) : Kl G X w0 (((S.one 8 q).sdR (updN S.dR (S.nn 8) r)).sdI (updF S.dI (S.nn 8) (f5 fp ac kd 0 0))) (up w q (eDc (S.ad 5 r) fp ac kd 0 0)) := by
  have hs : ∀ j, j ≠ 8 → updN S.nn 8 (S.nn 8 + 1) j = S.nn j := fun j hj => updN_n hj
  have hcl : Cl (((S.one 8 q).sdR (updN S.dR (S.nn 8) r)).sdI (updF S.dI (S.nn 8) (f5 fp ac kd 0 0))) := by
    refine ⟨hK.cl.c0, hK.cl.c4, hK.cl.c5, hK.cl.c7, hK.cl.oR, hK.cl.oP, fun l i hl hi => ?_, fun d hd => ?_, hK.cl.cp⟩
    · have e9 : ekI (((S.one 8 q).sdR (updN S.dR (S.nn 8) r)).sdI (updF S.dI (S.nn 8) (f5 fp ac kd 0 0))) l i = ekI S l i := by rcases l with _ | _ | _ | _ | l <;> rfl
      rw [e9]
      exact Nat.lt_of_lt_of_le (hK.cl.el l i hl hi) updN_le
    · have hd : d < updN S.nn 8 (S.nn 8 + 1) 8 := hd
      rw [updN_s] at hd
      show updN S.dR (S.nn 8) r d < S.nn 5
      by_cases e : d = S.nn 8
      · rw [e, updN_s]; exact hr
      · rw [updN_n e]; exact hK.cl.dR d (by omega)
  have h := hK.new1 (((S.one 8 q).sdR (updN S.dR (S.nn 8) r)).sdI (updF S.dI (S.nn 8) (f5 fp ac kd 0 0))) 8 q rfl (fun k1 i1 hl1 => lv_one hl1) hcl (fun k1 i1 hl1 => match k1, hl1 with
    | 0, hl1 => ⟨rfl, rfl, rfl, rfl⟩
    | 1, hl1 => trivial
    | 2, hl1 => rfl
    | 3, hl1 => ⟨rfl, rfl, rfl⟩
    | 4, hl1 => ⟨rfl, rfl, fun _ _ => rfl⟩
    | 5, hl1 => rfl
    | 6, hl1 => ⟨rfl, rfl⟩
    | 7, hl1 => rfl
    | 8, hl1 => ⟨updN_n (Nat.ne_of_lt hl1.2.1), updF_n (Nat.ne_of_lt hl1.2.1)⟩
    | 9, hl1 => rfl
    | 10, hl1 => rfl
    | n + 11, hl1 => rfl) hq hb
  have e : kc G (((S.one 8 q).sdR (updN S.dR (S.nn 8) r)).sdI (updF S.dI (S.nn 8) (f5 fp ac kd 0 0))) 8 (S.nn 8) = eDc (S.ad 5 r) fp ac kd 0 0 := by
    show eDc (ad2 S.ad 8 (S.nn 8) q 5 (updN S.dR (S.nn 8) r (S.nn 8))) (updF S.dI (S.nn 8) (f5 fp ac kd 0 0) (S.nn 8) 0) (updF S.dI (S.nn 8) (f5 fp ac kd 0 0) (S.nn 8) 1) (updF S.dI (S.nn 8) (f5 fp ac kd 0 0) (S.nn 8) 2) (updF S.dI (S.nn 8) (f5 fp ac kd 0 0) (S.nn 8) 3) (updF S.dI (S.nn 8) (f5 fp ac kd 0 0) (S.nn 8) 4) = _
    rw [updN_s, updF_s]; rfl
  rw [e] at h
  exact h
theorem Kl.newR {G : Gx} {X : Nat → Prop} {w0 w : Wd} {S : KS} (hK : Kl G X w0 S w) {q : Nat} (hq : w q = none) (hb : (gH G).size ≤ q) (a b c d : Int32) : Kl G X w0 ((S.one 9 q).srd (updF S.rd (S.nn 9) (f5 a b c d 0))) (up w q (eRd a b c d)) := by
  have h := hK.new1 ((S.one 9 q).srd (updF S.rd (S.nn 9) (f5 a b c d 0))) 9 q rfl (fun k1 i1 hl1 => lv_one hl1) (cl_one hK.cl (Or.inr (Or.inr (Or.inr (Or.inr rfl))))) (fun k1 i1 hl1 => match k1, hl1 with
    | 0, hl1 => ⟨rfl, rfl, rfl, rfl⟩
    | 1, hl1 => trivial
    | 2, hl1 => rfl
    | 3, hl1 => ⟨rfl, rfl, rfl⟩
    | 4, hl1 => ⟨rfl, rfl, fun _ _ => rfl⟩
    | 5, hl1 => rfl
    | 6, hl1 => ⟨rfl, rfl⟩
    | 7, hl1 => rfl
    | 8, hl1 => ⟨rfl, rfl⟩
    | 9, hl1 => updF_n (Nat.ne_of_lt hl1.2.1)
    | 10, hl1 => rfl
    | n + 11, hl1 => rfl) hq hb
  have e : kc G ((S.one 9 q).srd (updF S.rd (S.nn 9) (f5 a b c d 0))) 9 (S.nn 9) = eRd a b c d := by
    show eRd (updF S.rd (S.nn 9) (f5 a b c d 0) (S.nn 9) 0) (updF S.rd (S.nn 9) (f5 a b c d 0) (S.nn 9) 1) (updF S.rd (S.nn 9) (f5 a b c d 0) (S.nn 9) 2) (updF S.rd (S.nn 9) (f5 a b c d 0) (S.nn 9) 3) = _
    rw [updF_s]; rfl
  rw [e] at h
  exact h
def KS.nls (S : KS) (q f : Nat) : KS := (((((S.sad (ad2 S.ad 3 (S.nn 3) q)).snn (updN (updN S.nn 3 (S.nn 3 + 1)) 4 (S.nn 3 + 1))).scp (updN S.cp (S.nn 3) 0)).sln (updN S.ln (S.nn 3) 0)).smo (upd S.mo (S.nn 3) 0)).srF (updN S.rF (S.nn 5) f)
theorem Kl.newL {G : Gx} {X : Nat → Prop} {w0 w : Wd} {S : KS} (hK : Kl G X w0 S w) {q : Nat} (hq : w q = none) (hb : (gH G).size ≤ q) (h35 : S.nn 3 = S.nn 5 + 4) (f : Nat) : Kl G X w0 (S.nls q f) (up w q (eLs 0 (gE G) 0)) := by
  have hn : ∀ k i, Lv (S.nls q f) k i → Lv S k i ∨ (k = 3 ∧ i = S.nn 3) := by
    intro k i ⟨a, b, c⟩
    have b : i < updN (updN S.nn 3 (S.nn 3 + 1)) 4 (S.nn 3 + 1) k := b
    have c : k = 4 → updN S.cp (S.nn 3) 0 i ≠ 0 := c
    unfold updN at b
    by_cases e4 : k = 4
    · rw [if_pos e4] at b
      have c := c e4
      have hne : i ≠ S.nn 3 := fun z => c (by rw [z]; exact updN_s _ _ _)
      rw [updN_n hne] at c
      refine Or.inl ⟨a, ?_, fun _ => c⟩
      rw [e4, hK.cl.c4]; omega
    · rw [if_neg e4] at b
      by_cases e3 : k = 3
      · rw [if_pos e3] at b
        rcases Nat.lt_succ_iff_lt_or_eq.mp b with z | z
        · exact Or.inl ⟨a, by rw [e3]; exact z, fun z => absurd z e4⟩
        · exact Or.inr ⟨e3, z⟩
      · rw [if_neg e3] at b
        exact Or.inl ⟨a, b, fun z => absurd z e4⟩
  have hek : ∀ l i, l < S.nn 3 → ekI (S.nls q f) l i = ekI S l i := by
    intro l i hl
    rcases l with _ | _ | _ | _ | l
    · rfl
    · rfl
    · rfl
    · rfl
    · show updN S.rF (S.nn 5) f l + i = S.rF l + i
      rw [updN_n (by omega)]
  have hcl : Cl (S.nls q f) := by
    refine ⟨hK.cl.c0, rfl, ?_, hK.cl.c7, hK.cl.oR, hK.cl.oP, fun l i hl hi => ?_, hK.cl.dR, fun l hl => ?_⟩
    · show S.nn 5 + 4 ≤ S.nn 3 + 1
      omega
    · have hl : l < S.nn 3 + 1 := hl
      have hi : i < updN S.ln (S.nn 3) 0 l := hi
      by_cases e : l = S.nn 3
      · rw [e, updN_s] at hi; exact absurd hi (Nat.not_lt_zero _)
      · rw [updN_n e] at hi
        have hl2 : l < S.nn 3 := by omega
        rw [hek l i hl2]
        refine Nat.lt_of_lt_of_le (hK.cl.el l i hl2 hi) ?_
        show S.nn (ekK l) ≤ updN (updN S.nn 3 (S.nn 3 + 1)) 4 (S.nn 3 + 1) (ekK l)
        rw [updN_n (ekK_lt l).2.1, updN_n (ekK_lt l).2.2]
        exact Nat.le_refl _
    · have hl : l < S.nn 3 + 1 := hl
      show updN S.ln (S.nn 3) 0 l ≤ updN S.cp (S.nn 3) 0 l ∧ (updN S.cp (S.nn 3) 0 l = 0 ∨ 10 ≤ updN S.cp (S.nn 3) 0 l ∧ updN S.cp (S.nn 3) 0 l ≤ 200)
      by_cases e : l = S.nn 3
      · rw [e, updN_s, updN_s]; exact ⟨Nat.le_refl _, Or.inl rfl⟩
      · rw [updN_n e, updN_n e]; exact hK.cl.cp l (by omega)
  have h := hK.new1 (S.nls q f) 3 q rfl hn hcl (fun k1 i1 hl1 => match k1, hl1 with
    | 0, hl1 => ⟨rfl, rfl, rfl, rfl⟩
    | 1, hl1 => trivial
    | 2, hl1 => rfl
    | 3, hl1 => ⟨upd_n (Nat.ne_of_lt hl1.2.1), updN_n (Nat.ne_of_lt hl1.2.1), updN_n (Nat.ne_of_lt hl1.2.1)⟩
    | 4, hl1 => by have h9 : i1 < S.nn 3 := by { rw [← hK.cl.c4]; exact hl1.2.1 }; exact ⟨updN_n (Nat.ne_of_lt h9), updN_n (Nat.ne_of_lt h9), fun j _ => hek i1 j h9⟩
    | 5, hl1 => rfl
    | 6, hl1 => ⟨rfl, rfl⟩
    | 7, hl1 => rfl
    | 8, hl1 => ⟨rfl, rfl⟩
    | 9, hl1 => rfl
    | 10, hl1 => rfl
    | n + 11, hl1 => rfl) hq hb
  have e : kc G (S.nls q f) 3 (S.nn 3) = eLs 0 (gE G) 0 := by
    show eLs (upd S.mo (S.nn 3) 0 (S.nn 3)) (ddK G (S.nls q f) (S.nn 3)) (updN S.ln (S.nn 3) 0 (S.nn 3)) = _
    rw [upd_s, updN_s, show ddK G (S.nls q f) (S.nn 3) = gE G from if_pos (updN_s _ _ _)]
  rw [e] at h
  exact h
def KS.pg (S : KS) (p v : Nat) : KS := (((((S.one 7 v).spV (updF S.pV (S.nn 7) (fun _ => 0)))).one 6 p).spS (updN S.pS (S.nn 6) 0)).spC (upd S.pC (S.nn 6) 1)
theorem Kl.newPage {G : Gx} {X : Nat → Prop} {w0 w : Wd} {S : KS} (hK : Kl G X w0 S w) {p v : Nat} (hp : w p = none) (hpb : (gH G).size ≤ p) (hv : w v = none) (hvb : (gH G).size ≤ v) (hpv : p ≠ v) (h67 : S.nn 6 = S.nn 7) : Kl G X w0 (S.pg p v) (up (up w v (eI G 8 (fun _ => 0))) p (ePg v 0 1)) := by
  have h1 := hK.newV hv hvb
  have h2 := h1.newP (q := p) (by rw [up_n hpv]; exact hp) hpb (by show updN S.nn 7 (S.nn 7 + 1) 6 < updN S.nn 7 (S.nn 7 + 1) 7; rw [updN_s, updN_n (by decide)]; omega) 0 1
  have e : ((S.one 7 v).spV (updF S.pV (S.nn 7) (fun _ => 0))).ad 7 (((S.one 7 v).spV (updF S.pV (S.nn 7) (fun _ => 0))).nn 6) = v := by
    show ad2 S.ad 7 (S.nn 7) v 7 (S.nn 6) = v
    rw [h67, ad2_s]
  rw [e] at h2
  exact h2
def KS.rn (S : KS) (q v f : Nat) : KS := ((S.nls v f).one 5 q).srD (upd S.rD (S.nn 5) 0)
theorem Kl.newRun {G : Gx} {X : Nat → Prop} {w0 w : Wd} {S : KS} (hK : Kl G X w0 S w) {q v : Nat} (hq : w q = none) (hqb : (gH G).size ≤ q) (hv : w v = none) (hvb : (gH G).size ≤ v) (hqv : q ≠ v) (h35 : S.nn 3 = S.nn 5 + 4) (f : Nat) : Kl G X w0 (S.rn q v f) (up (up w v (eLs 0 (gE G) 0)) q (eRn v 0)) := by
  have h1 := hK.newL hv hvb h35 f
  have h2 := h1.newQ (q := q) (by rw [up_n hqv]; exact hq) hqb (by show S.nn 5 + 4 < S.nn 3 + 1; omega) 0
  have e : (S.nls v f).ad 3 ((S.nls v f).nn 5 + 4) = v := by
    show ad2 S.ad 3 (S.nn 3) v 3 (S.nn 5 + 4) = v
    rw [← h35, ad2_s]
  rw [e] at h2
  exact h2

theorem Kl.ctAddF {G : Gx} {X : Nat → Prop} {w0 w : Wd} {S : KS} (hK : Kl G X w0 S w) {v nl : Nat} (hl : 0 < S.nn 3) (hm : S.ln (0) ≤ 120) (hv : v = elK S (0) (S.ln (0))) (hv2 : ekI S (0) (S.ln (0)) < S.nn 2) (hnl : gslot (S.ln (0)) (S.cp (0)) ≤ nl) : Ct G yJx4a65c_add_9ea2d kw_Jx4a65c_add_9ea2d (rm_Jx4a65c_add_9ea2d nl) [.ref (S.ad 3 (0)), .ref v] w (PB (.int 1) (fun w' => ∃ dd cap, Kl G X w0 (S.app (0) dd cap) w' ∧ gslot (S.ln (0)) (S.cp (0)) + 4 * S.cp (0) ≤ 4 * cap)) := by
  have hd := hK.dd hl
  have hc := hK.cl.cp _ hl
  have hel : ∀ i, ekI S (0) i < S.nn 2 → ∃ vs, w (elK S (0) i) = some (eO 2 vs) := fun i hi => ⟨_, hK.g2 hi⟩
  have hne : ∀ i, ekI S (0) i < S.nn 2 → elK S (0) i ≠ S.ad 3 (0) := fun i hi e => by
    have := (hK.inj 2 _ 3 _ (lvK (by decide) (by decide) hi) (lvK (by decide) (by decide) hl) e).1
    exact absurd this (by decide)
  subst hv
  obtain ⟨vs, hvs⟩ := hel _ hv2
  have h := ct_add (nl := nl) kc2 ca_X1 (hK.g3 hl) (hK.b3 hl) hd.1 ((hK.X _ hK.E.1).1.trans hK.E.2) hc.1 (by rcases hd.2 with z | z; exact Or.inl z; exact Or.inr ⟨z.1, by omega, z.2.2⟩) hnl (fun i hi => hel i (hK.cl.el _ i hl hi)) hvs (hne _ hv2) (fun i hi => hne i (hK.cl.el _ i hl hi))
  exact h.mono (fun r w' hr => ⟨hr.1, hK.add hl hm rfl hv2 hr.2⟩)
theorem Kl.ctAddR {G : Gx} {X : Nat → Prop} {w0 w : Wd} {S : KS} (hK : Kl G X w0 S w) {v nl : Nat} (hl : 1 < S.nn 3) (hm : S.ln (1) ≤ 120) (hv : v = elK S (1) (S.ln (1))) (hv2 : ekI S (1) (S.ln (1)) < S.nn 5) (hnl : gslot (S.ln (1)) (S.cp (1)) ≤ nl) : Ct G yJx4a65c_add_9ea2d kw_Jx4a65c_add_9ea2d (rm_Jx4a65c_add_9ea2d nl) [.ref (S.ad 3 (1)), .ref v] w (PB (.int 1) (fun w' => ∃ dd cap, Kl G X w0 (S.app (1) dd cap) w' ∧ gslot (S.ln (1)) (S.cp (1)) + 4 * S.cp (1) ≤ 4 * cap)) := by
  have hd := hK.dd hl
  have hc := hK.cl.cp _ hl
  have hel : ∀ i, ekI S (1) i < S.nn 5 → ∃ vs, w (elK S (1) i) = some (eO 5 vs) := fun i hi => ⟨_, hK.g5 hi⟩
  have hne : ∀ i, ekI S (1) i < S.nn 5 → elK S (1) i ≠ S.ad 3 (1) := fun i hi e => by
    have := (hK.inj 5 _ 3 _ (lvK (by decide) (by decide) hi) (lvK (by decide) (by decide) hl) e).1
    exact absurd this (by decide)
  subst hv
  obtain ⟨vs, hvs⟩ := hel _ hv2
  have h := ct_add (nl := nl) kc5 ca_X4 (hK.g3 hl) (hK.b3 hl) hd.1 ((hK.X _ hK.E.1).1.trans hK.E.2) hc.1 (by rcases hd.2 with z | z; exact Or.inl z; exact Or.inr ⟨z.1, by omega, z.2.2⟩) hnl (fun i hi => hel i (hK.cl.el _ i hl hi)) hvs (hne _ hv2) (fun i hi => hne i (hK.cl.el _ i hl hi))
  exact h.mono (fun r w' hr => ⟨hr.1, hK.add hl hm rfl hv2 hr.2⟩)
theorem Kl.ctAddD {G : Gx} {X : Nat → Prop} {w0 w : Wd} {S : KS} (hK : Kl G X w0 S w) {v nl : Nat} (hl : 2 < S.nn 3) (hm : S.ln (2) ≤ 120) (hv : v = elK S (2) (S.ln (2))) (hv2 : ekI S (2) (S.ln (2)) < S.nn 8) (hnl : gslot (S.ln (2)) (S.cp (2)) ≤ nl) : Ct G yJx4a65c_add_9ea2d kw_Jx4a65c_add_9ea2d (rm_Jx4a65c_add_9ea2d nl) [.ref (S.ad 3 (2)), .ref v] w (PB (.int 1) (fun w' => ∃ dd cap, Kl G X w0 (S.app (2) dd cap) w' ∧ gslot (S.ln (2)) (S.cp (2)) + 4 * S.cp (2) ≤ 4 * cap)) := by
  have hd := hK.dd hl
  have hc := hK.cl.cp _ hl
  have hel : ∀ i, ekI S (2) i < S.nn 8 → ∃ vs, w (elK S (2) i) = some (eO 1 vs) := fun i hi => ⟨_, hK.g8 hi⟩
  have hne : ∀ i, ekI S (2) i < S.nn 8 → elK S (2) i ≠ S.ad 3 (2) := fun i hi e => by
    have := (hK.inj 8 _ 3 _ (lvK (by decide) (by decide) hi) (lvK (by decide) (by decide) hl) e).1
    exact absurd this (by decide)
  subst hv
  obtain ⟨vs, hvs⟩ := hel _ hv2
  have h := ct_add (nl := nl) kc1 ca_X0 (hK.g3 hl) (hK.b3 hl) hd.1 ((hK.X _ hK.E.1).1.trans hK.E.2) hc.1 (by rcases hd.2 with z | z; exact Or.inl z; exact Or.inr ⟨z.1, by omega, z.2.2⟩) hnl (fun i hi => hel i (hK.cl.el _ i hl hi)) hvs (hne _ hv2) (fun i hi => hne i (hK.cl.el _ i hl hi))
  exact h.mono (fun r w' hr => ⟨hr.1, hK.add hl hm rfl hv2 hr.2⟩)
theorem Kl.ctAddQ {G : Gx} {X : Nat → Prop} {w0 w : Wd} {S : KS} (hK : Kl G X w0 S w) {v nl : Nat} (hl : 3 < S.nn 3) (hm : S.ln (3) ≤ 120) (hv : v = elK S (3) (S.ln (3))) (hv2 : ekI S (3) (S.ln (3)) < S.nn 9) (hnl : gslot (S.ln (3)) (S.cp (3)) ≤ nl) : Ct G yJx4a65c_add_9ea2d kw_Jx4a65c_add_9ea2d (rm_Jx4a65c_add_9ea2d nl) [.ref (S.ad 3 (3)), .ref v] w (PB (.int 1) (fun w' => ∃ dd cap, Kl G X w0 (S.app (3) dd cap) w' ∧ gslot (S.ln (3)) (S.cp (3)) + 4 * S.cp (3) ≤ 4 * cap)) := by
  have hd := hK.dd hl
  have hc := hK.cl.cp _ hl
  have hel : ∀ i, ekI S (3) i < S.nn 9 → ∃ vs, w (elK S (3) i) = some (eO 4 vs) := fun i hi => ⟨_, hK.g9 hi⟩
  have hne : ∀ i, ekI S (3) i < S.nn 9 → elK S (3) i ≠ S.ad 3 (3) := fun i hi e => by
    have := (hK.inj 9 _ 3 _ (lvK (by decide) (by decide) hi) (lvK (by decide) (by decide) hl) e).1
    exact absurd this (by decide)
  subst hv
  obtain ⟨vs, hvs⟩ := hel _ hv2
  have h := ct_add (nl := nl) kc4 ca_X3 (hK.g3 hl) (hK.b3 hl) hd.1 ((hK.X _ hK.E.1).1.trans hK.E.2) hc.1 (by rcases hd.2 with z | z; exact Or.inl z; exact Or.inr ⟨z.1, by omega, z.2.2⟩) hnl (fun i hi => hel i (hK.cl.el _ i hl hi)) hvs (hne _ hv2) (fun i hi => hne i (hK.cl.el _ i hl hi))
  exact h.mono (fun r w' hr => ⟨hr.1, hK.add hl hm rfl hv2 hr.2⟩)
theorem Kl.ctAddP {G : Gx} {X : Nat → Prop} {w0 w : Wd} {S : KS} (hK : Kl G X w0 S w) {l v nl : Nat} (hl : l + 4 < S.nn 3) (hm : S.ln (l + 4) ≤ 120) (hv : v = elK S (l + 4) (S.ln (l + 4))) (hv2 : ekI S (l + 4) (S.ln (l + 4)) < S.nn 6) (hnl : gslot (S.ln (l + 4)) (S.cp (l + 4)) ≤ nl) : Ct G yJx4a65c_add_9ea2d kw_Jx4a65c_add_9ea2d (rm_Jx4a65c_add_9ea2d nl) [.ref (S.ad 3 (l + 4)), .ref v] w (PB (.int 1) (fun w' => ∃ dd cap, Kl G X w0 (S.app (l + 4) dd cap) w' ∧ gslot (S.ln (l + 4)) (S.cp (l + 4)) + 4 * S.cp (l + 4) ≤ 4 * cap)) := by
  have hd := hK.dd hl
  have hc := hK.cl.cp _ hl
  have hel : ∀ i, ekI S (l + 4) i < S.nn 6 → ∃ vs, w (elK S (l + 4) i) = some (eO 3 vs) := fun i hi => ⟨_, hK.g6 hi⟩
  have hne : ∀ i, ekI S (l + 4) i < S.nn 6 → elK S (l + 4) i ≠ S.ad 3 (l + 4) := fun i hi e => by
    have := (hK.inj 6 _ 3 _ (lvK (by decide) (by decide) hi) (lvK (by decide) (by decide) hl) e).1
    exact absurd this (by decide)
  subst hv
  obtain ⟨vs, hvs⟩ := hel _ hv2
  have h := ct_add (nl := nl) kc3 ca_X2 (hK.g3 hl) (hK.b3 hl) hd.1 ((hK.X _ hK.E.1).1.trans hK.E.2) hc.1 (by rcases hd.2 with z | z; exact Or.inl z; exact Or.inr ⟨z.1, by omega, z.2.2⟩) hnl (fun i hi => hel i (hK.cl.el _ i hl hi)) hvs (hne _ hv2) (fun i hi => hne i (hK.cl.el _ i hl hi))
  exact h.mono (fun r w' hr => ⟨hr.1, hK.add hl hm rfl hv2 hr.2⟩)
