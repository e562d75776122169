/-! The law's own methods: the keeper's answer into the law's cell, or a number for what it throws. -/
def WQ (G : Gx) (X : Nat → Prop) (w : Wd) (kp ou : Nat) (th : Nat) (x : Int64) (N : Nat → Nat) (A : Nat → Nat → Int32) (w' : Wd) : Prop := (th = 0 ∧ ∃ f : Nat → Int64, f 0 = x ∧ Inv0 G X (up w ou (eJ G 1 f)) kp N A w') ∨ (0 < th ∧ Inv0 G X w kp N A w')

abbrev rm_L_pass : Room := { frames := 8, cells := 12, slots := 70, locals := 125 }

set_option maxRecDepth 100000 in
theorem lw_pass_0 {G : Gx} {X : Nat → Prop} {w : Wd} {kp ou : Nat} {N N2 : Nat → Nat} {A A2 : Nat → Nat → Int32} {f0 : Nat → Int64} {x v : Int32} (hI : Inv0 G X w kp N A w) (hX : X ou) (hE : ou ≠ gE G) (hb : (gH G).size ≤ ou) (ho : w ou = some (eJ G 1 f0)) (hc : Ct G yX5_pass kw_X5_pass rm_X5_pass [.ref kp, .int x] w (PCl G X w kp (.inl (some (.int v))) N2 A2)) : Ct G yL_pass kw_L_pass rm_L_pass [.ref kp, .int x, .ref ou] w (PB (.int 0) (WQ G X w kp ou 0 v.toInt64 N2 A2)) := by
  have hI0 := hI
  obtain ⟨S, hK, hL, rfl⟩ := hI
  refine ct_introW RL "pass" (by decide +kernel) rfl rfl rfl (Nat.le_of_ble_eq_true rfl) [some (.ref (S.ad 0 0)), some (.int x), some (.ref ou), none] rfl (fun C => ?_)
  refine g_aload2 dL_pass_0 ?_
  refine g_iconst (v := 0) dL_pass_1 (by decide) ?_
  refine g_aload0 dL_pass_2 ?_
  refine g_iload1 dL_pass_3 ?_
  refine g_callV1 kc6 (hc.mono (P' := PB (.int v) (Inv0 G X w (S.ad 0 0) N2 A2)) (fun r9 w9 h9 => h9)) md_X5_pass dL_pass_4 ml_L_7 im_X5_pass se_X5_pass hK.g0 (RmOk.of (Nat.le_of_ble_eq_true rfl) (Nat.le_of_ble_eq_true rfl) (Nat.le_of_ble_eq_true rfl) (Nat.le_of_ble_eq_true rfl) (Nat.le_of_ble_eq_true rfl)) (kr_B (fun w1 hw1 => ?_)) kx_B
  have ho1 : w1 ou = some (eJ G 1 f0) := by
    obtain ⟨S9, hK9, -⟩ := hw1
    exact (hK9.X ou hX).1.trans ho
  refine g_i2l dL_pass_7 ?_
  refine g_last dL_pass_8 ho1 hb (vp_in_nI (show 0 < 1 by decide) (by decide)) ?_
  refine g_goto (tgt := 18) dL_pass_9 (by decide) ?_
  refine g_iconst (v := 0) dL_pass_18 (by decide) ?_
  refine g_iret dL_pass_19 ?_ (Nat.le_of_ble_eq_true rfl) (Nat.le_of_ble_eq_true rfl)
  exact ⟨rfl, Or.inl ⟨rfl, _, rfl, hw1.pX hX hE _⟩⟩

set_option maxRecDepth 100000 in
theorem lw_pass_1 {G : Gx} {X : Nat → Prop} {w : Wd} {kp ou : Nat} {N N2 : Nat → Nat} {A A2 : Nat → Nat → Int32} {f0 : Nat → Int64} {x v : Int32} (hI : Inv0 G X w kp N A w) (hX : X ou) (hE : ou ≠ gE G) (hb : (gH G).size ≤ ou) (ho : w ou = some (eJ G 1 f0)) (hc : Ct G yX5_pass kw_X5_pass rm_X5_pass [.ref kp, .int x] w (PCl G X w kp (.inr "java/lang/IllegalArgumentException") N2 A2)) : Ct G yL_pass kw_L_pass rm_L_pass [.ref kp, .int x, .ref ou] w (PB (.int 1) (WQ G X w kp ou 1 0 N2 A2)) := by
  have hI0 := hI
  obtain ⟨S, hK, hL, rfl⟩ := hI
  refine ct_introW RL "pass" (by decide +kernel) rfl rfl rfl (Nat.le_of_ble_eq_true rfl) [some (.ref (S.ad 0 0)), some (.int x), some (.ref ou), none] rfl (fun C => ?_)
  refine g_aload2 dL_pass_0 ?_
  refine g_iconst (v := 0) dL_pass_1 (by decide) ?_
  refine g_aload0 dL_pass_2 ?_
  refine g_iload1 dL_pass_3 ?_
  refine g_callV1 kc6 (hc.mono (P' := PE "java/lang/IllegalArgumentException" (Inv0 G X w (S.ad 0 0) N2 A2)) (fun r9 w9 h9 => h9)) md_X5_pass dL_pass_4 ml_L_7 im_X5_pass se_X5_pass hK.g0 (RmOk.of (Nat.le_of_ble_eq_true rfl) (Nat.le_of_ble_eq_true rfl) (Nat.le_of_ble_eq_true rfl) (Nat.le_of_ble_eq_true rfl) (Nat.le_of_ble_eq_true rfl)) kr_E (kx_E (fun w1 hw1 => ?_))
  refine gx_catch [] ⟨0, 9, 12, 13⟩ [⟨0, 9, 15, 15⟩] rfl (fun _ hz => nomatch hz) (by decide) (by decide) cl_L_13 ca_IllegalArgumentException_self (fun q => ?_)
  refine g_astore3 dL_pass_12 ?_
  refine g_iconst (v := 1) dL_pass_13 (by decide) ?_
  refine g_iret dL_pass_14 ?_ (Nat.le_of_ble_eq_true rfl) (Nat.le_of_ble_eq_true rfl)
  exact ⟨rfl, Or.inr ⟨by decide, hw1⟩⟩

set_option maxRecDepth 100000 in
theorem lw_pass_2 {G : Gx} {X : Nat → Prop} {w : Wd} {kp ou : Nat} {N N2 : Nat → Nat} {A A2 : Nat → Nat → Int32} {f0 : Nat → Int64} {x v : Int32} (hI : Inv0 G X w kp N A w) (hX : X ou) (hE : ou ≠ gE G) (hb : (gH G).size ≤ ou) (ho : w ou = some (eJ G 1 f0)) (hc : Ct G yX5_pass kw_X5_pass rm_X5_pass [.ref kp, .int x] w (PCl G X w kp (.inr "java/lang/IllegalStateException") N2 A2)) : Ct G yL_pass kw_L_pass rm_L_pass [.ref kp, .int x, .ref ou] w (PB (.int 2) (WQ G X w kp ou 2 0 N2 A2)) := by
  have hI0 := hI
  obtain ⟨S, hK, hL, rfl⟩ := hI
  refine ct_introW RL "pass" (by decide +kernel) rfl rfl rfl (Nat.le_of_ble_eq_true rfl) [some (.ref (S.ad 0 0)), some (.int x), some (.ref ou), none] rfl (fun C => ?_)
  refine g_aload2 dL_pass_0 ?_
  refine g_iconst (v := 0) dL_pass_1 (by decide) ?_
  refine g_aload0 dL_pass_2 ?_
  refine g_iload1 dL_pass_3 ?_
  refine g_callV1 kc6 (hc.mono (P' := PE "java/lang/IllegalStateException" (Inv0 G X w (S.ad 0 0) N2 A2)) (fun r9 w9 h9 => h9)) md_X5_pass dL_pass_4 ml_L_7 im_X5_pass se_X5_pass hK.g0 (RmOk.of (Nat.le_of_ble_eq_true rfl) (Nat.le_of_ble_eq_true rfl) (Nat.le_of_ble_eq_true rfl) (Nat.le_of_ble_eq_true rfl) (Nat.le_of_ble_eq_true rfl)) kr_E (kx_E (fun w1 hw1 => ?_))
  refine gx_catch [⟨0, 9, 12, 13⟩] ⟨0, 9, 15, 15⟩ [] rfl (fun z hz => by obtain rfl := List.mem_singleton.mp hz; exact Or.inr ⟨by decide, _, cl_L_13, by decide⟩) (by decide) (by decide) cl_L_15 ca_IllegalStateException_self (fun q => ?_)
  refine g_astore3 dL_pass_15 ?_
  refine g_iconst (v := 2) dL_pass_16 (by decide) ?_
  refine g_iret dL_pass_17 ?_ (Nat.le_of_ble_eq_true rfl) (Nat.le_of_ble_eq_true rfl)
  exact ⟨rfl, Or.inr ⟨by decide, hw1⟩⟩

abbrev rm_L_format : Room := { frames := 8, cells := 14, slots := 290, locals := 214 }

set_option maxRecDepth 100000 in
theorem lw_format_0 {G : Gx} {X : Nat → Prop} {w : Wd} {kp ou : Nat} {N N2 : Nat → Nat} {A A2 : Nat → Nat → Int32} {f0 : Nat → Int64} {x y z v : Int32} (hI : Inv0 G X w kp N A w) (hX : X ou) (hE : ou ≠ gE G) (hb : (gH G).size ≤ ou) (ho : w ou = some (eJ G 1 f0)) (hc : Ct G yX5_format kw_X5_format rm_X5_format [.ref kp, .int x, .int y, .int z] w (PCl G X w kp (.inl (some (.int v))) N2 A2)) : Ct G yL_format kw_L_format rm_L_format [.ref kp, .int x, .int y, .int z, .ref ou] w (PB (.int 0) (WQ G X w kp ou 0 v.toInt64 N2 A2)) := by
  have hI0 := hI
  obtain ⟨S, hK, hL, rfl⟩ := hI
  refine ct_introW RL "format" (by decide +kernel) rfl rfl rfl (Nat.le_of_ble_eq_true rfl) [some (.ref (S.ad 0 0)), some (.int x), some (.int y), some (.int z), some (.ref ou), none] rfl (fun C => ?_)
  refine g_aload4 dL_format_0 ?_
  refine g_iconst (v := 0) dL_format_2 (by decide) ?_
  refine g_aload0 dL_format_3 ?_
  refine g_iload1 dL_format_4 ?_
  refine g_iload2 dL_format_5 ?_
  refine g_iload3 dL_format_6 ?_
  refine g_callV3 kc6 (hc.mono (P' := PB (.int v) (Inv0 G X w (S.ad 0 0) N2 A2)) (fun r9 w9 h9 => h9)) md_X5_format dL_format_7 ml_L_17 im_X5_format se_X5_format hK.g0 (RmOk.of (Nat.le_of_ble_eq_true rfl) (Nat.le_of_ble_eq_true rfl) (Nat.le_of_ble_eq_true rfl) (Nat.le_of_ble_eq_true rfl) (Nat.le_of_ble_eq_true rfl)) (kr_B (fun w1 hw1 => ?_)) kx_B
  have ho1 : w1 ou = some (eJ G 1 f0) := by
    obtain ⟨S9, hK9, -⟩ := hw1
    exact (hK9.X ou hX).1.trans ho
  refine g_i2l dL_format_10 ?_
  refine g_last dL_format_11 ho1 hb (vp_in_nI (show 0 < 1 by decide) (by decide)) ?_
  refine g_goto (tgt := 23) dL_format_12 (by decide) ?_
  refine g_iconst (v := 0) dL_format_23 (by decide) ?_
  refine g_iret dL_format_24 ?_ (Nat.le_of_ble_eq_true rfl) (Nat.le_of_ble_eq_true rfl)
  exact ⟨rfl, Or.inl ⟨rfl, _, rfl, hw1.pX hX hE _⟩⟩

set_option maxRecDepth 100000 in
theorem lw_format_1 {G : Gx} {X : Nat → Prop} {w : Wd} {kp ou : Nat} {N N2 : Nat → Nat} {A A2 : Nat → Nat → Int32} {f0 : Nat → Int64} {x y z v : Int32} (hI : Inv0 G X w kp N A w) (hX : X ou) (hE : ou ≠ gE G) (hb : (gH G).size ≤ ou) (ho : w ou = some (eJ G 1 f0)) (hc : Ct G yX5_format kw_X5_format rm_X5_format [.ref kp, .int x, .int y, .int z] w (PCl G X w kp (.inr "java/lang/IllegalArgumentException") N2 A2)) : Ct G yL_format kw_L_format rm_L_format [.ref kp, .int x, .int y, .int z, .ref ou] w (PB (.int 1) (WQ G X w kp ou 1 0 N2 A2)) := by
  have hI0 := hI
  obtain ⟨S, hK, hL, rfl⟩ := hI
  refine ct_introW RL "format" (by decide +kernel) rfl rfl rfl (Nat.le_of_ble_eq_true rfl) [some (.ref (S.ad 0 0)), some (.int x), some (.int y), some (.int z), some (.ref ou), none] rfl (fun C => ?_)
  refine g_aload4 dL_format_0 ?_
  refine g_iconst (v := 0) dL_format_2 (by decide) ?_
  refine g_aload0 dL_format_3 ?_
  refine g_iload1 dL_format_4 ?_
  refine g_iload2 dL_format_5 ?_
  refine g_iload3 dL_format_6 ?_
  refine g_callV3 kc6 (hc.mono (P' := PE "java/lang/IllegalArgumentException" (Inv0 G X w (S.ad 0 0) N2 A2)) (fun r9 w9 h9 => h9)) md_X5_format dL_format_7 ml_L_17 im_X5_format se_X5_format hK.g0 (RmOk.of (Nat.le_of_ble_eq_true rfl) (Nat.le_of_ble_eq_true rfl) (Nat.le_of_ble_eq_true rfl) (Nat.le_of_ble_eq_true rfl) (Nat.le_of_ble_eq_true rfl)) kr_E (kx_E (fun w1 hw1 => ?_))
  refine gx_catch [] ⟨0, 12, 15, 13⟩ [⟨0, 12, 19, 15⟩] rfl (fun _ hz => nomatch hz) (by decide) (by decide) cl_L_13 ca_IllegalArgumentException_self (fun q => ?_)
  refine g_astore5 dL_format_15 ?_
  refine g_iconst (v := 1) dL_format_17 (by decide) ?_
  refine g_iret dL_format_18 ?_ (Nat.le_of_ble_eq_true rfl) (Nat.le_of_ble_eq_true rfl)
  exact ⟨rfl, Or.inr ⟨by decide, hw1⟩⟩

set_option maxRecDepth 100000 in
theorem lw_format_2 {G : Gx} {X : Nat → Prop} {w : Wd} {kp ou : Nat} {N N2 : Nat → Nat} {A A2 : Nat → Nat → Int32} {f0 : Nat → Int64} {x y z v : Int32} (hI : Inv0 G X w kp N A w) (hX : X ou) (hE : ou ≠ gE G) (hb : (gH G).size ≤ ou) (ho : w ou = some (eJ G 1 f0)) (hc : Ct G yX5_format kw_X5_format rm_X5_format [.ref kp, .int x, .int y, .int z] w (PCl G X w kp (.inr "java/lang/IllegalStateException") N2 A2)) : Ct G yL_format kw_L_format rm_L_format [.ref kp, .int x, .int y, .int z, .ref ou] w (PB (.int 2) (WQ G X w kp ou 2 0 N2 A2)) := by
  have hI0 := hI
  obtain ⟨S, hK, hL, rfl⟩ := hI
  refine ct_introW RL "format" (by decide +kernel) rfl rfl rfl (Nat.le_of_ble_eq_true rfl) [some (.ref (S.ad 0 0)), some (.int x), some (.int y), some (.int z), some (.ref ou), none] rfl (fun C => ?_)
  refine g_aload4 dL_format_0 ?_
  refine g_iconst (v := 0) dL_format_2 (by decide) ?_
  refine g_aload0 dL_format_3 ?_
  refine g_iload1 dL_format_4 ?_
  refine g_iload2 dL_format_5 ?_
  refine g_iload3 dL_format_6 ?_
  refine g_callV3 kc6 (hc.mono (P' := PE "java/lang/IllegalStateException" (Inv0 G X w (S.ad 0 0) N2 A2)) (fun r9 w9 h9 => h9)) md_X5_format dL_format_7 ml_L_17 im_X5_format se_X5_format hK.g0 (RmOk.of (Nat.le_of_ble_eq_true rfl) (Nat.le_of_ble_eq_true rfl) (Nat.le_of_ble_eq_true rfl) (Nat.le_of_ble_eq_true rfl) (Nat.le_of_ble_eq_true rfl)) kr_E (kx_E (fun w1 hw1 => ?_))
  refine gx_catch [⟨0, 12, 15, 13⟩] ⟨0, 12, 19, 15⟩ [] rfl (fun z hz => by obtain rfl := List.mem_singleton.mp hz; exact Or.inr ⟨by decide, _, cl_L_13, by decide⟩) (by decide) (by decide) cl_L_15 ca_IllegalStateException_self (fun q => ?_)
  refine g_astore5 dL_format_19 ?_
  refine g_iconst (v := 2) dL_format_21 (by decide) ?_
  refine g_iret dL_format_22 ?_ (Nat.le_of_ble_eq_true rfl) (Nat.le_of_ble_eq_true rfl)
  exact ⟨rfl, Or.inr ⟨by decide, hw1⟩⟩

abbrev rm_L_line : Room := { frames := 8, cells := 12, slots := 70, locals := 125 }

set_option maxRecDepth 100000 in
theorem lw_line_0 {G : Gx} {X : Nat → Prop} {w : Wd} {kp ou : Nat} {N N2 : Nat → Nat} {A A2 : Nat → Nat → Int32} {f0 : Nat → Int64} {x v : Int32} (hI : Inv0 G X w kp N A w) (hX : X ou) (hE : ou ≠ gE G) (hb : (gH G).size ≤ ou) (ho : w ou = some (eJ G 1 f0)) (hc : Ct G yX5_line kw_X5_line rm_X5_line [.ref kp, .int x] w (PCl G X w kp (.inl (some (.int v))) N2 A2)) : Ct G yL_line kw_L_line rm_L_line [.ref kp, .int x, .ref ou] w (PB (.int 0) (WQ G X w kp ou 0 v.toInt64 N2 A2)) := by
  have hI0 := hI
  obtain ⟨S, hK, hL, rfl⟩ := hI
  refine ct_introW RL "line" (by decide +kernel) rfl rfl rfl (Nat.le_of_ble_eq_true rfl) [some (.ref (S.ad 0 0)), some (.int x), some (.ref ou), none] rfl (fun C => ?_)
  refine g_aload2 dL_line_0 ?_
  refine g_iconst (v := 0) dL_line_1 (by decide) ?_
  refine g_aload0 dL_line_2 ?_
  refine g_iload1 dL_line_3 ?_
  refine g_callV1 kc6 (hc.mono (P' := PB (.int v) (Inv0 G X w (S.ad 0 0) N2 A2)) (fun r9 w9 h9 => h9)) md_X5_line dL_line_4 ml_L_21 im_X5_line se_X5_line hK.g0 (RmOk.of (Nat.le_of_ble_eq_true rfl) (Nat.le_of_ble_eq_true rfl) (Nat.le_of_ble_eq_true rfl) (Nat.le_of_ble_eq_true rfl) (Nat.le_of_ble_eq_true rfl)) (kr_B (fun w1 hw1 => ?_)) kx_B
  have ho1 : w1 ou = some (eJ G 1 f0) := by
    obtain ⟨S9, hK9, -⟩ := hw1
    exact (hK9.X ou hX).1.trans ho
  refine g_i2l dL_line_7 ?_
  refine g_last dL_line_8 ho1 hb (vp_in_nI (show 0 < 1 by decide) (by decide)) ?_
  refine g_goto (tgt := 18) dL_line_9 (by decide) ?_
  refine g_iconst (v := 0) dL_line_18 (by decide) ?_
  refine g_iret dL_line_19 ?_ (Nat.le_of_ble_eq_true rfl) (Nat.le_of_ble_eq_true rfl)
  exact ⟨rfl, Or.inl ⟨rfl, _, rfl, hw1.pX hX hE _⟩⟩

set_option maxRecDepth 100000 in
theorem lw_line_1 {G : Gx} {X : Nat → Prop} {w : Wd} {kp ou : Nat} {N N2 : Nat → Nat} {A A2 : Nat → Nat → Int32} {f0 : Nat → Int64} {x v : Int32} (hI : Inv0 G X w kp N A w) (hX : X ou) (hE : ou ≠ gE G) (hb : (gH G).size ≤ ou) (ho : w ou = some (eJ G 1 f0)) (hc : Ct G yX5_line kw_X5_line rm_X5_line [.ref kp, .int x] w (PCl G X w kp (.inr "java/lang/IllegalArgumentException") N2 A2)) : Ct G yL_line kw_L_line rm_L_line [.ref kp, .int x, .ref ou] w (PB (.int 1) (WQ G X w kp ou 1 0 N2 A2)) := by
  have hI0 := hI
  obtain ⟨S, hK, hL, rfl⟩ := hI
  refine ct_introW RL "line" (by decide +kernel) rfl rfl rfl (Nat.le_of_ble_eq_true rfl) [some (.ref (S.ad 0 0)), some (.int x), some (.ref ou), none] rfl (fun C => ?_)
  refine g_aload2 dL_line_0 ?_
  refine g_iconst (v := 0) dL_line_1 (by decide) ?_
  refine g_aload0 dL_line_2 ?_
  refine g_iload1 dL_line_3 ?_
  refine g_callV1 kc6 (hc.mono (P' := PE "java/lang/IllegalArgumentException" (Inv0 G X w (S.ad 0 0) N2 A2)) (fun r9 w9 h9 => h9)) md_X5_line dL_line_4 ml_L_21 im_X5_line se_X5_line hK.g0 (RmOk.of (Nat.le_of_ble_eq_true rfl) (Nat.le_of_ble_eq_true rfl) (Nat.le_of_ble_eq_true rfl) (Nat.le_of_ble_eq_true rfl) (Nat.le_of_ble_eq_true rfl)) kr_E (kx_E (fun w1 hw1 => ?_))
  refine gx_catch [] ⟨0, 9, 12, 13⟩ [⟨0, 9, 15, 15⟩] rfl (fun _ hz => nomatch hz) (by decide) (by decide) cl_L_13 ca_IllegalArgumentException_self (fun q => ?_)
  refine g_astore3 dL_line_12 ?_
  refine g_iconst (v := 1) dL_line_13 (by decide) ?_
  refine g_iret dL_line_14 ?_ (Nat.le_of_ble_eq_true rfl) (Nat.le_of_ble_eq_true rfl)
  exact ⟨rfl, Or.inr ⟨by decide, hw1⟩⟩

set_option maxRecDepth 100000 in
theorem lw_line_2 {G : Gx} {X : Nat → Prop} {w : Wd} {kp ou : Nat} {N N2 : Nat → Nat} {A A2 : Nat → Nat → Int32} {f0 : Nat → Int64} {x v : Int32} (hI : Inv0 G X w kp N A w) (hX : X ou) (hE : ou ≠ gE G) (hb : (gH G).size ≤ ou) (ho : w ou = some (eJ G 1 f0)) (hc : Ct G yX5_line kw_X5_line rm_X5_line [.ref kp, .int x] w (PCl G X w kp (.inr "java/lang/IllegalStateException") N2 A2)) : Ct G yL_line kw_L_line rm_L_line [.ref kp, .int x, .ref ou] w (PB (.int 2) (WQ G X w kp ou 2 0 N2 A2)) := by
  have hI0 := hI
  obtain ⟨S, hK, hL, rfl⟩ := hI
  refine ct_introW RL "line" (by decide +kernel) rfl rfl rfl (Nat.le_of_ble_eq_true rfl) [some (.ref (S.ad 0 0)), some (.int x), some (.ref ou), none] rfl (fun C => ?_)
  refine g_aload2 dL_line_0 ?_
  refine g_iconst (v := 0) dL_line_1 (by decide) ?_
  refine g_aload0 dL_line_2 ?_
  refine g_iload1 dL_line_3 ?_
  refine g_callV1 kc6 (hc.mono (P' := PE "java/lang/IllegalStateException" (Inv0 G X w (S.ad 0 0) N2 A2)) (fun r9 w9 h9 => h9)) md_X5_line dL_line_4 ml_L_21 im_X5_line se_X5_line hK.g0 (RmOk.of (Nat.le_of_ble_eq_true rfl) (Nat.le_of_ble_eq_true rfl) (Nat.le_of_ble_eq_true rfl) (Nat.le_of_ble_eq_true rfl) (Nat.le_of_ble_eq_true rfl)) kr_E (kx_E (fun w1 hw1 => ?_))
  refine gx_catch [⟨0, 9, 12, 13⟩] ⟨0, 9, 15, 15⟩ [] rfl (fun z hz => by obtain rfl := List.mem_singleton.mp hz; exact Or.inr ⟨by decide, _, cl_L_13, by decide⟩) (by decide) (by decide) cl_L_15 ca_IllegalStateException_self (fun q => ?_)
  refine g_astore3 dL_line_15 ?_
  refine g_iconst (v := 2) dL_line_16 (by decide) ?_
  refine g_iret dL_line_17 ?_ (Nat.le_of_ble_eq_true rfl) (Nat.le_of_ble_eq_true rfl)
  exact ⟨rfl, Or.inr ⟨by decide, hw1⟩⟩

abbrev rm_L_feed : Room := { frames := 9, cells := 6, slots := 230, locals := 231 }

set_option maxRecDepth 100000 in
theorem lw_feed_0 {G : Gx} {X : Nat → Prop} {w : Wd} {kp ou : Nat} {N N2 : Nat → Nat} {A A2 : Nat → Nat → Int32} {f0 : Nat → Int64} {v : Int32} (hI : Inv0 G X w kp N A w) (hX : X ou) (hE : ou ≠ gE G) (hb : (gH G).size ≤ ou) (ho : w ou = some (eJ G 1 f0)) (hc : Ct G yX5_feed kw_X5_feed rm_X5_feed [.ref kp] w (PCl G X w kp (.inl (some (.int v))) N2 A2)) : Ct G yL_feed kw_L_feed rm_L_feed [.ref kp, .ref ou] w (PB (.int 0) (WQ G X w kp ou 0 v.toInt64 N2 A2)) := by
  have hI0 := hI
  obtain ⟨S, hK, hL, rfl⟩ := hI
  refine ct_introW RL "feed" (by decide +kernel) rfl rfl rfl (Nat.le_of_ble_eq_true rfl) [some (.ref (S.ad 0 0)), some (.ref ou), none] rfl (fun C => ?_)
  refine g_aload1 dL_feed_0 ?_
  refine g_iconst (v := 0) dL_feed_1 (by decide) ?_
  refine g_aload0 dL_feed_2 ?_
  refine g_callV0 kc6 (hc.mono (P' := PB (.int v) (Inv0 G X w (S.ad 0 0) N2 A2)) (fun r9 w9 h9 => h9)) md_X5_feed dL_feed_3 ml_L_24 im_X5_feed se_X5_feed hK.g0 (RmOk.of (Nat.le_of_ble_eq_true rfl) (Nat.le_of_ble_eq_true rfl) (Nat.le_of_ble_eq_true rfl) (Nat.le_of_ble_eq_true rfl) (Nat.le_of_ble_eq_true rfl)) (kr_B (fun w1 hw1 => ?_)) kx_B
  have ho1 : w1 ou = some (eJ G 1 f0) := by
    obtain ⟨S9, hK9, -⟩ := hw1
    exact (hK9.X ou hX).1.trans ho
  refine g_i2l dL_feed_6 ?_
  refine g_last dL_feed_7 ho1 hb (vp_in_nI (show 0 < 1 by decide) (by decide)) ?_
  refine g_goto (tgt := 14) dL_feed_8 (by decide) ?_
  refine g_iconst (v := 0) dL_feed_14 (by decide) ?_
  refine g_iret dL_feed_15 ?_ (Nat.le_of_ble_eq_true rfl) (Nat.le_of_ble_eq_true rfl)
  exact ⟨rfl, Or.inl ⟨rfl, _, rfl, hw1.pX hX hE _⟩⟩

set_option maxRecDepth 100000 in
theorem lw_feed_1 {G : Gx} {X : Nat → Prop} {w : Wd} {kp ou : Nat} {N N2 : Nat → Nat} {A A2 : Nat → Nat → Int32} {f0 : Nat → Int64} {v : Int32} (hI : Inv0 G X w kp N A w) (hX : X ou) (hE : ou ≠ gE G) (hb : (gH G).size ≤ ou) (ho : w ou = some (eJ G 1 f0)) (hc : Ct G yX5_feed kw_X5_feed rm_X5_feed [.ref kp] w (PCl G X w kp (.inr "java/lang/IllegalStateException") N2 A2)) : Ct G yL_feed kw_L_feed rm_L_feed [.ref kp, .ref ou] w (PB (.int 1) (WQ G X w kp ou 1 0 N2 A2)) := by
  have hI0 := hI
  obtain ⟨S, hK, hL, rfl⟩ := hI
  refine ct_introW RL "feed" (by decide +kernel) rfl rfl rfl (Nat.le_of_ble_eq_true rfl) [some (.ref (S.ad 0 0)), some (.ref ou), none] rfl (fun C => ?_)
  refine g_aload1 dL_feed_0 ?_
  refine g_iconst (v := 0) dL_feed_1 (by decide) ?_
  refine g_aload0 dL_feed_2 ?_
  refine g_callV0 kc6 (hc.mono (P' := PE "java/lang/IllegalStateException" (Inv0 G X w (S.ad 0 0) N2 A2)) (fun r9 w9 h9 => h9)) md_X5_feed dL_feed_3 ml_L_24 im_X5_feed se_X5_feed hK.g0 (RmOk.of (Nat.le_of_ble_eq_true rfl) (Nat.le_of_ble_eq_true rfl) (Nat.le_of_ble_eq_true rfl) (Nat.le_of_ble_eq_true rfl) (Nat.le_of_ble_eq_true rfl)) kr_E (kx_E (fun w1 hw1 => ?_))
  refine gx_catch [] ⟨0, 8, 11, 15⟩ [] rfl (fun _ hz => nomatch hz) (by decide) (by decide) cl_L_15 ca_IllegalStateException_self (fun q => ?_)
  refine g_astore2 dL_feed_11 ?_
  refine g_iconst (v := 1) dL_feed_12 (by decide) ?_
  refine g_iret dL_feed_13 ?_ (Nat.le_of_ble_eq_true rfl) (Nat.le_of_ble_eq_true rfl)
  exact ⟨rfl, Or.inr ⟨by decide, hw1⟩⟩

abbrev rm_L_end : Room := { frames := 10, cells := 302, slots := 2710, locals := 258 }

set_option maxRecDepth 100000 in
theorem lw_end_0 {G : Gx} {X : Nat → Prop} {w : Wd} {kp ou : Nat} {N N2 : Nat → Nat} {A A2 : Nat → Nat → Int32} {f0 : Nat → Int64} {v : Int32} (hI : Inv0 G X w kp N A w) (hX : X ou) (hE : ou ≠ gE G) (hb : (gH G).size ≤ ou) (ho : w ou = some (eJ G 1 f0)) (hc : Ct G yX5_end kw_X5_end rm_X5_end [.ref kp] w (PCl G X w kp (.inl (some (.int v))) N2 A2)) : Ct G yL_end kw_L_end rm_L_end [.ref kp, .ref ou] w (PB (.int 0) (WQ G X w kp ou 0 v.toInt64 N2 A2)) := by
  have hI0 := hI
  obtain ⟨S, hK, hL, rfl⟩ := hI
  refine ct_introW RL "end" (by decide +kernel) rfl rfl rfl (Nat.le_of_ble_eq_true rfl) [some (.ref (S.ad 0 0)), some (.ref ou), none] rfl (fun C => ?_)
  refine g_aload1 dL_end_0 ?_
  refine g_iconst (v := 0) dL_end_1 (by decide) ?_
  refine g_aload0 dL_end_2 ?_
  refine g_callV0 kc6 (hc.mono (P' := PB (.int v) (Inv0 G X w (S.ad 0 0) N2 A2)) (fun r9 w9 h9 => h9)) md_X5_end dL_end_3 ml_L_28 im_X5_end se_X5_end hK.g0 (RmOk.of (Nat.le_of_ble_eq_true rfl) (Nat.le_of_ble_eq_true rfl) (Nat.le_of_ble_eq_true rfl) (Nat.le_of_ble_eq_true rfl) (Nat.le_of_ble_eq_true rfl)) (kr_B (fun w1 hw1 => ?_)) kx_B
  have ho1 : w1 ou = some (eJ G 1 f0) := by
    obtain ⟨S9, hK9, -⟩ := hw1
    exact (hK9.X ou hX).1.trans ho
  refine g_i2l dL_end_6 ?_
  refine g_last dL_end_7 ho1 hb (vp_in_nI (show 0 < 1 by decide) (by decide)) ?_
  refine g_goto (tgt := 14) dL_end_8 (by decide) ?_
  refine g_iconst (v := 0) dL_end_14 (by decide) ?_
  refine g_iret dL_end_15 ?_ (Nat.le_of_ble_eq_true rfl) (Nat.le_of_ble_eq_true rfl)
  exact ⟨rfl, Or.inl ⟨rfl, _, rfl, hw1.pX hX hE _⟩⟩

set_option maxRecDepth 100000 in
theorem lw_end_1 {G : Gx} {X : Nat → Prop} {w : Wd} {kp ou : Nat} {N N2 : Nat → Nat} {A A2 : Nat → Nat → Int32} {f0 : Nat → Int64} {v : Int32} (hI : Inv0 G X w kp N A w) (hX : X ou) (hE : ou ≠ gE G) (hb : (gH G).size ≤ ou) (ho : w ou = some (eJ G 1 f0)) (hc : Ct G yX5_end kw_X5_end rm_X5_end [.ref kp] w (PCl G X w kp (.inr "java/lang/IllegalStateException") N2 A2)) : Ct G yL_end kw_L_end rm_L_end [.ref kp, .ref ou] w (PB (.int 1) (WQ G X w kp ou 1 0 N2 A2)) := by
  have hI0 := hI
  obtain ⟨S, hK, hL, rfl⟩ := hI
  refine ct_introW RL "end" (by decide +kernel) rfl rfl rfl (Nat.le_of_ble_eq_true rfl) [some (.ref (S.ad 0 0)), some (.ref ou), none] rfl (fun C => ?_)
  refine g_aload1 dL_end_0 ?_
  refine g_iconst (v := 0) dL_end_1 (by decide) ?_
  refine g_aload0 dL_end_2 ?_
  refine g_callV0 kc6 (hc.mono (P' := PE "java/lang/IllegalStateException" (Inv0 G X w (S.ad 0 0) N2 A2)) (fun r9 w9 h9 => h9)) md_X5_end dL_end_3 ml_L_28 im_X5_end se_X5_end hK.g0 (RmOk.of (Nat.le_of_ble_eq_true rfl) (Nat.le_of_ble_eq_true rfl) (Nat.le_of_ble_eq_true rfl) (Nat.le_of_ble_eq_true rfl) (Nat.le_of_ble_eq_true rfl)) kr_E (kx_E (fun w1 hw1 => ?_))
  refine gx_catch [] ⟨0, 8, 11, 15⟩ [] rfl (fun _ hz => nomatch hz) (by decide) (by decide) cl_L_15 ca_IllegalStateException_self (fun q => ?_)
  refine g_astore2 dL_end_11 ?_
  refine g_iconst (v := 1) dL_end_12 (by decide) ?_
  refine g_iret dL_end_13 ?_ (Nat.le_of_ble_eq_true rfl) (Nat.le_of_ble_eq_true rfl)
  exact ⟨rfl, Or.inr ⟨by decide, hw1⟩⟩

abbrev rm_L_pages : Room := { frames := 8, cells := 12, slots := 70, locals := 124 }

set_option maxRecDepth 100000 in
theorem lw_pages_0 {G : Gx} {X : Nat → Prop} {w : Wd} {kp ou : Nat} {N N2 : Nat → Nat} {A A2 : Nat → Nat → Int32} {f0 : Nat → Int64} {x v : Int32} (hI : Inv0 G X w kp N A w) (hX : X ou) (hE : ou ≠ gE G) (hb : (gH G).size ≤ ou) (ho : w ou = some (eJ G 1 f0)) (hc : Ct G yX5_pages kw_X5_pages rm_X5_pages [.ref kp, .int x] w (PCl G X w kp (.inl (some (.int v))) N2 A2)) : Ct G yL_pages kw_L_pages rm_L_pages [.ref kp, .int x, .ref ou] w (PB (.int 0) (WQ G X w kp ou 0 v.toInt64 N2 A2)) := by
  have hI0 := hI
  obtain ⟨S, hK, hL, rfl⟩ := hI
  refine ct_introW RL "pages" (by decide +kernel) rfl rfl rfl (Nat.le_of_ble_eq_true rfl) [some (.ref (S.ad 0 0)), some (.int x), some (.ref ou), none] rfl (fun C => ?_)
  refine g_aload2 dL_pages_0 ?_
  refine g_iconst (v := 0) dL_pages_1 (by decide) ?_
  refine g_aload0 dL_pages_2 ?_
  refine g_iload1 dL_pages_3 ?_
  refine g_callV1 kc6 (hc.mono (P' := PB (.int v) (Inv0 G X w (S.ad 0 0) N2 A2)) (fun r9 w9 h9 => h9)) md_X5_pages dL_pages_4 ml_L_31 im_X5_pages se_X5_pages hK.g0 (RmOk.of (Nat.le_of_ble_eq_true rfl) (Nat.le_of_ble_eq_true rfl) (Nat.le_of_ble_eq_true rfl) (Nat.le_of_ble_eq_true rfl) (Nat.le_of_ble_eq_true rfl)) (kr_B (fun w1 hw1 => ?_)) kx_B
  have ho1 : w1 ou = some (eJ G 1 f0) := by
    obtain ⟨S9, hK9, -⟩ := hw1
    exact (hK9.X ou hX).1.trans ho
  refine g_i2l dL_pages_7 ?_
  refine g_last dL_pages_8 ho1 hb (vp_in_nI (show 0 < 1 by decide) (by decide)) ?_
  refine g_goto (tgt := 15) dL_pages_9 (by decide) ?_
  refine g_iconst (v := 0) dL_pages_15 (by decide) ?_
  refine g_iret dL_pages_16 ?_ (Nat.le_of_ble_eq_true rfl) (Nat.le_of_ble_eq_true rfl)
  exact ⟨rfl, Or.inl ⟨rfl, _, rfl, hw1.pX hX hE _⟩⟩

set_option maxRecDepth 100000 in
theorem lw_pages_1 {G : Gx} {X : Nat → Prop} {w : Wd} {kp ou : Nat} {N N2 : Nat → Nat} {A A2 : Nat → Nat → Int32} {f0 : Nat → Int64} {x v : Int32} (hI : Inv0 G X w kp N A w) (hX : X ou) (hE : ou ≠ gE G) (hb : (gH G).size ≤ ou) (ho : w ou = some (eJ G 1 f0)) (hc : Ct G yX5_pages kw_X5_pages rm_X5_pages [.ref kp, .int x] w (PCl G X w kp (.inr "java/lang/IndexOutOfBoundsException") N2 A2)) : Ct G yL_pages kw_L_pages rm_L_pages [.ref kp, .int x, .ref ou] w (PB (.int 1) (WQ G X w kp ou 1 0 N2 A2)) := by
  have hI0 := hI
  obtain ⟨S, hK, hL, rfl⟩ := hI
  refine ct_introW RL "pages" (by decide +kernel) rfl rfl rfl (Nat.le_of_ble_eq_true rfl) [some (.ref (S.ad 0 0)), some (.int x), some (.ref ou), none] rfl (fun C => ?_)
  refine g_aload2 dL_pages_0 ?_
  refine g_iconst (v := 0) dL_pages_1 (by decide) ?_
  refine g_aload0 dL_pages_2 ?_
  refine g_iload1 dL_pages_3 ?_
  refine g_callV1 kc6 (hc.mono (P' := PE "java/lang/IndexOutOfBoundsException" (Inv0 G X w (S.ad 0 0) N2 A2)) (fun r9 w9 h9 => h9)) md_X5_pages dL_pages_4 ml_L_31 im_X5_pages se_X5_pages hK.g0 (RmOk.of (Nat.le_of_ble_eq_true rfl) (Nat.le_of_ble_eq_true rfl) (Nat.le_of_ble_eq_true rfl) (Nat.le_of_ble_eq_true rfl) (Nat.le_of_ble_eq_true rfl)) kr_E (kx_E (fun w1 hw1 => ?_))
  refine gx_catch [] ⟨0, 9, 12, 34⟩ [] rfl (fun _ hz => nomatch hz) (by decide) (by decide) cl_L_34 ca_IndexOutOfBoundsException_self (fun q => ?_)
  refine g_astore3 dL_pages_12 ?_
  refine g_iconst (v := 1) dL_pages_13 (by decide) ?_
  refine g_iret dL_pages_14 ?_ (Nat.le_of_ble_eq_true rfl) (Nat.le_of_ble_eq_true rfl)
  exact ⟨rfl, Or.inr ⟨by decide, hw1⟩⟩

abbrev rm_L_twice : Room := { frames := 8, cells := 12, slots := 70, locals := 126 }

set_option maxRecDepth 100000 in
theorem lw_twice_0 {G : Gx} {X : Nat → Prop} {w : Wd} {kp ou : Nat} {N N2 : Nat → Nat} {A A2 : Nat → Nat → Int32} {f0 : Nat → Int64} {x v : Int32} (hI : Inv0 G X w kp N A w) (hX : X ou) (hE : ou ≠ gE G) (hb : (gH G).size ≤ ou) (ho : w ou = some (eJ G 1 f0)) (hc : Ct G yX5_twice kw_X5_twice rm_X5_twice [.ref kp, .int x] w (PCl G X w kp (.inl (some (.int v))) N2 A2)) : Ct G yL_twice kw_L_twice rm_L_twice [.ref kp, .int x, .ref ou] w (PB (.int 0) (WQ G X w kp ou 0 v.toInt64 N2 A2)) := by
  have hI0 := hI
  obtain ⟨S, hK, hL, rfl⟩ := hI
  refine ct_introW RL "twice" (by decide +kernel) rfl rfl rfl (Nat.le_of_ble_eq_true rfl) [some (.ref (S.ad 0 0)), some (.int x), some (.ref ou), none] rfl (fun C => ?_)
  refine g_aload2 dL_twice_0 ?_
  refine g_iconst (v := 0) dL_twice_1 (by decide) ?_
  refine g_aload0 dL_twice_2 ?_
  refine g_iload1 dL_twice_3 ?_
  refine g_callV1 kc6 (hc.mono (P' := PB (.int v) (Inv0 G X w (S.ad 0 0) N2 A2)) (fun r9 w9 h9 => h9)) md_X5_twice dL_twice_4 ml_L_36 im_X5_twice se_X5_twice hK.g0 (RmOk.of (Nat.le_of_ble_eq_true rfl) (Nat.le_of_ble_eq_true rfl) (Nat.le_of_ble_eq_true rfl) (Nat.le_of_ble_eq_true rfl) (Nat.le_of_ble_eq_true rfl)) (kr_B (fun w1 hw1 => ?_)) kx_B
  have ho1 : w1 ou = some (eJ G 1 f0) := by
    obtain ⟨S9, hK9, -⟩ := hw1
    exact (hK9.X ou hX).1.trans ho
  refine g_i2l dL_twice_7 ?_
  refine g_last dL_twice_8 ho1 hb (vp_in_nI (show 0 < 1 by decide) (by decide)) ?_
  refine g_goto (tgt := 15) dL_twice_9 (by decide) ?_
  refine g_iconst (v := 0) dL_twice_15 (by decide) ?_
  refine g_iret dL_twice_16 ?_ (Nat.le_of_ble_eq_true rfl) (Nat.le_of_ble_eq_true rfl)
  exact ⟨rfl, Or.inl ⟨rfl, _, rfl, hw1.pX hX hE _⟩⟩

set_option maxRecDepth 100000 in
theorem lw_twice_1 {G : Gx} {X : Nat → Prop} {w : Wd} {kp ou : Nat} {N N2 : Nat → Nat} {A A2 : Nat → Nat → Int32} {f0 : Nat → Int64} {x v : Int32} (hI : Inv0 G X w kp N A w) (hX : X ou) (hE : ou ≠ gE G) (hb : (gH G).size ≤ ou) (ho : w ou = some (eJ G 1 f0)) (hc : Ct G yX5_twice kw_X5_twice rm_X5_twice [.ref kp, .int x] w (PCl G X w kp (.inr "java/lang/IndexOutOfBoundsException") N2 A2)) : Ct G yL_twice kw_L_twice rm_L_twice [.ref kp, .int x, .ref ou] w (PB (.int 1) (WQ G X w kp ou 1 0 N2 A2)) := by
  have hI0 := hI
  obtain ⟨S, hK, hL, rfl⟩ := hI
  refine ct_introW RL "twice" (by decide +kernel) rfl rfl rfl (Nat.le_of_ble_eq_true rfl) [some (.ref (S.ad 0 0)), some (.int x), some (.ref ou), none] rfl (fun C => ?_)
  refine g_aload2 dL_twice_0 ?_
  refine g_iconst (v := 0) dL_twice_1 (by decide) ?_
  refine g_aload0 dL_twice_2 ?_
  refine g_iload1 dL_twice_3 ?_
  refine g_callV1 kc6 (hc.mono (P' := PE "java/lang/IndexOutOfBoundsException" (Inv0 G X w (S.ad 0 0) N2 A2)) (fun r9 w9 h9 => h9)) md_X5_twice dL_twice_4 ml_L_36 im_X5_twice se_X5_twice hK.g0 (RmOk.of (Nat.le_of_ble_eq_true rfl) (Nat.le_of_ble_eq_true rfl) (Nat.le_of_ble_eq_true rfl) (Nat.le_of_ble_eq_true rfl) (Nat.le_of_ble_eq_true rfl)) kr_E (kx_E (fun w1 hw1 => ?_))
  refine gx_catch [] ⟨0, 9, 12, 34⟩ [] rfl (fun _ hz => nomatch hz) (by decide) (by decide) cl_L_34 ca_IndexOutOfBoundsException_self (fun q => ?_)
  refine g_astore3 dL_twice_12 ?_
  refine g_iconst (v := 1) dL_twice_13 (by decide) ?_
  refine g_iret dL_twice_14 ?_ (Nat.le_of_ble_eq_true rfl) (Nat.le_of_ble_eq_true rfl)
  exact ⟨rfl, Or.inr ⟨by decide, hw1⟩⟩

abbrev rm_L_reprint : Room := { frames := 8, cells := 12, slots := 70, locals := 130 }

set_option maxRecDepth 100000 in
theorem lw_reprint_0 {G : Gx} {X : Nat → Prop} {w : Wd} {kp ou : Nat} {N N2 : Nat → Nat} {A A2 : Nat → Nat → Int32} {f0 : Nat → Int64} {x y z v : Int32} (hI : Inv0 G X w kp N A w) (hX : X ou) (hE : ou ≠ gE G) (hb : (gH G).size ≤ ou) (ho : w ou = some (eJ G 1 f0)) (hc : Ct G yX5_reprint kw_X5_reprint rm_X5_reprint [.ref kp, .int x, .int y, .int z] w (PCl G X w kp (.inl (some (.int v))) N2 A2)) : Ct G yL_reprint kw_L_reprint rm_L_reprint [.ref kp, .int x, .int y, .int z, .ref ou] w (PB (.int 0) (WQ G X w kp ou 0 v.toInt64 N2 A2)) := by
  have hI0 := hI
  obtain ⟨S, hK, hL, rfl⟩ := hI
  refine ct_introW RL "reprint" (by decide +kernel) rfl rfl rfl (Nat.le_of_ble_eq_true rfl) [some (.ref (S.ad 0 0)), some (.int x), some (.int y), some (.int z), some (.ref ou), none] rfl (fun C => ?_)
  refine g_aload4 dL_reprint_0 ?_
  refine g_iconst (v := 0) dL_reprint_2 (by decide) ?_
  refine g_aload0 dL_reprint_3 ?_
  refine g_iload1 dL_reprint_4 ?_
  refine g_iload2 dL_reprint_5 ?_
  refine g_iload3 dL_reprint_6 ?_
  refine g_callV3 kc6 (hc.mono (P' := PB (.int v) (Inv0 G X w (S.ad 0 0) N2 A2)) (fun r9 w9 h9 => h9)) md_X5_reprint dL_reprint_7 ml_L_39 im_X5_reprint se_X5_reprint hK.g0 (RmOk.of (Nat.le_of_ble_eq_true rfl) (Nat.le_of_ble_eq_true rfl) (Nat.le_of_ble_eq_true rfl) (Nat.le_of_ble_eq_true rfl) (Nat.le_of_ble_eq_true rfl)) (kr_B (fun w1 hw1 => ?_)) kx_B
  have ho1 : w1 ou = some (eJ G 1 f0) := by
    obtain ⟨S9, hK9, -⟩ := hw1
    exact (hK9.X ou hX).1.trans ho
  refine g_i2l dL_reprint_10 ?_
  refine g_last dL_reprint_11 ho1 hb (vp_in_nI (show 0 < 1 by decide) (by decide)) ?_
  refine g_goto (tgt := 23) dL_reprint_12 (by decide) ?_
  refine g_iconst (v := 0) dL_reprint_23 (by decide) ?_
  refine g_iret dL_reprint_24 ?_ (Nat.le_of_ble_eq_true rfl) (Nat.le_of_ble_eq_true rfl)
  exact ⟨rfl, Or.inl ⟨rfl, _, rfl, hw1.pX hX hE _⟩⟩

set_option maxRecDepth 100000 in
theorem lw_reprint_1 {G : Gx} {X : Nat → Prop} {w : Wd} {kp ou : Nat} {N N2 : Nat → Nat} {A A2 : Nat → Nat → Int32} {f0 : Nat → Int64} {x y z v : Int32} (hI : Inv0 G X w kp N A w) (hX : X ou) (hE : ou ≠ gE G) (hb : (gH G).size ≤ ou) (ho : w ou = some (eJ G 1 f0)) (hc : Ct G yX5_reprint kw_X5_reprint rm_X5_reprint [.ref kp, .int x, .int y, .int z] w (PCl G X w kp (.inr "java/lang/IndexOutOfBoundsException") N2 A2)) : Ct G yL_reprint kw_L_reprint rm_L_reprint [.ref kp, .int x, .int y, .int z, .ref ou] w (PB (.int 1) (WQ G X w kp ou 1 0 N2 A2)) := by
  have hI0 := hI
  obtain ⟨S, hK, hL, rfl⟩ := hI
  refine ct_introW RL "reprint" (by decide +kernel) rfl rfl rfl (Nat.le_of_ble_eq_true rfl) [some (.ref (S.ad 0 0)), some (.int x), some (.int y), some (.int z), some (.ref ou), none] rfl (fun C => ?_)
  refine g_aload4 dL_reprint_0 ?_
  refine g_iconst (v := 0) dL_reprint_2 (by decide) ?_
  refine g_aload0 dL_reprint_3 ?_
  refine g_iload1 dL_reprint_4 ?_
  refine g_iload2 dL_reprint_5 ?_
  refine g_iload3 dL_reprint_6 ?_
  refine g_callV3 kc6 (hc.mono (P' := PE "java/lang/IndexOutOfBoundsException" (Inv0 G X w (S.ad 0 0) N2 A2)) (fun r9 w9 h9 => h9)) md_X5_reprint dL_reprint_7 ml_L_39 im_X5_reprint se_X5_reprint hK.g0 (RmOk.of (Nat.le_of_ble_eq_true rfl) (Nat.le_of_ble_eq_true rfl) (Nat.le_of_ble_eq_true rfl) (Nat.le_of_ble_eq_true rfl) (Nat.le_of_ble_eq_true rfl)) kr_E (kx_E (fun w1 hw1 => ?_))
  refine gx_catch [] ⟨0, 12, 15, 34⟩ [⟨0, 12, 19, 13⟩] rfl (fun _ hz => nomatch hz) (by decide) (by decide) cl_L_34 ca_IndexOutOfBoundsException_self (fun q => ?_)
  refine g_astore5 dL_reprint_15 ?_
  refine g_iconst (v := 1) dL_reprint_17 (by decide) ?_
  refine g_iret dL_reprint_18 ?_ (Nat.le_of_ble_eq_true rfl) (Nat.le_of_ble_eq_true rfl)
  exact ⟨rfl, Or.inr ⟨by decide, hw1⟩⟩

set_option maxRecDepth 100000 in
theorem lw_reprint_2 {G : Gx} {X : Nat → Prop} {w : Wd} {kp ou : Nat} {N N2 : Nat → Nat} {A A2 : Nat → Nat → Int32} {f0 : Nat → Int64} {x y z v : Int32} (hI : Inv0 G X w kp N A w) (hX : X ou) (hE : ou ≠ gE G) (hb : (gH G).size ≤ ou) (ho : w ou = some (eJ G 1 f0)) (hc : Ct G yX5_reprint kw_X5_reprint rm_X5_reprint [.ref kp, .int x, .int y, .int z] w (PCl G X w kp (.inr "java/lang/IllegalArgumentException") N2 A2)) : Ct G yL_reprint kw_L_reprint rm_L_reprint [.ref kp, .int x, .int y, .int z, .ref ou] w (PB (.int 2) (WQ G X w kp ou 2 0 N2 A2)) := by
  have hI0 := hI
  obtain ⟨S, hK, hL, rfl⟩ := hI
  refine ct_introW RL "reprint" (by decide +kernel) rfl rfl rfl (Nat.le_of_ble_eq_true rfl) [some (.ref (S.ad 0 0)), some (.int x), some (.int y), some (.int z), some (.ref ou), none] rfl (fun C => ?_)
  refine g_aload4 dL_reprint_0 ?_
  refine g_iconst (v := 0) dL_reprint_2 (by decide) ?_
  refine g_aload0 dL_reprint_3 ?_
  refine g_iload1 dL_reprint_4 ?_
  refine g_iload2 dL_reprint_5 ?_
  refine g_iload3 dL_reprint_6 ?_
  refine g_callV3 kc6 (hc.mono (P' := PE "java/lang/IllegalArgumentException" (Inv0 G X w (S.ad 0 0) N2 A2)) (fun r9 w9 h9 => h9)) md_X5_reprint dL_reprint_7 ml_L_39 im_X5_reprint se_X5_reprint hK.g0 (RmOk.of (Nat.le_of_ble_eq_true rfl) (Nat.le_of_ble_eq_true rfl) (Nat.le_of_ble_eq_true rfl) (Nat.le_of_ble_eq_true rfl) (Nat.le_of_ble_eq_true rfl)) kr_E (kx_E (fun w1 hw1 => ?_))
  refine gx_catch [⟨0, 12, 15, 34⟩] ⟨0, 12, 19, 13⟩ [] rfl (fun z hz => by obtain rfl := List.mem_singleton.mp hz; exact Or.inr ⟨by decide, _, cl_L_34, by decide⟩) (by decide) (by decide) cl_L_13 ca_IllegalArgumentException_self (fun q => ?_)
  refine g_astore5 dL_reprint_19 ?_
  refine g_iconst (v := 2) dL_reprint_21 (by decide) ?_
  refine g_iret dL_reprint_22 ?_ (Nat.le_of_ble_eq_true rfl) (Nat.le_of_ble_eq_true rfl)
  exact ⟨rfl, Or.inr ⟨by decide, hw1⟩⟩

abbrev rm_L_copies : Room := { frames := 9, cells := 12, slots := 70, locals := 146 }

set_option maxRecDepth 100000 in
theorem lw_copies_0 {G : Gx} {X : Nat → Prop} {w : Wd} {kp ou : Nat} {N N2 : Nat → Nat} {A A2 : Nat → Nat → Int32} {f0 : Nat → Int64} {x y v : Int32} (hI : Inv0 G X w kp N A w) (hX : X ou) (hE : ou ≠ gE G) (hb : (gH G).size ≤ ou) (ho : w ou = some (eJ G 1 f0)) (hc : Ct G yX5_copies kw_X5_copies rm_X5_copies [.ref kp, .int x, .int y] w (PCl G X w kp (.inl (some (.int v))) N2 A2)) : Ct G yL_copies kw_L_copies rm_L_copies [.ref kp, .int x, .int y, .ref ou] w (PB (.int 0) (WQ G X w kp ou 0 v.toInt64 N2 A2)) := by
  have hI0 := hI
  obtain ⟨S, hK, hL, rfl⟩ := hI
  refine ct_introW RL "copies" (by decide +kernel) rfl rfl rfl (Nat.le_of_ble_eq_true rfl) [some (.ref (S.ad 0 0)), some (.int x), some (.int y), some (.ref ou), none] rfl (fun C => ?_)
  refine g_aload3 dL_copies_0 ?_
  refine g_iconst (v := 0) dL_copies_1 (by decide) ?_
  refine g_aload0 dL_copies_2 ?_
  refine g_iload1 dL_copies_3 ?_
  refine g_iload2 dL_copies_4 ?_
  refine g_callV2 kc6 (hc.mono (P' := PB (.int v) (Inv0 G X w (S.ad 0 0) N2 A2)) (fun r9 w9 h9 => h9)) md_X5_copies dL_copies_5 ml_L_42 im_X5_copies se_X5_copies hK.g0 (RmOk.of (Nat.le_of_ble_eq_true rfl) (Nat.le_of_ble_eq_true rfl) (Nat.le_of_ble_eq_true rfl) (Nat.le_of_ble_eq_true rfl) (Nat.le_of_ble_eq_true rfl)) (kr_B (fun w1 hw1 => ?_)) kx_B
  have ho1 : w1 ou = some (eJ G 1 f0) := by
    obtain ⟨S9, hK9, -⟩ := hw1
    exact (hK9.X ou hX).1.trans ho
  refine g_i2l dL_copies_8 ?_
  refine g_last dL_copies_9 ho1 hb (vp_in_nI (show 0 < 1 by decide) (by decide)) ?_
  refine g_goto (tgt := 17) dL_copies_10 (by decide) ?_
  refine g_iconst (v := 0) dL_copies_17 (by decide) ?_
  refine g_iret dL_copies_18 ?_ (Nat.le_of_ble_eq_true rfl) (Nat.le_of_ble_eq_true rfl)
  exact ⟨rfl, Or.inl ⟨rfl, _, rfl, hw1.pX hX hE _⟩⟩

set_option maxRecDepth 100000 in
theorem lw_copies_1 {G : Gx} {X : Nat → Prop} {w : Wd} {kp ou : Nat} {N N2 : Nat → Nat} {A A2 : Nat → Nat → Int32} {f0 : Nat → Int64} {x y v : Int32} (hI : Inv0 G X w kp N A w) (hX : X ou) (hE : ou ≠ gE G) (hb : (gH G).size ≤ ou) (ho : w ou = some (eJ G 1 f0)) (hc : Ct G yX5_copies kw_X5_copies rm_X5_copies [.ref kp, .int x, .int y] w (PCl G X w kp (.inr "java/lang/IndexOutOfBoundsException") N2 A2)) : Ct G yL_copies kw_L_copies rm_L_copies [.ref kp, .int x, .int y, .ref ou] w (PB (.int 1) (WQ G X w kp ou 1 0 N2 A2)) := by
  have hI0 := hI
  obtain ⟨S, hK, hL, rfl⟩ := hI
  refine ct_introW RL "copies" (by decide +kernel) rfl rfl rfl (Nat.le_of_ble_eq_true rfl) [some (.ref (S.ad 0 0)), some (.int x), some (.int y), some (.ref ou), none] rfl (fun C => ?_)
  refine g_aload3 dL_copies_0 ?_
  refine g_iconst (v := 0) dL_copies_1 (by decide) ?_
  refine g_aload0 dL_copies_2 ?_
  refine g_iload1 dL_copies_3 ?_
  refine g_iload2 dL_copies_4 ?_
  refine g_callV2 kc6 (hc.mono (P' := PE "java/lang/IndexOutOfBoundsException" (Inv0 G X w (S.ad 0 0) N2 A2)) (fun r9 w9 h9 => h9)) md_X5_copies dL_copies_5 ml_L_42 im_X5_copies se_X5_copies hK.g0 (RmOk.of (Nat.le_of_ble_eq_true rfl) (Nat.le_of_ble_eq_true rfl) (Nat.le_of_ble_eq_true rfl) (Nat.le_of_ble_eq_true rfl) (Nat.le_of_ble_eq_true rfl)) kr_E (kx_E (fun w1 hw1 => ?_))
  refine gx_catch [] ⟨0, 10, 13, 34⟩ [] rfl (fun _ hz => nomatch hz) (by decide) (by decide) cl_L_34 ca_IndexOutOfBoundsException_self (fun q => ?_)
  refine g_astore4 dL_copies_13 ?_
  refine g_iconst (v := 1) dL_copies_15 (by decide) ?_
  refine g_iret dL_copies_16 ?_ (Nat.le_of_ble_eq_true rfl) (Nat.le_of_ble_eq_true rfl)
  exact ⟨rfl, Or.inr ⟨by decide, hw1⟩⟩

abbrev rm_L_isThere : Room := { frames := 8, cells := 12, slots := 70, locals := 124 }

set_option maxRecDepth 100000 in
theorem lw_isThere_0 {G : Gx} {X : Nat → Prop} {w : Wd} {kp ou : Nat} {N N2 : Nat → Nat} {A A2 : Nat → Nat → Int32} {f0 : Nat → Int64} {x v : Int32} (hI : Inv0 G X w kp N A w) (hX : X ou) (hE : ou ≠ gE G) (hb : (gH G).size ≤ ou) (ho : w ou = some (eJ G 1 f0)) (hc : Ct G yX5_isThere kw_X5_isThere rm_X5_isThere [.ref kp, .int x] w (PCl G X w kp (.inl (some (.int v))) N2 A2)) : Ct G yL_isThere kw_L_isThere rm_L_isThere [.ref kp, .int x, .ref ou] w (PB (.int 0) (WQ G X w kp ou 0 (if v = 0 then 0 else 1) N2 A2)) := by
  have hI0 := hI
  obtain ⟨S, hK, hL, rfl⟩ := hI
  refine ct_introW RL "isThere" (by decide +kernel) rfl rfl rfl (Nat.le_of_ble_eq_true rfl) [some (.ref (S.ad 0 0)), some (.int x), some (.ref ou), none] rfl (fun C => ?_)
  refine g_aload2 dL_isThere_0 ?_
  refine g_iconst (v := 0) dL_isThere_1 (by decide) ?_
  refine g_aload0 dL_isThere_2 ?_
  refine g_iload1 dL_isThere_3 ?_
  refine g_callV1 kc6 (hc.mono (P' := PB (.int v) (Inv0 G X w (S.ad 0 0) N2 A2)) (fun r9 w9 h9 => h9)) md_X5_isThere dL_isThere_4 ml_L_46 im_X5_isThere se_X5_isThere hK.g0 (RmOk.of (Nat.le_of_ble_eq_true rfl) (Nat.le_of_ble_eq_true rfl) (Nat.le_of_ble_eq_true rfl) (Nat.le_of_ble_eq_true rfl) (Nat.le_of_ble_eq_true rfl)) (kr_B (fun w1 hw1 => ?_)) kx_B
  have ho1 : w1 ou = some (eJ G 1 f0) := by
    obtain ⟨S9, hK9, -⟩ := hw1
    exact (hK9.X ou hX).1.trans ho
  refine g_if_eq (tgt := 14) dL_isThere_7 (by decide) (fun hz => ?_) (fun hz => ?_)
  · skip
    refine g_lconst (v := 0) dL_isThere_14 (by decide) ?_
    refine g_last dL_isThere_15 ho1 hb (vp_in_nI (show 0 < 1 by decide) (by decide)) ?_
    refine g_goto (tgt := 22) dL_isThere_16 (by decide) ?_
    refine g_iconst (v := 0) dL_isThere_22 (by decide) ?_
    refine g_iret dL_isThere_23 ?_ (Nat.le_of_ble_eq_true rfl) (Nat.le_of_ble_eq_true rfl)
    first | exact ⟨rfl, Or.inl ⟨rfl, _, (if_pos hz).symm, hw1.pX hX hE _⟩⟩ | exact ⟨rfl, Or.inl ⟨rfl, _, (if_neg hz).symm, hw1.pX hX hE _⟩⟩
  · skip
    refine g_lconst (v := 1) dL_isThere_10 (by decide) ?_
    refine g_goto (tgt := 15) dL_isThere_11 (by decide) ?_
    refine g_last dL_isThere_15 ho1 hb (vp_in_nI (show 0 < 1 by decide) (by decide)) ?_
    refine g_goto (tgt := 22) dL_isThere_16 (by decide) ?_
    refine g_iconst (v := 0) dL_isThere_22 (by decide) ?_
    refine g_iret dL_isThere_23 ?_ (Nat.le_of_ble_eq_true rfl) (Nat.le_of_ble_eq_true rfl)
    first | exact ⟨rfl, Or.inl ⟨rfl, _, (if_pos hz).symm, hw1.pX hX hE _⟩⟩ | exact ⟨rfl, Or.inl ⟨rfl, _, (if_neg hz).symm, hw1.pX hX hE _⟩⟩

set_option maxRecDepth 100000 in
theorem lw_isThere_1 {G : Gx} {X : Nat → Prop} {w : Wd} {kp ou : Nat} {N N2 : Nat → Nat} {A A2 : Nat → Nat → Int32} {f0 : Nat → Int64} {x v : Int32} (hI : Inv0 G X w kp N A w) (hX : X ou) (hE : ou ≠ gE G) (hb : (gH G).size ≤ ou) (ho : w ou = some (eJ G 1 f0)) (hc : Ct G yX5_isThere kw_X5_isThere rm_X5_isThere [.ref kp, .int x] w (PCl G X w kp (.inr "java/lang/IndexOutOfBoundsException") N2 A2)) : Ct G yL_isThere kw_L_isThere rm_L_isThere [.ref kp, .int x, .ref ou] w (PB (.int 1) (WQ G X w kp ou 1 0 N2 A2)) := by
  have hI0 := hI
  obtain ⟨S, hK, hL, rfl⟩ := hI
  refine ct_introW RL "isThere" (by decide +kernel) rfl rfl rfl (Nat.le_of_ble_eq_true rfl) [some (.ref (S.ad 0 0)), some (.int x), some (.ref ou), none] rfl (fun C => ?_)
  refine g_aload2 dL_isThere_0 ?_
  refine g_iconst (v := 0) dL_isThere_1 (by decide) ?_
  refine g_aload0 dL_isThere_2 ?_
  refine g_iload1 dL_isThere_3 ?_
  refine g_callV1 kc6 (hc.mono (P' := PE "java/lang/IndexOutOfBoundsException" (Inv0 G X w (S.ad 0 0) N2 A2)) (fun r9 w9 h9 => h9)) md_X5_isThere dL_isThere_4 ml_L_46 im_X5_isThere se_X5_isThere hK.g0 (RmOk.of (Nat.le_of_ble_eq_true rfl) (Nat.le_of_ble_eq_true rfl) (Nat.le_of_ble_eq_true rfl) (Nat.le_of_ble_eq_true rfl) (Nat.le_of_ble_eq_true rfl)) kr_E (kx_E (fun w1 hw1 => ?_))
  refine gx_catch [] ⟨0, 16, 19, 34⟩ [] rfl (fun _ hz => nomatch hz) (by decide) (by decide) cl_L_34 ca_IndexOutOfBoundsException_self (fun q => ?_)
  refine g_astore3 dL_isThere_19 ?_
  refine g_iconst (v := 1) dL_isThere_20 (by decide) ?_
  refine g_iret dL_isThere_21 ?_ (Nat.le_of_ble_eq_true rfl) (Nat.le_of_ble_eq_true rfl)
  exact ⟨rfl, Or.inr ⟨by decide, hw1⟩⟩

abbrev rm_L_account : Room := { frames := 8, cells := 12, slots := 70, locals := 124 }

set_option maxRecDepth 100000 in
theorem lw_account_0 {G : Gx} {X : Nat → Prop} {w : Wd} {kp ou : Nat} {N N2 : Nat → Nat} {A A2 : Nat → Nat → Int32} {f0 : Nat → Int64} {x v : Int32} (hI : Inv0 G X w kp N A w) (hX : X ou) (hE : ou ≠ gE G) (hb : (gH G).size ≤ ou) (ho : w ou = some (eJ G 1 f0)) (hc : Ct G yX5_account kw_X5_account rm_X5_account [.ref kp, .int x] w (PCl G X w kp (.inl (some (.int v))) N2 A2)) : Ct G yL_account kw_L_account rm_L_account [.ref kp, .int x, .ref ou] w (PB (.int 0) (WQ G X w kp ou 0 v.toInt64 N2 A2)) := by
  have hI0 := hI
  obtain ⟨S, hK, hL, rfl⟩ := hI
  refine ct_introW RL "account" (by decide +kernel) rfl rfl rfl (Nat.le_of_ble_eq_true rfl) [some (.ref (S.ad 0 0)), some (.int x), some (.ref ou), none] rfl (fun C => ?_)
  refine g_aload2 dL_account_0 ?_
  refine g_iconst (v := 0) dL_account_1 (by decide) ?_
  refine g_aload0 dL_account_2 ?_
  refine g_iload1 dL_account_3 ?_
  refine g_callV1 kc6 (hc.mono (P' := PB (.int v) (Inv0 G X w (S.ad 0 0) N2 A2)) (fun r9 w9 h9 => h9)) md_X5_account dL_account_4 ml_L_50 im_X5_account se_X5_account hK.g0 (RmOk.of (Nat.le_of_ble_eq_true rfl) (Nat.le_of_ble_eq_true rfl) (Nat.le_of_ble_eq_true rfl) (Nat.le_of_ble_eq_true rfl) (Nat.le_of_ble_eq_true rfl)) (kr_B (fun w1 hw1 => ?_)) kx_B
  have ho1 : w1 ou = some (eJ G 1 f0) := by
    obtain ⟨S9, hK9, -⟩ := hw1
    exact (hK9.X ou hX).1.trans ho
  refine g_i2l dL_account_7 ?_
  refine g_last dL_account_8 ho1 hb (vp_in_nI (show 0 < 1 by decide) (by decide)) ?_
  refine g_goto (tgt := 15) dL_account_9 (by decide) ?_
  refine g_iconst (v := 0) dL_account_15 (by decide) ?_
  refine g_iret dL_account_16 ?_ (Nat.le_of_ble_eq_true rfl) (Nat.le_of_ble_eq_true rfl)
  exact ⟨rfl, Or.inl ⟨rfl, _, rfl, hw1.pX hX hE _⟩⟩

set_option maxRecDepth 100000 in
theorem lw_account_1 {G : Gx} {X : Nat → Prop} {w : Wd} {kp ou : Nat} {N N2 : Nat → Nat} {A A2 : Nat → Nat → Int32} {f0 : Nat → Int64} {x v : Int32} (hI : Inv0 G X w kp N A w) (hX : X ou) (hE : ou ≠ gE G) (hb : (gH G).size ≤ ou) (ho : w ou = some (eJ G 1 f0)) (hc : Ct G yX5_account kw_X5_account rm_X5_account [.ref kp, .int x] w (PCl G X w kp (.inr "java/lang/IndexOutOfBoundsException") N2 A2)) : Ct G yL_account kw_L_account rm_L_account [.ref kp, .int x, .ref ou] w (PB (.int 1) (WQ G X w kp ou 1 0 N2 A2)) := by
  have hI0 := hI
  obtain ⟨S, hK, hL, rfl⟩ := hI
  refine ct_introW RL "account" (by decide +kernel) rfl rfl rfl (Nat.le_of_ble_eq_true rfl) [some (.ref (S.ad 0 0)), some (.int x), some (.ref ou), none] rfl (fun C => ?_)
  refine g_aload2 dL_account_0 ?_
  refine g_iconst (v := 0) dL_account_1 (by decide) ?_
  refine g_aload0 dL_account_2 ?_
  refine g_iload1 dL_account_3 ?_
  refine g_callV1 kc6 (hc.mono (P' := PE "java/lang/IndexOutOfBoundsException" (Inv0 G X w (S.ad 0 0) N2 A2)) (fun r9 w9 h9 => h9)) md_X5_account dL_account_4 ml_L_50 im_X5_account se_X5_account hK.g0 (RmOk.of (Nat.le_of_ble_eq_true rfl) (Nat.le_of_ble_eq_true rfl) (Nat.le_of_ble_eq_true rfl) (Nat.le_of_ble_eq_true rfl) (Nat.le_of_ble_eq_true rfl)) kr_E (kx_E (fun w1 hw1 => ?_))
  refine gx_catch [] ⟨0, 9, 12, 34⟩ [] rfl (fun _ hz => nomatch hz) (by decide) (by decide) cl_L_34 ca_IndexOutOfBoundsException_self (fun q => ?_)
  refine g_astore3 dL_account_12 ?_
  refine g_iconst (v := 1) dL_account_13 (by decide) ?_
  refine g_iret dL_account_14 ?_ (Nat.le_of_ble_eq_true rfl) (Nat.le_of_ble_eq_true rfl)
  exact ⟨rfl, Or.inr ⟨by decide, hw1⟩⟩

abbrev rm_L_kind : Room := { frames := 8, cells := 12, slots := 70, locals := 124 }

set_option maxRecDepth 100000 in
theorem lw_kind_0 {G : Gx} {X : Nat → Prop} {w : Wd} {kp ou : Nat} {N N2 : Nat → Nat} {A A2 : Nat → Nat → Int32} {f0 : Nat → Int64} {x v : Int32} (hI : Inv0 G X w kp N A w) (hX : X ou) (hE : ou ≠ gE G) (hb : (gH G).size ≤ ou) (ho : w ou = some (eJ G 1 f0)) (hc : Ct G yX5_kind kw_X5_kind rm_X5_kind [.ref kp, .int x] w (PCl G X w kp (.inl (some (.int v))) N2 A2)) : Ct G yL_kind kw_L_kind rm_L_kind [.ref kp, .int x, .ref ou] w (PB (.int 0) (WQ G X w kp ou 0 v.toInt64 N2 A2)) := by
  have hI0 := hI
  obtain ⟨S, hK, hL, rfl⟩ := hI
  refine ct_introW RL "kind" (by decide +kernel) rfl rfl rfl (Nat.le_of_ble_eq_true rfl) [some (.ref (S.ad 0 0)), some (.int x), some (.ref ou), none] rfl (fun C => ?_)
  refine g_aload2 dL_kind_0 ?_
  refine g_iconst (v := 0) dL_kind_1 (by decide) ?_
  refine g_aload0 dL_kind_2 ?_
  refine g_iload1 dL_kind_3 ?_
  refine g_callV1 kc6 (hc.mono (P' := PB (.int v) (Inv0 G X w (S.ad 0 0) N2 A2)) (fun r9 w9 h9 => h9)) md_X5_kind dL_kind_4 ml_L_53 im_X5_kind se_X5_kind hK.g0 (RmOk.of (Nat.le_of_ble_eq_true rfl) (Nat.le_of_ble_eq_true rfl) (Nat.le_of_ble_eq_true rfl) (Nat.le_of_ble_eq_true rfl) (Nat.le_of_ble_eq_true rfl)) (kr_B (fun w1 hw1 => ?_)) kx_B
  have ho1 : w1 ou = some (eJ G 1 f0) := by
    obtain ⟨S9, hK9, -⟩ := hw1
    exact (hK9.X ou hX).1.trans ho
  refine g_i2l dL_kind_7 ?_
  refine g_last dL_kind_8 ho1 hb (vp_in_nI (show 0 < 1 by decide) (by decide)) ?_
  refine g_goto (tgt := 15) dL_kind_9 (by decide) ?_
  refine g_iconst (v := 0) dL_kind_15 (by decide) ?_
  refine g_iret dL_kind_16 ?_ (Nat.le_of_ble_eq_true rfl) (Nat.le_of_ble_eq_true rfl)
  exact ⟨rfl, Or.inl ⟨rfl, _, rfl, hw1.pX hX hE _⟩⟩

set_option maxRecDepth 100000 in
theorem lw_kind_1 {G : Gx} {X : Nat → Prop} {w : Wd} {kp ou : Nat} {N N2 : Nat → Nat} {A A2 : Nat → Nat → Int32} {f0 : Nat → Int64} {x v : Int32} (hI : Inv0 G X w kp N A w) (hX : X ou) (hE : ou ≠ gE G) (hb : (gH G).size ≤ ou) (ho : w ou = some (eJ G 1 f0)) (hc : Ct G yX5_kind kw_X5_kind rm_X5_kind [.ref kp, .int x] w (PCl G X w kp (.inr "java/lang/IndexOutOfBoundsException") N2 A2)) : Ct G yL_kind kw_L_kind rm_L_kind [.ref kp, .int x, .ref ou] w (PB (.int 1) (WQ G X w kp ou 1 0 N2 A2)) := by
  have hI0 := hI
  obtain ⟨S, hK, hL, rfl⟩ := hI
  refine ct_introW RL "kind" (by decide +kernel) rfl rfl rfl (Nat.le_of_ble_eq_true rfl) [some (.ref (S.ad 0 0)), some (.int x), some (.ref ou), none] rfl (fun C => ?_)
  refine g_aload2 dL_kind_0 ?_
  refine g_iconst (v := 0) dL_kind_1 (by decide) ?_
  refine g_aload0 dL_kind_2 ?_
  refine g_iload1 dL_kind_3 ?_
  refine g_callV1 kc6 (hc.mono (P' := PE "java/lang/IndexOutOfBoundsException" (Inv0 G X w (S.ad 0 0) N2 A2)) (fun r9 w9 h9 => h9)) md_X5_kind dL_kind_4 ml_L_53 im_X5_kind se_X5_kind hK.g0 (RmOk.of (Nat.le_of_ble_eq_true rfl) (Nat.le_of_ble_eq_true rfl) (Nat.le_of_ble_eq_true rfl) (Nat.le_of_ble_eq_true rfl) (Nat.le_of_ble_eq_true rfl)) kr_E (kx_E (fun w1 hw1 => ?_))
  refine gx_catch [] ⟨0, 9, 12, 34⟩ [] rfl (fun _ hz => nomatch hz) (by decide) (by decide) cl_L_34 ca_IndexOutOfBoundsException_self (fun q => ?_)
  refine g_astore3 dL_kind_12 ?_
  refine g_iconst (v := 1) dL_kind_13 (by decide) ?_
  refine g_iret dL_kind_14 ?_ (Nat.le_of_ble_eq_true rfl) (Nat.le_of_ble_eq_true rfl)
  exact ⟨rfl, Or.inr ⟨by decide, hw1⟩⟩

abbrev rm_L_length : Room := { frames := 8, cells := 12, slots := 70, locals := 124 }

set_option maxRecDepth 100000 in
theorem lw_length_0 {G : Gx} {X : Nat → Prop} {w : Wd} {kp ou : Nat} {N N2 : Nat → Nat} {A A2 : Nat → Nat → Int32} {f0 : Nat → Int64} {x v : Int32} (hI : Inv0 G X w kp N A w) (hX : X ou) (hE : ou ≠ gE G) (hb : (gH G).size ≤ ou) (ho : w ou = some (eJ G 1 f0)) (hc : Ct G yX5_length kw_X5_length rm_X5_length [.ref kp, .int x] w (PCl G X w kp (.inl (some (.int v))) N2 A2)) : Ct G yL_length kw_L_length rm_L_length [.ref kp, .int x, .ref ou] w (PB (.int 0) (WQ G X w kp ou 0 v.toInt64 N2 A2)) := by
  have hI0 := hI
  obtain ⟨S, hK, hL, rfl⟩ := hI
  refine ct_introW RL "length" (by decide +kernel) rfl rfl rfl (Nat.le_of_ble_eq_true rfl) [some (.ref (S.ad 0 0)), some (.int x), some (.ref ou), none] rfl (fun C => ?_)
  refine g_aload2 dL_length_0 ?_
  refine g_iconst (v := 0) dL_length_1 (by decide) ?_
  refine g_aload0 dL_length_2 ?_
  refine g_iload1 dL_length_3 ?_
  refine g_callV1 kc6 (hc.mono (P' := PB (.int v) (Inv0 G X w (S.ad 0 0) N2 A2)) (fun r9 w9 h9 => h9)) md_X5_length dL_length_4 ml_L_56 im_X5_length se_X5_length hK.g0 (RmOk.of (Nat.le_of_ble_eq_true rfl) (Nat.le_of_ble_eq_true rfl) (Nat.le_of_ble_eq_true rfl) (Nat.le_of_ble_eq_true rfl) (Nat.le_of_ble_eq_true rfl)) (kr_B (fun w1 hw1 => ?_)) kx_B
  have ho1 : w1 ou = some (eJ G 1 f0) := by
    obtain ⟨S9, hK9, -⟩ := hw1
    exact (hK9.X ou hX).1.trans ho
  refine g_i2l dL_length_7 ?_
  refine g_last dL_length_8 ho1 hb (vp_in_nI (show 0 < 1 by decide) (by decide)) ?_
  refine g_goto (tgt := 15) dL_length_9 (by decide) ?_
  refine g_iconst (v := 0) dL_length_15 (by decide) ?_
  refine g_iret dL_length_16 ?_ (Nat.le_of_ble_eq_true rfl) (Nat.le_of_ble_eq_true rfl)
  exact ⟨rfl, Or.inl ⟨rfl, _, rfl, hw1.pX hX hE _⟩⟩

set_option maxRecDepth 100000 in
theorem lw_length_1 {G : Gx} {X : Nat → Prop} {w : Wd} {kp ou : Nat} {N N2 : Nat → Nat} {A A2 : Nat → Nat → Int32} {f0 : Nat → Int64} {x v : Int32} (hI : Inv0 G X w kp N A w) (hX : X ou) (hE : ou ≠ gE G) (hb : (gH G).size ≤ ou) (ho : w ou = some (eJ G 1 f0)) (hc : Ct G yX5_length kw_X5_length rm_X5_length [.ref kp, .int x] w (PCl G X w kp (.inr "java/lang/IndexOutOfBoundsException") N2 A2)) : Ct G yL_length kw_L_length rm_L_length [.ref kp, .int x, .ref ou] w (PB (.int 1) (WQ G X w kp ou 1 0 N2 A2)) := by
  have hI0 := hI
  obtain ⟨S, hK, hL, rfl⟩ := hI
  refine ct_introW RL "length" (by decide +kernel) rfl rfl rfl (Nat.le_of_ble_eq_true rfl) [some (.ref (S.ad 0 0)), some (.int x), some (.ref ou), none] rfl (fun C => ?_)
  refine g_aload2 dL_length_0 ?_
  refine g_iconst (v := 0) dL_length_1 (by decide) ?_
  refine g_aload0 dL_length_2 ?_
  refine g_iload1 dL_length_3 ?_
  refine g_callV1 kc6 (hc.mono (P' := PE "java/lang/IndexOutOfBoundsException" (Inv0 G X w (S.ad 0 0) N2 A2)) (fun r9 w9 h9 => h9)) md_X5_length dL_length_4 ml_L_56 im_X5_length se_X5_length hK.g0 (RmOk.of (Nat.le_of_ble_eq_true rfl) (Nat.le_of_ble_eq_true rfl) (Nat.le_of_ble_eq_true rfl) (Nat.le_of_ble_eq_true rfl) (Nat.le_of_ble_eq_true rfl)) kr_E (kx_E (fun w1 hw1 => ?_))
  refine gx_catch [] ⟨0, 9, 12, 34⟩ [] rfl (fun _ hz => nomatch hz) (by decide) (by decide) cl_L_34 ca_IndexOutOfBoundsException_self (fun q => ?_)
  refine g_astore3 dL_length_12 ?_
  refine g_iconst (v := 1) dL_length_13 (by decide) ?_
  refine g_iret dL_length_14 ?_ (Nat.le_of_ble_eq_true rfl) (Nat.le_of_ble_eq_true rfl)
  exact ⟨rfl, Or.inr ⟨by decide, hw1⟩⟩

abbrev rm_L_found : Room := { frames := 8, cells := 12, slots := 70, locals := 133 }

set_option maxRecDepth 100000 in
theorem lw_found_0 {G : Gx} {X : Nat → Prop} {w : Wd} {kp ou : Nat} {N N2 : Nat → Nat} {A A2 : Nat → Nat → Int32} {f0 : Nat → Int64} {ac dy ix ki x v : Int32} (hI : Inv0 G X w kp N A w) (hX : X ou) (hE : ou ≠ gE G) (hb : (gH G).size ≤ ou) (ho : w ou = some (eJ G 1 f0)) (hc : Ct G yX5_found kw_X5_found rm_X5_found [.ref kp, .int x, .int ac, .int ki, .int dy, .int ix] w (PCl G X w kp (.inl (some (.int v))) N2 A2)) : Ct G yL_found kw_L_found rm_L_found [.ref kp, .int x, .int ac, .int ki, .int dy, .int ix, .ref ou] w (PB (.int 0) (WQ G X w kp ou 0 v.toInt64 N2 A2)) := by
  have hI0 := hI
  obtain ⟨S, hK, hL, rfl⟩ := hI
  refine ct_introW RL "found" (by decide +kernel) rfl rfl rfl (Nat.le_of_ble_eq_true rfl) [some (.ref (S.ad 0 0)), some (.int x), some (.int ac), some (.int ki), some (.int dy), some (.int ix), some (.ref ou), none] rfl (fun C => ?_)
  refine g_aload6 dL_found_0 ?_
  refine g_iconst (v := 0) dL_found_2 (by decide) ?_
  refine g_aload0 dL_found_3 ?_
  refine g_iload1 dL_found_4 ?_
  refine g_iload2 dL_found_5 ?_
  refine g_iload3 dL_found_6 ?_
  refine g_iload4 dL_found_7 ?_
  refine g_iload5 dL_found_9 ?_
  refine g_callV5 kc6 (hc.mono (P' := PB (.int v) (Inv0 G X w (S.ad 0 0) N2 A2)) (fun r9 w9 h9 => h9)) md_X5_found dL_found_11 ml_L_59 im_X5_found se_X5_found hK.g0 (RmOk.of (Nat.le_of_ble_eq_true rfl) (Nat.le_of_ble_eq_true rfl) (Nat.le_of_ble_eq_true rfl) (Nat.le_of_ble_eq_true rfl) (Nat.le_of_ble_eq_true rfl)) (kr_B (fun w1 hw1 => ?_)) kx_B
  have ho1 : w1 ou = some (eJ G 1 f0) := by
    obtain ⟨S9, hK9, -⟩ := hw1
    exact (hK9.X ou hX).1.trans ho
  refine g_i2l dL_found_14 ?_
  refine g_last dL_found_15 ho1 hb (vp_in_nI (show 0 < 1 by decide) (by decide)) ?_
  refine g_goto (tgt := 27) dL_found_16 (by decide) ?_
  refine g_iconst (v := 0) dL_found_27 (by decide) ?_
  refine g_iret dL_found_28 ?_ (Nat.le_of_ble_eq_true rfl) (Nat.le_of_ble_eq_true rfl)
  exact ⟨rfl, Or.inl ⟨rfl, _, rfl, hw1.pX hX hE _⟩⟩

set_option maxRecDepth 100000 in
theorem lw_found_1 {G : Gx} {X : Nat → Prop} {w : Wd} {kp ou : Nat} {N N2 : Nat → Nat} {A A2 : Nat → Nat → Int32} {f0 : Nat → Int64} {ac dy ix ki x v : Int32} (hI : Inv0 G X w kp N A w) (hX : X ou) (hE : ou ≠ gE G) (hb : (gH G).size ≤ ou) (ho : w ou = some (eJ G 1 f0)) (hc : Ct G yX5_found kw_X5_found rm_X5_found [.ref kp, .int x, .int ac, .int ki, .int dy, .int ix] w (PCl G X w kp (.inr "java/lang/IllegalArgumentException") N2 A2)) : Ct G yL_found kw_L_found rm_L_found [.ref kp, .int x, .int ac, .int ki, .int dy, .int ix, .ref ou] w (PB (.int 1) (WQ G X w kp ou 1 0 N2 A2)) := by
  have hI0 := hI
  obtain ⟨S, hK, hL, rfl⟩ := hI
  refine ct_introW RL "found" (by decide +kernel) rfl rfl rfl (Nat.le_of_ble_eq_true rfl) [some (.ref (S.ad 0 0)), some (.int x), some (.int ac), some (.int ki), some (.int dy), some (.int ix), some (.ref ou), none] rfl (fun C => ?_)
  refine g_aload6 dL_found_0 ?_
  refine g_iconst (v := 0) dL_found_2 (by decide) ?_
  refine g_aload0 dL_found_3 ?_
  refine g_iload1 dL_found_4 ?_
  refine g_iload2 dL_found_5 ?_
  refine g_iload3 dL_found_6 ?_
  refine g_iload4 dL_found_7 ?_
  refine g_iload5 dL_found_9 ?_
  refine g_callV5 kc6 (hc.mono (P' := PE "java/lang/IllegalArgumentException" (Inv0 G X w (S.ad 0 0) N2 A2)) (fun r9 w9 h9 => h9)) md_X5_found dL_found_11 ml_L_59 im_X5_found se_X5_found hK.g0 (RmOk.of (Nat.le_of_ble_eq_true rfl) (Nat.le_of_ble_eq_true rfl) (Nat.le_of_ble_eq_true rfl) (Nat.le_of_ble_eq_true rfl) (Nat.le_of_ble_eq_true rfl)) kr_E (kx_E (fun w1 hw1 => ?_))
  refine gx_catch [] ⟨0, 16, 19, 13⟩ [⟨0, 16, 23, 34⟩] rfl (fun _ hz => nomatch hz) (by decide) (by decide) cl_L_13 ca_IllegalArgumentException_self (fun q => ?_)
  refine g_astore7 dL_found_19 ?_
  refine g_iconst (v := 1) dL_found_21 (by decide) ?_
  refine g_iret dL_found_22 ?_ (Nat.le_of_ble_eq_true rfl) (Nat.le_of_ble_eq_true rfl)
  exact ⟨rfl, Or.inr ⟨by decide, hw1⟩⟩

set_option maxRecDepth 100000 in
theorem lw_found_2 {G : Gx} {X : Nat → Prop} {w : Wd} {kp ou : Nat} {N N2 : Nat → Nat} {A A2 : Nat → Nat → Int32} {f0 : Nat → Int64} {ac dy ix ki x v : Int32} (hI : Inv0 G X w kp N A w) (hX : X ou) (hE : ou ≠ gE G) (hb : (gH G).size ≤ ou) (ho : w ou = some (eJ G 1 f0)) (hc : Ct G yX5_found kw_X5_found rm_X5_found [.ref kp, .int x, .int ac, .int ki, .int dy, .int ix] w (PCl G X w kp (.inr "java/lang/IndexOutOfBoundsException") N2 A2)) : Ct G yL_found kw_L_found rm_L_found [.ref kp, .int x, .int ac, .int ki, .int dy, .int ix, .ref ou] w (PB (.int 2) (WQ G X w kp ou 2 0 N2 A2)) := by
  have hI0 := hI
  obtain ⟨S, hK, hL, rfl⟩ := hI
  refine ct_introW RL "found" (by decide +kernel) rfl rfl rfl (Nat.le_of_ble_eq_true rfl) [some (.ref (S.ad 0 0)), some (.int x), some (.int ac), some (.int ki), some (.int dy), some (.int ix), some (.ref ou), none] rfl (fun C => ?_)
  refine g_aload6 dL_found_0 ?_
  refine g_iconst (v := 0) dL_found_2 (by decide) ?_
  refine g_aload0 dL_found_3 ?_
  refine g_iload1 dL_found_4 ?_
  refine g_iload2 dL_found_5 ?_
  refine g_iload3 dL_found_6 ?_
  refine g_iload4 dL_found_7 ?_
  refine g_iload5 dL_found_9 ?_
  refine g_callV5 kc6 (hc.mono (P' := PE "java/lang/IndexOutOfBoundsException" (Inv0 G X w (S.ad 0 0) N2 A2)) (fun r9 w9 h9 => h9)) md_X5_found dL_found_11 ml_L_59 im_X5_found se_X5_found hK.g0 (RmOk.of (Nat.le_of_ble_eq_true rfl) (Nat.le_of_ble_eq_true rfl) (Nat.le_of_ble_eq_true rfl) (Nat.le_of_ble_eq_true rfl) (Nat.le_of_ble_eq_true rfl)) kr_E (kx_E (fun w1 hw1 => ?_))
  refine gx_catch [⟨0, 16, 19, 13⟩] ⟨0, 16, 23, 34⟩ [] rfl (fun z hz => by obtain rfl := List.mem_singleton.mp hz; exact Or.inr ⟨by decide, _, cl_L_13, by decide⟩) (by decide) (by decide) cl_L_34 ca_IndexOutOfBoundsException_self (fun q => ?_)
  refine g_astore7 dL_found_23 ?_
  refine g_iconst (v := 2) dL_found_25 (by decide) ?_
  refine g_iret dL_found_26 ?_ (Nat.le_of_ble_eq_true rfl) (Nat.le_of_ble_eq_true rfl)
  exact ⟨rfl, Or.inr ⟨by decide, hw1⟩⟩

abbrev rm_L_read : Room := { frames := 10, cells := 12, slots := 70, locals := 172 }

set_option maxRecDepth 100000 in
theorem lw_read_0 {G : Gx} {X : Nat → Prop} {w : Wd} {kp ou : Nat} {N N2 : Nat → Nat} {A A2 : Nat → Nat → Int32} {f0 : Nat → Int64} {d g l x v : Int32} (hI : Inv0 G X w kp N A w) (hX : X ou) (hE : ou ≠ gE G) (hb : (gH G).size ≤ ou) (ho : w ou = some (eJ G 1 f0)) (hc : Ct G yX5_read kw_X5_read rm_X5_read [.ref kp, .int x, .int d, .int g, .int l] w (PCl G X w kp (.inl (some (.int v))) N2 A2)) : Ct G yL_read kw_L_read rm_L_read [.ref kp, .int x, .int d, .int g, .int l, .ref ou] w (PB (.int 0) (WQ G X w kp ou 0 v.toInt64 N2 A2)) := by
  have hI0 := hI
  obtain ⟨S, hK, hL, rfl⟩ := hI
  refine ct_introW RL "read" (by decide +kernel) rfl rfl rfl (Nat.le_of_ble_eq_true rfl) [some (.ref (S.ad 0 0)), some (.int x), some (.int d), some (.int g), some (.int l), some (.ref ou), none] rfl (fun C => ?_)
  refine g_aload5 dL_read_0 ?_
  refine g_iconst (v := 0) dL_read_2 (by decide) ?_
  refine g_aload0 dL_read_3 ?_
  refine g_iload1 dL_read_4 ?_
  refine g_iload2 dL_read_5 ?_
  refine g_iload3 dL_read_6 ?_
  refine g_iload4 dL_read_7 ?_
  refine g_callV4 kc6 (hc.mono (P' := PB (.int v) (Inv0 G X w (S.ad 0 0) N2 A2)) (fun r9 w9 h9 => h9)) md_X5_read dL_read_9 ml_L_63 im_X5_read se_X5_read hK.g0 (RmOk.of (Nat.le_of_ble_eq_true rfl) (Nat.le_of_ble_eq_true rfl) (Nat.le_of_ble_eq_true rfl) (Nat.le_of_ble_eq_true rfl) (Nat.le_of_ble_eq_true rfl)) (kr_B (fun w1 hw1 => ?_)) kx_B
  have ho1 : w1 ou = some (eJ G 1 f0) := by
    obtain ⟨S9, hK9, -⟩ := hw1
    exact (hK9.X ou hX).1.trans ho
  refine g_i2l dL_read_12 ?_
  refine g_last dL_read_13 ho1 hb (vp_in_nI (show 0 < 1 by decide) (by decide)) ?_
  refine g_goto (tgt := 29) dL_read_14 (by decide) ?_
  refine g_iconst (v := 0) dL_read_29 (by decide) ?_
  refine g_iret dL_read_30 ?_ (Nat.le_of_ble_eq_true rfl) (Nat.le_of_ble_eq_true rfl)
  exact ⟨rfl, Or.inl ⟨rfl, _, rfl, hw1.pX hX hE _⟩⟩

set_option maxRecDepth 100000 in
theorem lw_read_1 {G : Gx} {X : Nat → Prop} {w : Wd} {kp ou : Nat} {N N2 : Nat → Nat} {A A2 : Nat → Nat → Int32} {f0 : Nat → Int64} {d g l x v : Int32} (hI : Inv0 G X w kp N A w) (hX : X ou) (hE : ou ≠ gE G) (hb : (gH G).size ≤ ou) (ho : w ou = some (eJ G 1 f0)) (hc : Ct G yX5_read kw_X5_read rm_X5_read [.ref kp, .int x, .int d, .int g, .int l] w (PCl G X w kp (.inr "java/lang/IllegalArgumentException") N2 A2)) : Ct G yL_read kw_L_read rm_L_read [.ref kp, .int x, .int d, .int g, .int l, .ref ou] w (PB (.int 1) (WQ G X w kp ou 1 0 N2 A2)) := by
  have hI0 := hI
  obtain ⟨S, hK, hL, rfl⟩ := hI
  refine ct_introW RL "read" (by decide +kernel) rfl rfl rfl (Nat.le_of_ble_eq_true rfl) [some (.ref (S.ad 0 0)), some (.int x), some (.int d), some (.int g), some (.int l), some (.ref ou), none] rfl (fun C => ?_)
  refine g_aload5 dL_read_0 ?_
  refine g_iconst (v := 0) dL_read_2 (by decide) ?_
  refine g_aload0 dL_read_3 ?_
  refine g_iload1 dL_read_4 ?_
  refine g_iload2 dL_read_5 ?_
  refine g_iload3 dL_read_6 ?_
  refine g_iload4 dL_read_7 ?_
  refine g_callV4 kc6 (hc.mono (P' := PE "java/lang/IllegalArgumentException" (Inv0 G X w (S.ad 0 0) N2 A2)) (fun r9 w9 h9 => h9)) md_X5_read dL_read_9 ml_L_63 im_X5_read se_X5_read hK.g0 (RmOk.of (Nat.le_of_ble_eq_true rfl) (Nat.le_of_ble_eq_true rfl) (Nat.le_of_ble_eq_true rfl) (Nat.le_of_ble_eq_true rfl) (Nat.le_of_ble_eq_true rfl)) kr_E (kx_E (fun w1 hw1 => ?_))
  refine gx_catch [] ⟨0, 14, 17, 13⟩ [⟨0, 14, 21, 34⟩, ⟨0, 14, 25, 67⟩] rfl (fun _ hz => nomatch hz) (by decide) (by decide) cl_L_13 ca_IllegalArgumentException_self (fun q => ?_)
  refine g_astore6 dL_read_17 ?_
  refine g_iconst (v := 1) dL_read_19 (by decide) ?_
  refine g_iret dL_read_20 ?_ (Nat.le_of_ble_eq_true rfl) (Nat.le_of_ble_eq_true rfl)
  exact ⟨rfl, Or.inr ⟨by decide, hw1⟩⟩

set_option maxRecDepth 100000 in
theorem lw_read_2 {G : Gx} {X : Nat → Prop} {w : Wd} {kp ou : Nat} {N N2 : Nat → Nat} {A A2 : Nat → Nat → Int32} {f0 : Nat → Int64} {d g l x v : Int32} (hI : Inv0 G X w kp N A w) (hX : X ou) (hE : ou ≠ gE G) (hb : (gH G).size ≤ ou) (ho : w ou = some (eJ G 1 f0)) (hc : Ct G yX5_read kw_X5_read rm_X5_read [.ref kp, .int x, .int d, .int g, .int l] w (PCl G X w kp (.inr "java/lang/IndexOutOfBoundsException") N2 A2)) : Ct G yL_read kw_L_read rm_L_read [.ref kp, .int x, .int d, .int g, .int l, .ref ou] w (PB (.int 2) (WQ G X w kp ou 2 0 N2 A2)) := by
  have hI0 := hI
  obtain ⟨S, hK, hL, rfl⟩ := hI
  refine ct_introW RL "read" (by decide +kernel) rfl rfl rfl (Nat.le_of_ble_eq_true rfl) [some (.ref (S.ad 0 0)), some (.int x), some (.int d), some (.int g), some (.int l), some (.ref ou), none] rfl (fun C => ?_)
  refine g_aload5 dL_read_0 ?_
  refine g_iconst (v := 0) dL_read_2 (by decide) ?_
  refine g_aload0 dL_read_3 ?_
  refine g_iload1 dL_read_4 ?_
  refine g_iload2 dL_read_5 ?_
  refine g_iload3 dL_read_6 ?_
  refine g_iload4 dL_read_7 ?_
  refine g_callV4 kc6 (hc.mono (P' := PE "java/lang/IndexOutOfBoundsException" (Inv0 G X w (S.ad 0 0) N2 A2)) (fun r9 w9 h9 => h9)) md_X5_read dL_read_9 ml_L_63 im_X5_read se_X5_read hK.g0 (RmOk.of (Nat.le_of_ble_eq_true rfl) (Nat.le_of_ble_eq_true rfl) (Nat.le_of_ble_eq_true rfl) (Nat.le_of_ble_eq_true rfl) (Nat.le_of_ble_eq_true rfl)) kr_E (kx_E (fun w1 hw1 => ?_))
  refine gx_catch [⟨0, 14, 17, 13⟩] ⟨0, 14, 21, 34⟩ [⟨0, 14, 25, 67⟩] rfl (fun z hz => by obtain rfl := List.mem_singleton.mp hz; exact Or.inr ⟨by decide, _, cl_L_13, by decide⟩) (by decide) (by decide) cl_L_34 ca_IndexOutOfBoundsException_self (fun q => ?_)
  refine g_astore6 dL_read_21 ?_
  refine g_iconst (v := 2) dL_read_23 (by decide) ?_
  refine g_iret dL_read_24 ?_ (Nat.le_of_ble_eq_true rfl) (Nat.le_of_ble_eq_true rfl)
  exact ⟨rfl, Or.inr ⟨by decide, hw1⟩⟩

set_option maxRecDepth 100000 in
theorem lw_read_3 {G : Gx} {X : Nat → Prop} {w : Wd} {kp ou : Nat} {N N2 : Nat → Nat} {A A2 : Nat → Nat → Int32} {f0 : Nat → Int64} {d g l x v : Int32} (hI : Inv0 G X w kp N A w) (hX : X ou) (hE : ou ≠ gE G) (hb : (gH G).size ≤ ou) (ho : w ou = some (eJ G 1 f0)) (hc : Ct G yX5_read kw_X5_read rm_X5_read [.ref kp, .int x, .int d, .int g, .int l] w (PCl G X w kp (.inr "java/util/NoSuchElementException") N2 A2)) : Ct G yL_read kw_L_read rm_L_read [.ref kp, .int x, .int d, .int g, .int l, .ref ou] w (PB (.int 3) (WQ G X w kp ou 3 0 N2 A2)) := by
  have hI0 := hI
  obtain ⟨S, hK, hL, rfl⟩ := hI
  refine ct_introW RL "read" (by decide +kernel) rfl rfl rfl (Nat.le_of_ble_eq_true rfl) [some (.ref (S.ad 0 0)), some (.int x), some (.int d), some (.int g), some (.int l), some (.ref ou), none] rfl (fun C => ?_)
  refine g_aload5 dL_read_0 ?_
  refine g_iconst (v := 0) dL_read_2 (by decide) ?_
  refine g_aload0 dL_read_3 ?_
  refine g_iload1 dL_read_4 ?_
  refine g_iload2 dL_read_5 ?_
  refine g_iload3 dL_read_6 ?_
  refine g_iload4 dL_read_7 ?_
  refine g_callV4 kc6 (hc.mono (P' := PE "java/util/NoSuchElementException" (Inv0 G X w (S.ad 0 0) N2 A2)) (fun r9 w9 h9 => h9)) md_X5_read dL_read_9 ml_L_63 im_X5_read se_X5_read hK.g0 (RmOk.of (Nat.le_of_ble_eq_true rfl) (Nat.le_of_ble_eq_true rfl) (Nat.le_of_ble_eq_true rfl) (Nat.le_of_ble_eq_true rfl) (Nat.le_of_ble_eq_true rfl)) kr_E (kx_E (fun w1 hw1 => ?_))
  refine gx_catch [⟨0, 14, 17, 13⟩, ⟨0, 14, 21, 34⟩] ⟨0, 14, 25, 67⟩ [] rfl (fun z hz => by rcases List.mem_cons.mp hz with rfl | hz; exact Or.inr ⟨by decide, _, cl_L_13, by decide⟩; obtain rfl := List.mem_singleton.mp hz; exact Or.inr ⟨by decide, _, cl_L_34, by decide⟩) (by decide) (by decide) cl_L_67 ca_NoSuchElementException_self (fun q => ?_)
  refine g_astore6 dL_read_25 ?_
  refine g_iconst (v := 3) dL_read_27 (by decide) ?_
  refine g_iret dL_read_28 ?_ (Nat.le_of_ble_eq_true rfl) (Nat.le_of_ble_eq_true rfl)
  exact ⟨rfl, Or.inr ⟨by decide, hw1⟩⟩

abbrev rm_L_span : Room := { frames := 8, cells := 12, slots := 70, locals := 127 }

set_option maxRecDepth 100000 in
theorem lw_span_0 {G : Gx} {X : Nat → Prop} {w : Wd} {kp ou : Nat} {N N2 : Nat → Nat} {A A2 : Nat → Nat → Int32} {f0 : Nat → Int64} {x y v : Int32} (hI : Inv0 G X w kp N A w) (hX : X ou) (hE : ou ≠ gE G) (hb : (gH G).size ≤ ou) (ho : w ou = some (eJ G 1 f0)) (hc : Ct G yX5_span kw_X5_span rm_X5_span [.ref kp, .int x, .int y] w (PCl G X w kp (.inl (some (.int v))) N2 A2)) : Ct G yL_span kw_L_span rm_L_span [.ref kp, .int x, .int y, .ref ou] w (PB (.int 0) (WQ G X w kp ou 0 v.toInt64 N2 A2)) := by
  have hI0 := hI
  obtain ⟨S, hK, hL, rfl⟩ := hI
  refine ct_introW RL "span" (by decide +kernel) rfl rfl rfl (Nat.le_of_ble_eq_true rfl) [some (.ref (S.ad 0 0)), some (.int x), some (.int y), some (.ref ou), none] rfl (fun C => ?_)
  refine g_aload3 dL_span_0 ?_
  refine g_iconst (v := 0) dL_span_1 (by decide) ?_
  refine g_aload0 dL_span_2 ?_
  refine g_iload1 dL_span_3 ?_
  refine g_iload2 dL_span_4 ?_
  refine g_callV2 kc6 (hc.mono (P' := PB (.int v) (Inv0 G X w (S.ad 0 0) N2 A2)) (fun r9 w9 h9 => h9)) md_X5_span dL_span_5 ml_L_73 im_X5_span se_X5_span hK.g0 (RmOk.of (Nat.le_of_ble_eq_true rfl) (Nat.le_of_ble_eq_true rfl) (Nat.le_of_ble_eq_true rfl) (Nat.le_of_ble_eq_true rfl) (Nat.le_of_ble_eq_true rfl)) (kr_B (fun w1 hw1 => ?_)) kx_B
  have ho1 : w1 ou = some (eJ G 1 f0) := by
    obtain ⟨S9, hK9, -⟩ := hw1
    exact (hK9.X ou hX).1.trans ho
  refine g_i2l dL_span_8 ?_
  refine g_last dL_span_9 ho1 hb (vp_in_nI (show 0 < 1 by decide) (by decide)) ?_
  refine g_goto (tgt := 17) dL_span_10 (by decide) ?_
  refine g_iconst (v := 0) dL_span_17 (by decide) ?_
  refine g_iret dL_span_18 ?_ (Nat.le_of_ble_eq_true rfl) (Nat.le_of_ble_eq_true rfl)
  exact ⟨rfl, Or.inl ⟨rfl, _, rfl, hw1.pX hX hE _⟩⟩

set_option maxRecDepth 100000 in
theorem lw_span_1 {G : Gx} {X : Nat → Prop} {w : Wd} {kp ou : Nat} {N N2 : Nat → Nat} {A A2 : Nat → Nat → Int32} {f0 : Nat → Int64} {x y v : Int32} (hI : Inv0 G X w kp N A w) (hX : X ou) (hE : ou ≠ gE G) (hb : (gH G).size ≤ ou) (ho : w ou = some (eJ G 1 f0)) (hc : Ct G yX5_span kw_X5_span rm_X5_span [.ref kp, .int x, .int y] w (PCl G X w kp (.inr "java/lang/IllegalArgumentException") N2 A2)) : Ct G yL_span kw_L_span rm_L_span [.ref kp, .int x, .int y, .ref ou] w (PB (.int 1) (WQ G X w kp ou 1 0 N2 A2)) := by
  have hI0 := hI
  obtain ⟨S, hK, hL, rfl⟩ := hI
  refine ct_introW RL "span" (by decide +kernel) rfl rfl rfl (Nat.le_of_ble_eq_true rfl) [some (.ref (S.ad 0 0)), some (.int x), some (.int y), some (.ref ou), none] rfl (fun C => ?_)
  refine g_aload3 dL_span_0 ?_
  refine g_iconst (v := 0) dL_span_1 (by decide) ?_
  refine g_aload0 dL_span_2 ?_
  refine g_iload1 dL_span_3 ?_
  refine g_iload2 dL_span_4 ?_
  refine g_callV2 kc6 (hc.mono (P' := PE "java/lang/IllegalArgumentException" (Inv0 G X w (S.ad 0 0) N2 A2)) (fun r9 w9 h9 => h9)) md_X5_span dL_span_5 ml_L_73 im_X5_span se_X5_span hK.g0 (RmOk.of (Nat.le_of_ble_eq_true rfl) (Nat.le_of_ble_eq_true rfl) (Nat.le_of_ble_eq_true rfl) (Nat.le_of_ble_eq_true rfl) (Nat.le_of_ble_eq_true rfl)) kr_E (kx_E (fun w1 hw1 => ?_))
  refine gx_catch [] ⟨0, 10, 13, 13⟩ [] rfl (fun _ hz => nomatch hz) (by decide) (by decide) cl_L_13 ca_IllegalArgumentException_self (fun q => ?_)
  refine g_astore4 dL_span_13 ?_
  refine g_iconst (v := 1) dL_span_15 (by decide) ?_
  refine g_iret dL_span_16 ?_ (Nat.le_of_ble_eq_true rfl) (Nat.le_of_ble_eq_true rfl)
  exact ⟨rfl, Or.inr ⟨by decide, hw1⟩⟩

abbrev rm_L_hold : Room := { frames := 7, cells := 12, slots := 70, locals := 105 }

set_option maxRecDepth 100000 in
theorem lw_hold_0 {G : Gx} {X : Nat → Prop} {w : Wd} {kp ou : Nat} {N N2 : Nat → Nat} {A A2 : Nat → Nat → Int32} {f0 : Nat → Int64} {x y v : Int32} (hI : Inv0 G X w kp N A w) (hX : X ou) (hE : ou ≠ gE G) (hb : (gH G).size ≤ ou) (ho : w ou = some (eJ G 1 f0)) (hc : Ct G yX5_hold kw_X5_hold rm_X5_hold [.ref kp, .int x, .int y] w (PCl G X w kp (.inl (some (.int v))) N2 A2)) : Ct G yL_hold kw_L_hold rm_L_hold [.ref kp, .int x, .int y, .ref ou] w (PB (.int 0) (WQ G X w kp ou 0 (if v = 0 then 0 else 1) N2 A2)) := by
  have hI0 := hI
  obtain ⟨S, hK, hL, rfl⟩ := hI
  refine ct_introW RL "hold" (by decide +kernel) rfl rfl rfl (Nat.le_of_ble_eq_true rfl) [some (.ref (S.ad 0 0)), some (.int x), some (.int y), some (.ref ou), none] rfl (fun C => ?_)
  refine g_aload3 dL_hold_0 ?_
  refine g_iconst (v := 0) dL_hold_1 (by decide) ?_
  refine g_aload0 dL_hold_2 ?_
  refine g_iload1 dL_hold_3 ?_
  refine g_iload2 dL_hold_4 ?_
  refine g_callV2 kc6 (hc.mono (P' := PB (.int v) (Inv0 G X w (S.ad 0 0) N2 A2)) (fun r9 w9 h9 => h9)) md_X5_hold dL_hold_5 ml_L_76 im_X5_hold se_X5_hold hK.g0 (RmOk.of (Nat.le_of_ble_eq_true rfl) (Nat.le_of_ble_eq_true rfl) (Nat.le_of_ble_eq_true rfl) (Nat.le_of_ble_eq_true rfl) (Nat.le_of_ble_eq_true rfl)) (kr_B (fun w1 hw1 => ?_)) kx_B
  have ho1 : w1 ou = some (eJ G 1 f0) := by
    obtain ⟨S9, hK9, -⟩ := hw1
    exact (hK9.X ou hX).1.trans ho
  refine g_if_eq (tgt := 15) dL_hold_8 (by decide) (fun hz => ?_) (fun hz => ?_)
  · skip
    refine g_lconst (v := 0) dL_hold_15 (by decide) ?_
    refine g_last dL_hold_16 ho1 hb (vp_in_nI (show 0 < 1 by decide) (by decide)) ?_
    refine g_goto (tgt := 24) dL_hold_17 (by decide) ?_
    refine g_iconst (v := 0) dL_hold_24 (by decide) ?_
    refine g_iret dL_hold_25 ?_ (Nat.le_of_ble_eq_true rfl) (Nat.le_of_ble_eq_true rfl)
    first | exact ⟨rfl, Or.inl ⟨rfl, _, (if_pos hz).symm, hw1.pX hX hE _⟩⟩ | exact ⟨rfl, Or.inl ⟨rfl, _, (if_neg hz).symm, hw1.pX hX hE _⟩⟩
  · skip
    refine g_lconst (v := 1) dL_hold_11 (by decide) ?_
    refine g_goto (tgt := 16) dL_hold_12 (by decide) ?_
    refine g_last dL_hold_16 ho1 hb (vp_in_nI (show 0 < 1 by decide) (by decide)) ?_
    refine g_goto (tgt := 24) dL_hold_17 (by decide) ?_
    refine g_iconst (v := 0) dL_hold_24 (by decide) ?_
    refine g_iret dL_hold_25 ?_ (Nat.le_of_ble_eq_true rfl) (Nat.le_of_ble_eq_true rfl)
    first | exact ⟨rfl, Or.inl ⟨rfl, _, (if_pos hz).symm, hw1.pX hX hE _⟩⟩ | exact ⟨rfl, Or.inl ⟨rfl, _, (if_neg hz).symm, hw1.pX hX hE _⟩⟩

set_option maxRecDepth 100000 in
theorem lw_hold_1 {G : Gx} {X : Nat → Prop} {w : Wd} {kp ou : Nat} {N N2 : Nat → Nat} {A A2 : Nat → Nat → Int32} {f0 : Nat → Int64} {x y v : Int32} (hI : Inv0 G X w kp N A w) (hX : X ou) (hE : ou ≠ gE G) (hb : (gH G).size ≤ ou) (ho : w ou = some (eJ G 1 f0)) (hc : Ct G yX5_hold kw_X5_hold rm_X5_hold [.ref kp, .int x, .int y] w (PCl G X w kp (.inr "java/lang/IllegalArgumentException") N2 A2)) : Ct G yL_hold kw_L_hold rm_L_hold [.ref kp, .int x, .int y, .ref ou] w (PB (.int 1) (WQ G X w kp ou 1 0 N2 A2)) := by
  have hI0 := hI
  obtain ⟨S, hK, hL, rfl⟩ := hI
  refine ct_introW RL "hold" (by decide +kernel) rfl rfl rfl (Nat.le_of_ble_eq_true rfl) [some (.ref (S.ad 0 0)), some (.int x), some (.int y), some (.ref ou), none] rfl (fun C => ?_)
  refine g_aload3 dL_hold_0 ?_
  refine g_iconst (v := 0) dL_hold_1 (by decide) ?_
  refine g_aload0 dL_hold_2 ?_
  refine g_iload1 dL_hold_3 ?_
  refine g_iload2 dL_hold_4 ?_
  refine g_callV2 kc6 (hc.mono (P' := PE "java/lang/IllegalArgumentException" (Inv0 G X w (S.ad 0 0) N2 A2)) (fun r9 w9 h9 => h9)) md_X5_hold dL_hold_5 ml_L_76 im_X5_hold se_X5_hold hK.g0 (RmOk.of (Nat.le_of_ble_eq_true rfl) (Nat.le_of_ble_eq_true rfl) (Nat.le_of_ble_eq_true rfl) (Nat.le_of_ble_eq_true rfl) (Nat.le_of_ble_eq_true rfl)) kr_E (kx_E (fun w1 hw1 => ?_))
  refine gx_catch [] ⟨0, 17, 20, 13⟩ [] rfl (fun _ hz => nomatch hz) (by decide) (by decide) cl_L_13 ca_IllegalArgumentException_self (fun q => ?_)
  refine g_astore4 dL_hold_20 ?_
  refine g_iconst (v := 1) dL_hold_22 (by decide) ?_
  refine g_iret dL_hold_23 ?_ (Nat.le_of_ble_eq_true rfl) (Nat.le_of_ble_eq_true rfl)
  exact ⟨rfl, Or.inr ⟨by decide, hw1⟩⟩

abbrev rm_L_bundle : Room := { frames := 8, cells := 12, slots := 70, locals := 130 }

set_option maxRecDepth 100000 in
theorem lw_bundle_0 {G : Gx} {X : Nat → Prop} {w : Wd} {kp ou : Nat} {N N2 : Nat → Nat} {A A2 : Nat → Nat → Int32} {f0 : Nat → Int64} {x y v : Int32} (hI : Inv0 G X w kp N A w) (hX : X ou) (hE : ou ≠ gE G) (hb : (gH G).size ≤ ou) (ho : w ou = some (eJ G 1 f0)) (hc : Ct G yX5_bundle kw_X5_bundle rm_X5_bundle [.ref kp, .int x, .int y] w (PCl G X w kp (.inl (some (.int v))) N2 A2)) : Ct G yL_bundle kw_L_bundle rm_L_bundle [.ref kp, .int x, .int y, .ref ou] w (PB (.int 0) (WQ G X w kp ou 0 v.toInt64 N2 A2)) := by
  have hI0 := hI
  obtain ⟨S, hK, hL, rfl⟩ := hI
  refine ct_introW RL "bundle" (by decide +kernel) rfl rfl rfl (Nat.le_of_ble_eq_true rfl) [some (.ref (S.ad 0 0)), some (.int x), some (.int y), some (.ref ou), none] rfl (fun C => ?_)
  refine g_aload3 dL_bundle_0 ?_
  refine g_iconst (v := 0) dL_bundle_1 (by decide) ?_
  refine g_aload0 dL_bundle_2 ?_
  refine g_iload1 dL_bundle_3 ?_
  refine g_iload2 dL_bundle_4 ?_
  refine g_callV2 kc6 (hc.mono (P' := PB (.int v) (Inv0 G X w (S.ad 0 0) N2 A2)) (fun r9 w9 h9 => h9)) md_X5_bundle dL_bundle_5 ml_L_80 im_X5_bundle se_X5_bundle hK.g0 (RmOk.of (Nat.le_of_ble_eq_true rfl) (Nat.le_of_ble_eq_true rfl) (Nat.le_of_ble_eq_true rfl) (Nat.le_of_ble_eq_true rfl) (Nat.le_of_ble_eq_true rfl)) (kr_B (fun w1 hw1 => ?_)) kx_B
  have ho1 : w1 ou = some (eJ G 1 f0) := by
    obtain ⟨S9, hK9, -⟩ := hw1
    exact (hK9.X ou hX).1.trans ho
  refine g_i2l dL_bundle_8 ?_
  refine g_last dL_bundle_9 ho1 hb (vp_in_nI (show 0 < 1 by decide) (by decide)) ?_
  refine g_goto (tgt := 17) dL_bundle_10 (by decide) ?_
  refine g_iconst (v := 0) dL_bundle_17 (by decide) ?_
  refine g_iret dL_bundle_18 ?_ (Nat.le_of_ble_eq_true rfl) (Nat.le_of_ble_eq_true rfl)
  exact ⟨rfl, Or.inl ⟨rfl, _, rfl, hw1.pX hX hE _⟩⟩

set_option maxRecDepth 100000 in
theorem lw_bundle_1 {G : Gx} {X : Nat → Prop} {w : Wd} {kp ou : Nat} {N N2 : Nat → Nat} {A A2 : Nat → Nat → Int32} {f0 : Nat → Int64} {x y v : Int32} (hI : Inv0 G X w kp N A w) (hX : X ou) (hE : ou ≠ gE G) (hb : (gH G).size ≤ ou) (ho : w ou = some (eJ G 1 f0)) (hc : Ct G yX5_bundle kw_X5_bundle rm_X5_bundle [.ref kp, .int x, .int y] w (PCl G X w kp (.inr "java/lang/IllegalArgumentException") N2 A2)) : Ct G yL_bundle kw_L_bundle rm_L_bundle [.ref kp, .int x, .int y, .ref ou] w (PB (.int 1) (WQ G X w kp ou 1 0 N2 A2)) := by
  have hI0 := hI
  obtain ⟨S, hK, hL, rfl⟩ := hI
  refine ct_introW RL "bundle" (by decide +kernel) rfl rfl rfl (Nat.le_of_ble_eq_true rfl) [some (.ref (S.ad 0 0)), some (.int x), some (.int y), some (.ref ou), none] rfl (fun C => ?_)
  refine g_aload3 dL_bundle_0 ?_
  refine g_iconst (v := 0) dL_bundle_1 (by decide) ?_
  refine g_aload0 dL_bundle_2 ?_
  refine g_iload1 dL_bundle_3 ?_
  refine g_iload2 dL_bundle_4 ?_
  refine g_callV2 kc6 (hc.mono (P' := PE "java/lang/IllegalArgumentException" (Inv0 G X w (S.ad 0 0) N2 A2)) (fun r9 w9 h9 => h9)) md_X5_bundle dL_bundle_5 ml_L_80 im_X5_bundle se_X5_bundle hK.g0 (RmOk.of (Nat.le_of_ble_eq_true rfl) (Nat.le_of_ble_eq_true rfl) (Nat.le_of_ble_eq_true rfl) (Nat.le_of_ble_eq_true rfl) (Nat.le_of_ble_eq_true rfl)) kr_E (kx_E (fun w1 hw1 => ?_))
  refine gx_catch [] ⟨0, 10, 13, 13⟩ [] rfl (fun _ hz => nomatch hz) (by decide) (by decide) cl_L_13 ca_IllegalArgumentException_self (fun q => ?_)
  refine g_astore4 dL_bundle_13 ?_
  refine g_iconst (v := 1) dL_bundle_15 (by decide) ?_
  refine g_iret dL_bundle_16 ?_ (Nat.le_of_ble_eq_true rfl) (Nat.le_of_ble_eq_true rfl)
  exact ⟨rfl, Or.inr ⟨by decide, hw1⟩⟩

abbrev rm_L_view : Room := { frames := 8, cells := 12, slots := 70, locals := 129 }

set_option maxRecDepth 100000 in
theorem lw_view_0 {G : Gx} {X : Nat → Prop} {w : Wd} {kp : Nat} {N N2 : Nat → Nat} {A A2 : Nat → Nat → Int32} {x f l b : Int32} (hI : Inv0 G X w kp N A w) (hc : Ct G yX5_view kw_X5_view rm_X5_view [.ref kp, .int x, .int f, .int l, .int b] w (PCl G X w kp (.inl none) N2 A2)) : Ct G yL_view kw_L_view rm_L_view [.ref kp, .int x, .int f, .int l, .int b] w (PB (.int 0) (Inv0 G X w kp N2 A2)) := by
  have hI0 := hI
  obtain ⟨S, hK, hL, rfl⟩ := hI
  refine ct_introW RL "view" (by decide +kernel) rfl rfl rfl (Nat.le_of_ble_eq_true rfl) [some (.ref (S.ad 0 0)), some (.int x), some (.int f), some (.int l), some (.int b), none] rfl (fun C => ?_)
  refine g_aload0 dL_view_0 ?_
  refine g_iload1 dL_view_1 ?_
  refine g_iload2 dL_view_2 ?_
  refine g_iload3 dL_view_3 ?_
  refine g_iload4 dL_view_4 ?_
  refine g_callV4 kc6 (hc.mono (P' := PN (Inv0 G X w (S.ad 0 0) N2 A2)) (fun r9 w9 h9 => h9)) md_X5_view dL_view_6 ml_L_69 im_X5_view se_X5_view hK.g0 (RmOk.of (Nat.le_of_ble_eq_true rfl) (Nat.le_of_ble_eq_true rfl) (Nat.le_of_ble_eq_true rfl) (Nat.le_of_ble_eq_true rfl) (Nat.le_of_ble_eq_true rfl)) (kr_N (fun w1 hw1 => ?_)) kx_N
  refine g_goto (tgt := 16) dL_view_9 (by decide) ?_
  refine g_iconst (v := 0) dL_view_16 (by decide) ?_
  refine g_iret dL_view_17 ?_ (Nat.le_of_ble_eq_true rfl) (Nat.le_of_ble_eq_true rfl)
  exact ⟨rfl, hw1⟩

set_option maxRecDepth 100000 in
theorem lw_view_1 {G : Gx} {X : Nat → Prop} {w : Wd} {kp : Nat} {N N2 : Nat → Nat} {A A2 : Nat → Nat → Int32} {x f l b : Int32} (hI : Inv0 G X w kp N A w) (hc : Ct G yX5_view kw_X5_view rm_X5_view [.ref kp, .int x, .int f, .int l, .int b] w (PCl G X w kp (.inr "java/lang/IllegalArgumentException") N2 A2)) : Ct G yL_view kw_L_view rm_L_view [.ref kp, .int x, .int f, .int l, .int b] w (PB (.int 1) (Inv0 G X w kp N2 A2)) := by
  have hI0 := hI
  obtain ⟨S, hK, hL, rfl⟩ := hI
  refine ct_introW RL "view" (by decide +kernel) rfl rfl rfl (Nat.le_of_ble_eq_true rfl) [some (.ref (S.ad 0 0)), some (.int x), some (.int f), some (.int l), some (.int b), none] rfl (fun C => ?_)
  refine g_aload0 dL_view_0 ?_
  refine g_iload1 dL_view_1 ?_
  refine g_iload2 dL_view_2 ?_
  refine g_iload3 dL_view_3 ?_
  refine g_iload4 dL_view_4 ?_
  refine g_callV4 kc6 (hc.mono (P' := PE "java/lang/IllegalArgumentException" (Inv0 G X w (S.ad 0 0) N2 A2)) (fun r9 w9 h9 => h9)) md_X5_view dL_view_6 ml_L_69 im_X5_view se_X5_view hK.g0 (RmOk.of (Nat.le_of_ble_eq_true rfl) (Nat.le_of_ble_eq_true rfl) (Nat.le_of_ble_eq_true rfl) (Nat.le_of_ble_eq_true rfl) (Nat.le_of_ble_eq_true rfl)) kr_E (kx_E (fun w1 hw1 => ?_))
  refine gx_catch [] ⟨0, 9, 12, 13⟩ [] rfl (fun _ hz => nomatch hz) (by decide) (by decide) cl_L_13 ca_IllegalArgumentException_self (fun q => ?_)
  refine g_astore5 dL_view_12 ?_
  refine g_iconst (v := 1) dL_view_14 (by decide) ?_
  refine g_iret dL_view_15 ?_ (Nat.le_of_ble_eq_true rfl) (Nat.le_of_ble_eq_true rfl)
  exact ⟨rfl, hw1⟩

